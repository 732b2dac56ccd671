theorem i_X8_player_0 : xi_dc cX8_player 0 = some (.aload_n 0, 1) := by decide +kernel
theorem i_X8_player_1 : xi_dc cX8_player 1 = some (.getfield 21, 3) := by decide +kernel
theorem i_X8_player_4 : xi_dc cX8_player 4 = some (.iload_n 1, 1) := by decide +kernel
theorem i_X8_player_5 : xi_dc cX8_player 5 = some (.invokevirtual 132, 3) := by decide +kernel
theorem i_X8_player_8 : xi_dc cX8_player 8 = some (.ifCond .eq 12, 3) := by decide +kernel
theorem t_X8_player_8 : ((8 : Nat) : Int) + 12 = ((20 : Nat) : Int) := by decide +kernel
theorem i_X8_player_11 : xi_dc cX8_player 11 = some (.iload_n 2, 1) := by decide +kernel
theorem i_X8_player_12 : xi_dc cX8_player 12 = some (.bipush 6, 2) := by decide +kernel
theorem i_X8_player_14 : xi_dc cX8_player 14 = some (.invokestatic 71, 3) := by decide +kernel
theorem i_X8_player_17 : xi_dc cX8_player 17 = some (.ifCond .ne 5, 3) := by decide +kernel
theorem t_X8_player_17 : ((17 : Nat) : Int) + 5 = ((22 : Nat) : Int) := by decide +kernel
theorem i_X8_player_20 : xi_dc cX8_player 20 = some (.iconst (-1), 1) := by decide +kernel
theorem i_X8_player_21 : xi_dc cX8_player 21 = some (.ireturn, 1) := by decide +kernel
theorem i_X8_player_22 : xi_dc cX8_player 22 = some (.aload_n 0, 1) := by decide +kernel
theorem i_X8_player_23 : xi_dc cX8_player 23 = some (.aload_n 0, 1) := by decide +kernel
theorem i_X8_player_24 : xi_dc cX8_player 24 = some (.getfield 21, 3) := by decide +kernel
theorem i_X8_player_27 : xi_dc cX8_player 27 = some (.iload_n 1, 1) := by decide +kernel
theorem i_X8_player_28 : xi_dc cX8_player 28 = some (.iload_n 2, 1) := by decide +kernel
theorem i_X8_player_29 : xi_dc cX8_player 29 = some (.invokevirtual 136, 3) := by decide +kernel
theorem i_X8_player_32 : xi_dc cX8_player 32 = some (.invokevirtual 89, 3) := by decide +kernel
theorem i_X8_player_35 : xi_dc cX8_player 35 = some (.ireturn, 1) := by decide +kernel
def P_X8_player (S : xi_S) : xi_P := (xi_dc cX8_player, xi_tab xfl_X8, xi_tab xki_X8, xi_tab xkl_X8, xi_tab xcs_X8, xi_tab xcv_X8, xi_calls [(71, xi_wS 2 (F_X8_within S))], xi_calls [(89, xi_wV S 10 1 (F_X8_answer S)), (132, xi_wV S 8 1 (F_X6_hasPlayer S)), (136, xi_wV S 8 2 (F_X6_fact S))], 1)
theorem cc_X8_player_71 (S : xi_S) (a0 : Int32) (a1 : Int32) (m : xi_M) : (P_X8_player S).2.2.2.2.2.2.1 71 [.int a0, .int a1] m = (E_X8_within S a0 a1 m) := by
  show xi_calls [(71, xi_wS 2 (F_X8_within S))] 71 [.int a0, .int a1] m = _
  refine Eq.trans (b := xi_wS 2 (F_X8_within S) [.int a0, .int a1] m) (xi_calls_hit rfl) ?_
  exact xi_wS_eq rfl
theorem cc_X8_player_89 (S : xi_S) (a0 : Nat) (a1 : Int32) (m : xi_M) : (P_X8_player S).2.2.2.2.2.2.2.1 89 [.ref a0, .int a1] m = (if S.1 a0 = 10 then E_X8_answer S a0 a1 m else none) := by
  show xi_calls [(89, xi_wV S 10 1 (F_X8_answer S)), (132, xi_wV S 8 1 (F_X6_hasPlayer S)), (136, xi_wV S 8 2 (F_X6_fact S))] 89 [.ref a0, .int a1] m = _
  refine Eq.trans (b := xi_wV S 10 1 (F_X8_answer S) [.ref a0, .int a1] m) (xi_calls_hit rfl) ?_
  exact xi_wV_eq rfl
theorem cc_X8_player_132 (S : xi_S) (a0 : Nat) (a1 : Int32) (m : xi_M) : (P_X8_player S).2.2.2.2.2.2.2.1 132 [.ref a0, .int a1] m = (if S.1 a0 = 8 then E_X6_hasPlayer S a0 a1 m else none) := by
  show xi_calls [(89, xi_wV S 10 1 (F_X8_answer S)), (132, xi_wV S 8 1 (F_X6_hasPlayer S)), (136, xi_wV S 8 2 (F_X6_fact S))] 132 [.ref a0, .int a1] m = _
  refine Eq.trans (b := xi_calls [(132, xi_wV S 8 1 (F_X6_hasPlayer S)), (136, xi_wV S 8 2 (F_X6_fact S))] 132 [.ref a0, .int a1] m) (xi_calls_miss rfl) ?_
  refine Eq.trans (b := xi_wV S 8 1 (F_X6_hasPlayer S) [.ref a0, .int a1] m) (xi_calls_hit rfl) ?_
  exact xi_wV_eq rfl
theorem cc_X8_player_136 (S : xi_S) (a0 : Nat) (a1 : Int32) (a2 : Int32) (m : xi_M) : (P_X8_player S).2.2.2.2.2.2.2.1 136 [.ref a0, .int a1, .int a2] m = (if S.1 a0 = 8 then E_X6_fact S a0 a1 a2 m else none) := by
  show xi_calls [(89, xi_wV S 10 1 (F_X8_answer S)), (132, xi_wV S 8 1 (F_X6_hasPlayer S)), (136, xi_wV S 8 2 (F_X6_fact S))] 136 [.ref a0, .int a1, .int a2] m = _
  refine Eq.trans (b := xi_calls [(132, xi_wV S 8 1 (F_X6_hasPlayer S)), (136, xi_wV S 8 2 (F_X6_fact S))] 136 [.ref a0, .int a1, .int a2] m) (xi_calls_miss rfl) ?_
  refine Eq.trans (b := xi_calls [(136, xi_wV S 8 2 (F_X6_fact S))] 136 [.ref a0, .int a1, .int a2] m) (xi_calls_miss rfl) ?_
  refine Eq.trans (b := xi_wV S 8 2 (F_X6_fact S) [.ref a0, .int a1, .int a2] m) (xi_calls_hit rfl) ?_
  exact xi_wV_eq rfl
def E_X8_player (S : xi_S) (v0 : Nat) (v1 : Int32) (v2 : Int32) (m : xi_M) : Option xi_R :=
  if S.1 v0 = 10 then (S.2.2 v0 2).bind fun b2 =>
    xi_bI (if S.1 b2 = 8 then E_X6_hasPlayer S b2 v1 m else none) fun x4 m3 =>
    if x4 = 0 then
      some (some (.int (Int32.ofInt (-1))), m3)
    else
      xi_bI (E_X8_within S v2 ((Int8.ofInt 6).toInt32) m3) fun x6 m5 =>
      if x6 = 0 then
        some (some (.int (Int32.ofInt (-1))), m5)
      else
        if S.1 v0 = 10 then (S.2.2 v0 2).bind fun b8 =>
          xi_bI (if S.1 b8 = 8 then E_X6_fact S b8 v1 v2 m5 else none) fun x10 m9 =>
          xi_bI (if S.1 v0 = 10 then E_X8_answer S v0 x10 m9 else none) fun x12 m11 =>
          some (some (.int x12), m11)
        else none
  else none
def F_X8_player (S : xi_S) : xi_F := fun As m => match As with
  | [.ref v0, .int v1, .int v2] => E_X8_player S v0 v1 v2 m
  | _ => none
set_option maxRecDepth 100000 in
set_option maxHeartbeats 4000000 in
theorem xe_X8_player {S : xi_S} {res : xi_R} (v0 : Nat) (v1 : Int32) (v2 : Int32) (m : xi_M) (h : E_X8_player S v0 v1 v2 m = some res) : xi_X S (P_X8_player S) (0, [some (.ref v0), some (.int v1), some (.int v2)], [], m) res := by
  unfold E_X8_player at h
  refine xr_aload_n i_X8_player_0 rfl (q := 1) rfl ?_
  obtain ⟨c1, h⟩ := xi_if_some h
  obtain ⟨b2, eb2, h⟩ := xi_bind_some h
  refine xr_getR i_X8_player_1 xfe_X8_21 c1 eb2 (q := 4) rfl ?_
  refine xr_iload_n i_X8_player_4 rfl (q := 5) rfl ?_
  obtain ⟨x4, m3, em3, h⟩ := xi_bI_some h
  refine xr_VI i_X8_player_5 xcve_X8_132 rfl (As := [.ref b2, .int v1]) rfl (rest := []) rfl ((cc_X8_player_132 S _ _ _).trans em3) (q := 8) rfl ?_
  by_cases c14 : x4 = 0
  · replace h := (if_pos c14).symm.trans h
    refine xr_ifCond_eq_p i_X8_player_8 c14 (q := 20) t_X8_player_8 (q2 := 11) rfl ?_
    refine xr_iconst i_X8_player_20 (q := 21) rfl ?_
    exact xr_ireturn i_X8_player_21 rfl h
  · replace h := (if_neg c14).symm.trans h
    refine xr_ifCond_eq_n i_X8_player_8 c14 (q := 20) t_X8_player_8 (q2 := 11) rfl ?_
    refine xr_iload_n i_X8_player_11 rfl (q := 12) rfl ?_
    refine xr_bipush i_X8_player_12 (q := 14) rfl ?_
    obtain ⟨x6, m5, em5, h⟩ := xi_bI_some h
    refine xr_SI i_X8_player_14 xcse_X8_71 rfl (As := [.int v2, .int ((Int8.ofInt 6).toInt32)]) rfl (rest := []) rfl ((cc_X8_player_71 S _ _ _).trans em5) (q := 17) rfl ?_
    by_cases c13 : x6 = 0
    · replace h := (if_pos c13).symm.trans h
      refine xr_ifCond_ne_p i_X8_player_17 c13 (q := 22) t_X8_player_17 (q2 := 20) rfl ?_
      refine xr_iconst i_X8_player_20 (q := 21) rfl ?_
      exact xr_ireturn i_X8_player_21 rfl h
    · replace h := (if_neg c13).symm.trans h
      refine xr_ifCond_ne_n i_X8_player_17 c13 (q := 22) t_X8_player_17 (q2 := 20) rfl ?_
      refine xr_aload_n i_X8_player_22 rfl (q := 23) rfl ?_
      refine xr_aload_n i_X8_player_23 rfl (q := 24) rfl ?_
      obtain ⟨c7, h⟩ := xi_if_some h
      obtain ⟨b8, eb8, h⟩ := xi_bind_some h
      refine xr_getR i_X8_player_24 xfe_X8_21 c7 eb8 (q := 27) rfl ?_
      refine xr_iload_n i_X8_player_27 rfl (q := 28) rfl ?_
      refine xr_iload_n i_X8_player_28 rfl (q := 29) rfl ?_
      obtain ⟨x10, m9, em9, h⟩ := xi_bI_some h
      refine xr_VI i_X8_player_29 xcve_X8_136 rfl (As := [.ref b8, .int v1, .int v2]) rfl (rest := [.ref v0]) rfl ((cc_X8_player_136 S _ _ _ _).trans em9) (q := 32) rfl ?_
      obtain ⟨x12, m11, em11, h⟩ := xi_bI_some h
      refine xr_VI i_X8_player_32 xcve_X8_89 rfl (As := [.ref v0, .int x10]) rfl (rest := []) rfl ((cc_X8_player_89 S _ _ _).trans em11) (q := 35) rfl ?_
      exact xr_ireturn i_X8_player_35 rfl h
set_option maxRecDepth 100000 in
theorem po_X8_player {l : Launch} {E : xi_E} {S : xi_S} {D : va_G} {tys : List (ClassId × FieldType)} (hC : xCx E S tys) : xi_Pok l E S D vwCl tys xNs RX8 xTs cX8_player 3 5 (P_X8_player S) := ⟨xi_dc_ok, by rw [hC.2]; exact xfo_X8, xkio_X8, xklo_X8, xi_calls_ok (ins := .invokestatic) (List.forall_mem_cons.mpr ⟨(xc_X8_71 (sn_X8_within hC) (by decide)), fun _ h => absurd h List.not_mem_nil⟩), xi_calls_ok (ins := .invokevirtual) (List.forall_mem_cons.mpr ⟨(xc_X8_89 hC.1 (sn_X8_answer hC) (by decide)), List.forall_mem_cons.mpr ⟨(xc_X8_132 hC.1 (sn_X6_hasPlayer hC) (by decide)), List.forall_mem_cons.mpr ⟨(xc_X8_136 hC.1 (sn_X6_fact hC) (by decide)), fun _ h => absurd h List.not_mem_nil⟩⟩⟩)⟩
theorem sn_X8_player {l : Launch} {E : xi_E} {S : xi_S} {D : va_G} {tys : List (ClassId × FieldType)} (hC : xCx E S tys) : ∀ As m1 r m2, F_X8_player S As m1 = some (r, m2) → xi_Sound l E S D vwCl tys xNs xTs yX8_player cX8_player 3 (some .int) 5 As m1 r m2 := by
  intro As m1 r m2 h
  unfold F_X8_player at h
  split at h
  · exact xi_meth (P := P_X8_player S) (by decide) hC.1 (po_X8_player hC) (Nat.le_of_ble_eq_true rfl) rfl (xe_X8_player _ _ _ _ h)
  · exact xi_no h
theorem i_X8_mark_0 : xi_dc cX8_mark 0 = some (.aload_n 0, 1) := by decide +kernel
theorem i_X8_mark_1 : xi_dc cX8_mark 1 = some (.getfield 21, 3) := by decide +kernel
theorem i_X8_mark_4 : xi_dc cX8_mark 4 = some (.iload_n 1, 1) := by decide +kernel
theorem i_X8_mark_5 : xi_dc cX8_mark 5 = some (.invokevirtual 132, 3) := by decide +kernel
theorem i_X8_mark_8 : xi_dc cX8_mark 8 = some (.ifCond .eq 13, 3) := by decide +kernel
theorem t_X8_mark_8 : ((8 : Nat) : Int) + 13 = ((21 : Nat) : Int) := by decide +kernel
theorem i_X8_mark_11 : xi_dc cX8_mark 11 = some (.iload_n 2, 1) := by decide +kernel
theorem i_X8_mark_12 : xi_dc cX8_mark 12 = some (.iconst 1, 1) := by decide +kernel
theorem i_X8_mark_13 : xi_dc cX8_mark 13 = some (.if_icmp .lt 8, 3) := by decide +kernel
theorem t_X8_mark_13 : ((13 : Nat) : Int) + 8 = ((21 : Nat) : Int) := by decide +kernel
theorem i_X8_mark_16 : xi_dc cX8_mark 16 = some (.iload_n 2, 1) := by decide +kernel
theorem i_X8_mark_17 : xi_dc cX8_mark 17 = some (.iconst 5, 1) := by decide +kernel
theorem i_X8_mark_18 : xi_dc cX8_mark 18 = some (.if_icmp .le 5, 3) := by decide +kernel
theorem t_X8_mark_18 : ((18 : Nat) : Int) + 5 = ((23 : Nat) : Int) := by decide +kernel
theorem i_X8_mark_21 : xi_dc cX8_mark 21 = some (.iconst (-1), 1) := by decide +kernel
theorem i_X8_mark_22 : xi_dc cX8_mark 22 = some (.ireturn, 1) := by decide +kernel
theorem i_X8_mark_23 : xi_dc cX8_mark 23 = some (.aload_n 0, 1) := by decide +kernel
theorem i_X8_mark_24 : xi_dc cX8_mark 24 = some (.getfield 21, 3) := by decide +kernel
theorem i_X8_mark_27 : xi_dc cX8_mark 27 = some (.getfield 142, 3) := by decide +kernel
theorem i_X8_mark_30 : xi_dc cX8_mark 30 = some (.iload_n 1, 1) := by decide +kernel
theorem i_X8_mark_31 : xi_dc cX8_mark 31 = some (.iaload, 1) := by decide +kernel
theorem i_X8_mark_32 : xi_dc cX8_mark 32 = some (.iload_n 2, 1) := by decide +kernel
theorem i_X8_mark_33 : xi_dc cX8_mark 33 = some (.invokestatic 145, 3) := by decide +kernel
theorem i_X8_mark_36 : xi_dc cX8_mark 36 = some (.ifCond .ne 9, 3) := by decide +kernel
theorem t_X8_mark_36 : ((36 : Nat) : Int) + 9 = ((45 : Nat) : Int) := by decide +kernel
theorem i_X8_mark_39 : xi_dc cX8_mark 39 = some (.aload_n 0, 1) := by decide +kernel
theorem i_X8_mark_40 : xi_dc cX8_mark 40 = some (.iconst 3, 1) := by decide +kernel
theorem i_X8_mark_41 : xi_dc cX8_mark 41 = some (.invokevirtual 83, 3) := by decide +kernel
theorem i_X8_mark_44 : xi_dc cX8_mark 44 = some (.ireturn, 1) := by decide +kernel
theorem i_X8_mark_45 : xi_dc cX8_mark 45 = some (.iload_n 2, 1) := by decide +kernel
theorem i_X8_mark_46 : xi_dc cX8_mark 46 = some (.tableswitch 129 1 4 #[30, 52, 64, 90], 30) := by decide +kernel
theorem i_X8_mark_76 : xi_dc cX8_mark 76 = some (.aload_n 0, 1) := by decide +kernel
theorem i_X8_mark_77 : xi_dc cX8_mark 77 = some (.getfield 21, 3) := by decide +kernel
theorem i_X8_mark_80 : xi_dc cX8_mark 80 = some (.iload_n 1, 1) := by decide +kernel
theorem i_X8_mark_81 : xi_dc cX8_mark 81 = some (.invokevirtual 148, 3) := by decide +kernel
theorem i_X8_mark_84 : xi_dc cX8_mark 84 = some (.aload_n 0, 1) := by decide +kernel
theorem i_X8_mark_85 : xi_dc cX8_mark 85 = some (.getfield 21, 3) := by decide +kernel
theorem i_X8_mark_88 : xi_dc cX8_mark 88 = some (.getfield 151, 3) := by decide +kernel
theorem i_X8_mark_91 : xi_dc cX8_mark 91 = some (.iload_n 1, 1) := by decide +kernel
theorem i_X8_mark_92 : xi_dc cX8_mark 92 = some (.iaload, 1) := by decide +kernel
theorem i_X8_mark_93 : xi_dc cX8_mark 93 = some (.isub, 1) := by decide +kernel
theorem i_X8_mark_94 : xi_dc cX8_mark 94 = some (.invokestatic 154, 3) := by decide +kernel
theorem i_X8_mark_97 : xi_dc cX8_mark 97 = some (.ireturn, 1) := by decide +kernel
theorem i_X8_mark_98 : xi_dc cX8_mark 98 = some (.aload_n 0, 1) := by decide +kernel
theorem i_X8_mark_99 : xi_dc cX8_mark 99 = some (.getfield 21, 3) := by decide +kernel
theorem i_X8_mark_102 : xi_dc cX8_mark 102 = some (.iload_n 1, 1) := by decide +kernel
theorem i_X8_mark_103 : xi_dc cX8_mark 103 = some (.invokevirtual 159, 3) := by decide +kernel
theorem i_X8_mark_106 : xi_dc cX8_mark 106 = some (.invokestatic 162, 3) := by decide +kernel
theorem i_X8_mark_109 : xi_dc cX8_mark 109 = some (.ireturn, 1) := by decide +kernel
theorem i_X8_mark_110 : xi_dc cX8_mark 110 = some (.aload_n 0, 1) := by decide +kernel
theorem i_X8_mark_111 : xi_dc cX8_mark 111 = some (.getfield 21, 3) := by decide +kernel
theorem i_X8_mark_114 : xi_dc cX8_mark 114 = some (.aload_n 0, 1) := by decide +kernel
theorem i_X8_mark_115 : xi_dc cX8_mark 115 = some (.getfield 21, 3) := by decide +kernel
theorem i_X8_mark_118 : xi_dc cX8_mark 118 = some (.getfield 167, 3) := by decide +kernel
theorem i_X8_mark_121 : xi_dc cX8_mark 121 = some (.iload_n 1, 1) := by decide +kernel
theorem i_X8_mark_122 : xi_dc cX8_mark 122 = some (.iaload, 1) := by decide +kernel
theorem i_X8_mark_123 : xi_dc cX8_mark 123 = some (.aload_n 0, 1) := by decide +kernel
theorem i_X8_mark_124 : xi_dc cX8_mark 124 = some (.getfield 21, 3) := by decide +kernel
theorem i_X8_mark_127 : xi_dc cX8_mark 127 = some (.iload_n 1, 1) := by decide +kernel
theorem i_X8_mark_128 : xi_dc cX8_mark 128 = some (.iconst 0, 1) := by decide +kernel
theorem i_X8_mark_129 : xi_dc cX8_mark 129 = some (.invokevirtual 170, 3) := by decide +kernel
theorem i_X8_mark_132 : xi_dc cX8_mark 132 = some (.invokevirtual 173, 3) := by decide +kernel
theorem i_X8_mark_135 : xi_dc cX8_mark 135 = some (.ireturn, 1) := by decide +kernel
theorem i_X8_mark_136 : xi_dc cX8_mark 136 = some (.aload_n 0, 1) := by decide +kernel
theorem i_X8_mark_137 : xi_dc cX8_mark 137 = some (.getfield 21, 3) := by decide +kernel
theorem i_X8_mark_140 : xi_dc cX8_mark 140 = some (.iload_n 1, 1) := by decide +kernel
theorem i_X8_mark_141 : xi_dc cX8_mark 141 = some (.aload_n 0, 1) := by decide +kernel
theorem i_X8_mark_142 : xi_dc cX8_mark 142 = some (.getfield 21, 3) := by decide +kernel
theorem i_X8_mark_145 : xi_dc cX8_mark 145 = some (.getfield 151, 3) := by decide +kernel
theorem i_X8_mark_148 : xi_dc cX8_mark 148 = some (.iload_n 1, 1) := by decide +kernel
theorem i_X8_mark_149 : xi_dc cX8_mark 149 = some (.iaload, 1) := by decide +kernel
theorem i_X8_mark_150 : xi_dc cX8_mark 150 = some (.iconst 1, 1) := by decide +kernel
theorem i_X8_mark_151 : xi_dc cX8_mark 151 = some (.aload_n 0, 1) := by decide +kernel
theorem i_X8_mark_152 : xi_dc cX8_mark 152 = some (.getfield 21, 3) := by decide +kernel
theorem i_X8_mark_155 : xi_dc cX8_mark 155 = some (.getfield 176, 3) := by decide +kernel
theorem i_X8_mark_158 : xi_dc cX8_mark 158 = some (.isub, 1) := by decide +kernel
theorem i_X8_mark_159 : xi_dc cX8_mark 159 = some (.invokevirtual 179, 3) := by decide +kernel
theorem i_X8_mark_162 : xi_dc cX8_mark 162 = some (.aload_n 0, 1) := by decide +kernel
theorem i_X8_mark_163 : xi_dc cX8_mark 163 = some (.getfield 21, 3) := by decide +kernel
theorem i_X8_mark_166 : xi_dc cX8_mark 166 = some (.iload_n 1, 1) := by decide +kernel
theorem i_X8_mark_167 : xi_dc cX8_mark 167 = some (.invokevirtual 148, 3) := by decide +kernel
theorem i_X8_mark_170 : xi_dc cX8_mark 170 = some (.isub, 1) := by decide +kernel
theorem i_X8_mark_171 : xi_dc cX8_mark 171 = some (.invokestatic 154, 3) := by decide +kernel
theorem i_X8_mark_174 : xi_dc cX8_mark 174 = some (.ireturn, 1) := by decide +kernel
theorem i_X8_mark_175 : xi_dc cX8_mark 175 = some (.aload_n 0, 1) := by decide +kernel
theorem i_X8_mark_176 : xi_dc cX8_mark 176 = some (.getfield 21, 3) := by decide +kernel
theorem i_X8_mark_179 : xi_dc cX8_mark 179 = some (.iconst 1, 1) := by decide +kernel
theorem i_X8_mark_180 : xi_dc cX8_mark 180 = some (.aload_n 0, 1) := by decide +kernel
theorem i_X8_mark_181 : xi_dc cX8_mark 181 = some (.getfield 21, 3) := by decide +kernel
theorem i_X8_mark_184 : xi_dc cX8_mark 184 = some (.getfield 167, 3) := by decide +kernel
theorem i_X8_mark_187 : xi_dc cX8_mark 187 = some (.iload_n 1, 1) := by decide +kernel
theorem i_X8_mark_188 : xi_dc cX8_mark 188 = some (.iaload, 1) := by decide +kernel
theorem i_X8_mark_189 : xi_dc cX8_mark 189 = some (.isub, 1) := by decide +kernel
theorem i_X8_mark_190 : xi_dc cX8_mark 190 = some (.aload_n 0, 1) := by decide +kernel
theorem i_X8_mark_191 : xi_dc cX8_mark 191 = some (.getfield 21, 3) := by decide +kernel
theorem i_X8_mark_194 : xi_dc cX8_mark 194 = some (.iload_n 1, 1) := by decide +kernel
theorem i_X8_mark_195 : xi_dc cX8_mark 195 = some (.invokevirtual 159, 3) := by decide +kernel
theorem i_X8_mark_198 : xi_dc cX8_mark 198 = some (.invokevirtual 173, 3) := by decide +kernel
theorem i_X8_mark_201 : xi_dc cX8_mark 201 = some (.ireturn, 1) := by decide +kernel
def P_X8_mark (S : xi_S) : xi_P := (xi_dc cX8_mark, xi_tab xfl_X8, xi_tab xki_X8, xi_tab xkl_X8, xi_tab xcs_X8, xi_tab xcv_X8, xi_calls [(145, xi_wS 2 (F_X4_isOf S)), (154, xi_wS 1 (F_J9_abs_0f7a4 S)), (162, xi_wS 1 (F_J6_bitCount_0f7a4 S))], xi_calls [(83, xi_wV S 10 1 (F_X8_refuse S)), (132, xi_wV S 8 1 (F_X6_hasPlayer S)), (148, xi_wV S 8 1 (F_X6_landing S)), (159, xi_wV S 8 1 (F_X6_reached S)), (170, xi_wV S 8 2 (F_X6_ballBit S)), (173, xi_wV S 8 2 (F_X6_ballsOf S)), (179, xi_wV S 8 3 (F_X6_landingFrom S))], 1)
theorem cc_X8_mark_145 (S : xi_S) (a0 : Int32) (a1 : Int32) (m : xi_M) : (P_X8_mark S).2.2.2.2.2.2.1 145 [.int a0, .int a1] m = (E_X4_isOf S a0 a1 m) := by
  show xi_calls [(145, xi_wS 2 (F_X4_isOf S)), (154, xi_wS 1 (F_J9_abs_0f7a4 S)), (162, xi_wS 1 (F_J6_bitCount_0f7a4 S))] 145 [.int a0, .int a1] m = _
  refine Eq.trans (b := xi_wS 2 (F_X4_isOf S) [.int a0, .int a1] m) (xi_calls_hit rfl) ?_
  exact xi_wS_eq rfl
theorem cc_X8_mark_154 (S : xi_S) (a0 : Int32) (m : xi_M) : (P_X8_mark S).2.2.2.2.2.2.1 154 [.int a0] m = (E_J9_abs_0f7a4 S a0 m) := by
  show xi_calls [(145, xi_wS 2 (F_X4_isOf S)), (154, xi_wS 1 (F_J9_abs_0f7a4 S)), (162, xi_wS 1 (F_J6_bitCount_0f7a4 S))] 154 [.int a0] m = _
  refine Eq.trans (b := xi_calls [(154, xi_wS 1 (F_J9_abs_0f7a4 S)), (162, xi_wS 1 (F_J6_bitCount_0f7a4 S))] 154 [.int a0] m) (xi_calls_miss rfl) ?_
  refine Eq.trans (b := xi_wS 1 (F_J9_abs_0f7a4 S) [.int a0] m) (xi_calls_hit rfl) ?_
  exact xi_wS_eq rfl
theorem cc_X8_mark_162 (S : xi_S) (a0 : Int32) (m : xi_M) : (P_X8_mark S).2.2.2.2.2.2.1 162 [.int a0] m = (E_J6_bitCount_0f7a4 S a0 m) := by
  show xi_calls [(145, xi_wS 2 (F_X4_isOf S)), (154, xi_wS 1 (F_J9_abs_0f7a4 S)), (162, xi_wS 1 (F_J6_bitCount_0f7a4 S))] 162 [.int a0] m = _
  refine Eq.trans (b := xi_calls [(154, xi_wS 1 (F_J9_abs_0f7a4 S)), (162, xi_wS 1 (F_J6_bitCount_0f7a4 S))] 162 [.int a0] m) (xi_calls_miss rfl) ?_
  refine Eq.trans (b := xi_calls [(162, xi_wS 1 (F_J6_bitCount_0f7a4 S))] 162 [.int a0] m) (xi_calls_miss rfl) ?_
  refine Eq.trans (b := xi_wS 1 (F_J6_bitCount_0f7a4 S) [.int a0] m) (xi_calls_hit rfl) ?_
  exact xi_wS_eq rfl
theorem cc_X8_mark_83 (S : xi_S) (a0 : Nat) (a1 : Int32) (m : xi_M) : (P_X8_mark S).2.2.2.2.2.2.2.1 83 [.ref a0, .int a1] m = (if S.1 a0 = 10 then E_X8_refuse S a0 a1 m else none) := by
  show xi_calls [(83, xi_wV S 10 1 (F_X8_refuse S)), (132, xi_wV S 8 1 (F_X6_hasPlayer S)), (148, xi_wV S 8 1 (F_X6_landing S)), (159, xi_wV S 8 1 (F_X6_reached S)), (170, xi_wV S 8 2 (F_X6_ballBit S)), (173, xi_wV S 8 2 (F_X6_ballsOf S)), (179, xi_wV S 8 3 (F_X6_landingFrom S))] 83 [.ref a0, .int a1] m = _
  refine Eq.trans (b := xi_wV S 10 1 (F_X8_refuse S) [.ref a0, .int a1] m) (xi_calls_hit rfl) ?_
  exact xi_wV_eq rfl
theorem cc_X8_mark_132 (S : xi_S) (a0 : Nat) (a1 : Int32) (m : xi_M) : (P_X8_mark S).2.2.2.2.2.2.2.1 132 [.ref a0, .int a1] m = (if S.1 a0 = 8 then E_X6_hasPlayer S a0 a1 m else none) := by
  show xi_calls [(83, xi_wV S 10 1 (F_X8_refuse S)), (132, xi_wV S 8 1 (F_X6_hasPlayer S)), (148, xi_wV S 8 1 (F_X6_landing S)), (159, xi_wV S 8 1 (F_X6_reached S)), (170, xi_wV S 8 2 (F_X6_ballBit S)), (173, xi_wV S 8 2 (F_X6_ballsOf S)), (179, xi_wV S 8 3 (F_X6_landingFrom S))] 132 [.ref a0, .int a1] m = _
  refine Eq.trans (b := xi_calls [(132, xi_wV S 8 1 (F_X6_hasPlayer S)), (148, xi_wV S 8 1 (F_X6_landing S)), (159, xi_wV S 8 1 (F_X6_reached S)), (170, xi_wV S 8 2 (F_X6_ballBit S)), (173, xi_wV S 8 2 (F_X6_ballsOf S)), (179, xi_wV S 8 3 (F_X6_landingFrom S))] 132 [.ref a0, .int a1] m) (xi_calls_miss rfl) ?_
  refine Eq.trans (b := xi_wV S 8 1 (F_X6_hasPlayer S) [.ref a0, .int a1] m) (xi_calls_hit rfl) ?_
  exact xi_wV_eq rfl
theorem cc_X8_mark_148 (S : xi_S) (a0 : Nat) (a1 : Int32) (m : xi_M) : (P_X8_mark S).2.2.2.2.2.2.2.1 148 [.ref a0, .int a1] m = (if S.1 a0 = 8 then E_X6_landing S a0 a1 m else none) := by
  show xi_calls [(83, xi_wV S 10 1 (F_X8_refuse S)), (132, xi_wV S 8 1 (F_X6_hasPlayer S)), (148, xi_wV S 8 1 (F_X6_landing S)), (159, xi_wV S 8 1 (F_X6_reached S)), (170, xi_wV S 8 2 (F_X6_ballBit S)), (173, xi_wV S 8 2 (F_X6_ballsOf S)), (179, xi_wV S 8 3 (F_X6_landingFrom S))] 148 [.ref a0, .int a1] m = _
  refine Eq.trans (b := xi_calls [(132, xi_wV S 8 1 (F_X6_hasPlayer S)), (148, xi_wV S 8 1 (F_X6_landing S)), (159, xi_wV S 8 1 (F_X6_reached S)), (170, xi_wV S 8 2 (F_X6_ballBit S)), (173, xi_wV S 8 2 (F_X6_ballsOf S)), (179, xi_wV S 8 3 (F_X6_landingFrom S))] 148 [.ref a0, .int a1] m) (xi_calls_miss rfl) ?_
  refine Eq.trans (b := xi_calls [(148, xi_wV S 8 1 (F_X6_landing S)), (159, xi_wV S 8 1 (F_X6_reached S)), (170, xi_wV S 8 2 (F_X6_ballBit S)), (173, xi_wV S 8 2 (F_X6_ballsOf S)), (179, xi_wV S 8 3 (F_X6_landingFrom S))] 148 [.ref a0, .int a1] m) (xi_calls_miss rfl) ?_
  refine Eq.trans (b := xi_wV S 8 1 (F_X6_landing S) [.ref a0, .int a1] m) (xi_calls_hit rfl) ?_
  exact xi_wV_eq rfl
theorem cc_X8_mark_159 (S : xi_S) (a0 : Nat) (a1 : Int32) (m : xi_M) : (P_X8_mark S).2.2.2.2.2.2.2.1 159 [.ref a0, .int a1] m = (if S.1 a0 = 8 then E_X6_reached S a0 a1 m else none) := by
  show xi_calls [(83, xi_wV S 10 1 (F_X8_refuse S)), (132, xi_wV S 8 1 (F_X6_hasPlayer S)), (148, xi_wV S 8 1 (F_X6_landing S)), (159, xi_wV S 8 1 (F_X6_reached S)), (170, xi_wV S 8 2 (F_X6_ballBit S)), (173, xi_wV S 8 2 (F_X6_ballsOf S)), (179, xi_wV S 8 3 (F_X6_landingFrom S))] 159 [.ref a0, .int a1] m = _
  refine Eq.trans (b := xi_calls [(132, xi_wV S 8 1 (F_X6_hasPlayer S)), (148, xi_wV S 8 1 (F_X6_landing S)), (159, xi_wV S 8 1 (F_X6_reached S)), (170, xi_wV S 8 2 (F_X6_ballBit S)), (173, xi_wV S 8 2 (F_X6_ballsOf S)), (179, xi_wV S 8 3 (F_X6_landingFrom S))] 159 [.ref a0, .int a1] m) (xi_calls_miss rfl) ?_
  refine Eq.trans (b := xi_calls [(148, xi_wV S 8 1 (F_X6_landing S)), (159, xi_wV S 8 1 (F_X6_reached S)), (170, xi_wV S 8 2 (F_X6_ballBit S)), (173, xi_wV S 8 2 (F_X6_ballsOf S)), (179, xi_wV S 8 3 (F_X6_landingFrom S))] 159 [.ref a0, .int a1] m) (xi_calls_miss rfl) ?_
  refine Eq.trans (b := xi_calls [(159, xi_wV S 8 1 (F_X6_reached S)), (170, xi_wV S 8 2 (F_X6_ballBit S)), (173, xi_wV S 8 2 (F_X6_ballsOf S)), (179, xi_wV S 8 3 (F_X6_landingFrom S))] 159 [.ref a0, .int a1] m) (xi_calls_miss rfl) ?_
  refine Eq.trans (b := xi_wV S 8 1 (F_X6_reached S) [.ref a0, .int a1] m) (xi_calls_hit rfl) ?_
  exact xi_wV_eq rfl
theorem cc_X8_mark_170 (S : xi_S) (a0 : Nat) (a1 : Int32) (a2 : Int32) (m : xi_M) : (P_X8_mark S).2.2.2.2.2.2.2.1 170 [.ref a0, .int a1, .int a2] m = (if S.1 a0 = 8 then E_X6_ballBit S a0 a1 a2 m else none) := by
  show xi_calls [(83, xi_wV S 10 1 (F_X8_refuse S)), (132, xi_wV S 8 1 (F_X6_hasPlayer S)), (148, xi_wV S 8 1 (F_X6_landing S)), (159, xi_wV S 8 1 (F_X6_reached S)), (170, xi_wV S 8 2 (F_X6_ballBit S)), (173, xi_wV S 8 2 (F_X6_ballsOf S)), (179, xi_wV S 8 3 (F_X6_landingFrom S))] 170 [.ref a0, .int a1, .int a2] m = _
  refine Eq.trans (b := xi_calls [(132, xi_wV S 8 1 (F_X6_hasPlayer S)), (148, xi_wV S 8 1 (F_X6_landing S)), (159, xi_wV S 8 1 (F_X6_reached S)), (170, xi_wV S 8 2 (F_X6_ballBit S)), (173, xi_wV S 8 2 (F_X6_ballsOf S)), (179, xi_wV S 8 3 (F_X6_landingFrom S))] 170 [.ref a0, .int a1, .int a2] m) (xi_calls_miss rfl) ?_
  refine Eq.trans (b := xi_calls [(148, xi_wV S 8 1 (F_X6_landing S)), (159, xi_wV S 8 1 (F_X6_reached S)), (170, xi_wV S 8 2 (F_X6_ballBit S)), (173, xi_wV S 8 2 (F_X6_ballsOf S)), (179, xi_wV S 8 3 (F_X6_landingFrom S))] 170 [.ref a0, .int a1, .int a2] m) (xi_calls_miss rfl) ?_
  refine Eq.trans (b := xi_calls [(159, xi_wV S 8 1 (F_X6_reached S)), (170, xi_wV S 8 2 (F_X6_ballBit S)), (173, xi_wV S 8 2 (F_X6_ballsOf S)), (179, xi_wV S 8 3 (F_X6_landingFrom S))] 170 [.ref a0, .int a1, .int a2] m) (xi_calls_miss rfl) ?_
  refine Eq.trans (b := xi_calls [(170, xi_wV S 8 2 (F_X6_ballBit S)), (173, xi_wV S 8 2 (F_X6_ballsOf S)), (179, xi_wV S 8 3 (F_X6_landingFrom S))] 170 [.ref a0, .int a1, .int a2] m) (xi_calls_miss rfl) ?_
  refine Eq.trans (b := xi_wV S 8 2 (F_X6_ballBit S) [.ref a0, .int a1, .int a2] m) (xi_calls_hit rfl) ?_
  exact xi_wV_eq rfl
theorem cc_X8_mark_173 (S : xi_S) (a0 : Nat) (a1 : Int32) (a2 : Int32) (m : xi_M) : (P_X8_mark S).2.2.2.2.2.2.2.1 173 [.ref a0, .int a1, .int a2] m = (if S.1 a0 = 8 then E_X6_ballsOf S a0 a1 a2 m else none) := by
  show xi_calls [(83, xi_wV S 10 1 (F_X8_refuse S)), (132, xi_wV S 8 1 (F_X6_hasPlayer S)), (148, xi_wV S 8 1 (F_X6_landing S)), (159, xi_wV S 8 1 (F_X6_reached S)), (170, xi_wV S 8 2 (F_X6_ballBit S)), (173, xi_wV S 8 2 (F_X6_ballsOf S)), (179, xi_wV S 8 3 (F_X6_landingFrom S))] 173 [.ref a0, .int a1, .int a2] m = _
  refine Eq.trans (b := xi_calls [(132, xi_wV S 8 1 (F_X6_hasPlayer S)), (148, xi_wV S 8 1 (F_X6_landing S)), (159, xi_wV S 8 1 (F_X6_reached S)), (170, xi_wV S 8 2 (F_X6_ballBit S)), (173, xi_wV S 8 2 (F_X6_ballsOf S)), (179, xi_wV S 8 3 (F_X6_landingFrom S))] 173 [.ref a0, .int a1, .int a2] m) (xi_calls_miss rfl) ?_
  refine Eq.trans (b := xi_calls [(148, xi_wV S 8 1 (F_X6_landing S)), (159, xi_wV S 8 1 (F_X6_reached S)), (170, xi_wV S 8 2 (F_X6_ballBit S)), (173, xi_wV S 8 2 (F_X6_ballsOf S)), (179, xi_wV S 8 3 (F_X6_landingFrom S))] 173 [.ref a0, .int a1, .int a2] m) (xi_calls_miss rfl) ?_
  refine Eq.trans (b := xi_calls [(159, xi_wV S 8 1 (F_X6_reached S)), (170, xi_wV S 8 2 (F_X6_ballBit S)), (173, xi_wV S 8 2 (F_X6_ballsOf S)), (179, xi_wV S 8 3 (F_X6_landingFrom S))] 173 [.ref a0, .int a1, .int a2] m) (xi_calls_miss rfl) ?_
  refine Eq.trans (b := xi_calls [(170, xi_wV S 8 2 (F_X6_ballBit S)), (173, xi_wV S 8 2 (F_X6_ballsOf S)), (179, xi_wV S 8 3 (F_X6_landingFrom S))] 173 [.ref a0, .int a1, .int a2] m) (xi_calls_miss rfl) ?_
  refine Eq.trans (b := xi_calls [(173, xi_wV S 8 2 (F_X6_ballsOf S)), (179, xi_wV S 8 3 (F_X6_landingFrom S))] 173 [.ref a0, .int a1, .int a2] m) (xi_calls_miss rfl) ?_
  refine Eq.trans (b := xi_wV S 8 2 (F_X6_ballsOf S) [.ref a0, .int a1, .int a2] m) (xi_calls_hit rfl) ?_
  exact xi_wV_eq rfl
theorem cc_X8_mark_179 (S : xi_S) (a0 : Nat) (a1 : Int32) (a2 : Int32) (a3 : Int32) (m : xi_M) : (P_X8_mark S).2.2.2.2.2.2.2.1 179 [.ref a0, .int a1, .int a2, .int a3] m = (if S.1 a0 = 8 then E_X6_landingFrom S a0 a1 a2 a3 m else none) := by
  show xi_calls [(83, xi_wV S 10 1 (F_X8_refuse S)), (132, xi_wV S 8 1 (F_X6_hasPlayer S)), (148, xi_wV S 8 1 (F_X6_landing S)), (159, xi_wV S 8 1 (F_X6_reached S)), (170, xi_wV S 8 2 (F_X6_ballBit S)), (173, xi_wV S 8 2 (F_X6_ballsOf S)), (179, xi_wV S 8 3 (F_X6_landingFrom S))] 179 [.ref a0, .int a1, .int a2, .int a3] m = _
  refine Eq.trans (b := xi_calls [(132, xi_wV S 8 1 (F_X6_hasPlayer S)), (148, xi_wV S 8 1 (F_X6_landing S)), (159, xi_wV S 8 1 (F_X6_reached S)), (170, xi_wV S 8 2 (F_X6_ballBit S)), (173, xi_wV S 8 2 (F_X6_ballsOf S)), (179, xi_wV S 8 3 (F_X6_landingFrom S))] 179 [.ref a0, .int a1, .int a2, .int a3] m) (xi_calls_miss rfl) ?_
  refine Eq.trans (b := xi_calls [(148, xi_wV S 8 1 (F_X6_landing S)), (159, xi_wV S 8 1 (F_X6_reached S)), (170, xi_wV S 8 2 (F_X6_ballBit S)), (173, xi_wV S 8 2 (F_X6_ballsOf S)), (179, xi_wV S 8 3 (F_X6_landingFrom S))] 179 [.ref a0, .int a1, .int a2, .int a3] m) (xi_calls_miss rfl) ?_
  refine Eq.trans (b := xi_calls [(159, xi_wV S 8 1 (F_X6_reached S)), (170, xi_wV S 8 2 (F_X6_ballBit S)), (173, xi_wV S 8 2 (F_X6_ballsOf S)), (179, xi_wV S 8 3 (F_X6_landingFrom S))] 179 [.ref a0, .int a1, .int a2, .int a3] m) (xi_calls_miss rfl) ?_
  refine Eq.trans (b := xi_calls [(170, xi_wV S 8 2 (F_X6_ballBit S)), (173, xi_wV S 8 2 (F_X6_ballsOf S)), (179, xi_wV S 8 3 (F_X6_landingFrom S))] 179 [.ref a0, .int a1, .int a2, .int a3] m) (xi_calls_miss rfl) ?_
  refine Eq.trans (b := xi_calls [(173, xi_wV S 8 2 (F_X6_ballsOf S)), (179, xi_wV S 8 3 (F_X6_landingFrom S))] 179 [.ref a0, .int a1, .int a2, .int a3] m) (xi_calls_miss rfl) ?_
  refine Eq.trans (b := xi_calls [(179, xi_wV S 8 3 (F_X6_landingFrom S))] 179 [.ref a0, .int a1, .int a2, .int a3] m) (xi_calls_miss rfl) ?_
  refine Eq.trans (b := xi_wV S 8 3 (F_X6_landingFrom S) [.ref a0, .int a1, .int a2, .int a3] m) (xi_calls_hit rfl) ?_
  exact xi_wV_eq rfl
def E_X8_mark (S : xi_S) (v0 : Nat) (v1 : Int32) (v2 : Int32) (m : xi_M) : Option xi_R :=
  if S.1 v0 = 10 then (S.2.2 v0 2).bind fun b2 =>
    xi_bI (if S.1 b2 = 8 then E_X6_hasPlayer S b2 v1 m else none) fun x4 m3 =>
    if x4 = 0 then
      some (some (.int (Int32.ofInt (-1))), m3)
    else
      if v2 < (Int32.ofInt 1) then
        some (some (.int (Int32.ofInt (-1))), m3)
      else
        if v2 ≤ (Int32.ofInt 5) then
          if S.1 v0 = 10 then (S.2.2 v0 2).bind fun b6 =>
            if S.1 b6 = 8 then (S.2.2 b6 7).bind fun b8 =>
              if S.1 b8 = 0 ∧ ¬ (v1 < 0 ∨ S.2.1 b8 ≤ Int32.toNatClampNeg v1) then
                xi_bI (E_X4_isOf S (m3.1 b8 (Int32.toNatClampNeg v1)) v2 m3) fun x11 m10 =>
                if x11 = 0 then
                  xi_bI (if S.1 v0 = 10 then E_X8_refuse S v0 (Int32.ofInt 3) m10 else none) fun x78 m77 =>
                  some (some (.int x78), m77)
                else
                  if Int32.toInt v2 = 1 then
                    if S.1 v0 = 10 then (S.2.2 v0 2).bind fun b14 =>
                      xi_bI (if S.1 b14 = 8 then E_X6_landing S b14 v1 m10 else none) fun x16 m15 =>
                      if S.1 v0 = 10 then (S.2.2 v0 2).bind fun b18 =>
                        if S.1 b18 = 8 then (S.2.2 b18 9).bind fun b20 =>
                          if S.1 b20 = 0 ∧ ¬ (v1 < 0 ∨ S.2.1 b20 ≤ Int32.toNatClampNeg v1) then
                            xi_bI (E_J9_abs_0f7a4 S (x16 - (m15.1 b20 (Int32.toNatClampNeg v1))) m15) fun x23 m22 =>
                            some (some (.int x23), m22)
                          else none
                        else none
                      else none
                    else none
                  else
                    if Int32.toInt v2 = 2 then
                      if S.1 v0 = 10 then (S.2.2 v0 2).bind fun b26 =>
                        xi_bI (if S.1 b26 = 8 then E_X6_reached S b26 v1 m10 else none) fun x28 m27 =>
                        xi_bI (E_J6_bitCount_0f7a4 S x28 m27) fun x30 m29 =>
                        some (some (.int x30), m29)
                      else none
                    else
                      if Int32.toInt v2 = 3 then
                        if S.1 v0 = 10 then (S.2.2 v0 2).bind fun b33 =>
                          if S.1 v0 = 10 then (S.2.2 v0 2).bind fun b35 =>
                            if S.1 b35 = 8 then (S.2.2 b35 8).bind fun b37 =>
                              if S.1 b37 = 0 ∧ ¬ (v1 < 0 ∨ S.2.1 b37 ≤ Int32.toNatClampNeg v1) then
                                if S.1 v0 = 10 then (S.2.2 v0 2).bind fun b40 =>
                                  xi_bI (if S.1 b40 = 8 then E_X6_ballBit S b40 v1 (Int32.ofInt 0) m10 else none) fun x42 m41 =>
                                  xi_bI (if S.1 b33 = 8 then E_X6_ballsOf S b33 (m10.1 b37 (Int32.toNatClampNeg v1)) x42 m41 else none) fun x44 m43 =>
                                  some (some (.int x44), m43)
                                else none
                              else none
                            else none
                          else none
                        else none
                      else
                        if Int32.toInt v2 = 4 then
                          if S.1 v0 = 10 then (S.2.2 v0 2).bind fun b47 =>
                            if S.1 v0 = 10 then (S.2.2 v0 2).bind fun b49 =>
                              if S.1 b49 = 8 then (S.2.2 b49 9).bind fun b51 =>
                                if S.1 b51 = 0 ∧ ¬ (v1 < 0 ∨ S.2.1 b51 ≤ Int32.toNatClampNeg v1) then
                                  if S.1 v0 = 10 then (S.2.2 v0 2).bind fun b54 =>
                                    if S.1 b54 = 8 then
                                      xi_bI (if S.1 b47 = 8 then E_X6_landingFrom S b47 v1 (m10.1 b51 (Int32.toNatClampNeg v1)) ((Int32.ofInt 1) - (m10.1 b54 3)) m10 else none) fun x57 m56 =>
                                      if S.1 v0 = 10 then (S.2.2 v0 2).bind fun b59 =>
                                        xi_bI (if S.1 b59 = 8 then E_X6_landing S b59 v1 m56 else none) fun x61 m60 =>
                                        xi_bI (E_J9_abs_0f7a4 S (x57 - x61) m60) fun x63 m62 =>
                                        some (some (.int x63), m62)
                                      else none
                                    else none
                                  else none
                                else none
                              else none
                            else none
                          else none
                        else
                          if S.1 v0 = 10 then (S.2.2 v0 2).bind fun b65 =>
                            if S.1 v0 = 10 then (S.2.2 v0 2).bind fun b67 =>
                              if S.1 b67 = 8 then (S.2.2 b67 8).bind fun b69 =>
                                if S.1 b69 = 0 ∧ ¬ (v1 < 0 ∨ S.2.1 b69 ≤ Int32.toNatClampNeg v1) then
                                  if S.1 v0 = 10 then (S.2.2 v0 2).bind fun b72 =>
                                    xi_bI (if S.1 b72 = 8 then E_X6_reached S b72 v1 m10 else none) fun x74 m73 =>
                                    xi_bI (if S.1 b65 = 8 then E_X6_ballsOf S b65 ((Int32.ofInt 1) - (m10.1 b69 (Int32.toNatClampNeg v1))) x74 m73 else none) fun x76 m75 =>
                                    some (some (.int x76), m75)
                                  else none
                                else none
                              else none
                            else none
                          else none
              else none
            else none
          else none
        else
          some (some (.int (Int32.ofInt (-1))), m3)
  else none
def F_X8_mark (S : xi_S) : xi_F := fun As m => match As with
  | [.ref v0, .int v1, .int v2] => E_X8_mark S v0 v1 v2 m
  | _ => none
set_option maxRecDepth 100000 in
set_option maxHeartbeats 4000000 in
theorem xe_X8_mark {S : xi_S} {res : xi_R} (v0 : Nat) (v1 : Int32) (v2 : Int32) (m : xi_M) (h : E_X8_mark S v0 v1 v2 m = some res) : xi_X S (P_X8_mark S) (0, [some (.ref v0), some (.int v1), some (.int v2)], [], m) res := by
  unfold E_X8_mark at h
  refine xr_aload_n i_X8_mark_0 rfl (q := 1) rfl ?_
  obtain ⟨c1, h⟩ := xi_if_some h
  obtain ⟨b2, eb2, h⟩ := xi_bind_some h
  refine xr_getR i_X8_mark_1 xfe_X8_21 c1 eb2 (q := 4) rfl ?_
  refine xr_iload_n i_X8_mark_4 rfl (q := 5) rfl ?_
  obtain ⟨x4, m3, em3, h⟩ := xi_bI_some h
  refine xr_VI i_X8_mark_5 xcve_X8_132 rfl (As := [.ref b2, .int v1]) rfl (rest := []) rfl ((cc_X8_mark_132 S _ _ _).trans em3) (q := 8) rfl ?_
  by_cases c82 : x4 = 0
  · replace h := (if_pos c82).symm.trans h
    refine xr_ifCond_eq_p i_X8_mark_8 c82 (q := 21) t_X8_mark_8 (q2 := 11) rfl ?_
    refine xr_iconst i_X8_mark_21 (q := 22) rfl ?_
    exact xr_ireturn i_X8_mark_22 rfl h
  · replace h := (if_neg c82).symm.trans h
    refine xr_ifCond_eq_n i_X8_mark_8 c82 (q := 21) t_X8_mark_8 (q2 := 11) rfl ?_
    refine xr_iload_n i_X8_mark_11 rfl (q := 12) rfl ?_
    refine xr_iconst i_X8_mark_12 (q := 13) rfl ?_
    by_cases c81 : v2 < (Int32.ofInt 1)
    · replace h := (if_pos c81).symm.trans h
      refine xr_if_icmp_lt_p i_X8_mark_13 c81 (q := 21) t_X8_mark_13 (q2 := 16) rfl ?_
      refine xr_iconst i_X8_mark_21 (q := 22) rfl ?_
      exact xr_ireturn i_X8_mark_22 rfl h
    · replace h := (if_neg c81).symm.trans h
      refine xr_if_icmp_lt_n i_X8_mark_13 c81 (q := 21) t_X8_mark_13 (q2 := 16) rfl ?_
      refine xr_iload_n i_X8_mark_16 rfl (q := 17) rfl ?_
      refine xr_iconst i_X8_mark_17 (q := 18) rfl ?_
      by_cases c80 : v2 ≤ (Int32.ofInt 5)
      · replace h := (if_pos c80).symm.trans h
        refine xr_if_icmp_le_p i_X8_mark_18 c80 (q := 23) t_X8_mark_18 (q2 := 21) rfl ?_
        refine xr_aload_n i_X8_mark_23 rfl (q := 24) rfl ?_
        obtain ⟨c5, h⟩ := xi_if_some h
        obtain ⟨b6, eb6, h⟩ := xi_bind_some h
        refine xr_getR i_X8_mark_24 xfe_X8_21 c5 eb6 (q := 27) rfl ?_
        obtain ⟨c7, h⟩ := xi_if_some h
        obtain ⟨b8, eb8, h⟩ := xi_bind_some h
        refine xr_getR i_X8_mark_27 xfe_X8_142 c7 eb8 (q := 30) rfl ?_
        refine xr_iload_n i_X8_mark_30 rfl (q := 31) rfl ?_
        obtain ⟨c9, h⟩ := xi_if_some h
        refine xr_iaload i_X8_mark_31 c9 (q := 32) rfl ?_
        refine xr_iload_n i_X8_mark_32 rfl (q := 33) rfl ?_
        obtain ⟨x11, m10, em10, h⟩ := xi_bI_some h
        refine xr_SI i_X8_mark_33 xcse_X8_145 rfl (As := [.int (m3.1 b8 (Int32.toNatClampNeg v1)), .int v2]) rfl (rest := []) rfl ((cc_X8_mark_145 S _ _ _).trans em10) (q := 36) rfl ?_
        by_cases c79 : x11 = 0
        · replace h := (if_pos c79).symm.trans h
          refine xr_ifCond_ne_p i_X8_mark_36 c79 (q := 45) t_X8_mark_36 (q2 := 39) rfl ?_
          refine xr_aload_n i_X8_mark_39 rfl (q := 40) rfl ?_
          refine xr_iconst i_X8_mark_40 (q := 41) rfl ?_
          obtain ⟨x78, m77, em77, h⟩ := xi_bI_some h
          refine xr_VI i_X8_mark_41 xcve_X8_83 rfl (As := [.ref v0, .int (Int32.ofInt 3)]) rfl (rest := []) rfl ((cc_X8_mark_83 S _ _ _).trans em77) (q := 44) rfl ?_
          exact xr_ireturn i_X8_mark_44 rfl h
        · replace h := (if_neg c79).symm.trans h
          refine xr_ifCond_ne_n i_X8_mark_36 c79 (q := 45) t_X8_mark_36 (q2 := 39) rfl ?_
          refine xr_iload_n i_X8_mark_45 rfl (q := 46) rfl ?_
          by_cases c12 : Int32.toInt v2 = 1
          · replace h := (if_pos c12).symm.trans h
            refine xr_table i_X8_mark_46 rfl (off := 30) (fun kk => xi_sw_hit c12) (q := 76) rfl ?_
            refine xr_aload_n i_X8_mark_76 rfl (q := 77) rfl ?_
            obtain ⟨c13, h⟩ := xi_if_some h
            obtain ⟨b14, eb14, h⟩ := xi_bind_some h
            refine xr_getR i_X8_mark_77 xfe_X8_21 c13 eb14 (q := 80) rfl ?_
            refine xr_iload_n i_X8_mark_80 rfl (q := 81) rfl ?_
            obtain ⟨x16, m15, em15, h⟩ := xi_bI_some h
            refine xr_VI i_X8_mark_81 xcve_X8_148 rfl (As := [.ref b14, .int v1]) rfl (rest := []) rfl ((cc_X8_mark_148 S _ _ _).trans em15) (q := 84) rfl ?_
            refine xr_aload_n i_X8_mark_84 rfl (q := 85) rfl ?_
            obtain ⟨c17, h⟩ := xi_if_some h
            obtain ⟨b18, eb18, h⟩ := xi_bind_some h
            refine xr_getR i_X8_mark_85 xfe_X8_21 c17 eb18 (q := 88) rfl ?_
            obtain ⟨c19, h⟩ := xi_if_some h
            obtain ⟨b20, eb20, h⟩ := xi_bind_some h
            refine xr_getR i_X8_mark_88 xfe_X8_151 c19 eb20 (q := 91) rfl ?_
            refine xr_iload_n i_X8_mark_91 rfl (q := 92) rfl ?_
            obtain ⟨c21, h⟩ := xi_if_some h
            refine xr_iaload i_X8_mark_92 c21 (q := 93) rfl ?_
            refine xr_isub i_X8_mark_93 (q := 94) rfl ?_
            obtain ⟨x23, m22, em22, h⟩ := xi_bI_some h
            refine xr_SI i_X8_mark_94 xcse_X8_154 rfl (As := [.int (x16 - (m15.1 b20 (Int32.toNatClampNeg v1)))]) rfl (rest := []) rfl ((cc_X8_mark_154 S _ _).trans em22) (q := 97) rfl ?_
            exact xr_ireturn i_X8_mark_97 rfl h
          · replace h := (if_neg c12).symm.trans h
            by_cases c24 : Int32.toInt v2 = 2
            · replace h := (if_pos c24).symm.trans h
              refine xr_table i_X8_mark_46 rfl (off := 52) (fun kk => (xi_sw_miss c12).trans (xi_sw_hit c24)) (q := 98) rfl ?_
              refine xr_aload_n i_X8_mark_98 rfl (q := 99) rfl ?_
              obtain ⟨c25, h⟩ := xi_if_some h
              obtain ⟨b26, eb26, h⟩ := xi_bind_some h
              refine xr_getR i_X8_mark_99 xfe_X8_21 c25 eb26 (q := 102) rfl ?_
              refine xr_iload_n i_X8_mark_102 rfl (q := 103) rfl ?_
              obtain ⟨x28, m27, em27, h⟩ := xi_bI_some h
              refine xr_VI i_X8_mark_103 xcve_X8_159 rfl (As := [.ref b26, .int v1]) rfl (rest := []) rfl ((cc_X8_mark_159 S _ _ _).trans em27) (q := 106) rfl ?_
              obtain ⟨x30, m29, em29, h⟩ := xi_bI_some h
              refine xr_SI i_X8_mark_106 xcse_X8_162 rfl (As := [.int x28]) rfl (rest := []) rfl ((cc_X8_mark_162 S _ _).trans em29) (q := 109) rfl ?_
              exact xr_ireturn i_X8_mark_109 rfl h
            · replace h := (if_neg c24).symm.trans h
              by_cases c31 : Int32.toInt v2 = 3
              · replace h := (if_pos c31).symm.trans h
                refine xr_table i_X8_mark_46 rfl (off := 64) (fun kk => (xi_sw_miss c12).trans ((xi_sw_miss c24).trans (xi_sw_hit c31))) (q := 110) rfl ?_
                refine xr_aload_n i_X8_mark_110 rfl (q := 111) rfl ?_
                obtain ⟨c32, h⟩ := xi_if_some h
                obtain ⟨b33, eb33, h⟩ := xi_bind_some h
                refine xr_getR i_X8_mark_111 xfe_X8_21 c32 eb33 (q := 114) rfl ?_
                refine xr_aload_n i_X8_mark_114 rfl (q := 115) rfl ?_
                obtain ⟨c34, h⟩ := xi_if_some h
                obtain ⟨b35, eb35, h⟩ := xi_bind_some h
                refine xr_getR i_X8_mark_115 xfe_X8_21 c34 eb35 (q := 118) rfl ?_
                obtain ⟨c36, h⟩ := xi_if_some h
                obtain ⟨b37, eb37, h⟩ := xi_bind_some h
                refine xr_getR i_X8_mark_118 xfe_X8_167 c36 eb37 (q := 121) rfl ?_
                refine xr_iload_n i_X8_mark_121 rfl (q := 122) rfl ?_
                obtain ⟨c38, h⟩ := xi_if_some h
                refine xr_iaload i_X8_mark_122 c38 (q := 123) rfl ?_
                refine xr_aload_n i_X8_mark_123 rfl (q := 124) rfl ?_
                obtain ⟨c39, h⟩ := xi_if_some h
                obtain ⟨b40, eb40, h⟩ := xi_bind_some h
                refine xr_getR i_X8_mark_124 xfe_X8_21 c39 eb40 (q := 127) rfl ?_
                refine xr_iload_n i_X8_mark_127 rfl (q := 128) rfl ?_
                refine xr_iconst i_X8_mark_128 (q := 129) rfl ?_
                obtain ⟨x42, m41, em41, h⟩ := xi_bI_some h
                refine xr_VI i_X8_mark_129 xcve_X8_170 rfl (As := [.ref b40, .int v1, .int (Int32.ofInt 0)]) rfl (rest := [.int (m10.1 b37 (Int32.toNatClampNeg v1)), .ref b33]) rfl ((cc_X8_mark_170 S _ _ _ _).trans em41) (q := 132) rfl ?_
                obtain ⟨x44, m43, em43, h⟩ := xi_bI_some h
                refine xr_VI i_X8_mark_132 xcve_X8_173 rfl (As := [.ref b33, .int (m10.1 b37 (Int32.toNatClampNeg v1)), .int x42]) rfl (rest := []) rfl ((cc_X8_mark_173 S _ _ _ _).trans em43) (q := 135) rfl ?_
                exact xr_ireturn i_X8_mark_135 rfl h
              · replace h := (if_neg c31).symm.trans h
                by_cases c45 : Int32.toInt v2 = 4
                · replace h := (if_pos c45).symm.trans h
                  refine xr_table i_X8_mark_46 rfl (off := 90) (fun kk => (xi_sw_miss c12).trans ((xi_sw_miss c24).trans ((xi_sw_miss c31).trans (xi_sw_hit c45)))) (q := 136) rfl ?_
                  refine xr_aload_n i_X8_mark_136 rfl (q := 137) rfl ?_
                  obtain ⟨c46, h⟩ := xi_if_some h
                  obtain ⟨b47, eb47, h⟩ := xi_bind_some h
                  refine xr_getR i_X8_mark_137 xfe_X8_21 c46 eb47 (q := 140) rfl ?_
                  refine xr_iload_n i_X8_mark_140 rfl (q := 141) rfl ?_
                  refine xr_aload_n i_X8_mark_141 rfl (q := 142) rfl ?_
                  obtain ⟨c48, h⟩ := xi_if_some h
                  obtain ⟨b49, eb49, h⟩ := xi_bind_some h
                  refine xr_getR i_X8_mark_142 xfe_X8_21 c48 eb49 (q := 145) rfl ?_
                  obtain ⟨c50, h⟩ := xi_if_some h
                  obtain ⟨b51, eb51, h⟩ := xi_bind_some h
                  refine xr_getR i_X8_mark_145 xfe_X8_151 c50 eb51 (q := 148) rfl ?_
                  refine xr_iload_n i_X8_mark_148 rfl (q := 149) rfl ?_
                  obtain ⟨c52, h⟩ := xi_if_some h
                  refine xr_iaload i_X8_mark_149 c52 (q := 150) rfl ?_
                  refine xr_iconst i_X8_mark_150 (q := 151) rfl ?_
                  refine xr_aload_n i_X8_mark_151 rfl (q := 152) rfl ?_
                  obtain ⟨c53, h⟩ := xi_if_some h
                  obtain ⟨b54, eb54, h⟩ := xi_bind_some h
                  refine xr_getR i_X8_mark_152 xfe_X8_21 c53 eb54 (q := 155) rfl ?_
                  obtain ⟨c55, h⟩ := xi_if_some h
                  refine xr_getI i_X8_mark_155 xfe_X8_176 c55 (q := 158) rfl ?_
                  refine xr_isub i_X8_mark_158 (q := 159) rfl ?_
                  obtain ⟨x57, m56, em56, h⟩ := xi_bI_some h
                  refine xr_VI i_X8_mark_159 xcve_X8_179 rfl (As := [.ref b47, .int v1, .int (m10.1 b51 (Int32.toNatClampNeg v1)), .int ((Int32.ofInt 1) - (m10.1 b54 3))]) rfl (rest := []) rfl ((cc_X8_mark_179 S _ _ _ _ _).trans em56) (q := 162) rfl ?_
                  refine xr_aload_n i_X8_mark_162 rfl (q := 163) rfl ?_
                  obtain ⟨c58, h⟩ := xi_if_some h
                  obtain ⟨b59, eb59, h⟩ := xi_bind_some h
                  refine xr_getR i_X8_mark_163 xfe_X8_21 c58 eb59 (q := 166) rfl ?_
                  refine xr_iload_n i_X8_mark_166 rfl (q := 167) rfl ?_
                  obtain ⟨x61, m60, em60, h⟩ := xi_bI_some h
                  refine xr_VI i_X8_mark_167 xcve_X8_148 rfl (As := [.ref b59, .int v1]) rfl (rest := [.int x57]) rfl ((cc_X8_mark_148 S _ _ _).trans em60) (q := 170) rfl ?_
                  refine xr_isub i_X8_mark_170 (q := 171) rfl ?_
                  obtain ⟨x63, m62, em62, h⟩ := xi_bI_some h
                  refine xr_SI i_X8_mark_171 xcse_X8_154 rfl (As := [.int (x57 - x61)]) rfl (rest := []) rfl ((cc_X8_mark_154 S _ _).trans em62) (q := 174) rfl ?_
                  exact xr_ireturn i_X8_mark_174 rfl h
                · replace h := (if_neg c45).symm.trans h
                  refine xr_table i_X8_mark_46 rfl (off := 129) (fun kk => (xi_sw_miss c12).trans ((xi_sw_miss c24).trans ((xi_sw_miss c31).trans ((xi_sw_miss c45).trans (rfl))))) (q := 175) rfl ?_
                  refine xr_aload_n i_X8_mark_175 rfl (q := 176) rfl ?_
                  obtain ⟨c64, h⟩ := xi_if_some h
                  obtain ⟨b65, eb65, h⟩ := xi_bind_some h
                  refine xr_getR i_X8_mark_176 xfe_X8_21 c64 eb65 (q := 179) rfl ?_
                  refine xr_iconst i_X8_mark_179 (q := 180) rfl ?_
                  refine xr_aload_n i_X8_mark_180 rfl (q := 181) rfl ?_
                  obtain ⟨c66, h⟩ := xi_if_some h
                  obtain ⟨b67, eb67, h⟩ := xi_bind_some h
                  refine xr_getR i_X8_mark_181 xfe_X8_21 c66 eb67 (q := 184) rfl ?_
                  obtain ⟨c68, h⟩ := xi_if_some h
                  obtain ⟨b69, eb69, h⟩ := xi_bind_some h
                  refine xr_getR i_X8_mark_184 xfe_X8_167 c68 eb69 (q := 187) rfl ?_
                  refine xr_iload_n i_X8_mark_187 rfl (q := 188) rfl ?_
                  obtain ⟨c70, h⟩ := xi_if_some h
                  refine xr_iaload i_X8_mark_188 c70 (q := 189) rfl ?_
                  refine xr_isub i_X8_mark_189 (q := 190) rfl ?_
                  refine xr_aload_n i_X8_mark_190 rfl (q := 191) rfl ?_
                  obtain ⟨c71, h⟩ := xi_if_some h
                  obtain ⟨b72, eb72, h⟩ := xi_bind_some h
                  refine xr_getR i_X8_mark_191 xfe_X8_21 c71 eb72 (q := 194) rfl ?_
                  refine xr_iload_n i_X8_mark_194 rfl (q := 195) rfl ?_
                  obtain ⟨x74, m73, em73, h⟩ := xi_bI_some h
                  refine xr_VI i_X8_mark_195 xcve_X8_159 rfl (As := [.ref b72, .int v1]) rfl (rest := [.int ((Int32.ofInt 1) - (m10.1 b69 (Int32.toNatClampNeg v1))), .ref b65]) rfl ((cc_X8_mark_159 S _ _ _).trans em73) (q := 198) rfl ?_
                  obtain ⟨x76, m75, em75, h⟩ := xi_bI_some h
                  refine xr_VI i_X8_mark_198 xcve_X8_173 rfl (As := [.ref b65, .int ((Int32.ofInt 1) - (m10.1 b69 (Int32.toNatClampNeg v1))), .int x74]) rfl (rest := []) rfl ((cc_X8_mark_173 S _ _ _ _).trans em75) (q := 201) rfl ?_
                  exact xr_ireturn i_X8_mark_201 rfl h
      · replace h := (if_neg c80).symm.trans h
        refine xr_if_icmp_le_n i_X8_mark_18 c80 (q := 23) t_X8_mark_18 (q2 := 21) rfl ?_
        refine xr_iconst i_X8_mark_21 (q := 22) rfl ?_
        exact xr_ireturn i_X8_mark_22 rfl h
set_option maxRecDepth 100000 in
theorem po_X8_mark {l : Launch} {E : xi_E} {S : xi_S} {D : va_G} {tys : List (ClassId × FieldType)} (hC : xCx E S tys) : xi_Pok l E S D vwCl tys xNs RX8 xTs cX8_mark 3 5 (P_X8_mark S) := ⟨xi_dc_ok, by rw [hC.2]; exact xfo_X8, xkio_X8, xklo_X8, xi_calls_ok (ins := .invokestatic) (List.forall_mem_cons.mpr ⟨(xc_X8_145 (sn_X4_isOf hC) (by decide)), List.forall_mem_cons.mpr ⟨(xm_X8_154 (by decide)), List.forall_mem_cons.mpr ⟨(xc_X8_162 (sn_J6_bitCount_0f7a4 hC) (by decide)), fun _ h => absurd h List.not_mem_nil⟩⟩⟩), xi_calls_ok (ins := .invokevirtual) (List.forall_mem_cons.mpr ⟨(xc_X8_83 hC.1 (sn_X8_refuse hC) (by decide)), List.forall_mem_cons.mpr ⟨(xc_X8_132 hC.1 (sn_X6_hasPlayer hC) (by decide)), List.forall_mem_cons.mpr ⟨(xc_X8_148 hC.1 (sn_X6_landing hC) (by decide)), List.forall_mem_cons.mpr ⟨(xc_X8_159 hC.1 (sn_X6_reached hC) (by decide)), List.forall_mem_cons.mpr ⟨(xc_X8_170 hC.1 (sn_X6_ballBit hC) (by decide)), List.forall_mem_cons.mpr ⟨(xc_X8_173 hC.1 (sn_X6_ballsOf hC) (by decide)), List.forall_mem_cons.mpr ⟨(xc_X8_179 hC.1 (sn_X6_landingFrom hC) (by decide)), fun _ h => absurd h List.not_mem_nil⟩⟩⟩⟩⟩⟩⟩)⟩
theorem sn_X8_mark {l : Launch} {E : xi_E} {S : xi_S} {D : va_G} {tys : List (ClassId × FieldType)} (hC : xCx E S tys) : ∀ As m1 r m2, F_X8_mark S As m1 = some (r, m2) → xi_Sound l E S D vwCl tys xNs xTs yX8_mark cX8_mark 3 (some .int) 5 As m1 r m2 := by
  intro As m1 r m2 h
  unfold F_X8_mark at h
  split at h
  · exact xi_meth (P := P_X8_mark S) (by decide) hC.1 (po_X8_mark hC) (Nat.le_of_ble_eq_true rfl) rfl (xe_X8_mark _ _ _ _ h)
  · exact xi_no h
theorem i_X8_term_0 : xi_dc cX8_term 0 = some (.aload_n 0, 1) := by decide +kernel
theorem i_X8_term_1 : xi_dc cX8_term 1 = some (.getfield 21, 3) := by decide +kernel
theorem i_X8_term_4 : xi_dc cX8_term 4 = some (.getfield 129, 3) := by decide +kernel
theorem i_X8_term_7 : xi_dc cX8_term 7 = some (.ifCond .ne 6, 3) := by decide +kernel
theorem t_X8_term_7 : ((7 : Nat) : Int) + 6 = ((13 : Nat) : Int) := by decide +kernel
theorem i_X8_term_10 : xi_dc cX8_term 10 = some (.bipush (-4), 2) := by decide +kernel
theorem i_X8_term_12 : xi_dc cX8_term 12 = some (.ireturn, 1) := by decide +kernel
theorem i_X8_term_13 : xi_dc cX8_term 13 = some (.aload_n 0, 1) := by decide +kernel
theorem i_X8_term_14 : xi_dc cX8_term 14 = some (.getfield 21, 3) := by decide +kernel
theorem i_X8_term_17 : xi_dc cX8_term 17 = some (.getfield 183, 3) := by decide +kernel
theorem i_X8_term_20 : xi_dc cX8_term 20 = some (.bipush 40, 2) := by decide +kernel
theorem i_X8_term_22 : xi_dc cX8_term 22 = some (.if_icmp .lt 6, 3) := by decide +kernel
theorem t_X8_term_22 : ((22 : Nat) : Int) + 6 = ((28 : Nat) : Int) := by decide +kernel
theorem i_X8_term_25 : xi_dc cX8_term 25 = some (.bipush (-2), 2) := by decide +kernel
theorem i_X8_term_27 : xi_dc cX8_term 27 = some (.ireturn, 1) := by decide +kernel
theorem i_X8_term_28 : xi_dc cX8_term 28 = some (.aload_n 0, 1) := by decide +kernel
theorem i_X8_term_29 : xi_dc cX8_term 29 = some (.getfield 21, 3) := by decide +kernel
theorem i_X8_term_32 : xi_dc cX8_term 32 = some (.iconst 0, 1) := by decide +kernel
theorem i_X8_term_33 : xi_dc cX8_term 33 = some (.invokevirtual 186, 3) := by decide +kernel
theorem i_X8_term_36 : xi_dc cX8_term 36 = some (.istore_n 1, 1) := by decide +kernel
theorem i_X8_term_37 : xi_dc cX8_term 37 = some (.aload_n 0, 1) := by decide +kernel
theorem i_X8_term_38 : xi_dc cX8_term 38 = some (.getfield 21, 3) := by decide +kernel
theorem i_X8_term_41 : xi_dc cX8_term 41 = some (.iload_n 1, 1) := by decide +kernel
theorem i_X8_term_42 : xi_dc cX8_term 42 = some (.invokevirtual 189, 3) := by decide +kernel
theorem i_X8_term_45 : xi_dc cX8_term 45 = some (.iload_n 1, 1) := by decide +kernel
theorem i_X8_term_46 : xi_dc cX8_term 46 = some (.ireturn, 1) := by decide +kernel
def P_X8_term (S : xi_S) : xi_P := (xi_dc cX8_term, xi_tab xfl_X8, xi_tab xki_X8, xi_tab xkl_X8, xi_tab xcs_X8, xi_tab xcv_X8, xi_calls [], xi_calls [(186, xi_wV S 8 1 (F_X6_scorers S)), (189, xi_wV S 8 1 (F_X6_endTerm S))], 1)
theorem cc_X8_term_186 (S : xi_S) (a0 : Nat) (a1 : Int32) (m : xi_M) : (P_X8_term S).2.2.2.2.2.2.2.1 186 [.ref a0, .int a1] m = (if S.1 a0 = 8 then E_X6_scorers S a0 a1 m else none) := by
  show xi_calls [(186, xi_wV S 8 1 (F_X6_scorers S)), (189, xi_wV S 8 1 (F_X6_endTerm S))] 186 [.ref a0, .int a1] m = _
  refine Eq.trans (b := xi_wV S 8 1 (F_X6_scorers S) [.ref a0, .int a1] m) (xi_calls_hit rfl) ?_
  exact xi_wV_eq rfl
theorem cc_X8_term_189 (S : xi_S) (a0 : Nat) (a1 : Int32) (m : xi_M) : (P_X8_term S).2.2.2.2.2.2.2.1 189 [.ref a0, .int a1] m = (if S.1 a0 = 8 then E_X6_endTerm S a0 a1 m else none) := by
  show xi_calls [(186, xi_wV S 8 1 (F_X6_scorers S)), (189, xi_wV S 8 1 (F_X6_endTerm S))] 189 [.ref a0, .int a1] m = _
  refine Eq.trans (b := xi_calls [(189, xi_wV S 8 1 (F_X6_endTerm S))] 189 [.ref a0, .int a1] m) (xi_calls_miss rfl) ?_
  refine Eq.trans (b := xi_wV S 8 1 (F_X6_endTerm S) [.ref a0, .int a1] m) (xi_calls_hit rfl) ?_
  exact xi_wV_eq rfl
def E_X8_term (S : xi_S) (v0 : Nat) (m : xi_M) : Option xi_R :=
  if S.1 v0 = 10 then (S.2.2 v0 2).bind fun b2 =>
    if S.1 b2 = 8 then
      if (m.1 b2 1) = 0 then
        some (some (.int ((Int8.ofInt (-4)).toInt32)), m)
      else
        if S.1 v0 = 10 then (S.2.2 v0 2).bind fun b5 =>
          if S.1 b5 = 8 then
            if (m.1 b5 4) < ((Int8.ofInt 40).toInt32) then
              if S.1 v0 = 10 then (S.2.2 v0 2).bind fun b8 =>
                xi_bI (if S.1 b8 = 8 then E_X6_scorers S b8 (Int32.ofInt 0) m else none) fun x10 m9 =>
                if S.1 v0 = 10 then (S.2.2 v0 2).bind fun b12 =>
                  xi_bV (if S.1 b12 = 8 then E_X6_endTerm S b12 x10 m9 else none) fun m13 =>
                  some (some (.int x10), m13)
                else none
              else none
            else
              some (some (.int ((Int8.ofInt (-2)).toInt32)), m)
          else none
        else none
    else none
  else none
def F_X8_term (S : xi_S) : xi_F := fun As m => match As with
  | [.ref v0] => E_X8_term S v0 m
  | _ => none
set_option maxRecDepth 100000 in
set_option maxHeartbeats 4000000 in
theorem xe_X8_term {S : xi_S} {res : xi_R} (v0 : Nat) (m : xi_M) (h : E_X8_term S v0 m = some res) : xi_X S (P_X8_term S) (0, [some (.ref v0), none], [], m) res := by
  unfold E_X8_term at h
  refine xr_aload_n i_X8_term_0 rfl (q := 1) rfl ?_
  obtain ⟨c1, h⟩ := xi_if_some h
  obtain ⟨b2, eb2, h⟩ := xi_bind_some h
  refine xr_getR i_X8_term_1 xfe_X8_21 c1 eb2 (q := 4) rfl ?_
  obtain ⟨c3, h⟩ := xi_if_some h
  refine xr_getI i_X8_term_4 xfe_X8_129 c3 (q := 7) rfl ?_
  by_cases c15 : (m.1 b2 1) = 0
  · replace h := (if_pos c15).symm.trans h
    refine xr_ifCond_ne_p i_X8_term_7 c15 (q := 13) t_X8_term_7 (q2 := 10) rfl ?_
    refine xr_bipush i_X8_term_10 (q := 12) rfl ?_
    exact xr_ireturn i_X8_term_12 rfl h
  · replace h := (if_neg c15).symm.trans h
    refine xr_ifCond_ne_n i_X8_term_7 c15 (q := 13) t_X8_term_7 (q2 := 10) rfl ?_
    refine xr_aload_n i_X8_term_13 rfl (q := 14) rfl ?_
    obtain ⟨c4, h⟩ := xi_if_some h
    obtain ⟨b5, eb5, h⟩ := xi_bind_some h
    refine xr_getR i_X8_term_14 xfe_X8_21 c4 eb5 (q := 17) rfl ?_
    obtain ⟨c6, h⟩ := xi_if_some h
    refine xr_getI i_X8_term_17 xfe_X8_183 c6 (q := 20) rfl ?_
    refine xr_bipush i_X8_term_20 (q := 22) rfl ?_
    by_cases c14 : (m.1 b5 4) < ((Int8.ofInt 40).toInt32)
    · replace h := (if_pos c14).symm.trans h
      refine xr_if_icmp_lt_p i_X8_term_22 c14 (q := 28) t_X8_term_22 (q2 := 25) rfl ?_
      refine xr_aload_n i_X8_term_28 rfl (q := 29) rfl ?_
      obtain ⟨c7, h⟩ := xi_if_some h
      obtain ⟨b8, eb8, h⟩ := xi_bind_some h
      refine xr_getR i_X8_term_29 xfe_X8_21 c7 eb8 (q := 32) rfl ?_
      refine xr_iconst i_X8_term_32 (q := 33) rfl ?_
      obtain ⟨x10, m9, em9, h⟩ := xi_bI_some h
      refine xr_VI i_X8_term_33 xcve_X8_186 rfl (As := [.ref b8, .int (Int32.ofInt 0)]) rfl (rest := []) rfl ((cc_X8_term_186 S _ _ _).trans em9) (q := 36) rfl ?_
      refine xr_istore_n i_X8_term_36 rfl (L2 := [some (.ref v0), some (.int x10)]) rfl (q := 37) rfl ?_
      refine xr_aload_n i_X8_term_37 rfl (q := 38) rfl ?_
      obtain ⟨c11, h⟩ := xi_if_some h
      obtain ⟨b12, eb12, h⟩ := xi_bind_some h
      refine xr_getR i_X8_term_38 xfe_X8_21 c11 eb12 (q := 41) rfl ?_
      refine xr_iload_n i_X8_term_41 rfl (q := 42) rfl ?_
      obtain ⟨m13, em13, h⟩ := xi_bV_some h
      refine xr_VV i_X8_term_42 xcve_X8_189 rfl (As := [.ref b12, .int x10]) rfl (rest := []) rfl ((cc_X8_term_189 S _ _ _).trans em13) (q := 45) rfl ?_
      refine xr_iload_n i_X8_term_45 rfl (q := 46) rfl ?_
      exact xr_ireturn i_X8_term_46 rfl h
    · replace h := (if_neg c14).symm.trans h
      refine xr_if_icmp_lt_n i_X8_term_22 c14 (q := 28) t_X8_term_22 (q2 := 25) rfl ?_
      refine xr_bipush i_X8_term_25 (q := 27) rfl ?_
      exact xr_ireturn i_X8_term_27 rfl h
set_option maxRecDepth 100000 in
theorem po_X8_term {l : Launch} {E : xi_E} {S : xi_S} {D : va_G} {tys : List (ClassId × FieldType)} (hC : xCx E S tys) : xi_Pok l E S D vwCl tys xNs RX8 xTs cX8_term 2 5 (P_X8_term S) := ⟨xi_dc_ok, by rw [hC.2]; exact xfo_X8, xkio_X8, xklo_X8, xi_calls_ok (ins := .invokestatic) (fun _ h => absurd h List.not_mem_nil), xi_calls_ok (ins := .invokevirtual) (List.forall_mem_cons.mpr ⟨(xc_X8_186 hC.1 (sn_X6_scorers hC) (by decide)), List.forall_mem_cons.mpr ⟨(xc_X8_189 hC.1 (sn_X6_endTerm hC) (by decide)), fun _ h => absurd h List.not_mem_nil⟩⟩)⟩
theorem sn_X8_term {l : Launch} {E : xi_E} {S : xi_S} {D : va_G} {tys : List (ClassId × FieldType)} (hC : xCx E S tys) : ∀ As m1 r m2, F_X8_term S As m1 = some (r, m2) → xi_Sound l E S D vwCl tys xNs xTs yX8_term cX8_term 2 (some .int) 5 As m1 r m2 := by
  intro As m1 r m2 h
  unfold F_X8_term at h
  split at h
  · exact xi_meth (P := P_X8_term S) (by decide) hC.1 (po_X8_term hC) (Nat.le_of_ble_eq_true rfl) rfl (xe_X8_term _ _ h)
  · exact xi_no h
theorem i_X8_nudge_0 : xi_dc cX8_nudge 0 = some (.iload_n 1, 1) := by decide +kernel
theorem i_X8_nudge_1 : xi_dc cX8_nudge 1 = some (.iconst 3, 1) := by decide +kernel
theorem i_X8_nudge_2 : xi_dc cX8_nudge 2 = some (.invokestatic 71, 3) := by decide +kernel
theorem i_X8_nudge_5 : xi_dc cX8_nudge 5 = some (.ifCond .eq 18, 3) := by decide +kernel
theorem t_X8_nudge_5 : ((5 : Nat) : Int) + 18 = ((23 : Nat) : Int) := by decide +kernel
theorem i_X8_nudge_8 : xi_dc cX8_nudge 8 = some (.iload_n 2, 1) := by decide +kernel
theorem i_X8_nudge_9 : xi_dc cX8_nudge 9 = some (.bipush (-3), 2) := by decide +kernel
theorem i_X8_nudge_11 : xi_dc cX8_nudge 11 = some (.if_icmp .lt 12, 3) := by decide +kernel
theorem t_X8_nudge_11 : ((11 : Nat) : Int) + 12 = ((23 : Nat) : Int) := by decide +kernel
theorem i_X8_nudge_14 : xi_dc cX8_nudge 14 = some (.iload_n 2, 1) := by decide +kernel
theorem i_X8_nudge_15 : xi_dc cX8_nudge 15 = some (.iconst 3, 1) := by decide +kernel
theorem i_X8_nudge_16 : xi_dc cX8_nudge 16 = some (.if_icmp .gt 7, 3) := by decide +kernel
theorem t_X8_nudge_16 : ((16 : Nat) : Int) + 7 = ((23 : Nat) : Int) := by decide +kernel
theorem i_X8_nudge_19 : xi_dc cX8_nudge 19 = some (.iload_n 2, 1) := by decide +kernel
theorem i_X8_nudge_20 : xi_dc cX8_nudge 20 = some (.ifCond .ne 5, 3) := by decide +kernel
theorem t_X8_nudge_20 : ((20 : Nat) : Int) + 5 = ((25 : Nat) : Int) := by decide +kernel
theorem i_X8_nudge_23 : xi_dc cX8_nudge 23 = some (.iconst (-1), 1) := by decide +kernel
theorem i_X8_nudge_24 : xi_dc cX8_nudge 24 = some (.ireturn, 1) := by decide +kernel
theorem i_X8_nudge_25 : xi_dc cX8_nudge 25 = some (.aload_n 0, 1) := by decide +kernel
theorem i_X8_nudge_26 : xi_dc cX8_nudge 26 = some (.getfield 21, 3) := by decide +kernel
theorem i_X8_nudge_29 : xi_dc cX8_nudge 29 = some (.getfield 129, 3) := by decide +kernel
theorem i_X8_nudge_32 : xi_dc cX8_nudge 32 = some (.ifCond .eq 18, 3) := by decide +kernel
theorem t_X8_nudge_32 : ((32 : Nat) : Int) + 18 = ((50 : Nat) : Int) := by decide +kernel
theorem i_X8_nudge_35 : xi_dc cX8_nudge 35 = some (.aload_n 0, 1) := by decide +kernel
theorem i_X8_nudge_36 : xi_dc cX8_nudge 36 = some (.getfield 21, 3) := by decide +kernel
theorem i_X8_nudge_39 : xi_dc cX8_nudge 39 = some (.getfield 192, 3) := by decide +kernel
theorem i_X8_nudge_42 : xi_dc cX8_nudge 42 = some (.iload_n 1, 1) := by decide +kernel
theorem i_X8_nudge_43 : xi_dc cX8_nudge 43 = some (.iload_n 2, 1) := by decide +kernel
theorem i_X8_nudge_44 : xi_dc cX8_nudge 44 = some (.invokestatic 195, 3) := by decide +kernel
theorem i_X8_nudge_47 : xi_dc cX8_nudge 47 = some (.ifCond .ne 6, 3) := by decide +kernel
theorem t_X8_nudge_47 : ((47 : Nat) : Int) + 6 = ((53 : Nat) : Int) := by decide +kernel
theorem i_X8_nudge_50 : xi_dc cX8_nudge 50 = some (.bipush (-4), 2) := by decide +kernel
theorem i_X8_nudge_52 : xi_dc cX8_nudge 52 = some (.ireturn, 1) := by decide +kernel
theorem i_X8_nudge_53 : xi_dc cX8_nudge 53 = some (.aload_n 0, 1) := by decide +kernel
theorem i_X8_nudge_54 : xi_dc cX8_nudge 54 = some (.getfield 21, 3) := by decide +kernel
theorem i_X8_nudge_57 : xi_dc cX8_nudge 57 = some (.getfield 183, 3) := by decide +kernel
theorem i_X8_nudge_60 : xi_dc cX8_nudge 60 = some (.bipush 40, 2) := by decide +kernel
theorem i_X8_nudge_62 : xi_dc cX8_nudge 62 = some (.if_icmp .lt 6, 3) := by decide +kernel
theorem t_X8_nudge_62 : ((62 : Nat) : Int) + 6 = ((68 : Nat) : Int) := by decide +kernel
theorem i_X8_nudge_65 : xi_dc cX8_nudge 65 = some (.bipush (-2), 2) := by decide +kernel
theorem i_X8_nudge_67 : xi_dc cX8_nudge 67 = some (.ireturn, 1) := by decide +kernel
theorem i_X8_nudge_68 : xi_dc cX8_nudge 68 = some (.aload_n 0, 1) := by decide +kernel
theorem i_X8_nudge_69 : xi_dc cX8_nudge 69 = some (.getfield 21, 3) := by decide +kernel
theorem i_X8_nudge_72 : xi_dc cX8_nudge 72 = some (.iload_n 1, 1) := by decide +kernel
theorem i_X8_nudge_73 : xi_dc cX8_nudge 73 = some (.invokevirtual 199, 3) := by decide +kernel
theorem i_X8_nudge_76 : xi_dc cX8_nudge 76 = some (.istore_n 3, 1) := by decide +kernel
theorem i_X8_nudge_77 : xi_dc cX8_nudge 77 = some (.aload_n 0, 1) := by decide +kernel
theorem i_X8_nudge_78 : xi_dc cX8_nudge 78 = some (.getfield 21, 3) := by decide +kernel
theorem i_X8_nudge_81 : xi_dc cX8_nudge 81 = some (.iload_n 1, 1) := by decide +kernel
theorem i_X8_nudge_82 : xi_dc cX8_nudge 82 = some (.iload_n 2, 1) := by decide +kernel
theorem i_X8_nudge_83 : xi_dc cX8_nudge 83 = some (.invokevirtual 202, 3) := by decide +kernel
theorem i_X8_nudge_86 : xi_dc cX8_nudge 86 = some (.iload_n 3, 1) := by decide +kernel
theorem i_X8_nudge_87 : xi_dc cX8_nudge 87 = some (.ireturn, 1) := by decide +kernel
def P_X8_nudge (S : xi_S) : xi_P := (xi_dc cX8_nudge, xi_tab xfl_X8, xi_tab xki_X8, xi_tab xkl_X8, xi_tab xcs_X8, xi_tab xcv_X8, xi_calls [(71, xi_wS 2 (F_X8_within S)), (195, xi_wS 3 (F_X8_mayMove S))], xi_calls [(199, xi_wV S 8 1 (F_X6_witnesses S)), (202, xi_wV S 8 2 (F_X6_moveCoat S))], 1)
theorem cc_X8_nudge_71 (S : xi_S) (a0 : Int32) (a1 : Int32) (m : xi_M) : (P_X8_nudge S).2.2.2.2.2.2.1 71 [.int a0, .int a1] m = (E_X8_within S a0 a1 m) := by
  show xi_calls [(71, xi_wS 2 (F_X8_within S)), (195, xi_wS 3 (F_X8_mayMove S))] 71 [.int a0, .int a1] m = _
  refine Eq.trans (b := xi_wS 2 (F_X8_within S) [.int a0, .int a1] m) (xi_calls_hit rfl) ?_
  exact xi_wS_eq rfl
theorem cc_X8_nudge_195 (S : xi_S) (a0 : Nat) (a1 : Int32) (a2 : Int32) (m : xi_M) : (P_X8_nudge S).2.2.2.2.2.2.1 195 [.ref a0, .int a1, .int a2] m = (E_X8_mayMove S a0 a1 a2 m) := by
  show xi_calls [(71, xi_wS 2 (F_X8_within S)), (195, xi_wS 3 (F_X8_mayMove S))] 195 [.ref a0, .int a1, .int a2] m = _
  refine Eq.trans (b := xi_calls [(195, xi_wS 3 (F_X8_mayMove S))] 195 [.ref a0, .int a1, .int a2] m) (xi_calls_miss rfl) ?_
  refine Eq.trans (b := xi_wS 3 (F_X8_mayMove S) [.ref a0, .int a1, .int a2] m) (xi_calls_hit rfl) ?_
  exact xi_wS_eq rfl
theorem cc_X8_nudge_199 (S : xi_S) (a0 : Nat) (a1 : Int32) (m : xi_M) : (P_X8_nudge S).2.2.2.2.2.2.2.1 199 [.ref a0, .int a1] m = (if S.1 a0 = 8 then E_X6_witnesses S a0 a1 m else none) := by
  show xi_calls [(199, xi_wV S 8 1 (F_X6_witnesses S)), (202, xi_wV S 8 2 (F_X6_moveCoat S))] 199 [.ref a0, .int a1] m = _
  refine Eq.trans (b := xi_wV S 8 1 (F_X6_witnesses S) [.ref a0, .int a1] m) (xi_calls_hit rfl) ?_
  exact xi_wV_eq rfl
theorem cc_X8_nudge_202 (S : xi_S) (a0 : Nat) (a1 : Int32) (a2 : Int32) (m : xi_M) : (P_X8_nudge S).2.2.2.2.2.2.2.1 202 [.ref a0, .int a1, .int a2] m = (if S.1 a0 = 8 then E_X6_moveCoat S a0 a1 a2 m else none) := by
  show xi_calls [(199, xi_wV S 8 1 (F_X6_witnesses S)), (202, xi_wV S 8 2 (F_X6_moveCoat S))] 202 [.ref a0, .int a1, .int a2] m = _
  refine Eq.trans (b := xi_calls [(202, xi_wV S 8 2 (F_X6_moveCoat S))] 202 [.ref a0, .int a1, .int a2] m) (xi_calls_miss rfl) ?_
  refine Eq.trans (b := xi_wV S 8 2 (F_X6_moveCoat S) [.ref a0, .int a1, .int a2] m) (xi_calls_hit rfl) ?_
  exact xi_wV_eq rfl
def E_X8_nudge (S : xi_S) (v0 : Nat) (v1 : Int32) (v2 : Int32) (m : xi_M) : Option xi_R :=
  xi_bI (E_X8_within S v1 (Int32.ofInt 3) m) fun x2 m1 =>
  if x2 = 0 then
    some (some (.int (Int32.ofInt (-1))), m1)
  else
    if v2 < ((Int8.ofInt (-3)).toInt32) then
      some (some (.int (Int32.ofInt (-1))), m1)
    else
      if (Int32.ofInt 3) < v2 then
        some (some (.int (Int32.ofInt (-1))), m1)
      else
        if v2 = 0 then
          some (some (.int (Int32.ofInt (-1))), m1)
        else
          if S.1 v0 = 10 then (S.2.2 v0 2).bind fun b4 =>
            if S.1 b4 = 8 then
              if (m1.1 b4 1) = 0 then
                some (some (.int ((Int8.ofInt (-4)).toInt32)), m1)
              else
                if S.1 v0 = 10 then (S.2.2 v0 2).bind fun b7 =>
                  if S.1 b7 = 8 then (S.2.2 b7 5).bind fun b9 =>
                    xi_bI (E_X8_mayMove S b9 v1 v2 m1) fun x11 m10 =>
                    if x11 = 0 then
                      some (some (.int ((Int8.ofInt (-4)).toInt32)), m10)
                    else
                      if S.1 v0 = 10 then (S.2.2 v0 2).bind fun b13 =>
                        if S.1 b13 = 8 then
                          if (m10.1 b13 4) < ((Int8.ofInt 40).toInt32) then
                            if S.1 v0 = 10 then (S.2.2 v0 2).bind fun b16 =>
                              xi_bI (if S.1 b16 = 8 then E_X6_witnesses S b16 v1 m10 else none) fun x18 m17 =>
                              if S.1 v0 = 10 then (S.2.2 v0 2).bind fun b20 =>
                                xi_bV (if S.1 b20 = 8 then E_X6_moveCoat S b20 v1 v2 m17 else none) fun m21 =>
                                some (some (.int x18), m21)
                              else none
                            else none
                          else
                            some (some (.int ((Int8.ofInt (-2)).toInt32)), m10)
                        else none
                      else none
                  else none
                else none
            else none
          else none
def F_X8_nudge (S : xi_S) : xi_F := fun As m => match As with
  | [.ref v0, .int v1, .int v2] => E_X8_nudge S v0 v1 v2 m
  | _ => none
set_option maxRecDepth 100000 in
set_option maxHeartbeats 4000000 in
theorem xe_X8_nudge {S : xi_S} {res : xi_R} (v0 : Nat) (v1 : Int32) (v2 : Int32) (m : xi_M) (h : E_X8_nudge S v0 v1 v2 m = some res) : xi_X S (P_X8_nudge S) (0, [some (.ref v0), some (.int v1), some (.int v2), none], [], m) res := by
  unfold E_X8_nudge at h
  refine xr_iload_n i_X8_nudge_0 rfl (q := 1) rfl ?_
  refine xr_iconst i_X8_nudge_1 (q := 2) rfl ?_
  obtain ⟨x2, m1, em1, h⟩ := xi_bI_some h
  refine xr_SI i_X8_nudge_2 xcse_X8_71 rfl (As := [.int v1, .int (Int32.ofInt 3)]) rfl (rest := []) rfl ((cc_X8_nudge_71 S _ _ _).trans em1) (q := 5) rfl ?_
  by_cases c28 : x2 = 0
  · replace h := (if_pos c28).symm.trans h
    refine xr_ifCond_eq_p i_X8_nudge_5 c28 (q := 23) t_X8_nudge_5 (q2 := 8) rfl ?_
    refine xr_iconst i_X8_nudge_23 (q := 24) rfl ?_
    exact xr_ireturn i_X8_nudge_24 rfl h
  · replace h := (if_neg c28).symm.trans h
    refine xr_ifCond_eq_n i_X8_nudge_5 c28 (q := 23) t_X8_nudge_5 (q2 := 8) rfl ?_
    refine xr_iload_n i_X8_nudge_8 rfl (q := 9) rfl ?_
    refine xr_bipush i_X8_nudge_9 (q := 11) rfl ?_
    by_cases c27 : v2 < ((Int8.ofInt (-3)).toInt32)
    · replace h := (if_pos c27).symm.trans h
      refine xr_if_icmp_lt_p i_X8_nudge_11 c27 (q := 23) t_X8_nudge_11 (q2 := 14) rfl ?_
      refine xr_iconst i_X8_nudge_23 (q := 24) rfl ?_
      exact xr_ireturn i_X8_nudge_24 rfl h
    · replace h := (if_neg c27).symm.trans h
      refine xr_if_icmp_lt_n i_X8_nudge_11 c27 (q := 23) t_X8_nudge_11 (q2 := 14) rfl ?_
      refine xr_iload_n i_X8_nudge_14 rfl (q := 15) rfl ?_
      refine xr_iconst i_X8_nudge_15 (q := 16) rfl ?_
      by_cases c26 : (Int32.ofInt 3) < v2
      · replace h := (if_pos c26).symm.trans h
        refine xr_if_icmp_gt_p i_X8_nudge_16 c26 (q := 23) t_X8_nudge_16 (q2 := 19) rfl ?_
        refine xr_iconst i_X8_nudge_23 (q := 24) rfl ?_
        exact xr_ireturn i_X8_nudge_24 rfl h
      · replace h := (if_neg c26).symm.trans h
        refine xr_if_icmp_gt_n i_X8_nudge_16 c26 (q := 23) t_X8_nudge_16 (q2 := 19) rfl ?_
        refine xr_iload_n i_X8_nudge_19 rfl (q := 20) rfl ?_
        by_cases c25 : v2 = 0
        · replace h := (if_pos c25).symm.trans h
          refine xr_ifCond_ne_p i_X8_nudge_20 c25 (q := 25) t_X8_nudge_20 (q2 := 23) rfl ?_
          refine xr_iconst i_X8_nudge_23 (q := 24) rfl ?_
          exact xr_ireturn i_X8_nudge_24 rfl h
        · replace h := (if_neg c25).symm.trans h
          refine xr_ifCond_ne_n i_X8_nudge_20 c25 (q := 25) t_X8_nudge_20 (q2 := 23) rfl ?_
          refine xr_aload_n i_X8_nudge_25 rfl (q := 26) rfl ?_
          obtain ⟨c3, h⟩ := xi_if_some h
          obtain ⟨b4, eb4, h⟩ := xi_bind_some h
          refine xr_getR i_X8_nudge_26 xfe_X8_21 c3 eb4 (q := 29) rfl ?_
          obtain ⟨c5, h⟩ := xi_if_some h
          refine xr_getI i_X8_nudge_29 xfe_X8_129 c5 (q := 32) rfl ?_
          by_cases c24 : (m1.1 b4 1) = 0
          · replace h := (if_pos c24).symm.trans h
            refine xr_ifCond_eq_p i_X8_nudge_32 c24 (q := 50) t_X8_nudge_32 (q2 := 35) rfl ?_
            refine xr_bipush i_X8_nudge_50 (q := 52) rfl ?_
            exact xr_ireturn i_X8_nudge_52 rfl h
          · replace h := (if_neg c24).symm.trans h
            refine xr_ifCond_eq_n i_X8_nudge_32 c24 (q := 50) t_X8_nudge_32 (q2 := 35) rfl ?_
            refine xr_aload_n i_X8_nudge_35 rfl (q := 36) rfl ?_
            obtain ⟨c6, h⟩ := xi_if_some h
            obtain ⟨b7, eb7, h⟩ := xi_bind_some h
            refine xr_getR i_X8_nudge_36 xfe_X8_21 c6 eb7 (q := 39) rfl ?_
            obtain ⟨c8, h⟩ := xi_if_some h
            obtain ⟨b9, eb9, h⟩ := xi_bind_some h
            refine xr_getR i_X8_nudge_39 xfe_X8_192 c8 eb9 (q := 42) rfl ?_
            refine xr_iload_n i_X8_nudge_42 rfl (q := 43) rfl ?_
            refine xr_iload_n i_X8_nudge_43 rfl (q := 44) rfl ?_
            obtain ⟨x11, m10, em10, h⟩ := xi_bI_some h
            refine xr_SI i_X8_nudge_44 xcse_X8_195 rfl (As := [.ref b9, .int v1, .int v2]) rfl (rest := []) rfl ((cc_X8_nudge_195 S _ _ _ _).trans em10) (q := 47) rfl ?_
            by_cases c23 : x11 = 0
            · replace h := (if_pos c23).symm.trans h
              refine xr_ifCond_ne_p i_X8_nudge_47 c23 (q := 53) t_X8_nudge_47 (q2 := 50) rfl ?_
              refine xr_bipush i_X8_nudge_50 (q := 52) rfl ?_
              exact xr_ireturn i_X8_nudge_52 rfl h
            · replace h := (if_neg c23).symm.trans h
              refine xr_ifCond_ne_n i_X8_nudge_47 c23 (q := 53) t_X8_nudge_47 (q2 := 50) rfl ?_
              refine xr_aload_n i_X8_nudge_53 rfl (q := 54) rfl ?_
              obtain ⟨c12, h⟩ := xi_if_some h
              obtain ⟨b13, eb13, h⟩ := xi_bind_some h
              refine xr_getR i_X8_nudge_54 xfe_X8_21 c12 eb13 (q := 57) rfl ?_
              obtain ⟨c14, h⟩ := xi_if_some h
              refine xr_getI i_X8_nudge_57 xfe_X8_183 c14 (q := 60) rfl ?_
              refine xr_bipush i_X8_nudge_60 (q := 62) rfl ?_
              by_cases c22 : (m10.1 b13 4) < ((Int8.ofInt 40).toInt32)
              · replace h := (if_pos c22).symm.trans h
                refine xr_if_icmp_lt_p i_X8_nudge_62 c22 (q := 68) t_X8_nudge_62 (q2 := 65) rfl ?_
                refine xr_aload_n i_X8_nudge_68 rfl (q := 69) rfl ?_
                obtain ⟨c15, h⟩ := xi_if_some h
                obtain ⟨b16, eb16, h⟩ := xi_bind_some h
                refine xr_getR i_X8_nudge_69 xfe_X8_21 c15 eb16 (q := 72) rfl ?_
                refine xr_iload_n i_X8_nudge_72 rfl (q := 73) rfl ?_
                obtain ⟨x18, m17, em17, h⟩ := xi_bI_some h
                refine xr_VI i_X8_nudge_73 xcve_X8_199 rfl (As := [.ref b16, .int v1]) rfl (rest := []) rfl ((cc_X8_nudge_199 S _ _ _).trans em17) (q := 76) rfl ?_
                refine xr_istore_n i_X8_nudge_76 rfl (L2 := [some (.ref v0), some (.int v1), some (.int v2), some (.int x18)]) rfl (q := 77) rfl ?_
                refine xr_aload_n i_X8_nudge_77 rfl (q := 78) rfl ?_
                obtain ⟨c19, h⟩ := xi_if_some h
                obtain ⟨b20, eb20, h⟩ := xi_bind_some h
                refine xr_getR i_X8_nudge_78 xfe_X8_21 c19 eb20 (q := 81) rfl ?_
                refine xr_iload_n i_X8_nudge_81 rfl (q := 82) rfl ?_
                refine xr_iload_n i_X8_nudge_82 rfl (q := 83) rfl ?_
                obtain ⟨m21, em21, h⟩ := xi_bV_some h
                refine xr_VV i_X8_nudge_83 xcve_X8_202 rfl (As := [.ref b20, .int v1, .int v2]) rfl (rest := []) rfl ((cc_X8_nudge_202 S _ _ _ _).trans em21) (q := 86) rfl ?_
                refine xr_iload_n i_X8_nudge_86 rfl (q := 87) rfl ?_
                exact xr_ireturn i_X8_nudge_87 rfl h
              · replace h := (if_neg c22).symm.trans h
                refine xr_if_icmp_lt_n i_X8_nudge_62 c22 (q := 68) t_X8_nudge_62 (q2 := 65) rfl ?_
                refine xr_bipush i_X8_nudge_65 (q := 67) rfl ?_
                exact xr_ireturn i_X8_nudge_67 rfl h
set_option maxRecDepth 100000 in
theorem po_X8_nudge {l : Launch} {E : xi_E} {S : xi_S} {D : va_G} {tys : List (ClassId × FieldType)} (hC : xCx E S tys) : xi_Pok l E S D vwCl tys xNs RX8 xTs cX8_nudge 4 2 (P_X8_nudge S) := ⟨xi_dc_ok, by rw [hC.2]; exact xfo_X8, xkio_X8, xklo_X8, xi_calls_ok (ins := .invokestatic) (List.forall_mem_cons.mpr ⟨(xc_X8_71 (sn_X8_within hC) (by decide)), List.forall_mem_cons.mpr ⟨(xc_X8_195 (sn_X8_mayMove hC) (by decide)), fun _ h => absurd h List.not_mem_nil⟩⟩), xi_calls_ok (ins := .invokevirtual) (List.forall_mem_cons.mpr ⟨(xc_X8_199 hC.1 (sn_X6_witnesses hC) (by decide)), List.forall_mem_cons.mpr ⟨(xc_X8_202 hC.1 (sn_X6_moveCoat hC) (by decide)), fun _ h => absurd h List.not_mem_nil⟩⟩)⟩
theorem sn_X8_nudge {l : Launch} {E : xi_E} {S : xi_S} {D : va_G} {tys : List (ClassId × FieldType)} (hC : xCx E S tys) : ∀ As m1 r m2, F_X8_nudge S As m1 = some (r, m2) → xi_Sound l E S D vwCl tys xNs xTs yX8_nudge cX8_nudge 4 (some .int) 2 As m1 r m2 := by
  intro As m1 r m2 h
  unfold F_X8_nudge at h
  split at h
  · exact xi_meth (P := P_X8_nudge S) (by decide) hC.1 (po_X8_nudge hC) (Nat.le_of_ble_eq_true rfl) rfl (xe_X8_nudge _ _ _ _ h)
  · exact xi_no h
theorem i_X8_rain_0 : xi_dc cX8_rain 0 = some (.iload_n 1, 1) := by decide +kernel
theorem i_X8_rain_1 : xi_dc cX8_rain 1 = some (.iconst 1, 1) := by decide +kernel
theorem i_X8_rain_2 : xi_dc cX8_rain 2 = some (.invokestatic 71, 3) := by decide +kernel
theorem i_X8_rain_5 : xi_dc cX8_rain 5 = some (.ifCond .ne 5, 3) := by decide +kernel
theorem t_X8_rain_5 : ((5 : Nat) : Int) + 5 = ((10 : Nat) : Int) := by decide +kernel
theorem i_X8_rain_8 : xi_dc cX8_rain 8 = some (.iconst (-1), 1) := by decide +kernel
theorem i_X8_rain_9 : xi_dc cX8_rain 9 = some (.ireturn, 1) := by decide +kernel
theorem i_X8_rain_10 : xi_dc cX8_rain 10 = some (.aload_n 0, 1) := by decide +kernel
theorem i_X8_rain_11 : xi_dc cX8_rain 11 = some (.getfield 21, 3) := by decide +kernel
theorem i_X8_rain_14 : xi_dc cX8_rain 14 = some (.getfield 129, 3) := by decide +kernel
theorem i_X8_rain_17 : xi_dc cX8_rain 17 = some (.ifCond .eq 14, 3) := by decide +kernel
theorem t_X8_rain_17 : ((17 : Nat) : Int) + 14 = ((31 : Nat) : Int) := by decide +kernel
theorem i_X8_rain_20 : xi_dc cX8_rain 20 = some (.aload_n 0, 1) := by decide +kernel
theorem i_X8_rain_21 : xi_dc cX8_rain 21 = some (.getfield 21, 3) := by decide +kernel
theorem i_X8_rain_24 : xi_dc cX8_rain 24 = some (.getfield 176, 3) := by decide +kernel
theorem i_X8_rain_27 : xi_dc cX8_rain 27 = some (.iload_n 1, 1) := by decide +kernel
theorem i_X8_rain_28 : xi_dc cX8_rain 28 = some (.if_icmp .ne 6, 3) := by decide +kernel
theorem t_X8_rain_28 : ((28 : Nat) : Int) + 6 = ((34 : Nat) : Int) := by decide +kernel
theorem i_X8_rain_31 : xi_dc cX8_rain 31 = some (.bipush (-4), 2) := by decide +kernel
theorem i_X8_rain_33 : xi_dc cX8_rain 33 = some (.ireturn, 1) := by decide +kernel
theorem i_X8_rain_34 : xi_dc cX8_rain 34 = some (.aload_n 0, 1) := by decide +kernel
theorem i_X8_rain_35 : xi_dc cX8_rain 35 = some (.getfield 21, 3) := by decide +kernel
theorem i_X8_rain_38 : xi_dc cX8_rain 38 = some (.getfield 183, 3) := by decide +kernel
theorem i_X8_rain_41 : xi_dc cX8_rain 41 = some (.bipush 40, 2) := by decide +kernel
theorem i_X8_rain_43 : xi_dc cX8_rain 43 = some (.if_icmp .lt 6, 3) := by decide +kernel
theorem t_X8_rain_43 : ((43 : Nat) : Int) + 6 = ((49 : Nat) : Int) := by decide +kernel
theorem i_X8_rain_46 : xi_dc cX8_rain 46 = some (.bipush (-2), 2) := by decide +kernel
theorem i_X8_rain_48 : xi_dc cX8_rain 48 = some (.ireturn, 1) := by decide +kernel
theorem i_X8_rain_49 : xi_dc cX8_rain 49 = some (.aload_n 0, 1) := by decide +kernel
theorem i_X8_rain_50 : xi_dc cX8_rain 50 = some (.getfield 21, 3) := by decide +kernel
theorem i_X8_rain_53 : xi_dc cX8_rain 53 = some (.iload_n 1, 1) := by decide +kernel
theorem i_X8_rain_54 : xi_dc cX8_rain 54 = some (.invokevirtual 206, 3) := by decide +kernel
theorem i_X8_rain_57 : xi_dc cX8_rain 57 = some (.iload_n 1, 1) := by decide +kernel
theorem i_X8_rain_58 : xi_dc cX8_rain 58 = some (.ireturn, 1) := by decide +kernel
def P_X8_rain (S : xi_S) : xi_P := (xi_dc cX8_rain, xi_tab xfl_X8, xi_tab xki_X8, xi_tab xkl_X8, xi_tab xcs_X8, xi_tab xcv_X8, xi_calls [(71, xi_wS 2 (F_X8_within S))], xi_calls [(206, xi_wV S 8 1 (F_X6_turnWeather S))], 1)
theorem cc_X8_rain_71 (S : xi_S) (a0 : Int32) (a1 : Int32) (m : xi_M) : (P_X8_rain S).2.2.2.2.2.2.1 71 [.int a0, .int a1] m = (E_X8_within S a0 a1 m) := by
  show xi_calls [(71, xi_wS 2 (F_X8_within S))] 71 [.int a0, .int a1] m = _
  refine Eq.trans (b := xi_wS 2 (F_X8_within S) [.int a0, .int a1] m) (xi_calls_hit rfl) ?_
  exact xi_wS_eq rfl
theorem cc_X8_rain_206 (S : xi_S) (a0 : Nat) (a1 : Int32) (m : xi_M) : (P_X8_rain S).2.2.2.2.2.2.2.1 206 [.ref a0, .int a1] m = (if S.1 a0 = 8 then E_X6_turnWeather S a0 a1 m else none) := by
  show xi_calls [(206, xi_wV S 8 1 (F_X6_turnWeather S))] 206 [.ref a0, .int a1] m = _
  refine Eq.trans (b := xi_wV S 8 1 (F_X6_turnWeather S) [.ref a0, .int a1] m) (xi_calls_hit rfl) ?_
  exact xi_wV_eq rfl
def E_X8_rain (S : xi_S) (v0 : Nat) (v1 : Int32) (m : xi_M) : Option xi_R :=
  xi_bI (E_X8_within S v1 (Int32.ofInt 1) m) fun x2 m1 =>
  if x2 = 0 then
    some (some (.int (Int32.ofInt (-1))), m1)
  else
    if S.1 v0 = 10 then (S.2.2 v0 2).bind fun b4 =>
      if S.1 b4 = 8 then
        if (m1.1 b4 1) = 0 then
          some (some (.int ((Int8.ofInt (-4)).toInt32)), m1)
        else
          if S.1 v0 = 10 then (S.2.2 v0 2).bind fun b7 =>
            if S.1 b7 = 8 then
              if (m1.1 b7 3) = v1 then
                some (some (.int ((Int8.ofInt (-4)).toInt32)), m1)
              else
                if S.1 v0 = 10 then (S.2.2 v0 2).bind fun b10 =>
                  if S.1 b10 = 8 then
                    if (m1.1 b10 4) < ((Int8.ofInt 40).toInt32) then
                      if S.1 v0 = 10 then (S.2.2 v0 2).bind fun b13 =>
                        xi_bV (if S.1 b13 = 8 then E_X6_turnWeather S b13 v1 m1 else none) fun m14 =>
                        some (some (.int v1), m14)
                      else none
                    else
                      some (some (.int ((Int8.ofInt (-2)).toInt32)), m1)
                  else none
                else none
            else none
          else none
      else none
    else none
def F_X8_rain (S : xi_S) : xi_F := fun As m => match As with
  | [.ref v0, .int v1] => E_X8_rain S v0 v1 m
  | _ => none
set_option maxRecDepth 100000 in
set_option maxHeartbeats 4000000 in
theorem xe_X8_rain {S : xi_S} {res : xi_R} (v0 : Nat) (v1 : Int32) (m : xi_M) (h : E_X8_rain S v0 v1 m = some res) : xi_X S (P_X8_rain S) (0, [some (.ref v0), some (.int v1)], [], m) res := by
  unfold E_X8_rain at h
  refine xr_iload_n i_X8_rain_0 rfl (q := 1) rfl ?_
  refine xr_iconst i_X8_rain_1 (q := 2) rfl ?_
  obtain ⟨x2, m1, em1, h⟩ := xi_bI_some h
  refine xr_SI i_X8_rain_2 xcse_X8_71 rfl (As := [.int v1, .int (Int32.ofInt 1)]) rfl (rest := []) rfl ((cc_X8_rain_71 S _ _ _).trans em1) (q := 5) rfl ?_
  by_cases c18 : x2 = 0
  · replace h := (if_pos c18).symm.trans h
    refine xr_ifCond_ne_p i_X8_rain_5 c18 (q := 10) t_X8_rain_5 (q2 := 8) rfl ?_
    refine xr_iconst i_X8_rain_8 (q := 9) rfl ?_
    exact xr_ireturn i_X8_rain_9 rfl h
  · replace h := (if_neg c18).symm.trans h
    refine xr_ifCond_ne_n i_X8_rain_5 c18 (q := 10) t_X8_rain_5 (q2 := 8) rfl ?_
    refine xr_aload_n i_X8_rain_10 rfl (q := 11) rfl ?_
    obtain ⟨c3, h⟩ := xi_if_some h
    obtain ⟨b4, eb4, h⟩ := xi_bind_some h
    refine xr_getR i_X8_rain_11 xfe_X8_21 c3 eb4 (q := 14) rfl ?_
    obtain ⟨c5, h⟩ := xi_if_some h
    refine xr_getI i_X8_rain_14 xfe_X8_129 c5 (q := 17) rfl ?_
    by_cases c17 : (m1.1 b4 1) = 0
    · replace h := (if_pos c17).symm.trans h
      refine xr_ifCond_eq_p i_X8_rain_17 c17 (q := 31) t_X8_rain_17 (q2 := 20) rfl ?_
      refine xr_bipush i_X8_rain_31 (q := 33) rfl ?_
      exact xr_ireturn i_X8_rain_33 rfl h
    · replace h := (if_neg c17).symm.trans h
      refine xr_ifCond_eq_n i_X8_rain_17 c17 (q := 31) t_X8_rain_17 (q2 := 20) rfl ?_
      refine xr_aload_n i_X8_rain_20 rfl (q := 21) rfl ?_
      obtain ⟨c6, h⟩ := xi_if_some h
      obtain ⟨b7, eb7, h⟩ := xi_bind_some h
      refine xr_getR i_X8_rain_21 xfe_X8_21 c6 eb7 (q := 24) rfl ?_
      obtain ⟨c8, h⟩ := xi_if_some h
      refine xr_getI i_X8_rain_24 xfe_X8_176 c8 (q := 27) rfl ?_
      refine xr_iload_n i_X8_rain_27 rfl (q := 28) rfl ?_
      by_cases c16 : (m1.1 b7 3) = v1
      · replace h := (if_pos c16).symm.trans h
        refine xr_if_icmp_ne_p i_X8_rain_28 c16 (q := 34) t_X8_rain_28 (q2 := 31) rfl ?_
        refine xr_bipush i_X8_rain_31 (q := 33) rfl ?_
        exact xr_ireturn i_X8_rain_33 rfl h
      · replace h := (if_neg c16).symm.trans h
        refine xr_if_icmp_ne_n i_X8_rain_28 c16 (q := 34) t_X8_rain_28 (q2 := 31) rfl ?_
        refine xr_aload_n i_X8_rain_34 rfl (q := 35) rfl ?_
        obtain ⟨c9, h⟩ := xi_if_some h
        obtain ⟨b10, eb10, h⟩ := xi_bind_some h
        refine xr_getR i_X8_rain_35 xfe_X8_21 c9 eb10 (q := 38) rfl ?_
        obtain ⟨c11, h⟩ := xi_if_some h
        refine xr_getI i_X8_rain_38 xfe_X8_183 c11 (q := 41) rfl ?_
        refine xr_bipush i_X8_rain_41 (q := 43) rfl ?_
        by_cases c15 : (m1.1 b10 4) < ((Int8.ofInt 40).toInt32)
        · replace h := (if_pos c15).symm.trans h
          refine xr_if_icmp_lt_p i_X8_rain_43 c15 (q := 49) t_X8_rain_43 (q2 := 46) rfl ?_
          refine xr_aload_n i_X8_rain_49 rfl (q := 50) rfl ?_
          obtain ⟨c12, h⟩ := xi_if_some h
          obtain ⟨b13, eb13, h⟩ := xi_bind_some h
          refine xr_getR i_X8_rain_50 xfe_X8_21 c12 eb13 (q := 53) rfl ?_
          refine xr_iload_n i_X8_rain_53 rfl (q := 54) rfl ?_
          obtain ⟨m14, em14, h⟩ := xi_bV_some h
          refine xr_VV i_X8_rain_54 xcve_X8_206 rfl (As := [.ref b13, .int v1]) rfl (rest := []) rfl ((cc_X8_rain_206 S _ _ _).trans em14) (q := 57) rfl ?_
          refine xr_iload_n i_X8_rain_57 rfl (q := 58) rfl ?_
          exact xr_ireturn i_X8_rain_58 rfl h
        · replace h := (if_neg c15).symm.trans h
          refine xr_if_icmp_lt_n i_X8_rain_43 c15 (q := 49) t_X8_rain_43 (q2 := 46) rfl ?_
          refine xr_bipush i_X8_rain_46 (q := 48) rfl ?_
          exact xr_ireturn i_X8_rain_48 rfl h
set_option maxRecDepth 100000 in
theorem po_X8_rain {l : Launch} {E : xi_E} {S : xi_S} {D : va_G} {tys : List (ClassId × FieldType)} (hC : xCx E S tys) : xi_Pok l E S D vwCl tys xNs RX8 xTs cX8_rain 2 2 (P_X8_rain S) := ⟨xi_dc_ok, by rw [hC.2]; exact xfo_X8, xkio_X8, xklo_X8, xi_calls_ok (ins := .invokestatic) (List.forall_mem_cons.mpr ⟨(xc_X8_71 (sn_X8_within hC) (by decide)), fun _ h => absurd h List.not_mem_nil⟩), xi_calls_ok (ins := .invokevirtual) (List.forall_mem_cons.mpr ⟨(xc_X8_206 hC.1 (sn_X6_turnWeather hC) (by decide)), fun _ h => absurd h List.not_mem_nil⟩)⟩
theorem sn_X8_rain {l : Launch} {E : xi_E} {S : xi_S} {D : va_G} {tys : List (ClassId × FieldType)} (hC : xCx E S tys) : ∀ As m1 r m2, F_X8_rain S As m1 = some (r, m2) → xi_Sound l E S D vwCl tys xNs xTs yX8_rain cX8_rain 2 (some .int) 2 As m1 r m2 := by
  intro As m1 r m2 h
  unfold F_X8_rain at h
  split at h
  · exact xi_meth (P := P_X8_rain S) (by decide) hC.1 (po_X8_rain hC) (Nat.le_of_ble_eq_true rfl) rfl (xe_X8_rain _ _ _ h)
  · exact xi_no h
theorem i_X8_stand_0 : xi_dc cX8_stand 0 = some (.aload_n 0, 1) := by decide +kernel
theorem i_X8_stand_1 : xi_dc cX8_stand 1 = some (.getfield 21, 3) := by decide +kernel
theorem i_X8_stand_4 : xi_dc cX8_stand 4 = some (.iload_n 1, 1) := by decide +kernel
theorem i_X8_stand_5 : xi_dc cX8_stand 5 = some (.invokevirtual 132, 3) := by decide +kernel
theorem i_X8_stand_8 : xi_dc cX8_stand 8 = some (.ifCond .eq 12, 3) := by decide +kernel
theorem t_X8_stand_8 : ((8 : Nat) : Int) + 12 = ((20 : Nat) : Int) := by decide +kernel
theorem i_X8_stand_11 : xi_dc cX8_stand 11 = some (.iload_n 2, 1) := by decide +kernel
theorem i_X8_stand_12 : xi_dc cX8_stand 12 = some (.bipush 20, 2) := by decide +kernel
theorem i_X8_stand_14 : xi_dc cX8_stand 14 = some (.invokestatic 71, 3) := by decide +kernel
theorem i_X8_stand_17 : xi_dc cX8_stand 17 = some (.ifCond .ne 5, 3) := by decide +kernel
theorem t_X8_stand_17 : ((17 : Nat) : Int) + 5 = ((22 : Nat) : Int) := by decide +kernel
theorem i_X8_stand_20 : xi_dc cX8_stand 20 = some (.iconst (-1), 1) := by decide +kernel
theorem i_X8_stand_21 : xi_dc cX8_stand 21 = some (.ireturn, 1) := by decide +kernel
theorem i_X8_stand_22 : xi_dc cX8_stand 22 = some (.aload_n 0, 1) := by decide +kernel
theorem i_X8_stand_23 : xi_dc cX8_stand 23 = some (.getfield 21, 3) := by decide +kernel
theorem i_X8_stand_26 : xi_dc cX8_stand 26 = some (.getfield 151, 3) := by decide +kernel
theorem i_X8_stand_29 : xi_dc cX8_stand 29 = some (.iload_n 1, 1) := by decide +kernel
theorem i_X8_stand_30 : xi_dc cX8_stand 30 = some (.iaload, 1) := by decide +kernel
theorem i_X8_stand_31 : xi_dc cX8_stand 31 = some (.iload_n 2, 1) := by decide +kernel
theorem i_X8_stand_32 : xi_dc cX8_stand 32 = some (.if_icmp .ne 6, 3) := by decide +kernel
theorem t_X8_stand_32 : ((32 : Nat) : Int) + 6 = ((38 : Nat) : Int) := by decide +kernel
theorem i_X8_stand_35 : xi_dc cX8_stand 35 = some (.bipush (-4), 2) := by decide +kernel
theorem i_X8_stand_37 : xi_dc cX8_stand 37 = some (.ireturn, 1) := by decide +kernel
theorem i_X8_stand_38 : xi_dc cX8_stand 38 = some (.aload_n 0, 1) := by decide +kernel
theorem i_X8_stand_39 : xi_dc cX8_stand 39 = some (.getfield 21, 3) := by decide +kernel
theorem i_X8_stand_42 : xi_dc cX8_stand 42 = some (.getfield 183, 3) := by decide +kernel
theorem i_X8_stand_45 : xi_dc cX8_stand 45 = some (.bipush 40, 2) := by decide +kernel
theorem i_X8_stand_47 : xi_dc cX8_stand 47 = some (.if_icmp .lt 6, 3) := by decide +kernel
theorem t_X8_stand_47 : ((47 : Nat) : Int) + 6 = ((53 : Nat) : Int) := by decide +kernel
theorem i_X8_stand_50 : xi_dc cX8_stand 50 = some (.bipush (-2), 2) := by decide +kernel
theorem i_X8_stand_52 : xi_dc cX8_stand 52 = some (.ireturn, 1) := by decide +kernel
theorem i_X8_stand_53 : xi_dc cX8_stand 53 = some (.aload_n 0, 1) := by decide +kernel
theorem i_X8_stand_54 : xi_dc cX8_stand 54 = some (.getfield 21, 3) := by decide +kernel
theorem i_X8_stand_57 : xi_dc cX8_stand 57 = some (.getfield 151, 3) := by decide +kernel
theorem i_X8_stand_60 : xi_dc cX8_stand 60 = some (.iload_n 1, 1) := by decide +kernel
theorem i_X8_stand_61 : xi_dc cX8_stand 61 = some (.iaload, 1) := by decide +kernel
theorem i_X8_stand_62 : xi_dc cX8_stand 62 = some (.istore_n 3, 1) := by decide +kernel
theorem i_X8_stand_63 : xi_dc cX8_stand 63 = some (.aload_n 0, 1) := by decide +kernel
theorem i_X8_stand_64 : xi_dc cX8_stand 64 = some (.getfield 21, 3) := by decide +kernel
theorem i_X8_stand_67 : xi_dc cX8_stand 67 = some (.iload_n 1, 1) := by decide +kernel
theorem i_X8_stand_68 : xi_dc cX8_stand 68 = some (.iload_n 2, 1) := by decide +kernel
theorem i_X8_stand_69 : xi_dc cX8_stand 69 = some (.invokevirtual 209, 3) := by decide +kernel
theorem i_X8_stand_72 : xi_dc cX8_stand 72 = some (.iload_n 3, 1) := by decide +kernel
theorem i_X8_stand_73 : xi_dc cX8_stand 73 = some (.ireturn, 1) := by decide +kernel
def P_X8_stand (S : xi_S) : xi_P := (xi_dc cX8_stand, xi_tab xfl_X8, xi_tab xki_X8, xi_tab xkl_X8, xi_tab xcs_X8, xi_tab xcv_X8, xi_calls [(71, xi_wS 2 (F_X8_within S))], xi_calls [(132, xi_wV S 8 1 (F_X6_hasPlayer S)), (209, xi_wV S 8 2 (F_X6_send S))], 1)
theorem cc_X8_stand_71 (S : xi_S) (a0 : Int32) (a1 : Int32) (m : xi_M) : (P_X8_stand S).2.2.2.2.2.2.1 71 [.int a0, .int a1] m = (E_X8_within S a0 a1 m) := by
  show xi_calls [(71, xi_wS 2 (F_X8_within S))] 71 [.int a0, .int a1] m = _
  refine Eq.trans (b := xi_wS 2 (F_X8_within S) [.int a0, .int a1] m) (xi_calls_hit rfl) ?_
  exact xi_wS_eq rfl
theorem cc_X8_stand_132 (S : xi_S) (a0 : Nat) (a1 : Int32) (m : xi_M) : (P_X8_stand S).2.2.2.2.2.2.2.1 132 [.ref a0, .int a1] m = (if S.1 a0 = 8 then E_X6_hasPlayer S a0 a1 m else none) := by
  show xi_calls [(132, xi_wV S 8 1 (F_X6_hasPlayer S)), (209, xi_wV S 8 2 (F_X6_send S))] 132 [.ref a0, .int a1] m = _
  refine Eq.trans (b := xi_wV S 8 1 (F_X6_hasPlayer S) [.ref a0, .int a1] m) (xi_calls_hit rfl) ?_
  exact xi_wV_eq rfl
theorem cc_X8_stand_209 (S : xi_S) (a0 : Nat) (a1 : Int32) (a2 : Int32) (m : xi_M) : (P_X8_stand S).2.2.2.2.2.2.2.1 209 [.ref a0, .int a1, .int a2] m = (if S.1 a0 = 8 then E_X6_send S a0 a1 a2 m else none) := by
  show xi_calls [(132, xi_wV S 8 1 (F_X6_hasPlayer S)), (209, xi_wV S 8 2 (F_X6_send S))] 209 [.ref a0, .int a1, .int a2] m = _
  refine Eq.trans (b := xi_calls [(209, xi_wV S 8 2 (F_X6_send S))] 209 [.ref a0, .int a1, .int a2] m) (xi_calls_miss rfl) ?_
  refine Eq.trans (b := xi_wV S 8 2 (F_X6_send S) [.ref a0, .int a1, .int a2] m) (xi_calls_hit rfl) ?_
  exact xi_wV_eq rfl
def E_X8_stand (S : xi_S) (v0 : Nat) (v1 : Int32) (v2 : Int32) (m : xi_M) : Option xi_R :=
  if S.1 v0 = 10 then (S.2.2 v0 2).bind fun b2 =>
    xi_bI (if S.1 b2 = 8 then E_X6_hasPlayer S b2 v1 m else none) fun x4 m3 =>
    if x4 = 0 then
      some (some (.int (Int32.ofInt (-1))), m3)
    else
      xi_bI (E_X8_within S v2 ((Int8.ofInt 20).toInt32) m3) fun x6 m5 =>
      if x6 = 0 then
        some (some (.int (Int32.ofInt (-1))), m5)
      else
        if S.1 v0 = 10 then (S.2.2 v0 2).bind fun b8 =>
          if S.1 b8 = 8 then (S.2.2 b8 9).bind fun b10 =>
            if S.1 b10 = 0 ∧ ¬ (v1 < 0 ∨ S.2.1 b10 ≤ Int32.toNatClampNeg v1) then
              if (m5.1 b10 (Int32.toNatClampNeg v1)) = v2 then
                some (some (.int ((Int8.ofInt (-4)).toInt32)), m5)
              else
                if S.1 v0 = 10 then (S.2.2 v0 2).bind fun b13 =>
                  if S.1 b13 = 8 then
                    if (m5.1 b13 4) < ((Int8.ofInt 40).toInt32) then
                      if S.1 v0 = 10 then (S.2.2 v0 2).bind fun b16 =>
                        if S.1 b16 = 8 then (S.2.2 b16 9).bind fun b18 =>
                          if S.1 b18 = 0 ∧ ¬ (v1 < 0 ∨ S.2.1 b18 ≤ Int32.toNatClampNeg v1) then
                            if S.1 v0 = 10 then (S.2.2 v0 2).bind fun b21 =>
                              xi_bV (if S.1 b21 = 8 then E_X6_send S b21 v1 v2 m5 else none) fun m22 =>
                              some (some (.int (m5.1 b18 (Int32.toNatClampNeg v1))), m22)
                            else none
                          else none
                        else none
                      else none
                    else
                      some (some (.int ((Int8.ofInt (-2)).toInt32)), m5)
                  else none
                else none
            else none
          else none
        else none
  else none
def F_X8_stand (S : xi_S) : xi_F := fun As m => match As with
  | [.ref v0, .int v1, .int v2] => E_X8_stand S v0 v1 v2 m
  | _ => none
set_option maxRecDepth 100000 in
set_option maxHeartbeats 4000000 in
theorem xe_X8_stand {S : xi_S} {res : xi_R} (v0 : Nat) (v1 : Int32) (v2 : Int32) (m : xi_M) (h : E_X8_stand S v0 v1 v2 m = some res) : xi_X S (P_X8_stand S) (0, [some (.ref v0), some (.int v1), some (.int v2), none], [], m) res := by
  unfold E_X8_stand at h
  refine xr_aload_n i_X8_stand_0 rfl (q := 1) rfl ?_
  obtain ⟨c1, h⟩ := xi_if_some h
  obtain ⟨b2, eb2, h⟩ := xi_bind_some h
  refine xr_getR i_X8_stand_1 xfe_X8_21 c1 eb2 (q := 4) rfl ?_
  refine xr_iload_n i_X8_stand_4 rfl (q := 5) rfl ?_
  obtain ⟨x4, m3, em3, h⟩ := xi_bI_some h
  refine xr_VI i_X8_stand_5 xcve_X8_132 rfl (As := [.ref b2, .int v1]) rfl (rest := []) rfl ((cc_X8_stand_132 S _ _ _).trans em3) (q := 8) rfl ?_
  by_cases c26 : x4 = 0
  · replace h := (if_pos c26).symm.trans h
    refine xr_ifCond_eq_p i_X8_stand_8 c26 (q := 20) t_X8_stand_8 (q2 := 11) rfl ?_
    refine xr_iconst i_X8_stand_20 (q := 21) rfl ?_
    exact xr_ireturn i_X8_stand_21 rfl h
  · replace h := (if_neg c26).symm.trans h
    refine xr_ifCond_eq_n i_X8_stand_8 c26 (q := 20) t_X8_stand_8 (q2 := 11) rfl ?_
    refine xr_iload_n i_X8_stand_11 rfl (q := 12) rfl ?_
    refine xr_bipush i_X8_stand_12 (q := 14) rfl ?_
    obtain ⟨x6, m5, em5, h⟩ := xi_bI_some h
    refine xr_SI i_X8_stand_14 xcse_X8_71 rfl (As := [.int v2, .int ((Int8.ofInt 20).toInt32)]) rfl (rest := []) rfl ((cc_X8_stand_71 S _ _ _).trans em5) (q := 17) rfl ?_
    by_cases c25 : x6 = 0
    · replace h := (if_pos c25).symm.trans h
      refine xr_ifCond_ne_p i_X8_stand_17 c25 (q := 22) t_X8_stand_17 (q2 := 20) rfl ?_
      refine xr_iconst i_X8_stand_20 (q := 21) rfl ?_
      exact xr_ireturn i_X8_stand_21 rfl h
    · replace h := (if_neg c25).symm.trans h
      refine xr_ifCond_ne_n i_X8_stand_17 c25 (q := 22) t_X8_stand_17 (q2 := 20) rfl ?_
      refine xr_aload_n i_X8_stand_22 rfl (q := 23) rfl ?_
      obtain ⟨c7, h⟩ := xi_if_some h
      obtain ⟨b8, eb8, h⟩ := xi_bind_some h
      refine xr_getR i_X8_stand_23 xfe_X8_21 c7 eb8 (q := 26) rfl ?_
      obtain ⟨c9, h⟩ := xi_if_some h
      obtain ⟨b10, eb10, h⟩ := xi_bind_some h
      refine xr_getR i_X8_stand_26 xfe_X8_151 c9 eb10 (q := 29) rfl ?_
      refine xr_iload_n i_X8_stand_29 rfl (q := 30) rfl ?_
      obtain ⟨c11, h⟩ := xi_if_some h
      refine xr_iaload i_X8_stand_30 c11 (q := 31) rfl ?_
      refine xr_iload_n i_X8_stand_31 rfl (q := 32) rfl ?_
      by_cases c24 : (m5.1 b10 (Int32.toNatClampNeg v1)) = v2
      · replace h := (if_pos c24).symm.trans h
        refine xr_if_icmp_ne_p i_X8_stand_32 c24 (q := 38) t_X8_stand_32 (q2 := 35) rfl ?_
        refine xr_bipush i_X8_stand_35 (q := 37) rfl ?_
        exact xr_ireturn i_X8_stand_37 rfl h
      · replace h := (if_neg c24).symm.trans h
        refine xr_if_icmp_ne_n i_X8_stand_32 c24 (q := 38) t_X8_stand_32 (q2 := 35) rfl ?_
        refine xr_aload_n i_X8_stand_38 rfl (q := 39) rfl ?_
        obtain ⟨c12, h⟩ := xi_if_some h
        obtain ⟨b13, eb13, h⟩ := xi_bind_some h
        refine xr_getR i_X8_stand_39 xfe_X8_21 c12 eb13 (q := 42) rfl ?_
        obtain ⟨c14, h⟩ := xi_if_some h
        refine xr_getI i_X8_stand_42 xfe_X8_183 c14 (q := 45) rfl ?_
        refine xr_bipush i_X8_stand_45 (q := 47) rfl ?_
        by_cases c23 : (m5.1 b13 4) < ((Int8.ofInt 40).toInt32)
        · replace h := (if_pos c23).symm.trans h
          refine xr_if_icmp_lt_p i_X8_stand_47 c23 (q := 53) t_X8_stand_47 (q2 := 50) rfl ?_
          refine xr_aload_n i_X8_stand_53 rfl (q := 54) rfl ?_
          obtain ⟨c15, h⟩ := xi_if_some h
          obtain ⟨b16, eb16, h⟩ := xi_bind_some h
          refine xr_getR i_X8_stand_54 xfe_X8_21 c15 eb16 (q := 57) rfl ?_
          obtain ⟨c17, h⟩ := xi_if_some h
          obtain ⟨b18, eb18, h⟩ := xi_bind_some h
          refine xr_getR i_X8_stand_57 xfe_X8_151 c17 eb18 (q := 60) rfl ?_
          refine xr_iload_n i_X8_stand_60 rfl (q := 61) rfl ?_
          obtain ⟨c19, h⟩ := xi_if_some h
          refine xr_iaload i_X8_stand_61 c19 (q := 62) rfl ?_
          refine xr_istore_n i_X8_stand_62 rfl (L2 := [some (.ref v0), some (.int v1), some (.int v2), some (.int (m5.1 b18 (Int32.toNatClampNeg v1)))]) rfl (q := 63) rfl ?_
          refine xr_aload_n i_X8_stand_63 rfl (q := 64) rfl ?_
          obtain ⟨c20, h⟩ := xi_if_some h
          obtain ⟨b21, eb21, h⟩ := xi_bind_some h
          refine xr_getR i_X8_stand_64 xfe_X8_21 c20 eb21 (q := 67) rfl ?_
          refine xr_iload_n i_X8_stand_67 rfl (q := 68) rfl ?_
          refine xr_iload_n i_X8_stand_68 rfl (q := 69) rfl ?_
          obtain ⟨m22, em22, h⟩ := xi_bV_some h
          refine xr_VV i_X8_stand_69 xcve_X8_209 rfl (As := [.ref b21, .int v1, .int v2]) rfl (rest := []) rfl ((cc_X8_stand_209 S _ _ _ _).trans em22) (q := 72) rfl ?_
          refine xr_iload_n i_X8_stand_72 rfl (q := 73) rfl ?_
          exact xr_ireturn i_X8_stand_73 rfl h
        · replace h := (if_neg c23).symm.trans h
          refine xr_if_icmp_lt_n i_X8_stand_47 c23 (q := 53) t_X8_stand_47 (q2 := 50) rfl ?_
          refine xr_bipush i_X8_stand_50 (q := 52) rfl ?_
          exact xr_ireturn i_X8_stand_52 rfl h
set_option maxRecDepth 100000 in
theorem po_X8_stand {l : Launch} {E : xi_E} {S : xi_S} {D : va_G} {tys : List (ClassId × FieldType)} (hC : xCx E S tys) : xi_Pok l E S D vwCl tys xNs RX8 xTs cX8_stand 4 2 (P_X8_stand S) := ⟨xi_dc_ok, by rw [hC.2]; exact xfo_X8, xkio_X8, xklo_X8, xi_calls_ok (ins := .invokestatic) (List.forall_mem_cons.mpr ⟨(xc_X8_71 (sn_X8_within hC) (by decide)), fun _ h => absurd h List.not_mem_nil⟩), xi_calls_ok (ins := .invokevirtual) (List.forall_mem_cons.mpr ⟨(xc_X8_132 hC.1 (sn_X6_hasPlayer hC) (by decide)), List.forall_mem_cons.mpr ⟨(xc_X8_209 hC.1 (sn_X6_send hC) (by decide)), fun _ h => absurd h List.not_mem_nil⟩⟩)⟩
theorem sn_X8_stand {l : Launch} {E : xi_E} {S : xi_S} {D : va_G} {tys : List (ClassId × FieldType)} (hC : xCx E S tys) : ∀ As m1 r m2, F_X8_stand S As m1 = some (r, m2) → xi_Sound l E S D vwCl tys xNs xTs yX8_stand cX8_stand 4 (some .int) 2 As m1 r m2 := by
  intro As m1 r m2 h
  unfold F_X8_stand at h
  split at h
  · exact xi_meth (P := P_X8_stand S) (by decide) hC.1 (po_X8_stand hC) (Nat.le_of_ble_eq_true rfl) rfl (xe_X8_stand _ _ _ _ h)
  · exact xi_no h
theorem i_X8_undo_0 : xi_dc cX8_undo 0 = some (.iload_n 1, 1) := by decide +kernel
theorem i_X8_undo_1 : xi_dc cX8_undo 1 = some (.aload_n 0, 1) := by decide +kernel
theorem i_X8_undo_2 : xi_dc cX8_undo 2 = some (.getfield 21, 3) := by decide +kernel
theorem i_X8_undo_5 : xi_dc cX8_undo 5 = some (.getfield 183, 3) := by decide +kernel
theorem i_X8_undo_8 : xi_dc cX8_undo 8 = some (.invokestatic 71, 3) := by decide +kernel
theorem i_X8_undo_11 : xi_dc cX8_undo 11 = some (.ifCond .ne 5, 3) := by decide +kernel
theorem t_X8_undo_11 : ((11 : Nat) : Int) + 5 = ((16 : Nat) : Int) := by decide +kernel
theorem i_X8_undo_14 : xi_dc cX8_undo 14 = some (.iconst (-1), 1) := by decide +kernel
theorem i_X8_undo_15 : xi_dc cX8_undo 15 = some (.ireturn, 1) := by decide +kernel
theorem i_X8_undo_16 : xi_dc cX8_undo 16 = some (.aload_n 0, 1) := by decide +kernel
theorem i_X8_undo_17 : xi_dc cX8_undo 17 = some (.getfield 21, 3) := by decide +kernel
theorem i_X8_undo_20 : xi_dc cX8_undo 20 = some (.iload_n 1, 1) := by decide +kernel
theorem i_X8_undo_21 : xi_dc cX8_undo 21 = some (.invokevirtual 212, 3) := by decide +kernel
theorem i_X8_undo_24 : xi_dc cX8_undo 24 = some (.ireturn, 1) := by decide +kernel
def P_X8_undo (S : xi_S) : xi_P := (xi_dc cX8_undo, xi_tab xfl_X8, xi_tab xki_X8, xi_tab xkl_X8, xi_tab xcs_X8, xi_tab xcv_X8, xi_calls [(71, xi_wS 2 (F_X8_within S))], xi_calls [(212, xi_wV S 8 1 (F_X6_takeBack S))], 1)
theorem cc_X8_undo_71 (S : xi_S) (a0 : Int32) (a1 : Int32) (m : xi_M) : (P_X8_undo S).2.2.2.2.2.2.1 71 [.int a0, .int a1] m = (E_X8_within S a0 a1 m) := by
  show xi_calls [(71, xi_wS 2 (F_X8_within S))] 71 [.int a0, .int a1] m = _
  refine Eq.trans (b := xi_wS 2 (F_X8_within S) [.int a0, .int a1] m) (xi_calls_hit rfl) ?_
  exact xi_wS_eq rfl
theorem cc_X8_undo_212 (S : xi_S) (a0 : Nat) (a1 : Int32) (m : xi_M) : (P_X8_undo S).2.2.2.2.2.2.2.1 212 [.ref a0, .int a1] m = (if S.1 a0 = 8 then E_X6_takeBack S a0 a1 m else none) := by
  show xi_calls [(212, xi_wV S 8 1 (F_X6_takeBack S))] 212 [.ref a0, .int a1] m = _
  refine Eq.trans (b := xi_wV S 8 1 (F_X6_takeBack S) [.ref a0, .int a1] m) (xi_calls_hit rfl) ?_
  exact xi_wV_eq rfl
def E_X8_undo (S : xi_S) (v0 : Nat) (v1 : Int32) (m : xi_M) : Option xi_R :=
  if S.1 v0 = 10 then (S.2.2 v0 2).bind fun b2 =>
    if S.1 b2 = 8 then
      xi_bI (E_X8_within S v1 (m.1 b2 4) m) fun x5 m4 =>
      if x5 = 0 then
        some (some (.int (Int32.ofInt (-1))), m4)
      else
        if S.1 v0 = 10 then (S.2.2 v0 2).bind fun b7 =>
          xi_bI (if S.1 b7 = 8 then E_X6_takeBack S b7 v1 m4 else none) fun x9 m8 =>
          some (some (.int x9), m8)
        else none
    else none
  else none
def F_X8_undo (S : xi_S) : xi_F := fun As m => match As with
  | [.ref v0, .int v1] => E_X8_undo S v0 v1 m
  | _ => none
set_option maxRecDepth 100000 in
set_option maxHeartbeats 4000000 in
theorem xe_X8_undo {S : xi_S} {res : xi_R} (v0 : Nat) (v1 : Int32) (m : xi_M) (h : E_X8_undo S v0 v1 m = some res) : xi_X S (P_X8_undo S) (0, [some (.ref v0), some (.int v1)], [], m) res := by
  unfold E_X8_undo at h
  refine xr_iload_n i_X8_undo_0 rfl (q := 1) rfl ?_
  refine xr_aload_n i_X8_undo_1 rfl (q := 2) rfl ?_
  obtain ⟨c1, h⟩ := xi_if_some h
  obtain ⟨b2, eb2, h⟩ := xi_bind_some h
  refine xr_getR i_X8_undo_2 xfe_X8_21 c1 eb2 (q := 5) rfl ?_
  obtain ⟨c3, h⟩ := xi_if_some h
  refine xr_getI i_X8_undo_5 xfe_X8_183 c3 (q := 8) rfl ?_
  obtain ⟨x5, m4, em4, h⟩ := xi_bI_some h
  refine xr_SI i_X8_undo_8 xcse_X8_71 rfl (As := [.int v1, .int (m.1 b2 4)]) rfl (rest := []) rfl ((cc_X8_undo_71 S _ _ _).trans em4) (q := 11) rfl ?_
  by_cases c10 : x5 = 0
  · replace h := (if_pos c10).symm.trans h
    refine xr_ifCond_ne_p i_X8_undo_11 c10 (q := 16) t_X8_undo_11 (q2 := 14) rfl ?_
    refine xr_iconst i_X8_undo_14 (q := 15) rfl ?_
    exact xr_ireturn i_X8_undo_15 rfl h
  · replace h := (if_neg c10).symm.trans h
    refine xr_ifCond_ne_n i_X8_undo_11 c10 (q := 16) t_X8_undo_11 (q2 := 14) rfl ?_
    refine xr_aload_n i_X8_undo_16 rfl (q := 17) rfl ?_
    obtain ⟨c6, h⟩ := xi_if_some h
    obtain ⟨b7, eb7, h⟩ := xi_bind_some h
    refine xr_getR i_X8_undo_17 xfe_X8_21 c6 eb7 (q := 20) rfl ?_
    refine xr_iload_n i_X8_undo_20 rfl (q := 21) rfl ?_
    obtain ⟨x9, m8, em8, h⟩ := xi_bI_some h
    refine xr_VI i_X8_undo_21 xcve_X8_212 rfl (As := [.ref b7, .int v1]) rfl (rest := []) rfl ((cc_X8_undo_212 S _ _ _).trans em8) (q := 24) rfl ?_
    exact xr_ireturn i_X8_undo_24 rfl h
set_option maxRecDepth 100000 in
theorem po_X8_undo {l : Launch} {E : xi_E} {S : xi_S} {D : va_G} {tys : List (ClassId × FieldType)} (hC : xCx E S tys) : xi_Pok l E S D vwCl tys xNs RX8 xTs cX8_undo 2 4 (P_X8_undo S) := ⟨xi_dc_ok, by rw [hC.2]; exact xfo_X8, xkio_X8, xklo_X8, xi_calls_ok (ins := .invokestatic) (List.forall_mem_cons.mpr ⟨(xc_X8_71 (sn_X8_within hC) (by decide)), fun _ h => absurd h List.not_mem_nil⟩), xi_calls_ok (ins := .invokevirtual) (List.forall_mem_cons.mpr ⟨(xc_X8_212 hC.1 (sn_X6_takeBack hC) (by decide)), fun _ h => absurd h List.not_mem_nil⟩)⟩
theorem sn_X8_undo {l : Launch} {E : xi_E} {S : xi_S} {D : va_G} {tys : List (ClassId × FieldType)} (hC : xCx E S tys) : ∀ As m1 r m2, F_X8_undo S As m1 = some (r, m2) → xi_Sound l E S D vwCl tys xNs xTs yX8_undo cX8_undo 2 (some .int) 4 As m1 r m2 := by
  intro As m1 r m2 h
  unfold F_X8_undo at h
  split at h
  · exact xi_meth (P := P_X8_undo S) (by decide) hC.1 (po_X8_undo hC) (Nat.le_of_ble_eq_true rfl) rfl (xe_X8_undo _ _ _ h)
  · exact xi_no h
theorem i_X8_keep_0 : xi_dc cX8_keep 0 = some (.iload_n 1, 1) := by decide +kernel
theorem i_X8_keep_1 : xi_dc cX8_keep 1 = some (.iconst 2, 1) := by decide +kernel
theorem i_X8_keep_2 : xi_dc cX8_keep 2 = some (.invokestatic 71, 3) := by decide +kernel
theorem i_X8_keep_5 : xi_dc cX8_keep 5 = some (.ifCond .ne 5, 3) := by decide +kernel
theorem t_X8_keep_5 : ((5 : Nat) : Int) + 5 = ((10 : Nat) : Int) := by decide +kernel
theorem i_X8_keep_8 : xi_dc cX8_keep 8 = some (.iconst (-1), 1) := by decide +kernel
theorem i_X8_keep_9 : xi_dc cX8_keep 9 = some (.ireturn, 1) := by decide +kernel
theorem i_X8_keep_10 : xi_dc cX8_keep 10 = some (.aload_n 0, 1) := by decide +kernel
theorem i_X8_keep_11 : xi_dc cX8_keep 11 = some (.getfield 21, 3) := by decide +kernel
theorem i_X8_keep_14 : xi_dc cX8_keep 14 = some (.getfield 129, 3) := by decide +kernel
theorem i_X8_keep_17 : xi_dc cX8_keep 17 = some (.ifCond .ne 6, 3) := by decide +kernel
theorem t_X8_keep_17 : ((17 : Nat) : Int) + 6 = ((23 : Nat) : Int) := by decide +kernel
theorem i_X8_keep_20 : xi_dc cX8_keep 20 = some (.bipush (-4), 2) := by decide +kernel
theorem i_X8_keep_22 : xi_dc cX8_keep 22 = some (.ireturn, 1) := by decide +kernel
theorem i_X8_keep_23 : xi_dc cX8_keep 23 = some (.aload_n 0, 1) := by decide +kernel
theorem i_X8_keep_24 : xi_dc cX8_keep 24 = some (.getfield 28, 3) := by decide +kernel
theorem i_X8_keep_27 : xi_dc cX8_keep 27 = some (.iload_n 1, 1) := by decide +kernel
theorem i_X8_keep_28 : xi_dc cX8_keep 28 = some (.aaload, 1) := by decide +kernel
theorem i_X8_keep_29 : xi_dc cX8_keep 29 = some (.aload_n 0, 1) := by decide +kernel
theorem i_X8_keep_30 : xi_dc cX8_keep 30 = some (.getfield 21, 3) := by decide +kernel
theorem i_X8_keep_33 : xi_dc cX8_keep 33 = some (.invokevirtual 122, 3) := by decide +kernel
theorem i_X8_keep_36 : xi_dc cX8_keep 36 = some (.aload_n 0, 1) := by decide +kernel
theorem i_X8_keep_37 : xi_dc cX8_keep 37 = some (.getfield 21, 3) := by decide +kernel
theorem i_X8_keep_40 : xi_dc cX8_keep 40 = some (.getfield 183, 3) := by decide +kernel
theorem i_X8_keep_43 : xi_dc cX8_keep 43 = some (.ireturn, 1) := by decide +kernel
def P_X8_keep (S : xi_S) : xi_P := (xi_dc cX8_keep, xi_tab xfl_X8, xi_tab xki_X8, xi_tab xkl_X8, xi_tab xcs_X8, xi_tab xcv_X8, xi_calls [(71, xi_wS 2 (F_X8_within S))], xi_calls [(122, xi_wV S 8 1 (F_X6_take S))], 1)
theorem cc_X8_keep_71 (S : xi_S) (a0 : Int32) (a1 : Int32) (m : xi_M) : (P_X8_keep S).2.2.2.2.2.2.1 71 [.int a0, .int a1] m = (E_X8_within S a0 a1 m) := by
  show xi_calls [(71, xi_wS 2 (F_X8_within S))] 71 [.int a0, .int a1] m = _
  refine Eq.trans (b := xi_wS 2 (F_X8_within S) [.int a0, .int a1] m) (xi_calls_hit rfl) ?_
  exact xi_wS_eq rfl
theorem cc_X8_keep_122 (S : xi_S) (a0 : Nat) (a1 : Nat) (m : xi_M) : (P_X8_keep S).2.2.2.2.2.2.2.1 122 [.ref a0, .ref a1] m = (if S.1 a0 = 8 then E_X6_take S a0 a1 m else none) := by
  show xi_calls [(122, xi_wV S 8 1 (F_X6_take S))] 122 [.ref a0, .ref a1] m = _
  refine Eq.trans (b := xi_wV S 8 1 (F_X6_take S) [.ref a0, .ref a1] m) (xi_calls_hit rfl) ?_
  exact xi_wV_eq rfl
def E_X8_keep (S : xi_S) (v0 : Nat) (v1 : Int32) (m : xi_M) : Option xi_R :=
  xi_bI (E_X8_within S v1 (Int32.ofInt 2) m) fun x2 m1 =>
  if x2 = 0 then
    some (some (.int (Int32.ofInt (-1))), m1)
  else
    if S.1 v0 = 10 then (S.2.2 v0 2).bind fun b4 =>
      if S.1 b4 = 8 then
        if (m1.1 b4 1) = 0 then
          some (some (.int ((Int8.ofInt (-4)).toInt32)), m1)
        else
          if S.1 v0 = 10 then (S.2.2 v0 4).bind fun b7 =>
            if (S.1 b7 = 1 ∨ S.1 b7 = 2) ∧ ¬ (v1 < 0 ∨ S.2.1 b7 ≤ Int32.toNatClampNeg v1) then (S.2.2 b7 (Int32.toNatClampNeg v1)).bind fun b9 =>
              if S.1 v0 = 10 then (S.2.2 v0 2).bind fun b11 =>
                xi_bV (if S.1 b9 = 8 then E_X6_take S b9 b11 m1 else none) fun m12 =>
                if S.1 v0 = 10 then (S.2.2 v0 2).bind fun b14 =>
                  if S.1 b14 = 8 then
                    some (some (.int (m12.1 b14 4)), m12)
                  else none
                else none
              else none
            else none
          else none
      else none
    else none
def F_X8_keep (S : xi_S) : xi_F := fun As m => match As with
  | [.ref v0, .int v1] => E_X8_keep S v0 v1 m
  | _ => none
set_option maxRecDepth 100000 in
set_option maxHeartbeats 4000000 in
theorem xe_X8_keep {S : xi_S} {res : xi_R} (v0 : Nat) (v1 : Int32) (m : xi_M) (h : E_X8_keep S v0 v1 m = some res) : xi_X S (P_X8_keep S) (0, [some (.ref v0), some (.int v1)], [], m) res := by
  unfold E_X8_keep at h
  refine xr_iload_n i_X8_keep_0 rfl (q := 1) rfl ?_
  refine xr_iconst i_X8_keep_1 (q := 2) rfl ?_
  obtain ⟨x2, m1, em1, h⟩ := xi_bI_some h
  refine xr_SI i_X8_keep_2 xcse_X8_71 rfl (As := [.int v1, .int (Int32.ofInt 2)]) rfl (rest := []) rfl ((cc_X8_keep_71 S _ _ _).trans em1) (q := 5) rfl ?_
  by_cases c17 : x2 = 0
  · replace h := (if_pos c17).symm.trans h
    refine xr_ifCond_ne_p i_X8_keep_5 c17 (q := 10) t_X8_keep_5 (q2 := 8) rfl ?_
    refine xr_iconst i_X8_keep_8 (q := 9) rfl ?_
    exact xr_ireturn i_X8_keep_9 rfl h
  · replace h := (if_neg c17).symm.trans h
    refine xr_ifCond_ne_n i_X8_keep_5 c17 (q := 10) t_X8_keep_5 (q2 := 8) rfl ?_
    refine xr_aload_n i_X8_keep_10 rfl (q := 11) rfl ?_
    obtain ⟨c3, h⟩ := xi_if_some h
    obtain ⟨b4, eb4, h⟩ := xi_bind_some h
    refine xr_getR i_X8_keep_11 xfe_X8_21 c3 eb4 (q := 14) rfl ?_
    obtain ⟨c5, h⟩ := xi_if_some h
    refine xr_getI i_X8_keep_14 xfe_X8_129 c5 (q := 17) rfl ?_
    by_cases c16 : (m1.1 b4 1) = 0
    · replace h := (if_pos c16).symm.trans h
      refine xr_ifCond_ne_p i_X8_keep_17 c16 (q := 23) t_X8_keep_17 (q2 := 20) rfl ?_
      refine xr_bipush i_X8_keep_20 (q := 22) rfl ?_
      exact xr_ireturn i_X8_keep_22 rfl h
    · replace h := (if_neg c16).symm.trans h
      refine xr_ifCond_ne_n i_X8_keep_17 c16 (q := 23) t_X8_keep_17 (q2 := 20) rfl ?_
      refine xr_aload_n i_X8_keep_23 rfl (q := 24) rfl ?_
      obtain ⟨c6, h⟩ := xi_if_some h
      obtain ⟨b7, eb7, h⟩ := xi_bind_some h
      refine xr_getR i_X8_keep_24 xfe_X8_28 c6 eb7 (q := 27) rfl ?_
      refine xr_iload_n i_X8_keep_27 rfl (q := 28) rfl ?_
      obtain ⟨c8, h⟩ := xi_if_some h
      obtain ⟨b9, eb9, h⟩ := xi_bind_some h
      refine xr_aaload i_X8_keep_28 c8 eb9 (q := 29) rfl ?_
      refine xr_aload_n i_X8_keep_29 rfl (q := 30) rfl ?_
      obtain ⟨c10, h⟩ := xi_if_some h
      obtain ⟨b11, eb11, h⟩ := xi_bind_some h
      refine xr_getR i_X8_keep_30 xfe_X8_21 c10 eb11 (q := 33) rfl ?_
      obtain ⟨m12, em12, h⟩ := xi_bV_some h
      refine xr_VV i_X8_keep_33 xcve_X8_122 rfl (As := [.ref b9, .ref b11]) rfl (rest := []) rfl ((cc_X8_keep_122 S _ _ _).trans em12) (q := 36) rfl ?_
      refine xr_aload_n i_X8_keep_36 rfl (q := 37) rfl ?_
      obtain ⟨c13, h⟩ := xi_if_some h
      obtain ⟨b14, eb14, h⟩ := xi_bind_some h
      refine xr_getR i_X8_keep_37 xfe_X8_21 c13 eb14 (q := 40) rfl ?_
      obtain ⟨c15, h⟩ := xi_if_some h
      refine xr_getI i_X8_keep_40 xfe_X8_183 c15 (q := 43) rfl ?_
      exact xr_ireturn i_X8_keep_43 rfl h
set_option maxRecDepth 100000 in
theorem po_X8_keep {l : Launch} {E : xi_E} {S : xi_S} {D : va_G} {tys : List (ClassId × FieldType)} (hC : xCx E S tys) : xi_Pok l E S D vwCl tys xNs RX8 xTs cX8_keep 2 2 (P_X8_keep S) := ⟨xi_dc_ok, by rw [hC.2]; exact xfo_X8, xkio_X8, xklo_X8, xi_calls_ok (ins := .invokestatic) (List.forall_mem_cons.mpr ⟨(xc_X8_71 (sn_X8_within hC) (by decide)), fun _ h => absurd h List.not_mem_nil⟩), xi_calls_ok (ins := .invokevirtual) (List.forall_mem_cons.mpr ⟨(xc_X8_122 hC.1 (sn_X6_take hC) (by decide)), fun _ h => absurd h List.not_mem_nil⟩)⟩
theorem sn_X8_keep {l : Launch} {E : xi_E} {S : xi_S} {D : va_G} {tys : List (ClassId × FieldType)} (hC : xCx E S tys) : ∀ As m1 r m2, F_X8_keep S As m1 = some (r, m2) → xi_Sound l E S D vwCl tys xNs xTs yX8_keep cX8_keep 2 (some .int) 2 As m1 r m2 := by
  intro As m1 r m2 h
  unfold F_X8_keep at h
  split at h
  · exact xi_meth (P := P_X8_keep S) (by decide) hC.1 (po_X8_keep hC) (Nat.le_of_ble_eq_true rfl) rfl (xe_X8_keep _ _ _ h)
  · exact xi_no h
theorem i_X8_isKept_0 : xi_dc cX8_isKept 0 = some (.aload_n 0, 1) := by decide +kernel
theorem i_X8_isKept_1 : xi_dc cX8_isKept 1 = some (.getfield 28, 3) := by decide +kernel
theorem i_X8_isKept_4 : xi_dc cX8_isKept 4 = some (.iload_n 1, 1) := by decide +kernel
theorem i_X8_isKept_5 : xi_dc cX8_isKept 5 = some (.aaload, 1) := by decide +kernel
theorem i_X8_isKept_6 : xi_dc cX8_isKept 6 = some (.getfield 129, 3) := by decide +kernel
theorem i_X8_isKept_9 : xi_dc cX8_isKept 9 = some (.ifCond .le 7, 3) := by decide +kernel
theorem t_X8_isKept_9 : ((9 : Nat) : Int) + 7 = ((16 : Nat) : Int) := by decide +kernel
theorem i_X8_isKept_12 : xi_dc cX8_isKept 12 = some (.iconst 1, 1) := by decide +kernel
theorem i_X8_isKept_13 : xi_dc cX8_isKept 13 = some (.goto 4, 3) := by decide +kernel
theorem t_X8_isKept_13 : ((13 : Nat) : Int) + 4 = ((17 : Nat) : Int) := by decide +kernel
theorem i_X8_isKept_16 : xi_dc cX8_isKept 16 = some (.iconst 0, 1) := by decide +kernel
theorem i_X8_isKept_17 : xi_dc cX8_isKept 17 = some (.ireturn, 1) := by decide +kernel
def P_X8_isKept (S : xi_S) : xi_P := (xi_dc cX8_isKept, xi_tab xfl_X8, xi_tab xki_X8, xi_tab xkl_X8, xi_tab xcs_X8, xi_tab xcv_X8, xi_calls [], xi_calls [], 2)
def E_X8_isKept (S : xi_S) (v0 : Nat) (v1 : Int32) (m : xi_M) : Option xi_R :=
  if S.1 v0 = 10 then (S.2.2 v0 4).bind fun b2 =>
    if (S.1 b2 = 1 ∨ S.1 b2 = 2) ∧ ¬ (v1 < 0 ∨ S.2.1 b2 ≤ Int32.toNatClampNeg v1) then (S.2.2 b2 (Int32.toNatClampNeg v1)).bind fun b4 =>
      if S.1 b4 = 8 then
        if (m.1 b4 1) ≤ 0 then
          if (Int32.ofInt 0) = 0 ∨ (Int32.ofInt 0) = 1 then some (some (.int (Int32.ofInt 0)), m) else none
        else
          if (Int32.ofInt 1) = 0 ∨ (Int32.ofInt 1) = 1 then some (some (.int (Int32.ofInt 1)), m) else none
      else none
    else none
  else none
def F_X8_isKept (S : xi_S) : xi_F := fun As m => match As with
  | [.ref v0, .int v1] => E_X8_isKept S v0 v1 m
  | _ => none
set_option maxRecDepth 100000 in
set_option maxHeartbeats 4000000 in
theorem xe_X8_isKept {S : xi_S} {res : xi_R} (v0 : Nat) (v1 : Int32) (m : xi_M) (h : E_X8_isKept S v0 v1 m = some res) : xi_X S (P_X8_isKept S) (0, [some (.ref v0), some (.int v1)], [], m) res := by
  unfold E_X8_isKept at h
  refine xr_aload_n i_X8_isKept_0 rfl (q := 1) rfl ?_
  obtain ⟨c1, h⟩ := xi_if_some h
  obtain ⟨b2, eb2, h⟩ := xi_bind_some h
  refine xr_getR i_X8_isKept_1 xfe_X8_28 c1 eb2 (q := 4) rfl ?_
  refine xr_iload_n i_X8_isKept_4 rfl (q := 5) rfl ?_
  obtain ⟨c3, h⟩ := xi_if_some h
  obtain ⟨b4, eb4, h⟩ := xi_bind_some h
  refine xr_aaload i_X8_isKept_5 c3 eb4 (q := 6) rfl ?_
  obtain ⟨c5, h⟩ := xi_if_some h
  refine xr_getI i_X8_isKept_6 xfe_X8_129 c5 (q := 9) rfl ?_
  by_cases c6 : (m.1 b4 1) ≤ 0
  · replace h := (if_pos c6).symm.trans h
    refine xr_ifCond_le_p i_X8_isKept_9 c6 (q := 16) t_X8_isKept_9 (q2 := 12) rfl ?_
    refine xr_iconst i_X8_isKept_16 (q := 17) rfl ?_
    exact xr_zreturn i_X8_isKept_17 rfl h
  · replace h := (if_neg c6).symm.trans h
    refine xr_ifCond_le_n i_X8_isKept_9 c6 (q := 16) t_X8_isKept_9 (q2 := 12) rfl ?_
    refine xr_iconst i_X8_isKept_12 (q := 13) rfl ?_
    refine xr_goto i_X8_isKept_13 (q := 17) t_X8_isKept_13 ?_
    exact xr_zreturn i_X8_isKept_17 rfl h
set_option maxRecDepth 100000 in
theorem po_X8_isKept {l : Launch} {E : xi_E} {S : xi_S} {D : va_G} {tys : List (ClassId × FieldType)} (hC : xCx E S tys) : xi_Pok l E S D vwCl tys xNs RX8 xTs cX8_isKept 2 0 (P_X8_isKept S) := ⟨xi_dc_ok, by rw [hC.2]; exact xfo_X8, xkio_X8, xklo_X8, xi_calls_ok (ins := .invokestatic) (fun _ h => absurd h List.not_mem_nil), xi_calls_ok (ins := .invokevirtual) (fun _ h => absurd h List.not_mem_nil)⟩
theorem sn_X8_isKept {l : Launch} {E : xi_E} {S : xi_S} {D : va_G} {tys : List (ClassId × FieldType)} (hC : xCx E S tys) : ∀ As m1 r m2, F_X8_isKept S As m1 = some (r, m2) → xi_Sound l E S D vwCl tys xNs xTs yX8_isKept cX8_isKept 2 (some .boolean) 0 As m1 r m2 := by
  intro As m1 r m2 h
  unfold F_X8_isKept at h
  split at h
  · exact xi_meth (P := P_X8_isKept S) (by decide) hC.1 (po_X8_isKept hC) (Nat.le_of_ble_eq_true rfl) rfl (xe_X8_isKept _ _ _ h)
  · exact xi_no h
theorem i_X8_on_0 : xi_dc cX8_on 0 = some (.iload_n 1, 1) := by decide +kernel
theorem i_X8_on_1 : xi_dc cX8_on 1 = some (.iconst 2, 1) := by decide +kernel
theorem i_X8_on_2 : xi_dc cX8_on 2 = some (.invokestatic 71, 3) := by decide +kernel
theorem i_X8_on_5 : xi_dc cX8_on 5 = some (.ifCond .ne 5, 3) := by decide +kernel
theorem t_X8_on_5 : ((5 : Nat) : Int) + 5 = ((10 : Nat) : Int) := by decide +kernel
theorem i_X8_on_8 : xi_dc cX8_on 8 = some (.iconst (-1), 1) := by decide +kernel
theorem i_X8_on_9 : xi_dc cX8_on 9 = some (.ireturn, 1) := by decide +kernel
theorem i_X8_on_10 : xi_dc cX8_on 10 = some (.aload_n 0, 1) := by decide +kernel
theorem i_X8_on_11 : xi_dc cX8_on 11 = some (.iload_n 1, 1) := by decide +kernel
theorem i_X8_on_12 : xi_dc cX8_on 12 = some (.invokevirtual 215, 3) := by decide +kernel
theorem i_X8_on_15 : xi_dc cX8_on 15 = some (.ifCond .ne 9, 3) := by decide +kernel
theorem t_X8_on_15 : ((15 : Nat) : Int) + 9 = ((24 : Nat) : Int) := by decide +kernel
theorem i_X8_on_18 : xi_dc cX8_on 18 = some (.aload_n 0, 1) := by decide +kernel
theorem i_X8_on_19 : xi_dc cX8_on 19 = some (.iconst 1, 1) := by decide +kernel
theorem i_X8_on_20 : xi_dc cX8_on 20 = some (.invokevirtual 83, 3) := by decide +kernel
theorem i_X8_on_23 : xi_dc cX8_on 23 = some (.ireturn, 1) := by decide +kernel
theorem i_X8_on_24 : xi_dc cX8_on 24 = some (.aload_n 0, 1) := by decide +kernel
theorem i_X8_on_25 : xi_dc cX8_on 25 = some (.getfield 21, 3) := by decide +kernel
theorem i_X8_on_28 : xi_dc cX8_on 28 = some (.aload_n 0, 1) := by decide +kernel
theorem i_X8_on_29 : xi_dc cX8_on 29 = some (.getfield 28, 3) := by decide +kernel
theorem i_X8_on_32 : xi_dc cX8_on 32 = some (.iload_n 1, 1) := by decide +kernel
theorem i_X8_on_33 : xi_dc cX8_on 33 = some (.aaload, 1) := by decide +kernel
theorem i_X8_on_34 : xi_dc cX8_on 34 = some (.invokevirtual 122, 3) := by decide +kernel
theorem i_X8_on_37 : xi_dc cX8_on 37 = some (.aload_n 0, 1) := by decide +kernel
theorem i_X8_on_38 : xi_dc cX8_on 38 = some (.getfield 21, 3) := by decide +kernel
theorem i_X8_on_41 : xi_dc cX8_on 41 = some (.getfield 183, 3) := by decide +kernel
theorem i_X8_on_44 : xi_dc cX8_on 44 = some (.ireturn, 1) := by decide +kernel
def P_X8_on (S : xi_S) : xi_P := (xi_dc cX8_on, xi_tab xfl_X8, xi_tab xki_X8, xi_tab xkl_X8, xi_tab xcs_X8, xi_tab xcv_X8, xi_calls [(71, xi_wS 2 (F_X8_within S))], xi_calls [(83, xi_wV S 10 1 (F_X8_refuse S)), (122, xi_wV S 8 1 (F_X6_take S)), (215, xi_wV S 10 1 (F_X8_isKept S))], 1)
theorem cc_X8_on_71 (S : xi_S) (a0 : Int32) (a1 : Int32) (m : xi_M) : (P_X8_on S).2.2.2.2.2.2.1 71 [.int a0, .int a1] m = (E_X8_within S a0 a1 m) := by
  show xi_calls [(71, xi_wS 2 (F_X8_within S))] 71 [.int a0, .int a1] m = _
  refine Eq.trans (b := xi_wS 2 (F_X8_within S) [.int a0, .int a1] m) (xi_calls_hit rfl) ?_
  exact xi_wS_eq rfl
theorem cc_X8_on_83 (S : xi_S) (a0 : Nat) (a1 : Int32) (m : xi_M) : (P_X8_on S).2.2.2.2.2.2.2.1 83 [.ref a0, .int a1] m = (if S.1 a0 = 10 then E_X8_refuse S a0 a1 m else none) := by
  show xi_calls [(83, xi_wV S 10 1 (F_X8_refuse S)), (122, xi_wV S 8 1 (F_X6_take S)), (215, xi_wV S 10 1 (F_X8_isKept S))] 83 [.ref a0, .int a1] m = _
  refine Eq.trans (b := xi_wV S 10 1 (F_X8_refuse S) [.ref a0, .int a1] m) (xi_calls_hit rfl) ?_
  exact xi_wV_eq rfl
theorem cc_X8_on_122 (S : xi_S) (a0 : Nat) (a1 : Nat) (m : xi_M) : (P_X8_on S).2.2.2.2.2.2.2.1 122 [.ref a0, .ref a1] m = (if S.1 a0 = 8 then E_X6_take S a0 a1 m else none) := by
  show xi_calls [(83, xi_wV S 10 1 (F_X8_refuse S)), (122, xi_wV S 8 1 (F_X6_take S)), (215, xi_wV S 10 1 (F_X8_isKept S))] 122 [.ref a0, .ref a1] m = _
  refine Eq.trans (b := xi_calls [(122, xi_wV S 8 1 (F_X6_take S)), (215, xi_wV S 10 1 (F_X8_isKept S))] 122 [.ref a0, .ref a1] m) (xi_calls_miss rfl) ?_
  refine Eq.trans (b := xi_wV S 8 1 (F_X6_take S) [.ref a0, .ref a1] m) (xi_calls_hit rfl) ?_
  exact xi_wV_eq rfl
theorem cc_X8_on_215 (S : xi_S) (a0 : Nat) (a1 : Int32) (m : xi_M) : (P_X8_on S).2.2.2.2.2.2.2.1 215 [.ref a0, .int a1] m = (if S.1 a0 = 10 then E_X8_isKept S a0 a1 m else none) := by
  show xi_calls [(83, xi_wV S 10 1 (F_X8_refuse S)), (122, xi_wV S 8 1 (F_X6_take S)), (215, xi_wV S 10 1 (F_X8_isKept S))] 215 [.ref a0, .int a1] m = _
  refine Eq.trans (b := xi_calls [(122, xi_wV S 8 1 (F_X6_take S)), (215, xi_wV S 10 1 (F_X8_isKept S))] 215 [.ref a0, .int a1] m) (xi_calls_miss rfl) ?_
  refine Eq.trans (b := xi_calls [(215, xi_wV S 10 1 (F_X8_isKept S))] 215 [.ref a0, .int a1] m) (xi_calls_miss rfl) ?_
  refine Eq.trans (b := xi_wV S 10 1 (F_X8_isKept S) [.ref a0, .int a1] m) (xi_calls_hit rfl) ?_
  exact xi_wV_eq rfl
def E_X8_on (S : xi_S) (v0 : Nat) (v1 : Int32) (m : xi_M) : Option xi_R :=
  xi_bI (E_X8_within S v1 (Int32.ofInt 2) m) fun x2 m1 =>
  if x2 = 0 then
    some (some (.int (Int32.ofInt (-1))), m1)
  else
    xi_bI (if S.1 v0 = 10 then E_X8_isKept S v0 v1 m1 else none) fun x4 m3 =>
    if x4 = 0 then
      xi_bI (if S.1 v0 = 10 then E_X8_refuse S v0 (Int32.ofInt 1) m3 else none) fun x16 m15 =>
      some (some (.int x16), m15)
    else
      if S.1 v0 = 10 then (S.2.2 v0 2).bind fun b6 =>
        if S.1 v0 = 10 then (S.2.2 v0 4).bind fun b8 =>
          if (S.1 b8 = 1 ∨ S.1 b8 = 2) ∧ ¬ (v1 < 0 ∨ S.2.1 b8 ≤ Int32.toNatClampNeg v1) then (S.2.2 b8 (Int32.toNatClampNeg v1)).bind fun b10 =>
            xi_bV (if S.1 b6 = 8 then E_X6_take S b6 b10 m3 else none) fun m11 =>
            if S.1 v0 = 10 then (S.2.2 v0 2).bind fun b13 =>
              if S.1 b13 = 8 then
                some (some (.int (m11.1 b13 4)), m11)
              else none
            else none
          else none
        else none
      else none
def F_X8_on (S : xi_S) : xi_F := fun As m => match As with
  | [.ref v0, .int v1] => E_X8_on S v0 v1 m
  | _ => none
set_option maxRecDepth 100000 in
set_option maxHeartbeats 4000000 in
theorem xe_X8_on {S : xi_S} {res : xi_R} (v0 : Nat) (v1 : Int32) (m : xi_M) (h : E_X8_on S v0 v1 m = some res) : xi_X S (P_X8_on S) (0, [some (.ref v0), some (.int v1)], [], m) res := by
  unfold E_X8_on at h
  refine xr_iload_n i_X8_on_0 rfl (q := 1) rfl ?_
  refine xr_iconst i_X8_on_1 (q := 2) rfl ?_
  obtain ⟨x2, m1, em1, h⟩ := xi_bI_some h
  refine xr_SI i_X8_on_2 xcse_X8_71 rfl (As := [.int v1, .int (Int32.ofInt 2)]) rfl (rest := []) rfl ((cc_X8_on_71 S _ _ _).trans em1) (q := 5) rfl ?_
  by_cases c18 : x2 = 0
  · replace h := (if_pos c18).symm.trans h
    refine xr_ifCond_ne_p i_X8_on_5 c18 (q := 10) t_X8_on_5 (q2 := 8) rfl ?_
    refine xr_iconst i_X8_on_8 (q := 9) rfl ?_
    exact xr_ireturn i_X8_on_9 rfl h
  · replace h := (if_neg c18).symm.trans h
    refine xr_ifCond_ne_n i_X8_on_5 c18 (q := 10) t_X8_on_5 (q2 := 8) rfl ?_
    refine xr_aload_n i_X8_on_10 rfl (q := 11) rfl ?_
    refine xr_iload_n i_X8_on_11 rfl (q := 12) rfl ?_
    obtain ⟨x4, m3, em3, h⟩ := xi_bI_some h
    refine xr_VI i_X8_on_12 xcve_X8_215 rfl (As := [.ref v0, .int v1]) rfl (rest := []) rfl ((cc_X8_on_215 S _ _ _).trans em3) (q := 15) rfl ?_
    by_cases c17 : x4 = 0
    · replace h := (if_pos c17).symm.trans h
      refine xr_ifCond_ne_p i_X8_on_15 c17 (q := 24) t_X8_on_15 (q2 := 18) rfl ?_
      refine xr_aload_n i_X8_on_18 rfl (q := 19) rfl ?_
      refine xr_iconst i_X8_on_19 (q := 20) rfl ?_
      obtain ⟨x16, m15, em15, h⟩ := xi_bI_some h
      refine xr_VI i_X8_on_20 xcve_X8_83 rfl (As := [.ref v0, .int (Int32.ofInt 1)]) rfl (rest := []) rfl ((cc_X8_on_83 S _ _ _).trans em15) (q := 23) rfl ?_
      exact xr_ireturn i_X8_on_23 rfl h
    · replace h := (if_neg c17).symm.trans h
      refine xr_ifCond_ne_n i_X8_on_15 c17 (q := 24) t_X8_on_15 (q2 := 18) rfl ?_
      refine xr_aload_n i_X8_on_24 rfl (q := 25) rfl ?_
      obtain ⟨c5, h⟩ := xi_if_some h
      obtain ⟨b6, eb6, h⟩ := xi_bind_some h
      refine xr_getR i_X8_on_25 xfe_X8_21 c5 eb6 (q := 28) rfl ?_
      refine xr_aload_n i_X8_on_28 rfl (q := 29) rfl ?_
      obtain ⟨c7, h⟩ := xi_if_some h
      obtain ⟨b8, eb8, h⟩ := xi_bind_some h
      refine xr_getR i_X8_on_29 xfe_X8_28 c7 eb8 (q := 32) rfl ?_
      refine xr_iload_n i_X8_on_32 rfl (q := 33) rfl ?_
      obtain ⟨c9, h⟩ := xi_if_some h
      obtain ⟨b10, eb10, h⟩ := xi_bind_some h
      refine xr_aaload i_X8_on_33 c9 eb10 (q := 34) rfl ?_
      obtain ⟨m11, em11, h⟩ := xi_bV_some h
      refine xr_VV i_X8_on_34 xcve_X8_122 rfl (As := [.ref b6, .ref b10]) rfl (rest := []) rfl ((cc_X8_on_122 S _ _ _).trans em11) (q := 37) rfl ?_
      refine xr_aload_n i_X8_on_37 rfl (q := 38) rfl ?_
      obtain ⟨c12, h⟩ := xi_if_some h
      obtain ⟨b13, eb13, h⟩ := xi_bind_some h
      refine xr_getR i_X8_on_38 xfe_X8_21 c12 eb13 (q := 41) rfl ?_
      obtain ⟨c14, h⟩ := xi_if_some h
      refine xr_getI i_X8_on_41 xfe_X8_183 c14 (q := 44) rfl ?_
      exact xr_ireturn i_X8_on_44 rfl h
set_option maxRecDepth 100000 in
theorem po_X8_on {l : Launch} {E : xi_E} {S : xi_S} {D : va_G} {tys : List (ClassId × FieldType)} (hC : xCx E S tys) : xi_Pok l E S D vwCl tys xNs RX8 xTs cX8_on 2 2 (P_X8_on S) := ⟨xi_dc_ok, by rw [hC.2]; exact xfo_X8, xkio_X8, xklo_X8, xi_calls_ok (ins := .invokestatic) (List.forall_mem_cons.mpr ⟨(xc_X8_71 (sn_X8_within hC) (by decide)), fun _ h => absurd h List.not_mem_nil⟩), xi_calls_ok (ins := .invokevirtual) (List.forall_mem_cons.mpr ⟨(xc_X8_83 hC.1 (sn_X8_refuse hC) (by decide)), List.forall_mem_cons.mpr ⟨(xc_X8_122 hC.1 (sn_X6_take hC) (by decide)), List.forall_mem_cons.mpr ⟨(xc_X8_215 hC.1 (sn_X8_isKept hC) (by decide)), fun _ h => absurd h List.not_mem_nil⟩⟩⟩)⟩
theorem sn_X8_on {l : Launch} {E : xi_E} {S : xi_S} {D : va_G} {tys : List (ClassId × FieldType)} (hC : xCx E S tys) : ∀ As m1 r m2, F_X8_on S As m1 = some (r, m2) → xi_Sound l E S D vwCl tys xNs xTs yX8_on cX8_on 2 (some .int) 2 As m1 r m2 := by
  intro As m1 r m2 h
  unfold F_X8_on at h
  split at h
  · exact xi_meth (P := P_X8_on S) (by decide) hC.1 (po_X8_on hC) (Nat.le_of_ble_eq_true rfl) rfl (xe_X8_on _ _ _ h)
  · exact xi_no h
theorem i_X8_lands_0 : xi_dc cX8_lands 0 = some (.aload_n 0, 1) := by decide +kernel
theorem i_X8_lands_1 : xi_dc cX8_lands 1 = some (.getfield 21, 3) := by decide +kernel
theorem i_X8_lands_4 : xi_dc cX8_lands 4 = some (.iload_n 1, 1) := by decide +kernel
theorem i_X8_lands_5 : xi_dc cX8_lands 5 = some (.invokevirtual 132, 3) := by decide +kernel
theorem i_X8_lands_8 : xi_dc cX8_lands 8 = some (.ifCond .eq 20, 3) := by decide +kernel
theorem t_X8_lands_8 : ((8 : Nat) : Int) + 20 = ((28 : Nat) : Int) := by decide +kernel
theorem i_X8_lands_11 : xi_dc cX8_lands 11 = some (.iload_n 2, 1) := by decide +kernel
theorem i_X8_lands_12 : xi_dc cX8_lands 12 = some (.bipush 20, 2) := by decide +kernel
theorem i_X8_lands_14 : xi_dc cX8_lands 14 = some (.invokestatic 71, 3) := by decide +kernel
theorem i_X8_lands_17 : xi_dc cX8_lands 17 = some (.ifCond .eq 11, 3) := by decide +kernel
theorem t_X8_lands_17 : ((17 : Nat) : Int) + 11 = ((28 : Nat) : Int) := by decide +kernel
theorem i_X8_lands_20 : xi_dc cX8_lands 20 = some (.iload_n 3, 1) := by decide +kernel
theorem i_X8_lands_21 : xi_dc cX8_lands 21 = some (.iconst 1, 1) := by decide +kernel
theorem i_X8_lands_22 : xi_dc cX8_lands 22 = some (.invokestatic 71, 3) := by decide +kernel
theorem i_X8_lands_25 : xi_dc cX8_lands 25 = some (.ifCond .ne 5, 3) := by decide +kernel
theorem t_X8_lands_25 : ((25 : Nat) : Int) + 5 = ((30 : Nat) : Int) := by decide +kernel
theorem i_X8_lands_28 : xi_dc cX8_lands 28 = some (.iconst (-1), 1) := by decide +kernel
theorem i_X8_lands_29 : xi_dc cX8_lands 29 = some (.ireturn, 1) := by decide +kernel
theorem i_X8_lands_30 : xi_dc cX8_lands 30 = some (.aload_n 0, 1) := by decide +kernel
theorem i_X8_lands_31 : xi_dc cX8_lands 31 = some (.getfield 21, 3) := by decide +kernel
theorem i_X8_lands_34 : xi_dc cX8_lands 34 = some (.iload_n 1, 1) := by decide +kernel
theorem i_X8_lands_35 : xi_dc cX8_lands 35 = some (.iload_n 2, 1) := by decide +kernel
theorem i_X8_lands_36 : xi_dc cX8_lands 36 = some (.iload_n 3, 1) := by decide +kernel
theorem i_X8_lands_37 : xi_dc cX8_lands 37 = some (.invokevirtual 179, 3) := by decide +kernel
theorem i_X8_lands_40 : xi_dc cX8_lands 40 = some (.ireturn, 1) := by decide +kernel
def P_X8_lands (S : xi_S) : xi_P := (xi_dc cX8_lands, xi_tab xfl_X8, xi_tab xki_X8, xi_tab xkl_X8, xi_tab xcs_X8, xi_tab xcv_X8, xi_calls [(71, xi_wS 2 (F_X8_within S))], xi_calls [(132, xi_wV S 8 1 (F_X6_hasPlayer S)), (179, xi_wV S 8 3 (F_X6_landingFrom S))], 1)
theorem cc_X8_lands_71 (S : xi_S) (a0 : Int32) (a1 : Int32) (m : xi_M) : (P_X8_lands S).2.2.2.2.2.2.1 71 [.int a0, .int a1] m = (E_X8_within S a0 a1 m) := by
  show xi_calls [(71, xi_wS 2 (F_X8_within S))] 71 [.int a0, .int a1] m = _
  refine Eq.trans (b := xi_wS 2 (F_X8_within S) [.int a0, .int a1] m) (xi_calls_hit rfl) ?_
  exact xi_wS_eq rfl
theorem cc_X8_lands_132 (S : xi_S) (a0 : Nat) (a1 : Int32) (m : xi_M) : (P_X8_lands S).2.2.2.2.2.2.2.1 132 [.ref a0, .int a1] m = (if S.1 a0 = 8 then E_X6_hasPlayer S a0 a1 m else none) := by
  show xi_calls [(132, xi_wV S 8 1 (F_X6_hasPlayer S)), (179, xi_wV S 8 3 (F_X6_landingFrom S))] 132 [.ref a0, .int a1] m = _
  refine Eq.trans (b := xi_wV S 8 1 (F_X6_hasPlayer S) [.ref a0, .int a1] m) (xi_calls_hit rfl) ?_
  exact xi_wV_eq rfl
theorem cc_X8_lands_179 (S : xi_S) (a0 : Nat) (a1 : Int32) (a2 : Int32) (a3 : Int32) (m : xi_M) : (P_X8_lands S).2.2.2.2.2.2.2.1 179 [.ref a0, .int a1, .int a2, .int a3] m = (if S.1 a0 = 8 then E_X6_landingFrom S a0 a1 a2 a3 m else none) := by
  show xi_calls [(132, xi_wV S 8 1 (F_X6_hasPlayer S)), (179, xi_wV S 8 3 (F_X6_landingFrom S))] 179 [.ref a0, .int a1, .int a2, .int a3] m = _
  refine Eq.trans (b := xi_calls [(179, xi_wV S 8 3 (F_X6_landingFrom S))] 179 [.ref a0, .int a1, .int a2, .int a3] m) (xi_calls_miss rfl) ?_
  refine Eq.trans (b := xi_wV S 8 3 (F_X6_landingFrom S) [.ref a0, .int a1, .int a2, .int a3] m) (xi_calls_hit rfl) ?_
  exact xi_wV_eq rfl
def E_X8_lands (S : xi_S) (v0 : Nat) (v1 : Int32) (v2 : Int32) (v3 : Int32) (m : xi_M) : Option xi_R :=
  if S.1 v0 = 10 then (S.2.2 v0 2).bind fun b2 =>
    xi_bI (if S.1 b2 = 8 then E_X6_hasPlayer S b2 v1 m else none) fun x4 m3 =>
    if x4 = 0 then
      some (some (.int (Int32.ofInt (-1))), m3)
    else
      xi_bI (E_X8_within S v2 ((Int8.ofInt 20).toInt32) m3) fun x6 m5 =>
      if x6 = 0 then
        some (some (.int (Int32.ofInt (-1))), m5)
      else
        xi_bI (E_X8_within S v3 (Int32.ofInt 1) m5) fun x8 m7 =>
        if x8 = 0 then
          some (some (.int (Int32.ofInt (-1))), m7)
        else
          if S.1 v0 = 10 then (S.2.2 v0 2).bind fun b10 =>
            xi_bI (if S.1 b10 = 8 then E_X6_landingFrom S b10 v1 v2 v3 m7 else none) fun x12 m11 =>
            some (some (.int x12), m11)
          else none
  else none
def F_X8_lands (S : xi_S) : xi_F := fun As m => match As with
  | [.ref v0, .int v1, .int v2, .int v3] => E_X8_lands S v0 v1 v2 v3 m
  | _ => none
set_option maxRecDepth 100000 in
set_option maxHeartbeats 4000000 in
theorem xe_X8_lands {S : xi_S} {res : xi_R} (v0 : Nat) (v1 : Int32) (v2 : Int32) (v3 : Int32) (m : xi_M) (h : E_X8_lands S v0 v1 v2 v3 m = some res) : xi_X S (P_X8_lands S) (0, [some (.ref v0), some (.int v1), some (.int v2), some (.int v3)], [], m) res := by
  unfold E_X8_lands at h
  refine xr_aload_n i_X8_lands_0 rfl (q := 1) rfl ?_
  obtain ⟨c1, h⟩ := xi_if_some h
  obtain ⟨b2, eb2, h⟩ := xi_bind_some h
  refine xr_getR i_X8_lands_1 xfe_X8_21 c1 eb2 (q := 4) rfl ?_
  refine xr_iload_n i_X8_lands_4 rfl (q := 5) rfl ?_
  obtain ⟨x4, m3, em3, h⟩ := xi_bI_some h
  refine xr_VI i_X8_lands_5 xcve_X8_132 rfl (As := [.ref b2, .int v1]) rfl (rest := []) rfl ((cc_X8_lands_132 S _ _ _).trans em3) (q := 8) rfl ?_
  by_cases c15 : x4 = 0
  · replace h := (if_pos c15).symm.trans h
    refine xr_ifCond_eq_p i_X8_lands_8 c15 (q := 28) t_X8_lands_8 (q2 := 11) rfl ?_
    refine xr_iconst i_X8_lands_28 (q := 29) rfl ?_
    exact xr_ireturn i_X8_lands_29 rfl h
  · replace h := (if_neg c15).symm.trans h
    refine xr_ifCond_eq_n i_X8_lands_8 c15 (q := 28) t_X8_lands_8 (q2 := 11) rfl ?_
    refine xr_iload_n i_X8_lands_11 rfl (q := 12) rfl ?_
    refine xr_bipush i_X8_lands_12 (q := 14) rfl ?_
    obtain ⟨x6, m5, em5, h⟩ := xi_bI_some h
    refine xr_SI i_X8_lands_14 xcse_X8_71 rfl (As := [.int v2, .int ((Int8.ofInt 20).toInt32)]) rfl (rest := []) rfl ((cc_X8_lands_71 S _ _ _).trans em5) (q := 17) rfl ?_
    by_cases c14 : x6 = 0
    · replace h := (if_pos c14).symm.trans h
      refine xr_ifCond_eq_p i_X8_lands_17 c14 (q := 28) t_X8_lands_17 (q2 := 20) rfl ?_
      refine xr_iconst i_X8_lands_28 (q := 29) rfl ?_
      exact xr_ireturn i_X8_lands_29 rfl h
    · replace h := (if_neg c14).symm.trans h
      refine xr_ifCond_eq_n i_X8_lands_17 c14 (q := 28) t_X8_lands_17 (q2 := 20) rfl ?_
      refine xr_iload_n i_X8_lands_20 rfl (q := 21) rfl ?_
      refine xr_iconst i_X8_lands_21 (q := 22) rfl ?_
      obtain ⟨x8, m7, em7, h⟩ := xi_bI_some h
      refine xr_SI i_X8_lands_22 xcse_X8_71 rfl (As := [.int v3, .int (Int32.ofInt 1)]) rfl (rest := []) rfl ((cc_X8_lands_71 S _ _ _).trans em7) (q := 25) rfl ?_
      by_cases c13 : x8 = 0
      · replace h := (if_pos c13).symm.trans h
        refine xr_ifCond_ne_p i_X8_lands_25 c13 (q := 30) t_X8_lands_25 (q2 := 28) rfl ?_
        refine xr_iconst i_X8_lands_28 (q := 29) rfl ?_
        exact xr_ireturn i_X8_lands_29 rfl h
      · replace h := (if_neg c13).symm.trans h
        refine xr_ifCond_ne_n i_X8_lands_25 c13 (q := 30) t_X8_lands_25 (q2 := 28) rfl ?_
        refine xr_aload_n i_X8_lands_30 rfl (q := 31) rfl ?_
        obtain ⟨c9, h⟩ := xi_if_some h
        obtain ⟨b10, eb10, h⟩ := xi_bind_some h
        refine xr_getR i_X8_lands_31 xfe_X8_21 c9 eb10 (q := 34) rfl ?_
        refine xr_iload_n i_X8_lands_34 rfl (q := 35) rfl ?_
        refine xr_iload_n i_X8_lands_35 rfl (q := 36) rfl ?_
        refine xr_iload_n i_X8_lands_36 rfl (q := 37) rfl ?_
        obtain ⟨x12, m11, em11, h⟩ := xi_bI_some h
        refine xr_VI i_X8_lands_37 xcve_X8_179 rfl (As := [.ref b10, .int v1, .int v2, .int v3]) rfl (rest := []) rfl ((cc_X8_lands_179 S _ _ _ _ _).trans em11) (q := 40) rfl ?_
        exact xr_ireturn i_X8_lands_40 rfl h
set_option maxRecDepth 100000 in
theorem po_X8_lands {l : Launch} {E : xi_E} {S : xi_S} {D : va_G} {tys : List (ClassId × FieldType)} (hC : xCx E S tys) : xi_Pok l E S D vwCl tys xNs RX8 xTs cX8_lands 4 3 (P_X8_lands S) := ⟨xi_dc_ok, by rw [hC.2]; exact xfo_X8, xkio_X8, xklo_X8, xi_calls_ok (ins := .invokestatic) (List.forall_mem_cons.mpr ⟨(xc_X8_71 (sn_X8_within hC) (by decide)), fun _ h => absurd h List.not_mem_nil⟩), xi_calls_ok (ins := .invokevirtual) (List.forall_mem_cons.mpr ⟨(xc_X8_132 hC.1 (sn_X6_hasPlayer hC) (by decide)), List.forall_mem_cons.mpr ⟨(xc_X8_179 hC.1 (sn_X6_landingFrom hC) (by decide)), fun _ h => absurd h List.not_mem_nil⟩⟩)⟩
theorem sn_X8_lands {l : Launch} {E : xi_E} {S : xi_S} {D : va_G} {tys : List (ClassId × FieldType)} (hC : xCx E S tys) : ∀ As m1 r m2, F_X8_lands S As m1 = some (r, m2) → xi_Sound l E S D vwCl tys xNs xTs yX8_lands cX8_lands 4 (some .int) 3 As m1 r m2 := by
  intro As m1 r m2 h
  unfold F_X8_lands at h
  split at h
  · exact xi_meth (P := P_X8_lands S) (by decide) hC.1 (po_X8_lands hC) (Nat.le_of_ble_eq_true rfl) rfl (xe_X8_lands _ _ _ _ _ h)
  · exact xi_no h
theorem i_X8_in_0 : xi_dc cX8_in 0 = some (.iload_n 1, 1) := by decide +kernel
theorem i_X8_in_1 : xi_dc cX8_in 1 = some (.iconst 1, 1) := by decide +kernel
theorem i_X8_in_2 : xi_dc cX8_in 2 = some (.invokestatic 71, 3) := by decide +kernel
theorem i_X8_in_5 : xi_dc cX8_in 5 = some (.ifCond .eq 12, 3) := by decide +kernel
theorem t_X8_in_5 : ((5 : Nat) : Int) + 12 = ((17 : Nat) : Int) := by decide +kernel
theorem i_X8_in_8 : xi_dc cX8_in 8 = some (.iload_n 2, 1) := by decide +kernel
theorem i_X8_in_9 : xi_dc cX8_in 9 = some (.bipush 20, 2) := by decide +kernel
theorem i_X8_in_11 : xi_dc cX8_in 11 = some (.invokestatic 71, 3) := by decide +kernel
theorem i_X8_in_14 : xi_dc cX8_in 14 = some (.ifCond .ne 5, 3) := by decide +kernel
theorem t_X8_in_14 : ((14 : Nat) : Int) + 5 = ((19 : Nat) : Int) := by decide +kernel
theorem i_X8_in_17 : xi_dc cX8_in 17 = some (.iconst (-1), 1) := by decide +kernel
theorem i_X8_in_18 : xi_dc cX8_in 18 = some (.ireturn, 1) := by decide +kernel
theorem i_X8_in_19 : xi_dc cX8_in 19 = some (.aload_n 0, 1) := by decide +kernel
theorem i_X8_in_20 : xi_dc cX8_in 20 = some (.getfield 21, 3) := by decide +kernel
theorem i_X8_in_23 : xi_dc cX8_in 23 = some (.getfield 129, 3) := by decide +kernel
theorem i_X8_in_26 : xi_dc cX8_in 26 = some (.ifCond .ne 6, 3) := by decide +kernel
theorem t_X8_in_26 : ((26 : Nat) : Int) + 6 = ((32 : Nat) : Int) := by decide +kernel
theorem i_X8_in_29 : xi_dc cX8_in 29 = some (.bipush (-4), 2) := by decide +kernel
theorem i_X8_in_31 : xi_dc cX8_in 31 = some (.ireturn, 1) := by decide +kernel
theorem i_X8_in_32 : xi_dc cX8_in 32 = some (.aload_n 0, 1) := by decide +kernel
theorem i_X8_in_33 : xi_dc cX8_in 33 = some (.getfield 21, 3) := by decide +kernel
theorem i_X8_in_36 : xi_dc cX8_in 36 = some (.iload_n 1, 1) := by decide +kernel
theorem i_X8_in_37 : xi_dc cX8_in 37 = some (.invokevirtual 218, 3) := by decide +kernel
theorem i_X8_in_40 : xi_dc cX8_in 40 = some (.iload_n 2, 1) := by decide +kernel
theorem i_X8_in_41 : xi_dc cX8_in 41 = some (.ishr, 1) := by decide +kernel
theorem i_X8_in_42 : xi_dc cX8_in 42 = some (.iconst 1, 1) := by decide +kernel
theorem i_X8_in_43 : xi_dc cX8_in 43 = some (.iand, 1) := by decide +kernel
theorem i_X8_in_44 : xi_dc cX8_in 44 = some (.ireturn, 1) := by decide +kernel
def P_X8_in (S : xi_S) : xi_P := (xi_dc cX8_in, xi_tab xfl_X8, xi_tab xki_X8, xi_tab xkl_X8, xi_tab xcs_X8, xi_tab xcv_X8, xi_calls [(71, xi_wS 2 (F_X8_within S))], xi_calls [(218, xi_wV S 8 1 (F_X6_inPlaces S))], 1)
theorem cc_X8_in_71 (S : xi_S) (a0 : Int32) (a1 : Int32) (m : xi_M) : (P_X8_in S).2.2.2.2.2.2.1 71 [.int a0, .int a1] m = (E_X8_within S a0 a1 m) := by
  show xi_calls [(71, xi_wS 2 (F_X8_within S))] 71 [.int a0, .int a1] m = _
  refine Eq.trans (b := xi_wS 2 (F_X8_within S) [.int a0, .int a1] m) (xi_calls_hit rfl) ?_
  exact xi_wS_eq rfl
theorem cc_X8_in_218 (S : xi_S) (a0 : Nat) (a1 : Int32) (m : xi_M) : (P_X8_in S).2.2.2.2.2.2.2.1 218 [.ref a0, .int a1] m = (if S.1 a0 = 8 then E_X6_inPlaces S a0 a1 m else none) := by
  show xi_calls [(218, xi_wV S 8 1 (F_X6_inPlaces S))] 218 [.ref a0, .int a1] m = _
  refine Eq.trans (b := xi_wV S 8 1 (F_X6_inPlaces S) [.ref a0, .int a1] m) (xi_calls_hit rfl) ?_
  exact xi_wV_eq rfl
def E_X8_in (S : xi_S) (v0 : Nat) (v1 : Int32) (v2 : Int32) (m : xi_M) : Option xi_R :=
  xi_bI (E_X8_within S v1 (Int32.ofInt 1) m) fun x2 m1 =>
  if x2 = 0 then
    some (some (.int (Int32.ofInt (-1))), m1)
  else
    xi_bI (E_X8_within S v2 ((Int8.ofInt 20).toInt32) m1) fun x4 m3 =>
    if x4 = 0 then
      some (some (.int (Int32.ofInt (-1))), m3)
    else
      if S.1 v0 = 10 then (S.2.2 v0 2).bind fun b6 =>
        if S.1 b6 = 8 then
          if (m3.1 b6 1) = 0 then
            some (some (.int ((Int8.ofInt (-4)).toInt32)), m3)
          else
            if S.1 v0 = 10 then (S.2.2 v0 2).bind fun b9 =>
              xi_bI (if S.1 b9 = 8 then E_X6_inPlaces S b9 v1 m3 else none) fun x11 m10 =>
              some (some (.int ((x11 >>> (v2 &&& 31)) &&& (Int32.ofInt 1))), m10)
            else none
        else none
      else none
def F_X8_in (S : xi_S) : xi_F := fun As m => match As with
  | [.ref v0, .int v1, .int v2] => E_X8_in S v0 v1 v2 m
  | _ => none
set_option maxRecDepth 100000 in
set_option maxHeartbeats 4000000 in
theorem xe_X8_in {S : xi_S} {res : xi_R} (v0 : Nat) (v1 : Int32) (v2 : Int32) (m : xi_M) (h : E_X8_in S v0 v1 v2 m = some res) : xi_X S (P_X8_in S) (0, [some (.ref v0), some (.int v1), some (.int v2)], [], m) res := by
  unfold E_X8_in at h
  refine xr_iload_n i_X8_in_0 rfl (q := 1) rfl ?_
  refine xr_iconst i_X8_in_1 (q := 2) rfl ?_
  obtain ⟨x2, m1, em1, h⟩ := xi_bI_some h
  refine xr_SI i_X8_in_2 xcse_X8_71 rfl (As := [.int v1, .int (Int32.ofInt 1)]) rfl (rest := []) rfl ((cc_X8_in_71 S _ _ _).trans em1) (q := 5) rfl ?_
  by_cases c14 : x2 = 0
  · replace h := (if_pos c14).symm.trans h
    refine xr_ifCond_eq_p i_X8_in_5 c14 (q := 17) t_X8_in_5 (q2 := 8) rfl ?_
    refine xr_iconst i_X8_in_17 (q := 18) rfl ?_
    exact xr_ireturn i_X8_in_18 rfl h
  · replace h := (if_neg c14).symm.trans h
    refine xr_ifCond_eq_n i_X8_in_5 c14 (q := 17) t_X8_in_5 (q2 := 8) rfl ?_
    refine xr_iload_n i_X8_in_8 rfl (q := 9) rfl ?_
    refine xr_bipush i_X8_in_9 (q := 11) rfl ?_
    obtain ⟨x4, m3, em3, h⟩ := xi_bI_some h
    refine xr_SI i_X8_in_11 xcse_X8_71 rfl (As := [.int v2, .int ((Int8.ofInt 20).toInt32)]) rfl (rest := []) rfl ((cc_X8_in_71 S _ _ _).trans em3) (q := 14) rfl ?_
    by_cases c13 : x4 = 0
    · replace h := (if_pos c13).symm.trans h
      refine xr_ifCond_ne_p i_X8_in_14 c13 (q := 19) t_X8_in_14 (q2 := 17) rfl ?_
      refine xr_iconst i_X8_in_17 (q := 18) rfl ?_
      exact xr_ireturn i_X8_in_18 rfl h
    · replace h := (if_neg c13).symm.trans h
      refine xr_ifCond_ne_n i_X8_in_14 c13 (q := 19) t_X8_in_14 (q2 := 17) rfl ?_
      refine xr_aload_n i_X8_in_19 rfl (q := 20) rfl ?_
      obtain ⟨c5, h⟩ := xi_if_some h
      obtain ⟨b6, eb6, h⟩ := xi_bind_some h
      refine xr_getR i_X8_in_20 xfe_X8_21 c5 eb6 (q := 23) rfl ?_
      obtain ⟨c7, h⟩ := xi_if_some h
      refine xr_getI i_X8_in_23 xfe_X8_129 c7 (q := 26) rfl ?_
      by_cases c12 : (m3.1 b6 1) = 0
      · replace h := (if_pos c12).symm.trans h
        refine xr_ifCond_ne_p i_X8_in_26 c12 (q := 32) t_X8_in_26 (q2 := 29) rfl ?_
        refine xr_bipush i_X8_in_29 (q := 31) rfl ?_
        exact xr_ireturn i_X8_in_31 rfl h
      · replace h := (if_neg c12).symm.trans h
        refine xr_ifCond_ne_n i_X8_in_26 c12 (q := 32) t_X8_in_26 (q2 := 29) rfl ?_
        refine xr_aload_n i_X8_in_32 rfl (q := 33) rfl ?_
        obtain ⟨c8, h⟩ := xi_if_some h
        obtain ⟨b9, eb9, h⟩ := xi_bind_some h
        refine xr_getR i_X8_in_33 xfe_X8_21 c8 eb9 (q := 36) rfl ?_
        refine xr_iload_n i_X8_in_36 rfl (q := 37) rfl ?_
        obtain ⟨x11, m10, em10, h⟩ := xi_bI_some h
        refine xr_VI i_X8_in_37 xcve_X8_218 rfl (As := [.ref b9, .int v1]) rfl (rest := []) rfl ((cc_X8_in_218 S _ _ _).trans em10) (q := 40) rfl ?_
        refine xr_iload_n i_X8_in_40 rfl (q := 41) rfl ?_
        refine xr_ishr i_X8_in_41 (q := 42) rfl ?_
        refine xr_iconst i_X8_in_42 (q := 43) rfl ?_
        refine xr_iand i_X8_in_43 (q := 44) rfl ?_
        exact xr_ireturn i_X8_in_44 rfl h
set_option maxRecDepth 100000 in
theorem po_X8_in {l : Launch} {E : xi_E} {S : xi_S} {D : va_G} {tys : List (ClassId × FieldType)} (hC : xCx E S tys) : xi_Pok l E S D vwCl tys xNs RX8 xTs cX8_in 3 4 (P_X8_in S) := ⟨xi_dc_ok, by rw [hC.2]; exact xfo_X8, xkio_X8, xklo_X8, xi_calls_ok (ins := .invokestatic) (List.forall_mem_cons.mpr ⟨(xc_X8_71 (sn_X8_within hC) (by decide)), fun _ h => absurd h List.not_mem_nil⟩), xi_calls_ok (ins := .invokevirtual) (List.forall_mem_cons.mpr ⟨(xc_X8_218 hC.1 (sn_X6_inPlaces hC) (by decide)), fun _ h => absurd h List.not_mem_nil⟩)⟩
theorem sn_X8_in {l : Launch} {E : xi_E} {S : xi_S} {D : va_G} {tys : List (ClassId × FieldType)} (hC : xCx E S tys) : ∀ As m1 r m2, F_X8_in S As m1 = some (r, m2) → xi_Sound l E S D vwCl tys xNs xTs yX8_in cX8_in 3 (some .int) 4 As m1 r m2 := by
  intro As m1 r m2 h
  unfold F_X8_in at h
  split at h
  · exact xi_meth (P := P_X8_in S) (by decide) hC.1 (po_X8_in hC) (Nat.le_of_ble_eq_true rfl) rfl (xe_X8_in _ _ _ _ h)
  · exact xi_no h
theorem i_X8_seen_0 : xi_dc cX8_seen 0 = some (.iload_n 1, 1) := by decide +kernel
theorem i_X8_seen_1 : xi_dc cX8_seen 1 = some (.iconst 3, 1) := by decide +kernel
theorem i_X8_seen_2 : xi_dc cX8_seen 2 = some (.invokestatic 71, 3) := by decide +kernel
theorem i_X8_seen_5 : xi_dc cX8_seen 5 = some (.ifCond .ne 5, 3) := by decide +kernel
theorem t_X8_seen_5 : ((5 : Nat) : Int) + 5 = ((10 : Nat) : Int) := by decide +kernel
theorem i_X8_seen_8 : xi_dc cX8_seen 8 = some (.iconst (-1), 1) := by decide +kernel
theorem i_X8_seen_9 : xi_dc cX8_seen 9 = some (.ireturn, 1) := by decide +kernel
theorem i_X8_seen_10 : xi_dc cX8_seen 10 = some (.aload_n 0, 1) := by decide +kernel
theorem i_X8_seen_11 : xi_dc cX8_seen 11 = some (.getfield 21, 3) := by decide +kernel
theorem i_X8_seen_14 : xi_dc cX8_seen 14 = some (.getfield 129, 3) := by decide +kernel
theorem i_X8_seen_17 : xi_dc cX8_seen 17 = some (.ifCond .ne 6, 3) := by decide +kernel
theorem t_X8_seen_17 : ((17 : Nat) : Int) + 6 = ((23 : Nat) : Int) := by decide +kernel
theorem i_X8_seen_20 : xi_dc cX8_seen 20 = some (.bipush (-4), 2) := by decide +kernel
theorem i_X8_seen_22 : xi_dc cX8_seen 22 = some (.ireturn, 1) := by decide +kernel
theorem i_X8_seen_23 : xi_dc cX8_seen 23 = some (.aload_n 0, 1) := by decide +kernel
theorem i_X8_seen_24 : xi_dc cX8_seen 24 = some (.getfield 21, 3) := by decide +kernel
theorem i_X8_seen_27 : xi_dc cX8_seen 27 = some (.iload_n 1, 1) := by decide +kernel
theorem i_X8_seen_28 : xi_dc cX8_seen 28 = some (.invokevirtual 199, 3) := by decide +kernel
theorem i_X8_seen_31 : xi_dc cX8_seen 31 = some (.ireturn, 1) := by decide +kernel
def P_X8_seen (S : xi_S) : xi_P := (xi_dc cX8_seen, xi_tab xfl_X8, xi_tab xki_X8, xi_tab xkl_X8, xi_tab xcs_X8, xi_tab xcv_X8, xi_calls [(71, xi_wS 2 (F_X8_within S))], xi_calls [(199, xi_wV S 8 1 (F_X6_witnesses S))], 1)
theorem cc_X8_seen_71 (S : xi_S) (a0 : Int32) (a1 : Int32) (m : xi_M) : (P_X8_seen S).2.2.2.2.2.2.1 71 [.int a0, .int a1] m = (E_X8_within S a0 a1 m) := by
  show xi_calls [(71, xi_wS 2 (F_X8_within S))] 71 [.int a0, .int a1] m = _
  refine Eq.trans (b := xi_wS 2 (F_X8_within S) [.int a0, .int a1] m) (xi_calls_hit rfl) ?_
  exact xi_wS_eq rfl
theorem cc_X8_seen_199 (S : xi_S) (a0 : Nat) (a1 : Int32) (m : xi_M) : (P_X8_seen S).2.2.2.2.2.2.2.1 199 [.ref a0, .int a1] m = (if S.1 a0 = 8 then E_X6_witnesses S a0 a1 m else none) := by
  show xi_calls [(199, xi_wV S 8 1 (F_X6_witnesses S))] 199 [.ref a0, .int a1] m = _
  refine Eq.trans (b := xi_wV S 8 1 (F_X6_witnesses S) [.ref a0, .int a1] m) (xi_calls_hit rfl) ?_
  exact xi_wV_eq rfl
def E_X8_seen (S : xi_S) (v0 : Nat) (v1 : Int32) (m : xi_M) : Option xi_R :=
  xi_bI (E_X8_within S v1 (Int32.ofInt 3) m) fun x2 m1 =>
  if x2 = 0 then
    some (some (.int (Int32.ofInt (-1))), m1)
  else
    if S.1 v0 = 10 then (S.2.2 v0 2).bind fun b4 =>
      if S.1 b4 = 8 then
        if (m1.1 b4 1) = 0 then
          some (some (.int ((Int8.ofInt (-4)).toInt32)), m1)
        else
          if S.1 v0 = 10 then (S.2.2 v0 2).bind fun b7 =>
            xi_bI (if S.1 b7 = 8 then E_X6_witnesses S b7 v1 m1 else none) fun x9 m8 =>
            some (some (.int x9), m8)
          else none
      else none
    else none
def F_X8_seen (S : xi_S) : xi_F := fun As m => match As with
  | [.ref v0, .int v1] => E_X8_seen S v0 v1 m
  | _ => none
set_option maxRecDepth 100000 in
set_option maxHeartbeats 4000000 in
theorem xe_X8_seen {S : xi_S} {res : xi_R} (v0 : Nat) (v1 : Int32) (m : xi_M) (h : E_X8_seen S v0 v1 m = some res) : xi_X S (P_X8_seen S) (0, [some (.ref v0), some (.int v1)], [], m) res := by
  unfold E_X8_seen at h
  refine xr_iload_n i_X8_seen_0 rfl (q := 1) rfl ?_
  refine xr_iconst i_X8_seen_1 (q := 2) rfl ?_
  obtain ⟨x2, m1, em1, h⟩ := xi_bI_some h
  refine xr_SI i_X8_seen_2 xcse_X8_71 rfl (As := [.int v1, .int (Int32.ofInt 3)]) rfl (rest := []) rfl ((cc_X8_seen_71 S _ _ _).trans em1) (q := 5) rfl ?_
  by_cases c11 : x2 = 0
  · replace h := (if_pos c11).symm.trans h
    refine xr_ifCond_ne_p i_X8_seen_5 c11 (q := 10) t_X8_seen_5 (q2 := 8) rfl ?_
    refine xr_iconst i_X8_seen_8 (q := 9) rfl ?_
    exact xr_ireturn i_X8_seen_9 rfl h
  · replace h := (if_neg c11).symm.trans h
    refine xr_ifCond_ne_n i_X8_seen_5 c11 (q := 10) t_X8_seen_5 (q2 := 8) rfl ?_
    refine xr_aload_n i_X8_seen_10 rfl (q := 11) rfl ?_
    obtain ⟨c3, h⟩ := xi_if_some h
    obtain ⟨b4, eb4, h⟩ := xi_bind_some h
    refine xr_getR i_X8_seen_11 xfe_X8_21 c3 eb4 (q := 14) rfl ?_
    obtain ⟨c5, h⟩ := xi_if_some h
    refine xr_getI i_X8_seen_14 xfe_X8_129 c5 (q := 17) rfl ?_
    by_cases c10 : (m1.1 b4 1) = 0
    · replace h := (if_pos c10).symm.trans h
      refine xr_ifCond_ne_p i_X8_seen_17 c10 (q := 23) t_X8_seen_17 (q2 := 20) rfl ?_
      refine xr_bipush i_X8_seen_20 (q := 22) rfl ?_
      exact xr_ireturn i_X8_seen_22 rfl h
    · replace h := (if_neg c10).symm.trans h
      refine xr_ifCond_ne_n i_X8_seen_17 c10 (q := 23) t_X8_seen_17 (q2 := 20) rfl ?_
      refine xr_aload_n i_X8_seen_23 rfl (q := 24) rfl ?_
      obtain ⟨c6, h⟩ := xi_if_some h
      obtain ⟨b7, eb7, h⟩ := xi_bind_some h
      refine xr_getR i_X8_seen_24 xfe_X8_21 c6 eb7 (q := 27) rfl ?_
      refine xr_iload_n i_X8_seen_27 rfl (q := 28) rfl ?_
      obtain ⟨x9, m8, em8, h⟩ := xi_bI_some h
      refine xr_VI i_X8_seen_28 xcve_X8_199 rfl (As := [.ref b7, .int v1]) rfl (rest := []) rfl ((cc_X8_seen_199 S _ _ _).trans em8) (q := 31) rfl ?_
      exact xr_ireturn i_X8_seen_31 rfl h
set_option maxRecDepth 100000 in
theorem po_X8_seen {l : Launch} {E : xi_E} {S : xi_S} {D : va_G} {tys : List (ClassId × FieldType)} (hC : xCx E S tys) : xi_Pok l E S D vwCl tys xNs RX8 xTs cX8_seen 2 2 (P_X8_seen S) := ⟨xi_dc_ok, by rw [hC.2]; exact xfo_X8, xkio_X8, xklo_X8, xi_calls_ok (ins := .invokestatic) (List.forall_mem_cons.mpr ⟨(xc_X8_71 (sn_X8_within hC) (by decide)), fun _ h => absurd h List.not_mem_nil⟩), xi_calls_ok (ins := .invokevirtual) (List.forall_mem_cons.mpr ⟨(xc_X8_199 hC.1 (sn_X6_witnesses hC) (by decide)), fun _ h => absurd h List.not_mem_nil⟩)⟩
theorem sn_X8_seen {l : Launch} {E : xi_E} {S : xi_S} {D : va_G} {tys : List (ClassId × FieldType)} (hC : xCx E S tys) : ∀ As m1 r m2, F_X8_seen S As m1 = some (r, m2) → xi_Sound l E S D vwCl tys xNs xTs yX8_seen cX8_seen 2 (some .int) 2 As m1 r m2 := by
  intro As m1 r m2 h
  unfold F_X8_seen at h
  split at h
  · exact xi_meth (P := P_X8_seen S) (by decide) hC.1 (po_X8_seen hC) (Nat.le_of_ble_eq_true rfl) rfl (xe_X8_seen _ _ _ h)
  · exact xi_no h
theorem i_X8_lead_0 : xi_dc cX8_lead 0 = some (.iload_n 1, 1) := by decide +kernel
theorem i_X8_lead_1 : xi_dc cX8_lead 1 = some (.bipush 40, 2) := by decide +kernel
theorem i_X8_lead_3 : xi_dc cX8_lead 3 = some (.invokestatic 71, 3) := by decide +kernel
theorem i_X8_lead_6 : xi_dc cX8_lead 6 = some (.ifCond .ne 5, 3) := by decide +kernel
theorem t_X8_lead_6 : ((6 : Nat) : Int) + 5 = ((11 : Nat) : Int) := by decide +kernel
theorem i_X8_lead_9 : xi_dc cX8_lead 9 = some (.iconst (-1), 1) := by decide +kernel
theorem i_X8_lead_10 : xi_dc cX8_lead 10 = some (.ireturn, 1) := by decide +kernel
theorem i_X8_lead_11 : xi_dc cX8_lead 11 = some (.aload_n 0, 1) := by decide +kernel
theorem i_X8_lead_12 : xi_dc cX8_lead 12 = some (.getfield 21, 3) := by decide +kernel
theorem i_X8_lead_15 : xi_dc cX8_lead 15 = some (.getfield 129, 3) := by decide +kernel
theorem i_X8_lead_18 : xi_dc cX8_lead 18 = some (.ifCond .ne 6, 3) := by decide +kernel
theorem t_X8_lead_18 : ((18 : Nat) : Int) + 6 = ((24 : Nat) : Int) := by decide +kernel
theorem i_X8_lead_21 : xi_dc cX8_lead 21 = some (.bipush (-4), 2) := by decide +kernel
theorem i_X8_lead_23 : xi_dc cX8_lead 23 = some (.ireturn, 1) := by decide +kernel
theorem i_X8_lead_24 : xi_dc cX8_lead 24 = some (.aload_n 0, 1) := by decide +kernel
theorem i_X8_lead_25 : xi_dc cX8_lead 25 = some (.aload_n 0, 1) := by decide +kernel
theorem i_X8_lead_26 : xi_dc cX8_lead 26 = some (.getfield 21, 3) := by decide +kernel
theorem i_X8_lead_29 : xi_dc cX8_lead 29 = some (.getfield 221, 3) := by decide +kernel
theorem i_X8_lead_32 : xi_dc cX8_lead 32 = some (.iconst 0, 1) := by decide +kernel
theorem i_X8_lead_33 : xi_dc cX8_lead 33 = some (.iaload, 1) := by decide +kernel
theorem i_X8_lead_34 : xi_dc cX8_lead 34 = some (.aload_n 0, 1) := by decide +kernel
theorem i_X8_lead_35 : xi_dc cX8_lead 35 = some (.getfield 21, 3) := by decide +kernel
theorem i_X8_lead_38 : xi_dc cX8_lead 38 = some (.getfield 221, 3) := by decide +kernel
theorem i_X8_lead_41 : xi_dc cX8_lead 41 = some (.iconst 1, 1) := by decide +kernel
theorem i_X8_lead_42 : xi_dc cX8_lead 42 = some (.iaload, 1) := by decide +kernel
theorem i_X8_lead_43 : xi_dc cX8_lead 43 = some (.isub, 1) := by decide +kernel
theorem i_X8_lead_44 : xi_dc cX8_lead 44 = some (.iload_n 1, 1) := by decide +kernel
theorem i_X8_lead_45 : xi_dc cX8_lead 45 = some (.aload_n 0, 1) := by decide +kernel
theorem i_X8_lead_46 : xi_dc cX8_lead 46 = some (.getfield 21, 3) := by decide +kernel
theorem i_X8_lead_49 : xi_dc cX8_lead 49 = some (.iconst 0, 1) := by decide +kernel
theorem i_X8_lead_50 : xi_dc cX8_lead 50 = some (.iconst 0, 1) := by decide +kernel
theorem i_X8_lead_51 : xi_dc cX8_lead 51 = some (.invokevirtual 224, 3) := by decide +kernel
theorem i_X8_lead_54 : xi_dc cX8_lead 54 = some (.imul, 1) := by decide +kernel
theorem i_X8_lead_55 : xi_dc cX8_lead 55 = some (.iadd, 1) := by decide +kernel
theorem i_X8_lead_56 : xi_dc cX8_lead 56 = some (.invokevirtual 89, 3) := by decide +kernel
theorem i_X8_lead_59 : xi_dc cX8_lead 59 = some (.ireturn, 1) := by decide +kernel
def P_X8_lead (S : xi_S) : xi_P := (xi_dc cX8_lead, xi_tab xfl_X8, xi_tab xki_X8, xi_tab xkl_X8, xi_tab xcs_X8, xi_tab xcv_X8, xi_calls [(71, xi_wS 2 (F_X8_within S))], xi_calls [(89, xi_wV S 10 1 (F_X8_answer S)), (224, xi_wV S 8 2 (F_X6_advantage S))], 1)
theorem cc_X8_lead_71 (S : xi_S) (a0 : Int32) (a1 : Int32) (m : xi_M) : (P_X8_lead S).2.2.2.2.2.2.1 71 [.int a0, .int a1] m = (E_X8_within S a0 a1 m) := by
  show xi_calls [(71, xi_wS 2 (F_X8_within S))] 71 [.int a0, .int a1] m = _
  refine Eq.trans (b := xi_wS 2 (F_X8_within S) [.int a0, .int a1] m) (xi_calls_hit rfl) ?_
  exact xi_wS_eq rfl
theorem cc_X8_lead_89 (S : xi_S) (a0 : Nat) (a1 : Int32) (m : xi_M) : (P_X8_lead S).2.2.2.2.2.2.2.1 89 [.ref a0, .int a1] m = (if S.1 a0 = 10 then E_X8_answer S a0 a1 m else none) := by
  show xi_calls [(89, xi_wV S 10 1 (F_X8_answer S)), (224, xi_wV S 8 2 (F_X6_advantage S))] 89 [.ref a0, .int a1] m = _
  refine Eq.trans (b := xi_wV S 10 1 (F_X8_answer S) [.ref a0, .int a1] m) (xi_calls_hit rfl) ?_
  exact xi_wV_eq rfl
theorem cc_X8_lead_224 (S : xi_S) (a0 : Nat) (a1 : Int32) (a2 : Int32) (m : xi_M) : (P_X8_lead S).2.2.2.2.2.2.2.1 224 [.ref a0, .int a1, .int a2] m = (if S.1 a0 = 8 then E_X6_advantage S a0 a1 a2 m else none) := by
  show xi_calls [(89, xi_wV S 10 1 (F_X8_answer S)), (224, xi_wV S 8 2 (F_X6_advantage S))] 224 [.ref a0, .int a1, .int a2] m = _
  refine Eq.trans (b := xi_calls [(224, xi_wV S 8 2 (F_X6_advantage S))] 224 [.ref a0, .int a1, .int a2] m) (xi_calls_miss rfl) ?_
  refine Eq.trans (b := xi_wV S 8 2 (F_X6_advantage S) [.ref a0, .int a1, .int a2] m) (xi_calls_hit rfl) ?_
  exact xi_wV_eq rfl
def E_X8_lead (S : xi_S) (v0 : Nat) (v1 : Int32) (m : xi_M) : Option xi_R :=
  xi_bI (E_X8_within S v1 ((Int8.ofInt 40).toInt32) m) fun x2 m1 =>
  if x2 = 0 then
    some (some (.int (Int32.ofInt (-1))), m1)
  else
    if S.1 v0 = 10 then (S.2.2 v0 2).bind fun b4 =>
      if S.1 b4 = 8 then
        if (m1.1 b4 1) = 0 then
          some (some (.int ((Int8.ofInt (-4)).toInt32)), m1)
        else
          if S.1 v0 = 10 then (S.2.2 v0 2).bind fun b7 =>
            if S.1 b7 = 8 then (S.2.2 b7 6).bind fun b9 =>
              if S.1 b9 = 0 ∧ ¬ ((Int32.ofInt 0) < 0 ∨ S.2.1 b9 ≤ Int32.toNatClampNeg (Int32.ofInt 0)) then
                if S.1 v0 = 10 then (S.2.2 v0 2).bind fun b12 =>
                  if S.1 b12 = 8 then (S.2.2 b12 6).bind fun b14 =>
                    if S.1 b14 = 0 ∧ ¬ ((Int32.ofInt 1) < 0 ∨ S.2.1 b14 ≤ Int32.toNatClampNeg (Int32.ofInt 1)) then
                      if S.1 v0 = 10 then (S.2.2 v0 2).bind fun b17 =>
                        xi_bI (if S.1 b17 = 8 then E_X6_advantage S b17 (Int32.ofInt 0) (Int32.ofInt 0) m1 else none) fun x19 m18 =>
                        xi_bI (if S.1 v0 = 10 then E_X8_answer S v0 (((m1.1 b9 (Int32.toNatClampNeg (Int32.ofInt 0))) - (m1.1 b14 (Int32.toNatClampNeg (Int32.ofInt 1)))) + (v1 * x19)) m18 else none) fun x21 m20 =>
                        some (some (.int x21), m20)
                      else none
                    else none
                  else none
                else none
              else none
            else none
          else none
      else none
    else none
def F_X8_lead (S : xi_S) : xi_F := fun As m => match As with
  | [.ref v0, .int v1] => E_X8_lead S v0 v1 m
  | _ => none
set_option maxRecDepth 100000 in
set_option maxHeartbeats 4000000 in
theorem xe_X8_lead {S : xi_S} {res : xi_R} (v0 : Nat) (v1 : Int32) (m : xi_M) (h : E_X8_lead S v0 v1 m = some res) : xi_X S (P_X8_lead S) (0, [some (.ref v0), some (.int v1)], [], m) res := by
  unfold E_X8_lead at h
  refine xr_iload_n i_X8_lead_0 rfl (q := 1) rfl ?_
  refine xr_bipush i_X8_lead_1 (q := 3) rfl ?_
  obtain ⟨x2, m1, em1, h⟩ := xi_bI_some h
  refine xr_SI i_X8_lead_3 xcse_X8_71 rfl (As := [.int v1, .int ((Int8.ofInt 40).toInt32)]) rfl (rest := []) rfl ((cc_X8_lead_71 S _ _ _).trans em1) (q := 6) rfl ?_
  by_cases c23 : x2 = 0
  · replace h := (if_pos c23).symm.trans h
    refine xr_ifCond_ne_p i_X8_lead_6 c23 (q := 11) t_X8_lead_6 (q2 := 9) rfl ?_
    refine xr_iconst i_X8_lead_9 (q := 10) rfl ?_
    exact xr_ireturn i_X8_lead_10 rfl h
  · replace h := (if_neg c23).symm.trans h
    refine xr_ifCond_ne_n i_X8_lead_6 c23 (q := 11) t_X8_lead_6 (q2 := 9) rfl ?_
    refine xr_aload_n i_X8_lead_11 rfl (q := 12) rfl ?_
    obtain ⟨c3, h⟩ := xi_if_some h
    obtain ⟨b4, eb4, h⟩ := xi_bind_some h
    refine xr_getR i_X8_lead_12 xfe_X8_21 c3 eb4 (q := 15) rfl ?_
    obtain ⟨c5, h⟩ := xi_if_some h
    refine xr_getI i_X8_lead_15 xfe_X8_129 c5 (q := 18) rfl ?_
    by_cases c22 : (m1.1 b4 1) = 0
    · replace h := (if_pos c22).symm.trans h
      refine xr_ifCond_ne_p i_X8_lead_18 c22 (q := 24) t_X8_lead_18 (q2 := 21) rfl ?_
      refine xr_bipush i_X8_lead_21 (q := 23) rfl ?_
      exact xr_ireturn i_X8_lead_23 rfl h
    · replace h := (if_neg c22).symm.trans h
      refine xr_ifCond_ne_n i_X8_lead_18 c22 (q := 24) t_X8_lead_18 (q2 := 21) rfl ?_
      refine xr_aload_n i_X8_lead_24 rfl (q := 25) rfl ?_
      refine xr_aload_n i_X8_lead_25 rfl (q := 26) rfl ?_
      obtain ⟨c6, h⟩ := xi_if_some h
      obtain ⟨b7, eb7, h⟩ := xi_bind_some h
      refine xr_getR i_X8_lead_26 xfe_X8_21 c6 eb7 (q := 29) rfl ?_
      obtain ⟨c8, h⟩ := xi_if_some h
      obtain ⟨b9, eb9, h⟩ := xi_bind_some h
      refine xr_getR i_X8_lead_29 xfe_X8_221 c8 eb9 (q := 32) rfl ?_
      refine xr_iconst i_X8_lead_32 (q := 33) rfl ?_
      obtain ⟨c10, h⟩ := xi_if_some h
      refine xr_iaload i_X8_lead_33 c10 (q := 34) rfl ?_
      refine xr_aload_n i_X8_lead_34 rfl (q := 35) rfl ?_
      obtain ⟨c11, h⟩ := xi_if_some h
      obtain ⟨b12, eb12, h⟩ := xi_bind_some h
      refine xr_getR i_X8_lead_35 xfe_X8_21 c11 eb12 (q := 38) rfl ?_
      obtain ⟨c13, h⟩ := xi_if_some h
      obtain ⟨b14, eb14, h⟩ := xi_bind_some h
      refine xr_getR i_X8_lead_38 xfe_X8_221 c13 eb14 (q := 41) rfl ?_
      refine xr_iconst i_X8_lead_41 (q := 42) rfl ?_
      obtain ⟨c15, h⟩ := xi_if_some h
      refine xr_iaload i_X8_lead_42 c15 (q := 43) rfl ?_
      refine xr_isub i_X8_lead_43 (q := 44) rfl ?_
      refine xr_iload_n i_X8_lead_44 rfl (q := 45) rfl ?_
      refine xr_aload_n i_X8_lead_45 rfl (q := 46) rfl ?_
      obtain ⟨c16, h⟩ := xi_if_some h
      obtain ⟨b17, eb17, h⟩ := xi_bind_some h
      refine xr_getR i_X8_lead_46 xfe_X8_21 c16 eb17 (q := 49) rfl ?_
      refine xr_iconst i_X8_lead_49 (q := 50) rfl ?_
      refine xr_iconst i_X8_lead_50 (q := 51) rfl ?_
      obtain ⟨x19, m18, em18, h⟩ := xi_bI_some h
      refine xr_VI i_X8_lead_51 xcve_X8_224 rfl (As := [.ref b17, .int (Int32.ofInt 0), .int (Int32.ofInt 0)]) rfl (rest := [.int v1, .int ((m1.1 b9 (Int32.toNatClampNeg (Int32.ofInt 0))) - (m1.1 b14 (Int32.toNatClampNeg (Int32.ofInt 1)))), .ref v0]) rfl ((cc_X8_lead_224 S _ _ _ _).trans em18) (q := 54) rfl ?_
      refine xr_imul i_X8_lead_54 (q := 55) rfl ?_
      refine xr_iadd i_X8_lead_55 (q := 56) rfl ?_
      obtain ⟨x21, m20, em20, h⟩ := xi_bI_some h
      refine xr_VI i_X8_lead_56 xcve_X8_89 rfl (As := [.ref v0, .int (((m1.1 b9 (Int32.toNatClampNeg (Int32.ofInt 0))) - (m1.1 b14 (Int32.toNatClampNeg (Int32.ofInt 1)))) + (v1 * x19))]) rfl (rest := []) rfl ((cc_X8_lead_89 S _ _ _).trans em20) (q := 59) rfl ?_
      exact xr_ireturn i_X8_lead_59 rfl h
set_option maxRecDepth 100000 in
theorem po_X8_lead {l : Launch} {E : xi_E} {S : xi_S} {D : va_G} {tys : List (ClassId × FieldType)} (hC : xCx E S tys) : xi_Pok l E S D vwCl tys xNs RX8 xTs cX8_lead 2 6 (P_X8_lead S) := ⟨xi_dc_ok, by rw [hC.2]; exact xfo_X8, xkio_X8, xklo_X8, xi_calls_ok (ins := .invokestatic) (List.forall_mem_cons.mpr ⟨(xc_X8_71 (sn_X8_within hC) (by decide)), fun _ h => absurd h List.not_mem_nil⟩), xi_calls_ok (ins := .invokevirtual) (List.forall_mem_cons.mpr ⟨(xc_X8_89 hC.1 (sn_X8_answer hC) (by decide)), List.forall_mem_cons.mpr ⟨(xc_X8_224 hC.1 (sn_X6_advantage hC) (by decide)), fun _ h => absurd h List.not_mem_nil⟩⟩)⟩
theorem sn_X8_lead {l : Launch} {E : xi_E} {S : xi_S} {D : va_G} {tys : List (ClassId × FieldType)} (hC : xCx E S tys) : ∀ As m1 r m2, F_X8_lead S As m1 = some (r, m2) → xi_Sound l E S D vwCl tys xNs xTs yX8_lead cX8_lead 2 (some .int) 6 As m1 r m2 := by
  intro As m1 r m2 h
  unfold F_X8_lead at h
  split at h
  · exact xi_meth (P := P_X8_lead S) (by decide) hC.1 (po_X8_lead hC) (Nat.le_of_ble_eq_true rfl) rfl (xe_X8_lead _ _ _ h)
  · exact xi_no h
theorem i_X8_amend_0 : xi_dc cX8_amend 0 = some (.iload_n 1, 1) := by decide +kernel
theorem i_X8_amend_1 : xi_dc cX8_amend 1 = some (.iconst 1, 1) := by decide +kernel
theorem i_X8_amend_2 : xi_dc cX8_amend 2 = some (.invokestatic 71, 3) := by decide +kernel
theorem i_X8_amend_5 : xi_dc cX8_amend 5 = some (.ifCond .eq 20, 3) := by decide +kernel
theorem t_X8_amend_5 : ((5 : Nat) : Int) + 20 = ((25 : Nat) : Int) := by decide +kernel
theorem i_X8_amend_8 : xi_dc cX8_amend 8 = some (.iload_n 2, 1) := by decide +kernel
theorem i_X8_amend_9 : xi_dc cX8_amend 9 = some (.bipush 6, 2) := by decide +kernel
theorem i_X8_amend_11 : xi_dc cX8_amend 11 = some (.invokestatic 71, 3) := by decide +kernel
theorem i_X8_amend_14 : xi_dc cX8_amend 14 = some (.ifCond .eq 11, 3) := by decide +kernel
theorem t_X8_amend_14 : ((14 : Nat) : Int) + 11 = ((25 : Nat) : Int) := by decide +kernel
theorem i_X8_amend_17 : xi_dc cX8_amend 17 = some (.iload_n 3, 1) := by decide +kernel
theorem i_X8_amend_18 : xi_dc cX8_amend 18 = some (.iconst 5, 1) := by decide +kernel
theorem i_X8_amend_19 : xi_dc cX8_amend 19 = some (.invokestatic 71, 3) := by decide +kernel
theorem i_X8_amend_22 : xi_dc cX8_amend 22 = some (.ifCond .ne 5, 3) := by decide +kernel
theorem t_X8_amend_22 : ((22 : Nat) : Int) + 5 = ((27 : Nat) : Int) := by decide +kernel
theorem i_X8_amend_25 : xi_dc cX8_amend 25 = some (.iconst (-1), 1) := by decide +kernel
theorem i_X8_amend_26 : xi_dc cX8_amend 26 = some (.ireturn, 1) := by decide +kernel
theorem i_X8_amend_27 : xi_dc cX8_amend 27 = some (.aload_n 0, 1) := by decide +kernel
theorem i_X8_amend_28 : xi_dc cX8_amend 28 = some (.getfield 21, 3) := by decide +kernel
theorem i_X8_amend_31 : xi_dc cX8_amend 31 = some (.getfield 129, 3) := by decide +kernel
theorem i_X8_amend_34 : xi_dc cX8_amend 34 = some (.ifCond .ne 6, 3) := by decide +kernel
theorem t_X8_amend_34 : ((34 : Nat) : Int) + 6 = ((40 : Nat) : Int) := by decide +kernel
theorem i_X8_amend_37 : xi_dc cX8_amend 37 = some (.bipush (-4), 2) := by decide +kernel
theorem i_X8_amend_39 : xi_dc cX8_amend 39 = some (.ireturn, 1) := by decide +kernel
theorem i_X8_amend_40 : xi_dc cX8_amend 40 = some (.aload_n 0, 1) := by decide +kernel
theorem i_X8_amend_41 : xi_dc cX8_amend 41 = some (.getfield 35, 3) := by decide +kernel
theorem i_X8_amend_44 : xi_dc cX8_amend 44 = some (.aload_n 0, 1) := by decide +kernel
theorem i_X8_amend_45 : xi_dc cX8_amend 45 = some (.getfield 21, 3) := by decide +kernel
theorem i_X8_amend_48 : xi_dc cX8_amend 48 = some (.invokevirtual 227, 3) := by decide +kernel
theorem i_X8_amend_51 : xi_dc cX8_amend 51 = some (.aload_n 0, 1) := by decide +kernel
theorem i_X8_amend_52 : xi_dc cX8_amend 52 = some (.getfield 42, 3) := by decide +kernel
theorem i_X8_amend_55 : xi_dc cX8_amend 55 = some (.aload_n 0, 1) := by decide +kernel
theorem i_X8_amend_56 : xi_dc cX8_amend 56 = some (.getfield 21, 3) := by decide +kernel
theorem i_X8_amend_59 : xi_dc cX8_amend 59 = some (.aload_n 0, 1) := by decide +kernel
theorem i_X8_amend_60 : xi_dc cX8_amend 60 = some (.getfield 35, 3) := by decide +kernel
theorem i_X8_amend_63 : xi_dc cX8_amend 63 = some (.invokevirtual 228, 3) := by decide +kernel
theorem i_X8_amend_66 : xi_dc cX8_amend 66 = some (.aload_n 0, 1) := by decide +kernel
theorem i_X8_amend_67 : xi_dc cX8_amend 67 = some (.getfield 42, 3) := by decide +kernel
theorem i_X8_amend_70 : xi_dc cX8_amend 70 = some (.iload_n 1, 1) := by decide +kernel
theorem i_X8_amend_71 : xi_dc cX8_amend 71 = some (.iload_n 2, 1) := by decide +kernel
theorem i_X8_amend_72 : xi_dc cX8_amend 72 = some (.invokevirtual 232, 3) := by decide +kernel
theorem i_X8_amend_75 : xi_dc cX8_amend 75 = some (.istore 4, 2) := by decide +kernel
theorem i_X8_amend_77 : xi_dc cX8_amend 77 = some (.iload 4, 2) := by decide +kernel
theorem i_X8_amend_79 : xi_dc cX8_amend 79 = some (.bipush (-9), 2) := by decide +kernel
theorem i_X8_amend_81 : xi_dc cX8_amend 81 = some (.if_icmp .eq 30, 3) := by decide +kernel
theorem t_X8_amend_81 : ((81 : Nat) : Int) + 30 = ((111 : Nat) : Int) := by decide +kernel
theorem i_X8_amend_84 : xi_dc cX8_amend 84 = some (.aload_n 0, 1) := by decide +kernel
theorem i_X8_amend_85 : xi_dc cX8_amend 85 = some (.getfield 11, 3) := by decide +kernel
theorem i_X8_amend_88 : xi_dc cX8_amend 88 = some (.iload_n 3, 1) := by decide +kernel
theorem i_X8_amend_89 : xi_dc cX8_amend 89 = some (.aaload, 1) := by decide +kernel
theorem i_X8_amend_90 : xi_dc cX8_amend 90 = some (.iconst 4, 1) := by decide +kernel
theorem i_X8_amend_91 : xi_dc cX8_amend 91 = some (.iconst 0, 1) := by decide +kernel
theorem i_X8_amend_92 : xi_dc cX8_amend 92 = some (.invokevirtual 235, 3) := by decide +kernel
theorem i_X8_amend_95 : xi_dc cX8_amend 95 = some (.aload_n 0, 1) := by decide +kernel
theorem i_X8_amend_96 : xi_dc cX8_amend 96 = some (.getfield 42, 3) := by decide +kernel
theorem i_X8_amend_99 : xi_dc cX8_amend 99 = some (.aload_n 0, 1) := by decide +kernel
theorem i_X8_amend_100 : xi_dc cX8_amend 100 = some (.getfield 11, 3) := by decide +kernel
theorem i_X8_amend_103 : xi_dc cX8_amend 103 = some (.iload_n 3, 1) := by decide +kernel
theorem i_X8_amend_104 : xi_dc cX8_amend 104 = some (.aaload, 1) := by decide +kernel
theorem i_X8_amend_105 : xi_dc cX8_amend 105 = some (.getfield 86, 3) := by decide +kernel
theorem i_X8_amend_108 : xi_dc cX8_amend 108 = some (.invokevirtual 238, 3) := by decide +kernel
theorem i_X8_amend_111 : xi_dc cX8_amend 111 = some (.iload 4, 2) := by decide +kernel
theorem i_X8_amend_113 : xi_dc cX8_amend 113 = some (.ireturn, 1) := by decide +kernel
def P_X8_amend (S : xi_S) : xi_P := (xi_dc cX8_amend, xi_tab xfl_X8, xi_tab xki_X8, xi_tab xkl_X8, xi_tab xcs_X8, xi_tab xcv_X8, xi_calls [(71, xi_wS 2 (F_X8_within S))], xi_calls [(227, xi_wV S 4 1 (F_X1_take S)), (228, xi_wV S 3 2 (F_X0_weigh S)), (232, xi_wV S 3 2 (F_X0_fewest S)), (235, xi_wV S 9 2 (F_X7_begin S)), (238, xi_wV S 3 1 (F_X0_write S))], 1)
theorem cc_X8_amend_71 (S : xi_S) (a0 : Int32) (a1 : Int32) (m : xi_M) : (P_X8_amend S).2.2.2.2.2.2.1 71 [.int a0, .int a1] m = (E_X8_within S a0 a1 m) := by
  show xi_calls [(71, xi_wS 2 (F_X8_within S))] 71 [.int a0, .int a1] m = _
  refine Eq.trans (b := xi_wS 2 (F_X8_within S) [.int a0, .int a1] m) (xi_calls_hit rfl) ?_
  exact xi_wS_eq rfl
theorem cc_X8_amend_227 (S : xi_S) (a0 : Nat) (a1 : Nat) (m : xi_M) : (P_X8_amend S).2.2.2.2.2.2.2.1 227 [.ref a0, .ref a1] m = (if S.1 a0 = 4 then E_X1_take S a0 a1 m else none) := by
  show xi_calls [(227, xi_wV S 4 1 (F_X1_take S)), (228, xi_wV S 3 2 (F_X0_weigh S)), (232, xi_wV S 3 2 (F_X0_fewest S)), (235, xi_wV S 9 2 (F_X7_begin S)), (238, xi_wV S 3 1 (F_X0_write S))] 227 [.ref a0, .ref a1] m = _
  refine Eq.trans (b := xi_wV S 4 1 (F_X1_take S) [.ref a0, .ref a1] m) (xi_calls_hit rfl) ?_
  exact xi_wV_eq rfl
theorem cc_X8_amend_228 (S : xi_S) (a0 : Nat) (a1 : Nat) (a2 : Nat) (m : xi_M) : (P_X8_amend S).2.2.2.2.2.2.2.1 228 [.ref a0, .ref a1, .ref a2] m = (if S.1 a0 = 3 then E_X0_weigh S a0 a1 a2 m else none) := by
  show xi_calls [(227, xi_wV S 4 1 (F_X1_take S)), (228, xi_wV S 3 2 (F_X0_weigh S)), (232, xi_wV S 3 2 (F_X0_fewest S)), (235, xi_wV S 9 2 (F_X7_begin S)), (238, xi_wV S 3 1 (F_X0_write S))] 228 [.ref a0, .ref a1, .ref a2] m = _
  refine Eq.trans (b := xi_calls [(228, xi_wV S 3 2 (F_X0_weigh S)), (232, xi_wV S 3 2 (F_X0_fewest S)), (235, xi_wV S 9 2 (F_X7_begin S)), (238, xi_wV S 3 1 (F_X0_write S))] 228 [.ref a0, .ref a1, .ref a2] m) (xi_calls_miss rfl) ?_
  refine Eq.trans (b := xi_wV S 3 2 (F_X0_weigh S) [.ref a0, .ref a1, .ref a2] m) (xi_calls_hit rfl) ?_
  exact xi_wV_eq rfl
theorem cc_X8_amend_232 (S : xi_S) (a0 : Nat) (a1 : Int32) (a2 : Int32) (m : xi_M) : (P_X8_amend S).2.2.2.2.2.2.2.1 232 [.ref a0, .int a1, .int a2] m = (if S.1 a0 = 3 then E_X0_fewest S a0 a1 a2 m else none) := by
  show xi_calls [(227, xi_wV S 4 1 (F_X1_take S)), (228, xi_wV S 3 2 (F_X0_weigh S)), (232, xi_wV S 3 2 (F_X0_fewest S)), (235, xi_wV S 9 2 (F_X7_begin S)), (238, xi_wV S 3 1 (F_X0_write S))] 232 [.ref a0, .int a1, .int a2] m = _
  refine Eq.trans (b := xi_calls [(228, xi_wV S 3 2 (F_X0_weigh S)), (232, xi_wV S 3 2 (F_X0_fewest S)), (235, xi_wV S 9 2 (F_X7_begin S)), (238, xi_wV S 3 1 (F_X0_write S))] 232 [.ref a0, .int a1, .int a2] m) (xi_calls_miss rfl) ?_
  refine Eq.trans (b := xi_calls [(232, xi_wV S 3 2 (F_X0_fewest S)), (235, xi_wV S 9 2 (F_X7_begin S)), (238, xi_wV S 3 1 (F_X0_write S))] 232 [.ref a0, .int a1, .int a2] m) (xi_calls_miss rfl) ?_
  refine Eq.trans (b := xi_wV S 3 2 (F_X0_fewest S) [.ref a0, .int a1, .int a2] m) (xi_calls_hit rfl) ?_
  exact xi_wV_eq rfl
theorem cc_X8_amend_235 (S : xi_S) (a0 : Nat) (a1 : Int32) (a2 : Int32) (m : xi_M) : (P_X8_amend S).2.2.2.2.2.2.2.1 235 [.ref a0, .int a1, .int a2] m = (if S.1 a0 = 9 then E_X7_begin S a0 a1 a2 m else none) := by
  show xi_calls [(227, xi_wV S 4 1 (F_X1_take S)), (228, xi_wV S 3 2 (F_X0_weigh S)), (232, xi_wV S 3 2 (F_X0_fewest S)), (235, xi_wV S 9 2 (F_X7_begin S)), (238, xi_wV S 3 1 (F_X0_write S))] 235 [.ref a0, .int a1, .int a2] m = _
  refine Eq.trans (b := xi_calls [(228, xi_wV S 3 2 (F_X0_weigh S)), (232, xi_wV S 3 2 (F_X0_fewest S)), (235, xi_wV S 9 2 (F_X7_begin S)), (238, xi_wV S 3 1 (F_X0_write S))] 235 [.ref a0, .int a1, .int a2] m) (xi_calls_miss rfl) ?_
  refine Eq.trans (b := xi_calls [(232, xi_wV S 3 2 (F_X0_fewest S)), (235, xi_wV S 9 2 (F_X7_begin S)), (238, xi_wV S 3 1 (F_X0_write S))] 235 [.ref a0, .int a1, .int a2] m) (xi_calls_miss rfl) ?_
  refine Eq.trans (b := xi_calls [(235, xi_wV S 9 2 (F_X7_begin S)), (238, xi_wV S 3 1 (F_X0_write S))] 235 [.ref a0, .int a1, .int a2] m) (xi_calls_miss rfl) ?_
  refine Eq.trans (b := xi_wV S 9 2 (F_X7_begin S) [.ref a0, .int a1, .int a2] m) (xi_calls_hit rfl) ?_
  exact xi_wV_eq rfl
theorem cc_X8_amend_238 (S : xi_S) (a0 : Nat) (a1 : Nat) (m : xi_M) : (P_X8_amend S).2.2.2.2.2.2.2.1 238 [.ref a0, .ref a1] m = (if S.1 a0 = 3 then E_X0_write S a0 a1 m else none) := by
  show xi_calls [(227, xi_wV S 4 1 (F_X1_take S)), (228, xi_wV S 3 2 (F_X0_weigh S)), (232, xi_wV S 3 2 (F_X0_fewest S)), (235, xi_wV S 9 2 (F_X7_begin S)), (238, xi_wV S 3 1 (F_X0_write S))] 238 [.ref a0, .ref a1] m = _
  refine Eq.trans (b := xi_calls [(228, xi_wV S 3 2 (F_X0_weigh S)), (232, xi_wV S 3 2 (F_X0_fewest S)), (235, xi_wV S 9 2 (F_X7_begin S)), (238, xi_wV S 3 1 (F_X0_write S))] 238 [.ref a0, .ref a1] m) (xi_calls_miss rfl) ?_
  refine Eq.trans (b := xi_calls [(232, xi_wV S 3 2 (F_X0_fewest S)), (235, xi_wV S 9 2 (F_X7_begin S)), (238, xi_wV S 3 1 (F_X0_write S))] 238 [.ref a0, .ref a1] m) (xi_calls_miss rfl) ?_
  refine Eq.trans (b := xi_calls [(235, xi_wV S 9 2 (F_X7_begin S)), (238, xi_wV S 3 1 (F_X0_write S))] 238 [.ref a0, .ref a1] m) (xi_calls_miss rfl) ?_
  refine Eq.trans (b := xi_calls [(238, xi_wV S 3 1 (F_X0_write S))] 238 [.ref a0, .ref a1] m) (xi_calls_miss rfl) ?_
  refine Eq.trans (b := xi_wV S 3 1 (F_X0_write S) [.ref a0, .ref a1] m) (xi_calls_hit rfl) ?_
  exact xi_wV_eq rfl
def E_X8_amend (S : xi_S) (v0 : Nat) (v1 : Int32) (v2 : Int32) (v3 : Int32) (m : xi_M) : Option xi_R :=
  xi_bI (E_X8_within S v1 (Int32.ofInt 1) m) fun x2 m1 =>
  if x2 = 0 then
    some (some (.int (Int32.ofInt (-1))), m1)
  else
    xi_bI (E_X8_within S v2 ((Int8.ofInt 6).toInt32) m1) fun x4 m3 =>
    if x4 = 0 then
      some (some (.int (Int32.ofInt (-1))), m3)
    else
      xi_bI (E_X8_within S v3 (Int32.ofInt 5) m3) fun x6 m5 =>
      if x6 = 0 then
        some (some (.int (Int32.ofInt (-1))), m5)
      else
        if S.1 v0 = 10 then (S.2.2 v0 2).bind fun b8 =>
          if S.1 b8 = 8 then
            if (m5.1 b8 1) = 0 then
              some (some (.int ((Int8.ofInt (-4)).toInt32)), m5)
            else
              if S.1 v0 = 10 then (S.2.2 v0 5).bind fun b11 =>
                if S.1 v0 = 10 then (S.2.2 v0 2).bind fun b13 =>
                  xi_bV (if S.1 b11 = 4 then E_X1_take S b11 b13 m5 else none) fun m14 =>
                  if S.1 v0 = 10 then (S.2.2 v0 6).bind fun b16 =>
                    if S.1 v0 = 10 then (S.2.2 v0 2).bind fun b18 =>
                      if S.1 v0 = 10 then (S.2.2 v0 5).bind fun b20 =>
                        xi_bV (if S.1 b16 = 3 then E_X0_weigh S b16 b18 b20 m14 else none) fun m21 =>
                        if S.1 v0 = 10 then (S.2.2 v0 6).bind fun b23 =>
                          xi_bI (if S.1 b23 = 3 then E_X0_fewest S b23 v1 v2 m21 else none) fun x25 m24 =>
                          if x25 = ((Int8.ofInt (-9)).toInt32) then
                            some (some (.int x25), m24)
                          else
                            if S.1 v0 = 10 then (S.2.2 v0 0).bind fun b27 =>
                              if (S.1 b27 = 1 ∨ S.1 b27 = 2) ∧ ¬ (v3 < 0 ∨ S.2.1 b27 ≤ Int32.toNatClampNeg v3) then (S.2.2 b27 (Int32.toNatClampNeg v3)).bind fun b29 =>
                                xi_bV (if S.1 b29 = 9 then E_X7_begin S b29 (Int32.ofInt 4) (Int32.ofInt 0) m24 else none) fun m30 =>
                                if S.1 v0 = 10 then (S.2.2 v0 6).bind fun b32 =>
                                  if S.1 v0 = 10 then (S.2.2 v0 0).bind fun b34 =>
                                    if (S.1 b34 = 1 ∨ S.1 b34 = 2) ∧ ¬ (v3 < 0 ∨ S.2.1 b34 ≤ Int32.toNatClampNeg v3) then (S.2.2 b34 (Int32.toNatClampNeg v3)).bind fun b36 =>
                                      if S.1 b36 = 9 then (S.2.2 b36 2).bind fun b38 =>
                                        xi_bV (if S.1 b32 = 3 then E_X0_write S b32 b38 m30 else none) fun m39 =>
                                        some (some (.int x25), m39)
                                      else none
                                    else none
                                  else none
                                else none
                              else none
                            else none
                        else none
                      else none
                    else none
                  else none
                else none
              else none
          else none
        else none
def F_X8_amend (S : xi_S) : xi_F := fun As m => match As with
  | [.ref v0, .int v1, .int v2, .int v3] => E_X8_amend S v0 v1 v2 v3 m
  | _ => none
set_option maxRecDepth 100000 in
set_option maxHeartbeats 4000000 in
theorem xe_X8_amend {S : xi_S} {res : xi_R} (v0 : Nat) (v1 : Int32) (v2 : Int32) (v3 : Int32) (m : xi_M) (h : E_X8_amend S v0 v1 v2 v3 m = some res) : xi_X S (P_X8_amend S) (0, [some (.ref v0), some (.int v1), some (.int v2), some (.int v3), none], [], m) res := by
  unfold E_X8_amend at h
  refine xr_iload_n i_X8_amend_0 rfl (q := 1) rfl ?_
  refine xr_iconst i_X8_amend_1 (q := 2) rfl ?_
  obtain ⟨x2, m1, em1, h⟩ := xi_bI_some h
  refine xr_SI i_X8_amend_2 xcse_X8_71 rfl (As := [.int v1, .int (Int32.ofInt 1)]) rfl (rest := []) rfl ((cc_X8_amend_71 S _ _ _).trans em1) (q := 5) rfl ?_
  by_cases c44 : x2 = 0
  · replace h := (if_pos c44).symm.trans h
    refine xr_ifCond_eq_p i_X8_amend_5 c44 (q := 25) t_X8_amend_5 (q2 := 8) rfl ?_
    refine xr_iconst i_X8_amend_25 (q := 26) rfl ?_
    exact xr_ireturn i_X8_amend_26 rfl h
  · replace h := (if_neg c44).symm.trans h
    refine xr_ifCond_eq_n i_X8_amend_5 c44 (q := 25) t_X8_amend_5 (q2 := 8) rfl ?_
    refine xr_iload_n i_X8_amend_8 rfl (q := 9) rfl ?_
    refine xr_bipush i_X8_amend_9 (q := 11) rfl ?_
    obtain ⟨x4, m3, em3, h⟩ := xi_bI_some h
    refine xr_SI i_X8_amend_11 xcse_X8_71 rfl (As := [.int v2, .int ((Int8.ofInt 6).toInt32)]) rfl (rest := []) rfl ((cc_X8_amend_71 S _ _ _).trans em3) (q := 14) rfl ?_
    by_cases c43 : x4 = 0
    · replace h := (if_pos c43).symm.trans h
      refine xr_ifCond_eq_p i_X8_amend_14 c43 (q := 25) t_X8_amend_14 (q2 := 17) rfl ?_
      refine xr_iconst i_X8_amend_25 (q := 26) rfl ?_
      exact xr_ireturn i_X8_amend_26 rfl h
    · replace h := (if_neg c43).symm.trans h
      refine xr_ifCond_eq_n i_X8_amend_14 c43 (q := 25) t_X8_amend_14 (q2 := 17) rfl ?_
      refine xr_iload_n i_X8_amend_17 rfl (q := 18) rfl ?_
      refine xr_iconst i_X8_amend_18 (q := 19) rfl ?_
      obtain ⟨x6, m5, em5, h⟩ := xi_bI_some h
      refine xr_SI i_X8_amend_19 xcse_X8_71 rfl (As := [.int v3, .int (Int32.ofInt 5)]) rfl (rest := []) rfl ((cc_X8_amend_71 S _ _ _).trans em5) (q := 22) rfl ?_
      by_cases c42 : x6 = 0
      · replace h := (if_pos c42).symm.trans h
        refine xr_ifCond_ne_p i_X8_amend_22 c42 (q := 27) t_X8_amend_22 (q2 := 25) rfl ?_
        refine xr_iconst i_X8_amend_25 (q := 26) rfl ?_
        exact xr_ireturn i_X8_amend_26 rfl h
      · replace h := (if_neg c42).symm.trans h
        refine xr_ifCond_ne_n i_X8_amend_22 c42 (q := 27) t_X8_amend_22 (q2 := 25) rfl ?_
        refine xr_aload_n i_X8_amend_27 rfl (q := 28) rfl ?_
        obtain ⟨c7, h⟩ := xi_if_some h
        obtain ⟨b8, eb8, h⟩ := xi_bind_some h
        refine xr_getR i_X8_amend_28 xfe_X8_21 c7 eb8 (q := 31) rfl ?_
        obtain ⟨c9, h⟩ := xi_if_some h
        refine xr_getI i_X8_amend_31 xfe_X8_129 c9 (q := 34) rfl ?_
        by_cases c41 : (m5.1 b8 1) = 0
        · replace h := (if_pos c41).symm.trans h
          refine xr_ifCond_ne_p i_X8_amend_34 c41 (q := 40) t_X8_amend_34 (q2 := 37) rfl ?_
          refine xr_bipush i_X8_amend_37 (q := 39) rfl ?_
          exact xr_ireturn i_X8_amend_39 rfl h
        · replace h := (if_neg c41).symm.trans h
          refine xr_ifCond_ne_n i_X8_amend_34 c41 (q := 40) t_X8_amend_34 (q2 := 37) rfl ?_
          refine xr_aload_n i_X8_amend_40 rfl (q := 41) rfl ?_
          obtain ⟨c10, h⟩ := xi_if_some h
          obtain ⟨b11, eb11, h⟩ := xi_bind_some h
          refine xr_getR i_X8_amend_41 xfe_X8_35 c10 eb11 (q := 44) rfl ?_
          refine xr_aload_n i_X8_amend_44 rfl (q := 45) rfl ?_
          obtain ⟨c12, h⟩ := xi_if_some h
          obtain ⟨b13, eb13, h⟩ := xi_bind_some h
          refine xr_getR i_X8_amend_45 xfe_X8_21 c12 eb13 (q := 48) rfl ?_
          obtain ⟨m14, em14, h⟩ := xi_bV_some h
          refine xr_VV i_X8_amend_48 xcve_X8_227 rfl (As := [.ref b11, .ref b13]) rfl (rest := []) rfl ((cc_X8_amend_227 S _ _ _).trans em14) (q := 51) rfl ?_
          refine xr_aload_n i_X8_amend_51 rfl (q := 52) rfl ?_
          obtain ⟨c15, h⟩ := xi_if_some h
          obtain ⟨b16, eb16, h⟩ := xi_bind_some h
          refine xr_getR i_X8_amend_52 xfe_X8_42 c15 eb16 (q := 55) rfl ?_
          refine xr_aload_n i_X8_amend_55 rfl (q := 56) rfl ?_
          obtain ⟨c17, h⟩ := xi_if_some h
          obtain ⟨b18, eb18, h⟩ := xi_bind_some h
          refine xr_getR i_X8_amend_56 xfe_X8_21 c17 eb18 (q := 59) rfl ?_
          refine xr_aload_n i_X8_amend_59 rfl (q := 60) rfl ?_
          obtain ⟨c19, h⟩ := xi_if_some h
          obtain ⟨b20, eb20, h⟩ := xi_bind_some h
          refine xr_getR i_X8_amend_60 xfe_X8_35 c19 eb20 (q := 63) rfl ?_
          obtain ⟨m21, em21, h⟩ := xi_bV_some h
          refine xr_VV i_X8_amend_63 xcve_X8_228 rfl (As := [.ref b16, .ref b18, .ref b20]) rfl (rest := []) rfl ((cc_X8_amend_228 S _ _ _ _).trans em21) (q := 66) rfl ?_
          refine xr_aload_n i_X8_amend_66 rfl (q := 67) rfl ?_
          obtain ⟨c22, h⟩ := xi_if_some h
          obtain ⟨b23, eb23, h⟩ := xi_bind_some h
          refine xr_getR i_X8_amend_67 xfe_X8_42 c22 eb23 (q := 70) rfl ?_
          refine xr_iload_n i_X8_amend_70 rfl (q := 71) rfl ?_
          refine xr_iload_n i_X8_amend_71 rfl (q := 72) rfl ?_
          obtain ⟨x25, m24, em24, h⟩ := xi_bI_some h
          refine xr_VI i_X8_amend_72 xcve_X8_232 rfl (As := [.ref b23, .int v1, .int v2]) rfl (rest := []) rfl ((cc_X8_amend_232 S _ _ _ _).trans em24) (q := 75) rfl ?_
          refine xr_istore i_X8_amend_75 rfl (L2 := [some (.ref v0), some (.int v1), some (.int v2), some (.int v3), some (.int x25)]) rfl (q := 77) rfl ?_
          refine xr_iload i_X8_amend_77 rfl (q := 79) rfl ?_
          refine xr_bipush i_X8_amend_79 (q := 81) rfl ?_
          by_cases c40 : x25 = ((Int8.ofInt (-9)).toInt32)
          · replace h := (if_pos c40).symm.trans h
            refine xr_if_icmp_eq_p i_X8_amend_81 c40 (q := 111) t_X8_amend_81 (q2 := 84) rfl ?_
            refine xr_iload i_X8_amend_111 rfl (q := 113) rfl ?_
            exact xr_ireturn i_X8_amend_113 rfl h
          · replace h := (if_neg c40).symm.trans h
            refine xr_if_icmp_eq_n i_X8_amend_81 c40 (q := 111) t_X8_amend_81 (q2 := 84) rfl ?_
            refine xr_aload_n i_X8_amend_84 rfl (q := 85) rfl ?_
            obtain ⟨c26, h⟩ := xi_if_some h
            obtain ⟨b27, eb27, h⟩ := xi_bind_some h
            refine xr_getR i_X8_amend_85 xfe_X8_11 c26 eb27 (q := 88) rfl ?_
            refine xr_iload_n i_X8_amend_88 rfl (q := 89) rfl ?_
            obtain ⟨c28, h⟩ := xi_if_some h
            obtain ⟨b29, eb29, h⟩ := xi_bind_some h
            refine xr_aaload i_X8_amend_89 c28 eb29 (q := 90) rfl ?_
            refine xr_iconst i_X8_amend_90 (q := 91) rfl ?_
            refine xr_iconst i_X8_amend_91 (q := 92) rfl ?_
            obtain ⟨m30, em30, h⟩ := xi_bV_some h
            refine xr_VV i_X8_amend_92 xcve_X8_235 rfl (As := [.ref b29, .int (Int32.ofInt 4), .int (Int32.ofInt 0)]) rfl (rest := []) rfl ((cc_X8_amend_235 S _ _ _ _).trans em30) (q := 95) rfl ?_
            refine xr_aload_n i_X8_amend_95 rfl (q := 96) rfl ?_
            obtain ⟨c31, h⟩ := xi_if_some h
            obtain ⟨b32, eb32, h⟩ := xi_bind_some h
            refine xr_getR i_X8_amend_96 xfe_X8_42 c31 eb32 (q := 99) rfl ?_
            refine xr_aload_n i_X8_amend_99 rfl (q := 100) rfl ?_
            obtain ⟨c33, h⟩ := xi_if_some h
            obtain ⟨b34, eb34, h⟩ := xi_bind_some h
            refine xr_getR i_X8_amend_100 xfe_X8_11 c33 eb34 (q := 103) rfl ?_
            refine xr_iload_n i_X8_amend_103 rfl (q := 104) rfl ?_
            obtain ⟨c35, h⟩ := xi_if_some h
            obtain ⟨b36, eb36, h⟩ := xi_bind_some h
            refine xr_aaload i_X8_amend_104 c35 eb36 (q := 105) rfl ?_
            obtain ⟨c37, h⟩ := xi_if_some h
            obtain ⟨b38, eb38, h⟩ := xi_bind_some h
            refine xr_getR i_X8_amend_105 xfe_X8_86 c37 eb38 (q := 108) rfl ?_
            obtain ⟨m39, em39, h⟩ := xi_bV_some h
            refine xr_VV i_X8_amend_108 xcve_X8_238 rfl (As := [.ref b32, .ref b38]) rfl (rest := []) rfl ((cc_X8_amend_238 S _ _ _).trans em39) (q := 111) rfl ?_
            refine xr_iload i_X8_amend_111 rfl (q := 113) rfl ?_
            exact xr_ireturn i_X8_amend_113 rfl h
set_option maxRecDepth 100000 in
theorem po_X8_amend {l : Launch} {E : xi_E} {S : xi_S} {D : va_G} {tys : List (ClassId × FieldType)} (hC : xCx E S tys) : xi_Pok l E S D vwCl tys xNs RX8 xTs cX8_amend 5 5 (P_X8_amend S) := ⟨xi_dc_ok, by rw [hC.2]; exact xfo_X8, xkio_X8, xklo_X8, xi_calls_ok (ins := .invokestatic) (List.forall_mem_cons.mpr ⟨(xc_X8_71 (sn_X8_within hC) (by decide)), fun _ h => absurd h List.not_mem_nil⟩), xi_calls_ok (ins := .invokevirtual) (List.forall_mem_cons.mpr ⟨(xc_X8_227 hC.1 (sn_X1_take hC) (by decide)), List.forall_mem_cons.mpr ⟨(xc_X8_228 hC.1 (sn_X0_weigh hC) (by decide)), List.forall_mem_cons.mpr ⟨(xc_X8_232 hC.1 (sn_X0_fewest hC) (by decide)), List.forall_mem_cons.mpr ⟨(xc_X8_235 hC.1 (sn_X7_begin hC) (by decide)), List.forall_mem_cons.mpr ⟨(xc_X8_238 hC.1 (sn_X0_write hC) (by decide)), fun _ h => absurd h List.not_mem_nil⟩⟩⟩⟩⟩)⟩
theorem sn_X8_amend {l : Launch} {E : xi_E} {S : xi_S} {D : va_G} {tys : List (ClassId × FieldType)} (hC : xCx E S tys) : ∀ As m1 r m2, F_X8_amend S As m1 = some (r, m2) → xi_Sound l E S D vwCl tys xNs xTs yX8_amend cX8_amend 5 (some .int) 5 As m1 r m2 := by
  intro As m1 r m2 h
  unfold F_X8_amend at h
  split at h
  · exact xi_meth (P := P_X8_amend S) (by decide) hC.1 (po_X8_amend hC) (Nat.le_of_ble_eq_true rfl) rfl (xe_X8_amend _ _ _ _ _ h)
  · exact xi_no h
