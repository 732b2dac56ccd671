theorem i_X9_coats_0 : xi_dc cX9_coats 0 = some (.iload_n 1, 1) := by decide +kernel
theorem i_X9_coats_1 : xi_dc cX9_coats 1 = some (.iconst 0, 1) := by decide +kernel
theorem i_X9_coats_2 : xi_dc cX9_coats 2 = some (.iconst 1, 1) := by decide +kernel
theorem i_X9_coats_3 : xi_dc cX9_coats 3 = some (.invokestatic 63, 3) := by decide +kernel
theorem i_X9_coats_6 : xi_dc cX9_coats 6 = some (.ifCond .eq 10, 3) := by decide +kernel
theorem t_X9_coats_6 : ((6 : Nat) : Int) + 10 = ((16 : Nat) : Int) := by decide +kernel
theorem i_X9_coats_9 : xi_dc cX9_coats 9 = some (.iload_n 2, 1) := by decide +kernel
theorem i_X9_coats_10 : xi_dc cX9_coats 10 = some (.invokestatic 67, 3) := by decide +kernel
theorem i_X9_coats_13 : xi_dc cX9_coats 13 = some (.ifCond .ne 5, 3) := by decide +kernel
theorem t_X9_coats_13 : ((13 : Nat) : Int) + 5 = ((18 : Nat) : Int) := by decide +kernel
theorem i_X9_coats_16 : xi_dc cX9_coats 16 = some (.iconst (-1), 1) := by decide +kernel
theorem i_X9_coats_17 : xi_dc cX9_coats 17 = some (.ireturn, 1) := by decide +kernel
theorem i_X9_coats_18 : xi_dc cX9_coats 18 = some (.aload_n 0, 1) := by decide +kernel
theorem i_X9_coats_19 : xi_dc cX9_coats 19 = some (.invokevirtual 183, 3) := by decide +kernel
theorem i_X9_coats_22 : xi_dc cX9_coats 22 = some (.ifCond .ne 6, 3) := by decide +kernel
theorem t_X9_coats_22 : ((22 : Nat) : Int) + 6 = ((28 : Nat) : Int) := by decide +kernel
theorem i_X9_coats_25 : xi_dc cX9_coats 25 = some (.bipush (-4), 2) := by decide +kernel
theorem i_X9_coats_27 : xi_dc cX9_coats 27 = some (.ireturn, 1) := by decide +kernel
theorem i_X9_coats_28 : xi_dc cX9_coats 28 = some (.aload_n 0, 1) := by decide +kernel
theorem i_X9_coats_29 : xi_dc cX9_coats 29 = some (.iload_n 2, 1) := by decide +kernel
theorem i_X9_coats_30 : xi_dc cX9_coats 30 = some (.bipush 20, 2) := by decide +kernel
theorem i_X9_coats_32 : xi_dc cX9_coats 32 = some (.iconst 1, 1) := by decide +kernel
theorem i_X9_coats_33 : xi_dc cX9_coats 33 = some (.invokevirtual 208, 3) := by decide +kernel
theorem i_X9_coats_36 : xi_dc cX9_coats 36 = some (.istore_n 3, 1) := by decide +kernel
theorem i_X9_coats_37 : xi_dc cX9_coats 37 = some (.iload_n 3, 1) := by decide +kernel
theorem i_X9_coats_38 : xi_dc cX9_coats 38 = some (.ifCond .le 9, 3) := by decide +kernel
theorem t_X9_coats_38 : ((38 : Nat) : Int) + 9 = ((47 : Nat) : Int) := by decide +kernel
theorem i_X9_coats_41 : xi_dc cX9_coats 41 = some (.aload_n 0, 1) := by decide +kernel
theorem i_X9_coats_42 : xi_dc cX9_coats 42 = some (.iload_n 3, 1) := by decide +kernel
theorem i_X9_coats_43 : xi_dc cX9_coats 43 = some (.invokevirtual 71, 3) := by decide +kernel
theorem i_X9_coats_46 : xi_dc cX9_coats 46 = some (.ireturn, 1) := by decide +kernel
theorem i_X9_coats_47 : xi_dc cX9_coats 47 = some (.iconst 0, 1) := by decide +kernel
theorem i_X9_coats_48 : xi_dc cX9_coats 48 = some (.istore 4, 2) := by decide +kernel
theorem i_X9_coats_50 : xi_dc cX9_coats 50 = some (.bipush (-9), 2) := by decide +kernel
theorem i_X9_coats_52 : xi_dc cX9_coats 52 = some (.istore 5, 2) := by decide +kernel
theorem i_X9_coats_54 : xi_dc cX9_coats 54 = some (.iconst 0, 1) := by decide +kernel
theorem i_X9_coats_55 : xi_dc cX9_coats 55 = some (.istore 6, 2) := by decide +kernel
theorem i_X9_coats_57 : xi_dc cX9_coats 57 = some (.iload 6, 2) := by decide +kernel
theorem i_X9_coats_59 : xi_dc cX9_coats 59 = some (.bipush 21, 2) := by decide +kernel
theorem i_X9_coats_61 : xi_dc cX9_coats 61 = some (.if_icmp .ge 64, 3) := by decide +kernel
theorem t_X9_coats_61 : ((61 : Nat) : Int) + 64 = ((125 : Nat) : Int) := by decide +kernel
theorem i_X9_coats_64 : xi_dc cX9_coats 64 = some (.iload 6, 2) := by decide +kernel
theorem i_X9_coats_66 : xi_dc cX9_coats 66 = some (.iconst 1, 1) := by decide +kernel
theorem i_X9_coats_67 : xi_dc cX9_coats 67 = some (.iadd, 1) := by decide +kernel
theorem i_X9_coats_68 : xi_dc cX9_coats 68 = some (.istore 7, 2) := by decide +kernel
theorem i_X9_coats_70 : xi_dc cX9_coats 70 = some (.iload 7, 2) := by decide +kernel
theorem i_X9_coats_72 : xi_dc cX9_coats 72 = some (.bipush 21, 2) := by decide +kernel
theorem i_X9_coats_74 : xi_dc cX9_coats 74 = some (.if_icmp .ge 45, 3) := by decide +kernel
theorem t_X9_coats_74 : ((74 : Nat) : Int) + 45 = ((119 : Nat) : Int) := by decide +kernel
theorem i_X9_coats_77 : xi_dc cX9_coats 77 = some (.aload_n 0, 1) := by decide +kernel
theorem i_X9_coats_78 : xi_dc cX9_coats 78 = some (.iload_n 1, 1) := by decide +kernel
theorem i_X9_coats_79 : xi_dc cX9_coats 79 = some (.iload_n 2, 1) := by decide +kernel
theorem i_X9_coats_80 : xi_dc cX9_coats 80 = some (.iload 6, 2) := by decide +kernel
theorem i_X9_coats_82 : xi_dc cX9_coats 82 = some (.iload 7, 2) := by decide +kernel
theorem i_X9_coats_84 : xi_dc cX9_coats 84 = some (.invokevirtual 211, 3) := by decide +kernel
theorem i_X9_coats_87 : xi_dc cX9_coats 87 = some (.ifCond .eq 26, 3) := by decide +kernel
theorem t_X9_coats_87 : ((87 : Nat) : Int) + 26 = ((113 : Nat) : Int) := by decide +kernel
theorem i_X9_coats_90 : xi_dc cX9_coats 90 = some (.iload 4, 2) := by decide +kernel
theorem i_X9_coats_92 : xi_dc cX9_coats 92 = some (.ifCond .ne 14, 3) := by decide +kernel
theorem t_X9_coats_92 : ((92 : Nat) : Int) + 14 = ((106 : Nat) : Int) := by decide +kernel
theorem i_X9_coats_95 : xi_dc cX9_coats 95 = some (.bipush 32, 2) := by decide +kernel
theorem i_X9_coats_97 : xi_dc cX9_coats 97 = some (.iload 6, 2) := by decide +kernel
theorem i_X9_coats_99 : xi_dc cX9_coats 99 = some (.imul, 1) := by decide +kernel
theorem i_X9_coats_100 : xi_dc cX9_coats 100 = some (.iload 7, 2) := by decide +kernel
theorem i_X9_coats_102 : xi_dc cX9_coats 102 = some (.iadd, 1) := by decide +kernel
theorem i_X9_coats_103 : xi_dc cX9_coats 103 = some (.goto 5, 3) := by decide +kernel
theorem t_X9_coats_103 : ((103 : Nat) : Int) + 5 = ((108 : Nat) : Int) := by decide +kernel
theorem i_X9_coats_106 : xi_dc cX9_coats 106 = some (.iload 5, 2) := by decide +kernel
theorem i_X9_coats_108 : xi_dc cX9_coats 108 = some (.istore 5, 2) := by decide +kernel
theorem i_X9_coats_110 : xi_dc cX9_coats 110 = some (.iinc 4 1, 3) := by decide +kernel
theorem i_X9_coats_113 : xi_dc cX9_coats 113 = some (.iinc 7 1, 3) := by decide +kernel
theorem i_X9_coats_116 : xi_dc cX9_coats 116 = some (.goto (-46), 3) := by decide +kernel
theorem t_X9_coats_116 : ((116 : Nat) : Int) + (-46) = ((70 : Nat) : Int) := by decide +kernel
theorem i_X9_coats_119 : xi_dc cX9_coats 119 = some (.iinc 6 1, 3) := by decide +kernel
theorem i_X9_coats_122 : xi_dc cX9_coats 122 = some (.goto (-65), 3) := by decide +kernel
theorem t_X9_coats_122 : ((122 : Nat) : Int) + (-65) = ((57 : Nat) : Int) := by decide +kernel
theorem i_X9_coats_125 : xi_dc cX9_coats 125 = some (.aload_n 0, 1) := by decide +kernel
theorem i_X9_coats_126 : xi_dc cX9_coats 126 = some (.iload 4, 2) := by decide +kernel
theorem i_X9_coats_128 : xi_dc cX9_coats 128 = some (.i2l, 1) := by decide +kernel
theorem i_X9_coats_129 : xi_dc cX9_coats 129 = some (.putfield 214, 3) := by decide +kernel
theorem i_X9_coats_132 : xi_dc cX9_coats 132 = some (.aload_n 0, 1) := by decide +kernel
theorem i_X9_coats_133 : xi_dc cX9_coats 133 = some (.lconst 1, 1) := by decide +kernel
theorem i_X9_coats_134 : xi_dc cX9_coats 134 = some (.putfield 49, 3) := by decide +kernel
theorem i_X9_coats_137 : xi_dc cX9_coats 137 = some (.aload_n 0, 1) := by decide +kernel
theorem i_X9_coats_138 : xi_dc cX9_coats 138 = some (.iload 5, 2) := by decide +kernel
theorem i_X9_coats_140 : xi_dc cX9_coats 140 = some (.invokevirtual 75, 3) := by decide +kernel
theorem i_X9_coats_143 : xi_dc cX9_coats 143 = some (.ireturn, 1) := by decide +kernel
def P_X9_coats (S : xi_S) : xi_P := (xi_dc cX9_coats, xi_tab xfl_X9, xi_tab xki_X9, xi_tab xkl_X9, xi_tab xcs_X9, xi_tab xcv_X9, xi_calls [(63, xi_wS 3 (F_X9_in0 S)), (67, xi_wS 1 (F_X9_isRow S))], xi_calls [(71, xi_wV S 11 1 (F_X9_found S)), (75, xi_wV S 11 1 (F_X9_tells S)), (183, xi_wV S 11 0 (F_X9_isAny S)), (208, xi_wV S 11 3 (F_X9_wrongIn S)), (211, xi_wV S 11 4 (F_X9_areSo S))], 1)
theorem cc_X9_coats_63 (S : xi_S) (a0 : Int32) (a1 : Int32) (a2 : Int32) (m : xi_M) : (P_X9_coats S).2.2.2.2.2.2.1 63 [.int a0, .int a1, .int a2] m = (E_X9_in0 S a0 a1 a2 m) := by
  show xi_calls [(63, xi_wS 3 (F_X9_in0 S)), (67, xi_wS 1 (F_X9_isRow S))] 63 [.int a0, .int a1, .int a2] m = _
  refine Eq.trans (b := xi_wS 3 (F_X9_in0 S) [.int a0, .int a1, .int a2] m) (xi_calls_hit rfl) ?_
  exact xi_wS_eq rfl
theorem cc_X9_coats_67 (S : xi_S) (a0 : Int32) (m : xi_M) : (P_X9_coats S).2.2.2.2.2.2.1 67 [.int a0] m = (E_X9_isRow S a0 m) := by
  show xi_calls [(63, xi_wS 3 (F_X9_in0 S)), (67, xi_wS 1 (F_X9_isRow S))] 67 [.int a0] m = _
  refine Eq.trans (b := xi_calls [(67, xi_wS 1 (F_X9_isRow S))] 67 [.int a0] m) (xi_calls_miss rfl) ?_
  refine Eq.trans (b := xi_wS 1 (F_X9_isRow S) [.int a0] m) (xi_calls_hit rfl) ?_
  exact xi_wS_eq rfl
theorem cc_X9_coats_71 (S : xi_S) (a0 : Nat) (a1 : Int32) (m : xi_M) : (P_X9_coats S).2.2.2.2.2.2.2.1 71 [.ref a0, .int a1] m = (if S.1 a0 = 11 then E_X9_found S a0 a1 m else none) := by
  show xi_calls [(71, xi_wV S 11 1 (F_X9_found S)), (75, xi_wV S 11 1 (F_X9_tells S)), (183, xi_wV S 11 0 (F_X9_isAny S)), (208, xi_wV S 11 3 (F_X9_wrongIn S)), (211, xi_wV S 11 4 (F_X9_areSo S))] 71 [.ref a0, .int a1] m = _
  refine Eq.trans (b := xi_wV S 11 1 (F_X9_found S) [.ref a0, .int a1] m) (xi_calls_hit rfl) ?_
  exact xi_wV_eq rfl
theorem cc_X9_coats_75 (S : xi_S) (a0 : Nat) (a1 : Int32) (m : xi_M) : (P_X9_coats S).2.2.2.2.2.2.2.1 75 [.ref a0, .int a1] m = (if S.1 a0 = 11 then E_X9_tells S a0 a1 m else none) := by
  show xi_calls [(71, xi_wV S 11 1 (F_X9_found S)), (75, xi_wV S 11 1 (F_X9_tells S)), (183, xi_wV S 11 0 (F_X9_isAny S)), (208, xi_wV S 11 3 (F_X9_wrongIn S)), (211, xi_wV S 11 4 (F_X9_areSo S))] 75 [.ref a0, .int a1] m = _
  refine Eq.trans (b := xi_calls [(75, xi_wV S 11 1 (F_X9_tells S)), (183, xi_wV S 11 0 (F_X9_isAny S)), (208, xi_wV S 11 3 (F_X9_wrongIn S)), (211, xi_wV S 11 4 (F_X9_areSo S))] 75 [.ref a0, .int a1] m) (xi_calls_miss rfl) ?_
  refine Eq.trans (b := xi_wV S 11 1 (F_X9_tells S) [.ref a0, .int a1] m) (xi_calls_hit rfl) ?_
  exact xi_wV_eq rfl
theorem cc_X9_coats_183 (S : xi_S) (a0 : Nat) (m : xi_M) : (P_X9_coats S).2.2.2.2.2.2.2.1 183 [.ref a0] m = (if S.1 a0 = 11 then E_X9_isAny S a0 m else none) := by
  show xi_calls [(71, xi_wV S 11 1 (F_X9_found S)), (75, xi_wV S 11 1 (F_X9_tells S)), (183, xi_wV S 11 0 (F_X9_isAny S)), (208, xi_wV S 11 3 (F_X9_wrongIn S)), (211, xi_wV S 11 4 (F_X9_areSo S))] 183 [.ref a0] m = _
  refine Eq.trans (b := xi_calls [(75, xi_wV S 11 1 (F_X9_tells S)), (183, xi_wV S 11 0 (F_X9_isAny S)), (208, xi_wV S 11 3 (F_X9_wrongIn S)), (211, xi_wV S 11 4 (F_X9_areSo S))] 183 [.ref a0] m) (xi_calls_miss rfl) ?_
  refine Eq.trans (b := xi_calls [(183, xi_wV S 11 0 (F_X9_isAny S)), (208, xi_wV S 11 3 (F_X9_wrongIn S)), (211, xi_wV S 11 4 (F_X9_areSo S))] 183 [.ref a0] m) (xi_calls_miss rfl) ?_
  refine Eq.trans (b := xi_wV S 11 0 (F_X9_isAny S) [.ref a0] m) (xi_calls_hit rfl) ?_
  exact xi_wV_eq rfl
theorem cc_X9_coats_208 (S : xi_S) (a0 : Nat) (a1 : Int32) (a2 : Int32) (a3 : Int32) (m : xi_M) : (P_X9_coats S).2.2.2.2.2.2.2.1 208 [.ref a0, .int a1, .int a2, .int a3] m = (if S.1 a0 = 11 then E_X9_wrongIn S a0 a1 a2 a3 m else none) := by
  show xi_calls [(71, xi_wV S 11 1 (F_X9_found S)), (75, xi_wV S 11 1 (F_X9_tells S)), (183, xi_wV S 11 0 (F_X9_isAny S)), (208, xi_wV S 11 3 (F_X9_wrongIn S)), (211, xi_wV S 11 4 (F_X9_areSo S))] 208 [.ref a0, .int a1, .int a2, .int a3] m = _
  refine Eq.trans (b := xi_calls [(75, xi_wV S 11 1 (F_X9_tells S)), (183, xi_wV S 11 0 (F_X9_isAny S)), (208, xi_wV S 11 3 (F_X9_wrongIn S)), (211, xi_wV S 11 4 (F_X9_areSo S))] 208 [.ref a0, .int a1, .int a2, .int a3] m) (xi_calls_miss rfl) ?_
  refine Eq.trans (b := xi_calls [(183, xi_wV S 11 0 (F_X9_isAny S)), (208, xi_wV S 11 3 (F_X9_wrongIn S)), (211, xi_wV S 11 4 (F_X9_areSo S))] 208 [.ref a0, .int a1, .int a2, .int a3] m) (xi_calls_miss rfl) ?_
  refine Eq.trans (b := xi_calls [(208, xi_wV S 11 3 (F_X9_wrongIn S)), (211, xi_wV S 11 4 (F_X9_areSo S))] 208 [.ref a0, .int a1, .int a2, .int a3] m) (xi_calls_miss rfl) ?_
  refine Eq.trans (b := xi_wV S 11 3 (F_X9_wrongIn S) [.ref a0, .int a1, .int a2, .int a3] m) (xi_calls_hit rfl) ?_
  exact xi_wV_eq rfl
theorem cc_X9_coats_211 (S : xi_S) (a0 : Nat) (a1 : Int32) (a2 : Int32) (a3 : Int32) (a4 : Int32) (m : xi_M) : (P_X9_coats S).2.2.2.2.2.2.2.1 211 [.ref a0, .int a1, .int a2, .int a3, .int a4] m = (if S.1 a0 = 11 then E_X9_areSo S a0 a1 a2 a3 a4 m else none) := by
  show xi_calls [(71, xi_wV S 11 1 (F_X9_found S)), (75, xi_wV S 11 1 (F_X9_tells S)), (183, xi_wV S 11 0 (F_X9_isAny S)), (208, xi_wV S 11 3 (F_X9_wrongIn S)), (211, xi_wV S 11 4 (F_X9_areSo S))] 211 [.ref a0, .int a1, .int a2, .int a3, .int a4] m = _
  refine Eq.trans (b := xi_calls [(75, xi_wV S 11 1 (F_X9_tells S)), (183, xi_wV S 11 0 (F_X9_isAny S)), (208, xi_wV S 11 3 (F_X9_wrongIn S)), (211, xi_wV S 11 4 (F_X9_areSo S))] 211 [.ref a0, .int a1, .int a2, .int a3, .int a4] m) (xi_calls_miss rfl) ?_
  refine Eq.trans (b := xi_calls [(183, xi_wV S 11 0 (F_X9_isAny S)), (208, xi_wV S 11 3 (F_X9_wrongIn S)), (211, xi_wV S 11 4 (F_X9_areSo S))] 211 [.ref a0, .int a1, .int a2, .int a3, .int a4] m) (xi_calls_miss rfl) ?_
  refine Eq.trans (b := xi_calls [(208, xi_wV S 11 3 (F_X9_wrongIn S)), (211, xi_wV S 11 4 (F_X9_areSo S))] 211 [.ref a0, .int a1, .int a2, .int a3, .int a4] m) (xi_calls_miss rfl) ?_
  refine Eq.trans (b := xi_calls [(211, xi_wV S 11 4 (F_X9_areSo S))] 211 [.ref a0, .int a1, .int a2, .int a3, .int a4] m) (xi_calls_miss rfl) ?_
  refine Eq.trans (b := xi_wV S 11 4 (F_X9_areSo S) [.ref a0, .int a1, .int a2, .int a3, .int a4] m) (xi_calls_hit rfl) ?_
  exact xi_wV_eq rfl
def G_X9_coats_70 (S : xi_S) (k57 : Nat → Int32 → Int32 → Int32 → Int32 → Int32 → xi_M → Option xi_R) : Nat → Nat → Int32 → Int32 → Int32 → Int32 → Int32 → Int32 → xi_M → Option xi_R
  | 0, _, _, _, _, _, _, _, _ => none
  | n + 1, v0, v1, v2, v4, v5, v6, v7, m =>
    if ((Int8.ofInt 21).toInt32) ≤ v7 then
      k57 v0 v1 v2 v4 v5 (v6 + Int32.ofInt 1) m
    else
      xi_bI (if S.1 v0 = 11 then E_X9_areSo S v0 v1 v2 v6 v7 m else none) fun x2 m1 =>
      if x2 = 0 then
        G_X9_coats_70 S k57 n v0 v1 v2 v4 v5 v6 (v7 + Int32.ofInt 1) m1
      else
        if v4 = 0 then
          G_X9_coats_70 S k57 n v0 v1 v2 (v4 + Int32.ofInt 1) ((((Int8.ofInt 32).toInt32) * v6) + v7) v6 (v7 + Int32.ofInt 1) m1
        else
          G_X9_coats_70 S k57 n v0 v1 v2 (v4 + Int32.ofInt 1) v5 v6 (v7 + Int32.ofInt 1) m1
set_option maxRecDepth 100000 in
set_option maxHeartbeats 4000000 in
theorem xs_X9_coats_70 {S : xi_S} {res : xi_R} {k57 : Nat → Int32 → Int32 → Int32 → Int32 → Int32 → xi_M → Option xi_R} (hk57 : ∀ (v0 : Nat) (v1 : Int32) (v2 : Int32) (v4 : Int32) (v5 : Int32) (v6 : Int32) (m : xi_M), k57 v0 v1 v2 v4 v5 v6 m = some res → xi_X S (P_X9_coats S) (57, [some (.ref v0), some (.int v1), some (.int v2), none, some (.int v4), some (.int v5), some (.int v6), none], [], m) res) : ∀ (n : Nat) (v0 : Nat) (v1 : Int32) (v2 : Int32) (v4 : Int32) (v5 : Int32) (v6 : Int32) (v7 : Int32) (m : xi_M), G_X9_coats_70 S k57 n v0 v1 v2 v4 v5 v6 v7 m = some res → xi_X S (P_X9_coats S) (70, [some (.ref v0), some (.int v1), some (.int v2), none, some (.int v4), some (.int v5), some (.int v6), some (.int v7)], [], m) res := by
  intro n
  induction n with
  | zero => intro v0 v1 v2 v4 v5 v6 v7 m h; exact xi_no h
  | succ n ih =>
    intro v0 v1 v2 v4 v5 v6 v7 m h
    unfold G_X9_coats_70 at h
    refine xr_iload i_X9_coats_70 rfl (q := 72) rfl ?_
    refine xr_bipush i_X9_coats_72 (q := 74) rfl ?_
    by_cases c5 : ((Int8.ofInt 21).toInt32) ≤ v7
    · replace h := (if_pos c5).symm.trans h
      refine xr_if_icmp_ge_p i_X9_coats_74 c5 (q := 119) t_X9_coats_74 (q2 := 77) rfl ?_
      refine xr_iinc i_X9_coats_119 rfl rfl (L2 := [some (.ref v0), some (.int v1), some (.int v2), none, some (.int v4), some (.int v5), some (.int (v6 + Int32.ofInt 1)), some (.int v7)]) rfl (q := 122) rfl ?_
      refine xr_goto i_X9_coats_122 (q := 57) t_X9_coats_122 ?_
      exact xi_X_le (xi_le_s (xi_le_s (xi_le_s (xi_le_n (xi_le_s (xi_le_s (xi_le_s (xi_le_n xi_le_z)))))))) (hk57 _ _ _ _ _ _ _ h)
    · replace h := (if_neg c5).symm.trans h
      refine xr_if_icmp_ge_n i_X9_coats_74 c5 (q := 119) t_X9_coats_74 (q2 := 77) rfl ?_
      refine xr_aload_n i_X9_coats_77 rfl (q := 78) rfl ?_
      refine xr_iload_n i_X9_coats_78 rfl (q := 79) rfl ?_
      refine xr_iload_n i_X9_coats_79 rfl (q := 80) rfl ?_
      refine xr_iload i_X9_coats_80 rfl (q := 82) rfl ?_
      refine xr_iload i_X9_coats_82 rfl (q := 84) rfl ?_
      obtain ⟨x2, m1, em1, h⟩ := xi_bI_some h
      refine xr_VI i_X9_coats_84 xcve_X9_211 rfl (As := [.ref v0, .int v1, .int v2, .int v6, .int v7]) rfl (rest := []) rfl ((cc_X9_coats_211 S _ _ _ _ _ _).trans em1) (q := 87) rfl ?_
      by_cases c4 : x2 = 0
      · replace h := (if_pos c4).symm.trans h
        refine xr_ifCond_eq_p i_X9_coats_87 c4 (q := 113) t_X9_coats_87 (q2 := 90) rfl ?_
        refine xr_iinc i_X9_coats_113 rfl rfl (L2 := [some (.ref v0), some (.int v1), some (.int v2), none, some (.int v4), some (.int v5), some (.int v6), some (.int (v7 + Int32.ofInt 1))]) rfl (q := 116) rfl ?_
        refine xr_goto i_X9_coats_116 (q := 70) t_X9_coats_116 ?_
        exact xi_X_le (xi_le_s (xi_le_s (xi_le_s (xi_le_n (xi_le_s (xi_le_s (xi_le_s (xi_le_s xi_le_z)))))))) (ih _ _ _ _ _ _ _ _ h)
      · replace h := (if_neg c4).symm.trans h
        refine xr_ifCond_eq_n i_X9_coats_87 c4 (q := 113) t_X9_coats_87 (q2 := 90) rfl ?_
        refine xr_iload i_X9_coats_90 rfl (q := 92) rfl ?_
        by_cases c3 : v4 = 0
        · replace h := (if_pos c3).symm.trans h
          refine xr_ifCond_ne_p i_X9_coats_92 c3 (q := 106) t_X9_coats_92 (q2 := 95) rfl ?_
          refine xr_bipush i_X9_coats_95 (q := 97) rfl ?_
          refine xr_iload i_X9_coats_97 rfl (q := 99) rfl ?_
          refine xr_imul i_X9_coats_99 (q := 100) rfl ?_
          refine xr_iload i_X9_coats_100 rfl (q := 102) rfl ?_
          refine xr_iadd i_X9_coats_102 (q := 103) rfl ?_
          refine xr_goto i_X9_coats_103 (q := 108) t_X9_coats_103 ?_
          refine xr_istore i_X9_coats_108 rfl (L2 := [some (.ref v0), some (.int v1), some (.int v2), none, some (.int v4), some (.int ((((Int8.ofInt 32).toInt32) * v6) + v7)), some (.int v6), some (.int v7)]) rfl (q := 110) rfl ?_
          refine xr_iinc i_X9_coats_110 rfl rfl (L2 := [some (.ref v0), some (.int v1), some (.int v2), none, some (.int (v4 + Int32.ofInt 1)), some (.int ((((Int8.ofInt 32).toInt32) * v6) + v7)), some (.int v6), some (.int v7)]) rfl (q := 113) rfl ?_
          refine xr_iinc i_X9_coats_113 rfl rfl (L2 := [some (.ref v0), some (.int v1), some (.int v2), none, some (.int (v4 + Int32.ofInt 1)), some (.int ((((Int8.ofInt 32).toInt32) * v6) + v7)), some (.int v6), some (.int (v7 + Int32.ofInt 1))]) rfl (q := 116) rfl ?_
          refine xr_goto i_X9_coats_116 (q := 70) t_X9_coats_116 ?_
          exact xi_X_le (xi_le_s (xi_le_s (xi_le_s (xi_le_n (xi_le_s (xi_le_s (xi_le_s (xi_le_s xi_le_z)))))))) (ih _ _ _ _ _ _ _ _ h)
        · replace h := (if_neg c3).symm.trans h
          refine xr_ifCond_ne_n i_X9_coats_92 c3 (q := 106) t_X9_coats_92 (q2 := 95) rfl ?_
          refine xr_iload i_X9_coats_106 rfl (q := 108) rfl ?_
          refine xr_istore i_X9_coats_108 rfl (L2 := [some (.ref v0), some (.int v1), some (.int v2), none, some (.int v4), some (.int v5), some (.int v6), some (.int v7)]) rfl (q := 110) rfl ?_
          refine xr_iinc i_X9_coats_110 rfl rfl (L2 := [some (.ref v0), some (.int v1), some (.int v2), none, some (.int (v4 + Int32.ofInt 1)), some (.int v5), some (.int v6), some (.int v7)]) rfl (q := 113) rfl ?_
          refine xr_iinc i_X9_coats_113 rfl rfl (L2 := [some (.ref v0), some (.int v1), some (.int v2), none, some (.int (v4 + Int32.ofInt 1)), some (.int v5), some (.int v6), some (.int (v7 + Int32.ofInt 1))]) rfl (q := 116) rfl ?_
          refine xr_goto i_X9_coats_116 (q := 70) t_X9_coats_116 ?_
          exact xi_X_le (xi_le_s (xi_le_s (xi_le_s (xi_le_n (xi_le_s (xi_le_s (xi_le_s (xi_le_s xi_le_z)))))))) (ih _ _ _ _ _ _ _ _ h)
def G_X9_coats_57 (S : xi_S) : Nat → Nat → Int32 → Int32 → Int32 → Int32 → Int32 → xi_M → Option xi_R
  | 0, _, _, _, _, _, _, _ => none
  | n + 1, v0, v1, v2, v4, v5, v6, m =>
    if ((Int8.ofInt 21).toInt32) ≤ v6 then
      if S.1 v0 = 11 then
        if S.1 v0 = 11 then
          xi_bI (if S.1 v0 = 11 then E_X9_tells S v0 v5 (xi_wJ (xi_wJ m v0 16 (Int32.toInt64 v4)) v0 17 (Int64.ofNat ((1 : Fin 2) : Nat))) else none) fun x4 m3 =>
          some (some (.int x4), m3)
        else none
      else none
    else
      G_X9_coats_70 S (G_X9_coats_57 S n) 10000 v0 v1 v2 v4 v5 v6 (v6 + (Int32.ofInt 1)) m
set_option maxRecDepth 100000 in
set_option maxHeartbeats 4000000 in
theorem xs_X9_coats_57 {S : xi_S} {res : xi_R} : ∀ (n : Nat) (v0 : Nat) (v1 : Int32) (v2 : Int32) (v4 : Int32) (v5 : Int32) (v6 : Int32) (m : xi_M), G_X9_coats_57 S n v0 v1 v2 v4 v5 v6 m = some res → xi_X S (P_X9_coats S) (57, [some (.ref v0), some (.int v1), some (.int v2), none, some (.int v4), some (.int v5), some (.int v6), none], [], m) res := by
  intro n
  induction n with
  | zero => intro v0 v1 v2 v4 v5 v6 m h; exact xi_no h
  | succ n ih =>
    intro v0 v1 v2 v4 v5 v6 m h
    unfold G_X9_coats_57 at h
    refine xr_iload i_X9_coats_57 rfl (q := 59) rfl ?_
    refine xr_bipush i_X9_coats_59 (q := 61) rfl ?_
    by_cases c5 : ((Int8.ofInt 21).toInt32) ≤ v6
    · replace h := (if_pos c5).symm.trans h
      refine xr_if_icmp_ge_p i_X9_coats_61 c5 (q := 125) t_X9_coats_61 (q2 := 64) rfl ?_
      refine xr_aload_n i_X9_coats_125 rfl (q := 126) rfl ?_
      refine xr_iload i_X9_coats_126 rfl (q := 128) rfl ?_
      refine xr_i2l i_X9_coats_128 (q := 129) rfl ?_
      obtain ⟨c1, h⟩ := xi_if_some h
      refine xr_putJ i_X9_coats_129 xfe_X9_214 c1 (q := 132) rfl ?_
      refine xr_aload_n i_X9_coats_132 rfl (q := 133) rfl ?_
      refine xr_lconst i_X9_coats_133 (q := 134) rfl ?_
      obtain ⟨c2, h⟩ := xi_if_some h
      refine xr_putJ i_X9_coats_134 xfe_X9_49 c2 (q := 137) rfl ?_
      refine xr_aload_n i_X9_coats_137 rfl (q := 138) rfl ?_
      refine xr_iload i_X9_coats_138 rfl (q := 140) rfl ?_
      obtain ⟨x4, m3, em3, h⟩ := xi_bI_some h
      refine xr_VI i_X9_coats_140 xcve_X9_75 rfl (As := [.ref v0, .int v5]) rfl (rest := []) rfl ((cc_X9_coats_75 S _ _ _).trans em3) (q := 143) rfl ?_
      exact xr_ireturn i_X9_coats_143 rfl h
    · replace h := (if_neg c5).symm.trans h
      refine xr_if_icmp_ge_n i_X9_coats_61 c5 (q := 125) t_X9_coats_61 (q2 := 64) rfl ?_
      refine xr_iload i_X9_coats_64 rfl (q := 66) rfl ?_
      refine xr_iconst i_X9_coats_66 (q := 67) rfl ?_
      refine xr_iadd i_X9_coats_67 (q := 68) rfl ?_
      refine xr_istore i_X9_coats_68 rfl (L2 := [some (.ref v0), some (.int v1), some (.int v2), none, some (.int v4), some (.int v5), some (.int v6), some (.int (v6 + (Int32.ofInt 1)))]) rfl (q := 70) rfl ?_
      exact xi_X_le (xi_le_s (xi_le_s (xi_le_s (xi_le_n (xi_le_s (xi_le_s (xi_le_s (xi_le_s xi_le_z)))))))) (xs_X9_coats_70 ih 10000 _ _ _ _ _ _ _ _ h)
def E_X9_coats (S : xi_S) (v0 : Nat) (v1 : Int32) (v2 : Int32) (m : xi_M) : Option xi_R :=
  xi_bI (E_X9_in0 S v1 (Int32.ofInt 0) (Int32.ofInt 1) m) fun x2 m1 =>
  if x2 = 0 then
    some (some (.int (Int32.ofInt (-1))), m1)
  else
    xi_bI (E_X9_isRow S v2 m1) fun x4 m3 =>
    if x4 = 0 then
      some (some (.int (Int32.ofInt (-1))), m3)
    else
      xi_bI (if S.1 v0 = 11 then E_X9_isAny S v0 m3 else none) fun x6 m5 =>
      if x6 = 0 then
        some (some (.int ((Int8.ofInt (-4)).toInt32)), m5)
      else
        xi_bI (if S.1 v0 = 11 then E_X9_wrongIn S v0 v2 ((Int8.ofInt 20).toInt32) (Int32.ofInt 1) m5 else none) fun x8 m7 =>
        if x8 ≤ 0 then
          G_X9_coats_57 S 10000 v0 v1 v2 (Int32.ofInt 0) ((Int8.ofInt (-9)).toInt32) (Int32.ofInt 0) m7
        else
          xi_bI (if S.1 v0 = 11 then E_X9_found S v0 x8 m7 else none) fun x10 m9 =>
          some (some (.int x10), m9)
def F_X9_coats (S : xi_S) : xi_F := fun As m => match As with
  | [.ref v0, .int v1, .int v2] => E_X9_coats S v0 v1 v2 m
  | _ => none
set_option maxRecDepth 100000 in
set_option maxHeartbeats 4000000 in
theorem xe_X9_coats {S : xi_S} {res : xi_R} (v0 : Nat) (v1 : Int32) (v2 : Int32) (m : xi_M) (h : E_X9_coats S v0 v1 v2 m = some res) : xi_X S (P_X9_coats S) (0, [some (.ref v0), some (.int v1), some (.int v2), none, none, none, none, none], [], m) res := by
  unfold E_X9_coats at h
  refine xr_iload_n i_X9_coats_0 rfl (q := 1) rfl ?_
  refine xr_iconst i_X9_coats_1 (q := 2) rfl ?_
  refine xr_iconst i_X9_coats_2 (q := 3) rfl ?_
  obtain ⟨x2, m1, em1, h⟩ := xi_bI_some h
  refine xr_SI i_X9_coats_3 xcse_X9_63 rfl (As := [.int v1, .int (Int32.ofInt 0), .int (Int32.ofInt 1)]) rfl (rest := []) rfl ((cc_X9_coats_63 S _ _ _ _).trans em1) (q := 6) rfl ?_
  by_cases c14 : x2 = 0
  · replace h := (if_pos c14).symm.trans h
    refine xr_ifCond_eq_p i_X9_coats_6 c14 (q := 16) t_X9_coats_6 (q2 := 9) rfl ?_
    refine xr_iconst i_X9_coats_16 (q := 17) rfl ?_
    exact xr_ireturn i_X9_coats_17 rfl h
  · replace h := (if_neg c14).symm.trans h
    refine xr_ifCond_eq_n i_X9_coats_6 c14 (q := 16) t_X9_coats_6 (q2 := 9) rfl ?_
    refine xr_iload_n i_X9_coats_9 rfl (q := 10) rfl ?_
    obtain ⟨x4, m3, em3, h⟩ := xi_bI_some h
    refine xr_SI i_X9_coats_10 xcse_X9_67 rfl (As := [.int v2]) rfl (rest := []) rfl ((cc_X9_coats_67 S _ _).trans em3) (q := 13) rfl ?_
    by_cases c13 : x4 = 0
    · replace h := (if_pos c13).symm.trans h
      refine xr_ifCond_ne_p i_X9_coats_13 c13 (q := 18) t_X9_coats_13 (q2 := 16) rfl ?_
      refine xr_iconst i_X9_coats_16 (q := 17) rfl ?_
      exact xr_ireturn i_X9_coats_17 rfl h
    · replace h := (if_neg c13).symm.trans h
      refine xr_ifCond_ne_n i_X9_coats_13 c13 (q := 18) t_X9_coats_13 (q2 := 16) rfl ?_
      refine xr_aload_n i_X9_coats_18 rfl (q := 19) rfl ?_
      obtain ⟨x6, m5, em5, h⟩ := xi_bI_some h
      refine xr_VI i_X9_coats_19 xcve_X9_183 rfl (As := [.ref v0]) rfl (rest := []) rfl ((cc_X9_coats_183 S _ _).trans em5) (q := 22) rfl ?_
      by_cases c12 : x6 = 0
      · replace h := (if_pos c12).symm.trans h
        refine xr_ifCond_ne_p i_X9_coats_22 c12 (q := 28) t_X9_coats_22 (q2 := 25) rfl ?_
        refine xr_bipush i_X9_coats_25 (q := 27) rfl ?_
        exact xr_ireturn i_X9_coats_27 rfl h
      · replace h := (if_neg c12).symm.trans h
        refine xr_ifCond_ne_n i_X9_coats_22 c12 (q := 28) t_X9_coats_22 (q2 := 25) rfl ?_
        refine xr_aload_n i_X9_coats_28 rfl (q := 29) rfl ?_
        refine xr_iload_n i_X9_coats_29 rfl (q := 30) rfl ?_
        refine xr_bipush i_X9_coats_30 (q := 32) rfl ?_
        refine xr_iconst i_X9_coats_32 (q := 33) rfl ?_
        obtain ⟨x8, m7, em7, h⟩ := xi_bI_some h
        refine xr_VI i_X9_coats_33 xcve_X9_208 rfl (As := [.ref v0, .int v2, .int ((Int8.ofInt 20).toInt32), .int (Int32.ofInt 1)]) rfl (rest := []) rfl ((cc_X9_coats_208 S _ _ _ _ _).trans em7) (q := 36) rfl ?_
        refine xr_istore_n i_X9_coats_36 rfl (L2 := [some (.ref v0), some (.int v1), some (.int v2), some (.int x8), none, none, none, none]) rfl (q := 37) rfl ?_
        refine xr_iload_n i_X9_coats_37 rfl (q := 38) rfl ?_
        by_cases c11 : x8 ≤ 0
        · replace h := (if_pos c11).symm.trans h
          refine xr_ifCond_le_p i_X9_coats_38 c11 (q := 47) t_X9_coats_38 (q2 := 41) rfl ?_
          refine xr_iconst i_X9_coats_47 (q := 48) rfl ?_
          refine xr_istore i_X9_coats_48 rfl (L2 := [some (.ref v0), some (.int v1), some (.int v2), some (.int x8), some (.int (Int32.ofInt 0)), none, none, none]) rfl (q := 50) rfl ?_
          refine xr_bipush i_X9_coats_50 (q := 52) rfl ?_
          refine xr_istore i_X9_coats_52 rfl (L2 := [some (.ref v0), some (.int v1), some (.int v2), some (.int x8), some (.int (Int32.ofInt 0)), some (.int ((Int8.ofInt (-9)).toInt32)), none, none]) rfl (q := 54) rfl ?_
          refine xr_iconst i_X9_coats_54 (q := 55) rfl ?_
          refine xr_istore i_X9_coats_55 rfl (L2 := [some (.ref v0), some (.int v1), some (.int v2), some (.int x8), some (.int (Int32.ofInt 0)), some (.int ((Int8.ofInt (-9)).toInt32)), some (.int (Int32.ofInt 0)), none]) rfl (q := 57) rfl ?_
          exact xi_X_le (xi_le_s (xi_le_s (xi_le_s (xi_le_n (xi_le_s (xi_le_s (xi_le_s (xi_le_n xi_le_z)))))))) (xs_X9_coats_57 10000 _ _ _ _ _ _ _ h)
        · replace h := (if_neg c11).symm.trans h
          refine xr_ifCond_le_n i_X9_coats_38 c11 (q := 47) t_X9_coats_38 (q2 := 41) rfl ?_
          refine xr_aload_n i_X9_coats_41 rfl (q := 42) rfl ?_
          refine xr_iload_n i_X9_coats_42 rfl (q := 43) rfl ?_
          obtain ⟨x10, m9, em9, h⟩ := xi_bI_some h
          refine xr_VI i_X9_coats_43 xcve_X9_71 rfl (As := [.ref v0, .int x8]) rfl (rest := []) rfl ((cc_X9_coats_71 S _ _ _).trans em9) (q := 46) rfl ?_
          exact xr_ireturn i_X9_coats_46 rfl h
set_option maxRecDepth 100000 in
theorem po_X9_coats {l : Launch} {E : xi_E} {S : xi_S} {D : va_G} {tys : List (ClassId × FieldType)} (hC : xCx E S tys) : xi_Pok l E S D vwCl tys xNs RX9 xTs cX9_coats 8 5 (P_X9_coats S) := ⟨xi_dc_ok, by rw [hC.2]; exact xfo_X9, xkio_X9, xklo_X9, xi_calls_ok (ins := .invokestatic) (List.forall_mem_cons.mpr ⟨(xc_X9_63 (sn_X9_in0 hC) (by decide)), List.forall_mem_cons.mpr ⟨(xc_X9_67 (sn_X9_isRow hC) (by decide)), fun _ h => absurd h List.not_mem_nil⟩⟩), xi_calls_ok (ins := .invokevirtual) (List.forall_mem_cons.mpr ⟨(xc_X9_71 hC.1 (sn_X9_found hC) (by decide)), List.forall_mem_cons.mpr ⟨(xc_X9_75 hC.1 (sn_X9_tells hC) (by decide)), List.forall_mem_cons.mpr ⟨(xc_X9_183 hC.1 (sn_X9_isAny hC) (by decide)), List.forall_mem_cons.mpr ⟨(xc_X9_208 hC.1 (sn_X9_wrongIn hC) (by decide)), List.forall_mem_cons.mpr ⟨(xc_X9_211 hC.1 (sn_X9_areSo hC) (by decide)), fun _ h => absurd h List.not_mem_nil⟩⟩⟩⟩⟩)⟩
theorem sn_X9_coats {l : Launch} {E : xi_E} {S : xi_S} {D : va_G} {tys : List (ClassId × FieldType)} (hC : xCx E S tys) : ∀ As m1 r m2, F_X9_coats S As m1 = some (r, m2) → xi_Sound l E S D vwCl tys xNs xTs yX9_coats cX9_coats 8 (some .int) 5 As m1 r m2 := by
  intro As m1 r m2 h
  unfold F_X9_coats at h
  split at h
  · exact xi_meth (P := P_X9_coats S) (by decide) hC.1 (po_X9_coats hC) (Nat.le_of_ble_eq_true rfl) rfl (xe_X9_coats _ _ _ _ h)
  · exact xi_no h
theorem i_X9_insBy_0 : xi_dc cX9_insBy 0 = some (.iconst 0, 1) := by decide +kernel
theorem i_X9_insBy_1 : xi_dc cX9_insBy 1 = some (.istore 4, 2) := by decide +kernel
theorem i_X9_insBy_3 : xi_dc cX9_insBy 3 = some (.iconst 0, 1) := by decide +kernel
theorem i_X9_insBy_4 : xi_dc cX9_insBy 4 = some (.istore 5, 2) := by decide +kernel
theorem i_X9_insBy_6 : xi_dc cX9_insBy 6 = some (.iload 5, 2) := by decide +kernel
theorem i_X9_insBy_8 : xi_dc cX9_insBy 8 = some (.bipush 21, 2) := by decide +kernel
theorem i_X9_insBy_10 : xi_dc cX9_insBy 10 = some (.if_icmp .ge 51, 3) := by decide +kernel
theorem t_X9_insBy_10 : ((10 : Nat) : Int) + 51 = ((61 : Nat) : Int) := by decide +kernel
theorem i_X9_insBy_13 : xi_dc cX9_insBy 13 = some (.iload 4, 2) := by decide +kernel
theorem i_X9_insBy_15 : xi_dc cX9_insBy 15 = some (.aload_n 0, 1) := by decide +kernel
theorem i_X9_insBy_16 : xi_dc cX9_insBy 16 = some (.getfield 25, 3) := by decide +kernel
theorem i_X9_insBy_19 : xi_dc cX9_insBy 19 = some (.iconst 0, 1) := by decide +kernel
theorem i_X9_insBy_20 : xi_dc cX9_insBy 20 = some (.iaload, 1) := by decide +kernel
theorem i_X9_insBy_21 : xi_dc cX9_insBy 21 = some (.iload_n 2, 1) := by decide +kernel
theorem i_X9_insBy_22 : xi_dc cX9_insBy 22 = some (.iload_n 3, 1) := by decide +kernel
theorem i_X9_insBy_23 : xi_dc cX9_insBy 23 = some (.iload 5, 2) := by decide +kernel
theorem i_X9_insBy_25 : xi_dc cX9_insBy 25 = some (.invokestatic 147, 3) := by decide +kernel
theorem i_X9_insBy_28 : xi_dc cX9_insBy 28 = some (.ifCond .eq 23, 3) := by decide +kernel
theorem t_X9_insBy_28 : ((28 : Nat) : Int) + 23 = ((51 : Nat) : Int) := by decide +kernel
theorem i_X9_insBy_31 : xi_dc cX9_insBy 31 = some (.aload_n 0, 1) := by decide +kernel
theorem i_X9_insBy_32 : xi_dc cX9_insBy 32 = some (.getfield 25, 3) := by decide +kernel
theorem i_X9_insBy_35 : xi_dc cX9_insBy 35 = some (.iload_n 1, 1) := by decide +kernel
theorem i_X9_insBy_36 : xi_dc cX9_insBy 36 = some (.iload 5, 2) := by decide +kernel
theorem i_X9_insBy_38 : xi_dc cX9_insBy 38 = some (.invokestatic 151, 3) := by decide +kernel
theorem i_X9_insBy_41 : xi_dc cX9_insBy 41 = some (.ifCond .ne 10, 3) := by decide +kernel
theorem t_X9_insBy_41 : ((41 : Nat) : Int) + 10 = ((51 : Nat) : Int) := by decide +kernel
theorem i_X9_insBy_44 : xi_dc cX9_insBy 44 = some (.iconst 1, 1) := by decide +kernel
theorem i_X9_insBy_45 : xi_dc cX9_insBy 45 = some (.iload 5, 2) := by decide +kernel
theorem i_X9_insBy_47 : xi_dc cX9_insBy 47 = some (.ishl, 1) := by decide +kernel
theorem i_X9_insBy_48 : xi_dc cX9_insBy 48 = some (.goto 4, 3) := by decide +kernel
theorem t_X9_insBy_48 : ((48 : Nat) : Int) + 4 = ((52 : Nat) : Int) := by decide +kernel
theorem i_X9_insBy_51 : xi_dc cX9_insBy 51 = some (.iconst 0, 1) := by decide +kernel
theorem i_X9_insBy_52 : xi_dc cX9_insBy 52 = some (.ior, 1) := by decide +kernel
theorem i_X9_insBy_53 : xi_dc cX9_insBy 53 = some (.istore 4, 2) := by decide +kernel
theorem i_X9_insBy_55 : xi_dc cX9_insBy 55 = some (.iinc 5 1, 3) := by decide +kernel
theorem i_X9_insBy_58 : xi_dc cX9_insBy 58 = some (.goto (-52), 3) := by decide +kernel
theorem t_X9_insBy_58 : ((58 : Nat) : Int) + (-52) = ((6 : Nat) : Int) := by decide +kernel
theorem i_X9_insBy_61 : xi_dc cX9_insBy 61 = some (.iload 4, 2) := by decide +kernel
theorem i_X9_insBy_63 : xi_dc cX9_insBy 63 = some (.ireturn, 1) := by decide +kernel
def P_X9_insBy (S : xi_S) : xi_P := (xi_dc cX9_insBy, xi_tab xfl_X9, xi_tab xki_X9, xi_tab xkl_X9, xi_tab xcs_X9, xi_tab xcv_X9, xi_calls [(147, xi_wS 4 (F_X9_isWithin S)), (151, xi_wS 3 (F_X9_isKept S))], xi_calls [], 1)
theorem cc_X9_insBy_147 (S : xi_S) (a0 : Int32) (a1 : Int32) (a2 : Int32) (a3 : Int32) (m : xi_M) : (P_X9_insBy S).2.2.2.2.2.2.1 147 [.int a0, .int a1, .int a2, .int a3] m = (E_X9_isWithin S a0 a1 a2 a3 m) := by
  show xi_calls [(147, xi_wS 4 (F_X9_isWithin S)), (151, xi_wS 3 (F_X9_isKept S))] 147 [.int a0, .int a1, .int a2, .int a3] m = _
  refine Eq.trans (b := xi_wS 4 (F_X9_isWithin S) [.int a0, .int a1, .int a2, .int a3] m) (xi_calls_hit rfl) ?_
  exact xi_wS_eq rfl
theorem cc_X9_insBy_151 (S : xi_S) (a0 : Nat) (a1 : Int32) (a2 : Int32) (m : xi_M) : (P_X9_insBy S).2.2.2.2.2.2.1 151 [.ref a0, .int a1, .int a2] m = (E_X9_isKept S a0 a1 a2 m) := by
  show xi_calls [(147, xi_wS 4 (F_X9_isWithin S)), (151, xi_wS 3 (F_X9_isKept S))] 151 [.ref a0, .int a1, .int a2] m = _
  refine Eq.trans (b := xi_calls [(151, xi_wS 3 (F_X9_isKept S))] 151 [.ref a0, .int a1, .int a2] m) (xi_calls_miss rfl) ?_
  refine Eq.trans (b := xi_wS 3 (F_X9_isKept S) [.ref a0, .int a1, .int a2] m) (xi_calls_hit rfl) ?_
  exact xi_wS_eq rfl
def G_X9_insBy_6 (S : xi_S) : Nat → Nat → Int32 → Int32 → Int32 → Int32 → Int32 → xi_M → Option xi_R
  | 0, _, _, _, _, _, _, _ => none
  | n + 1, v0, v1, v2, v3, v4, v5, m =>
    if ((Int8.ofInt 21).toInt32) ≤ v5 then
      some (some (.int v4), m)
    else
      if S.1 v0 = 11 then (S.2.2 v0 5).bind fun b2 =>
        if S.1 b2 = 0 ∧ ¬ ((Int32.ofInt 0) < 0 ∨ S.2.1 b2 ≤ Int32.toNatClampNeg (Int32.ofInt 0)) then
          xi_bI (E_X9_isWithin S (m.1 b2 (Int32.toNatClampNeg (Int32.ofInt 0))) v2 v3 v5 m) fun x5 m4 =>
          if x5 = 0 then
            G_X9_insBy_6 S n v0 v1 v2 v3 (v4 ||| (Int32.ofInt 0)) (v5 + Int32.ofInt 1) m4
          else
            if S.1 v0 = 11 then (S.2.2 v0 5).bind fun b7 =>
              xi_bI (E_X9_isKept S b7 v1 v5 m4) fun x9 m8 =>
              if x9 = 0 then
                G_X9_insBy_6 S n v0 v1 v2 v3 (v4 ||| ((Int32.ofInt 1) <<< (v5 &&& 31))) (v5 + Int32.ofInt 1) m8
              else
                G_X9_insBy_6 S n v0 v1 v2 v3 (v4 ||| (Int32.ofInt 0)) (v5 + Int32.ofInt 1) m8
            else none
        else none
      else none
set_option maxRecDepth 100000 in
set_option maxHeartbeats 4000000 in
theorem xs_X9_insBy_6 {S : xi_S} {res : xi_R} : ∀ (n : Nat) (v0 : Nat) (v1 : Int32) (v2 : Int32) (v3 : Int32) (v4 : Int32) (v5 : Int32) (m : xi_M), G_X9_insBy_6 S n v0 v1 v2 v3 v4 v5 m = some res → xi_X S (P_X9_insBy S) (6, [some (.ref v0), some (.int v1), some (.int v2), some (.int v3), some (.int v4), some (.int v5)], [], m) res := by
  intro n
  induction n with
  | zero => intro v0 v1 v2 v3 v4 v5 m h; exact xi_no h
  | succ n ih =>
    intro v0 v1 v2 v3 v4 v5 m h
    unfold G_X9_insBy_6 at h
    refine xr_iload i_X9_insBy_6 rfl (q := 8) rfl ?_
    refine xr_bipush i_X9_insBy_8 (q := 10) rfl ?_
    by_cases c12 : ((Int8.ofInt 21).toInt32) ≤ v5
    · replace h := (if_pos c12).symm.trans h
      refine xr_if_icmp_ge_p i_X9_insBy_10 c12 (q := 61) t_X9_insBy_10 (q2 := 13) rfl ?_
      refine xr_iload i_X9_insBy_61 rfl (q := 63) rfl ?_
      exact xr_ireturn i_X9_insBy_63 rfl h
    · replace h := (if_neg c12).symm.trans h
      refine xr_if_icmp_ge_n i_X9_insBy_10 c12 (q := 61) t_X9_insBy_10 (q2 := 13) rfl ?_
      refine xr_iload i_X9_insBy_13 rfl (q := 15) rfl ?_
      refine xr_aload_n i_X9_insBy_15 rfl (q := 16) rfl ?_
      obtain ⟨c1, h⟩ := xi_if_some h
      obtain ⟨b2, eb2, h⟩ := xi_bind_some h
      refine xr_getR i_X9_insBy_16 xfe_X9_25 c1 eb2 (q := 19) rfl ?_
      refine xr_iconst i_X9_insBy_19 (q := 20) rfl ?_
      obtain ⟨c3, h⟩ := xi_if_some h
      refine xr_iaload i_X9_insBy_20 c3 (q := 21) rfl ?_
      refine xr_iload_n i_X9_insBy_21 rfl (q := 22) rfl ?_
      refine xr_iload_n i_X9_insBy_22 rfl (q := 23) rfl ?_
      refine xr_iload i_X9_insBy_23 rfl (q := 25) rfl ?_
      obtain ⟨x5, m4, em4, h⟩ := xi_bI_some h
      refine xr_SI i_X9_insBy_25 xcse_X9_147 rfl (As := [.int (m.1 b2 (Int32.toNatClampNeg (Int32.ofInt 0))), .int v2, .int v3, .int v5]) rfl (rest := [.int v4]) rfl ((cc_X9_insBy_147 S _ _ _ _ _).trans em4) (q := 28) rfl ?_
      by_cases c11 : x5 = 0
      · replace h := (if_pos c11).symm.trans h
        refine xr_ifCond_eq_p i_X9_insBy_28 c11 (q := 51) t_X9_insBy_28 (q2 := 31) rfl ?_
        refine xr_iconst i_X9_insBy_51 (q := 52) rfl ?_
        refine xr_ior i_X9_insBy_52 (q := 53) rfl ?_
        refine xr_istore i_X9_insBy_53 rfl (L2 := [some (.ref v0), some (.int v1), some (.int v2), some (.int v3), some (.int (v4 ||| (Int32.ofInt 0))), some (.int v5)]) rfl (q := 55) rfl ?_
        refine xr_iinc i_X9_insBy_55 rfl rfl (L2 := [some (.ref v0), some (.int v1), some (.int v2), some (.int v3), some (.int (v4 ||| (Int32.ofInt 0))), some (.int (v5 + Int32.ofInt 1))]) rfl (q := 58) rfl ?_
        refine xr_goto i_X9_insBy_58 (q := 6) t_X9_insBy_58 ?_
        exact xi_X_le (xi_le_s (xi_le_s (xi_le_s (xi_le_s (xi_le_s (xi_le_s xi_le_z)))))) (ih _ _ _ _ _ _ _ h)
      · replace h := (if_neg c11).symm.trans h
        refine xr_ifCond_eq_n i_X9_insBy_28 c11 (q := 51) t_X9_insBy_28 (q2 := 31) rfl ?_
        refine xr_aload_n i_X9_insBy_31 rfl (q := 32) rfl ?_
        obtain ⟨c6, h⟩ := xi_if_some h
        obtain ⟨b7, eb7, h⟩ := xi_bind_some h
        refine xr_getR i_X9_insBy_32 xfe_X9_25 c6 eb7 (q := 35) rfl ?_
        refine xr_iload_n i_X9_insBy_35 rfl (q := 36) rfl ?_
        refine xr_iload i_X9_insBy_36 rfl (q := 38) rfl ?_
        obtain ⟨x9, m8, em8, h⟩ := xi_bI_some h
        refine xr_SI i_X9_insBy_38 xcse_X9_151 rfl (As := [.ref b7, .int v1, .int v5]) rfl (rest := [.int v4]) rfl ((cc_X9_insBy_151 S _ _ _ _).trans em8) (q := 41) rfl ?_
        by_cases c10 : x9 = 0
        · replace h := (if_pos c10).symm.trans h
          refine xr_ifCond_ne_p i_X9_insBy_41 c10 (q := 51) t_X9_insBy_41 (q2 := 44) rfl ?_
          refine xr_iconst i_X9_insBy_44 (q := 45) rfl ?_
          refine xr_iload i_X9_insBy_45 rfl (q := 47) rfl ?_
          refine xr_ishl i_X9_insBy_47 (q := 48) rfl ?_
          refine xr_goto i_X9_insBy_48 (q := 52) t_X9_insBy_48 ?_
          refine xr_ior i_X9_insBy_52 (q := 53) rfl ?_
          refine xr_istore i_X9_insBy_53 rfl (L2 := [some (.ref v0), some (.int v1), some (.int v2), some (.int v3), some (.int (v4 ||| ((Int32.ofInt 1) <<< (v5 &&& 31)))), some (.int v5)]) rfl (q := 55) rfl ?_
          refine xr_iinc i_X9_insBy_55 rfl rfl (L2 := [some (.ref v0), some (.int v1), some (.int v2), some (.int v3), some (.int (v4 ||| ((Int32.ofInt 1) <<< (v5 &&& 31)))), some (.int (v5 + Int32.ofInt 1))]) rfl (q := 58) rfl ?_
          refine xr_goto i_X9_insBy_58 (q := 6) t_X9_insBy_58 ?_
          exact xi_X_le (xi_le_s (xi_le_s (xi_le_s (xi_le_s (xi_le_s (xi_le_s xi_le_z)))))) (ih _ _ _ _ _ _ _ h)
        · replace h := (if_neg c10).symm.trans h
          refine xr_ifCond_ne_n i_X9_insBy_41 c10 (q := 51) t_X9_insBy_41 (q2 := 44) rfl ?_
          refine xr_iconst i_X9_insBy_51 (q := 52) rfl ?_
          refine xr_ior i_X9_insBy_52 (q := 53) rfl ?_
          refine xr_istore i_X9_insBy_53 rfl (L2 := [some (.ref v0), some (.int v1), some (.int v2), some (.int v3), some (.int (v4 ||| (Int32.ofInt 0))), some (.int v5)]) rfl (q := 55) rfl ?_
          refine xr_iinc i_X9_insBy_55 rfl rfl (L2 := [some (.ref v0), some (.int v1), some (.int v2), some (.int v3), some (.int (v4 ||| (Int32.ofInt 0))), some (.int (v5 + Int32.ofInt 1))]) rfl (q := 58) rfl ?_
          refine xr_goto i_X9_insBy_58 (q := 6) t_X9_insBy_58 ?_
          exact xi_X_le (xi_le_s (xi_le_s (xi_le_s (xi_le_s (xi_le_s (xi_le_s xi_le_z)))))) (ih _ _ _ _ _ _ _ h)
def E_X9_insBy (S : xi_S) (v0 : Nat) (v1 : Int32) (v2 : Int32) (v3 : Int32) (m : xi_M) : Option xi_R :=
  G_X9_insBy_6 S 10000 v0 v1 v2 v3 (Int32.ofInt 0) (Int32.ofInt 0) m
def F_X9_insBy (S : xi_S) : xi_F := fun As m => match As with
  | [.ref v0, .int v1, .int v2, .int v3] => E_X9_insBy S v0 v1 v2 v3 m
  | _ => none
set_option maxRecDepth 100000 in
set_option maxHeartbeats 4000000 in
theorem xe_X9_insBy {S : xi_S} {res : xi_R} (v0 : Nat) (v1 : Int32) (v2 : Int32) (v3 : Int32) (m : xi_M) (h : E_X9_insBy S v0 v1 v2 v3 m = some res) : xi_X S (P_X9_insBy S) (0, [some (.ref v0), some (.int v1), some (.int v2), some (.int v3), none, none], [], m) res := by
  unfold E_X9_insBy at h
  refine xr_iconst i_X9_insBy_0 (q := 1) rfl ?_
  refine xr_istore i_X9_insBy_1 rfl (L2 := [some (.ref v0), some (.int v1), some (.int v2), some (.int v3), some (.int (Int32.ofInt 0)), none]) rfl (q := 3) rfl ?_
  refine xr_iconst i_X9_insBy_3 (q := 4) rfl ?_
  refine xr_istore i_X9_insBy_4 rfl (L2 := [some (.ref v0), some (.int v1), some (.int v2), some (.int v3), some (.int (Int32.ofInt 0)), some (.int (Int32.ofInt 0))]) rfl (q := 6) rfl ?_
  exact xi_X_le (xi_le_s (xi_le_s (xi_le_s (xi_le_s (xi_le_s (xi_le_s xi_le_z)))))) (xs_X9_insBy_6 10000 _ _ _ _ _ _ _ h)
set_option maxRecDepth 100000 in
theorem po_X9_insBy {l : Launch} {E : xi_E} {S : xi_S} {D : va_G} {tys : List (ClassId × FieldType)} (hC : xCx E S tys) : xi_Pok l E S D vwCl tys xNs RX9 xTs cX9_insBy 6 4 (P_X9_insBy S) := ⟨xi_dc_ok, by rw [hC.2]; exact xfo_X9, xkio_X9, xklo_X9, xi_calls_ok (ins := .invokestatic) (List.forall_mem_cons.mpr ⟨(xc_X9_147 (sn_X9_isWithin hC) (by decide)), List.forall_mem_cons.mpr ⟨(xc_X9_151 (sn_X9_isKept hC) (by decide)), fun _ h => absurd h List.not_mem_nil⟩⟩), xi_calls_ok (ins := .invokevirtual) (fun _ h => absurd h List.not_mem_nil)⟩
theorem sn_X9_insBy {l : Launch} {E : xi_E} {S : xi_S} {D : va_G} {tys : List (ClassId × FieldType)} (hC : xCx E S tys) : ∀ As m1 r m2, F_X9_insBy S As m1 = some (r, m2) → xi_Sound l E S D vwCl tys xNs xTs yX9_insBy cX9_insBy 6 (some .int) 4 As m1 r m2 := by
  intro As m1 r m2 h
  unfold F_X9_insBy at h
  split at h
  · exact xi_meth (P := P_X9_insBy S) (by decide) hC.1 (po_X9_insBy hC) (Nat.le_of_ble_eq_true rfl) rfl (xe_X9_insBy _ _ _ _ _ h)
  · exact xi_no h
theorem i_X9_sure_0 : xi_dc cX9_sure 0 = some (.iload_n 1, 1) := by decide +kernel
theorem i_X9_sure_1 : xi_dc cX9_sure 1 = some (.iconst 0, 1) := by decide +kernel
theorem i_X9_sure_2 : xi_dc cX9_sure 2 = some (.iconst 1, 1) := by decide +kernel
theorem i_X9_sure_3 : xi_dc cX9_sure 3 = some (.invokestatic 63, 3) := by decide +kernel
theorem i_X9_sure_6 : xi_dc cX9_sure 6 = some (.ifCond .eq 10, 3) := by decide +kernel
theorem t_X9_sure_6 : ((6 : Nat) : Int) + 10 = ((16 : Nat) : Int) := by decide +kernel
theorem i_X9_sure_9 : xi_dc cX9_sure 9 = some (.iload_n 2, 1) := by decide +kernel
theorem i_X9_sure_10 : xi_dc cX9_sure 10 = some (.invokestatic 67, 3) := by decide +kernel
theorem i_X9_sure_13 : xi_dc cX9_sure 13 = some (.ifCond .ne 5, 3) := by decide +kernel
theorem t_X9_sure_13 : ((13 : Nat) : Int) + 5 = ((18 : Nat) : Int) := by decide +kernel
theorem i_X9_sure_16 : xi_dc cX9_sure 16 = some (.iconst (-1), 1) := by decide +kernel
theorem i_X9_sure_17 : xi_dc cX9_sure 17 = some (.ireturn, 1) := by decide +kernel
theorem i_X9_sure_18 : xi_dc cX9_sure 18 = some (.aload_n 0, 1) := by decide +kernel
theorem i_X9_sure_19 : xi_dc cX9_sure 19 = some (.invokevirtual 183, 3) := by decide +kernel
theorem i_X9_sure_22 : xi_dc cX9_sure 22 = some (.ifCond .ne 6, 3) := by decide +kernel
theorem t_X9_sure_22 : ((22 : Nat) : Int) + 6 = ((28 : Nat) : Int) := by decide +kernel
theorem i_X9_sure_25 : xi_dc cX9_sure 25 = some (.bipush (-4), 2) := by decide +kernel
theorem i_X9_sure_27 : xi_dc cX9_sure 27 = some (.ireturn, 1) := by decide +kernel
theorem i_X9_sure_28 : xi_dc cX9_sure 28 = some (.aload_n 0, 1) := by decide +kernel
theorem i_X9_sure_29 : xi_dc cX9_sure 29 = some (.iload_n 2, 1) := by decide +kernel
theorem i_X9_sure_30 : xi_dc cX9_sure 30 = some (.bipush 20, 2) := by decide +kernel
theorem i_X9_sure_32 : xi_dc cX9_sure 32 = some (.iconst 1, 1) := by decide +kernel
theorem i_X9_sure_33 : xi_dc cX9_sure 33 = some (.invokevirtual 208, 3) := by decide +kernel
theorem i_X9_sure_36 : xi_dc cX9_sure 36 = some (.istore_n 3, 1) := by decide +kernel
theorem i_X9_sure_37 : xi_dc cX9_sure 37 = some (.iload_n 3, 1) := by decide +kernel
theorem i_X9_sure_38 : xi_dc cX9_sure 38 = some (.ifCond .le 9, 3) := by decide +kernel
theorem t_X9_sure_38 : ((38 : Nat) : Int) + 9 = ((47 : Nat) : Int) := by decide +kernel
theorem i_X9_sure_41 : xi_dc cX9_sure 41 = some (.aload_n 0, 1) := by decide +kernel
theorem i_X9_sure_42 : xi_dc cX9_sure 42 = some (.iload_n 3, 1) := by decide +kernel
theorem i_X9_sure_43 : xi_dc cX9_sure 43 = some (.invokevirtual 71, 3) := by decide +kernel
theorem i_X9_sure_46 : xi_dc cX9_sure 46 = some (.ireturn, 1) := by decide +kernel
theorem i_X9_sure_47 : xi_dc cX9_sure 47 = some (.ldc 217, 2) := by decide +kernel
theorem i_X9_sure_49 : xi_dc cX9_sure 49 = some (.istore 4, 2) := by decide +kernel
theorem i_X9_sure_51 : xi_dc cX9_sure 51 = some (.iconst 0, 1) := by decide +kernel
theorem i_X9_sure_52 : xi_dc cX9_sure 52 = some (.istore 5, 2) := by decide +kernel
theorem i_X9_sure_54 : xi_dc cX9_sure 54 = some (.iconst 0, 1) := by decide +kernel
theorem i_X9_sure_55 : xi_dc cX9_sure 55 = some (.istore 6, 2) := by decide +kernel
theorem i_X9_sure_57 : xi_dc cX9_sure 57 = some (.iload 6, 2) := by decide +kernel
theorem i_X9_sure_59 : xi_dc cX9_sure 59 = some (.bipush 21, 2) := by decide +kernel
theorem i_X9_sure_61 : xi_dc cX9_sure 61 = some (.if_icmp .ge 94, 3) := by decide +kernel
theorem t_X9_sure_61 : ((61 : Nat) : Int) + 94 = ((155 : Nat) : Int) := by decide +kernel
theorem i_X9_sure_64 : xi_dc cX9_sure 64 = some (.iload 6, 2) := by decide +kernel
theorem i_X9_sure_66 : xi_dc cX9_sure 66 = some (.iconst 1, 1) := by decide +kernel
theorem i_X9_sure_67 : xi_dc cX9_sure 67 = some (.iadd, 1) := by decide +kernel
theorem i_X9_sure_68 : xi_dc cX9_sure 68 = some (.istore 7, 2) := by decide +kernel
theorem i_X9_sure_70 : xi_dc cX9_sure 70 = some (.iload 7, 2) := by decide +kernel
theorem i_X9_sure_72 : xi_dc cX9_sure 72 = some (.bipush 21, 2) := by decide +kernel
theorem i_X9_sure_74 : xi_dc cX9_sure 74 = some (.if_icmp .ge 75, 3) := by decide +kernel
theorem t_X9_sure_74 : ((74 : Nat) : Int) + 75 = ((149 : Nat) : Int) := by decide +kernel
theorem i_X9_sure_77 : xi_dc cX9_sure 77 = some (.aload_n 0, 1) := by decide +kernel
theorem i_X9_sure_78 : xi_dc cX9_sure 78 = some (.iload_n 1, 1) := by decide +kernel
theorem i_X9_sure_79 : xi_dc cX9_sure 79 = some (.iload_n 2, 1) := by decide +kernel
theorem i_X9_sure_80 : xi_dc cX9_sure 80 = some (.iload 6, 2) := by decide +kernel
theorem i_X9_sure_82 : xi_dc cX9_sure 82 = some (.iload 7, 2) := by decide +kernel
theorem i_X9_sure_84 : xi_dc cX9_sure 84 = some (.invokevirtual 211, 3) := by decide +kernel
theorem i_X9_sure_87 : xi_dc cX9_sure 87 = some (.ifCond .eq 15, 3) := by decide +kernel
theorem t_X9_sure_87 : ((87 : Nat) : Int) + 15 = ((102 : Nat) : Int) := by decide +kernel
theorem i_X9_sure_90 : xi_dc cX9_sure 90 = some (.aload_n 0, 1) := by decide +kernel
theorem i_X9_sure_91 : xi_dc cX9_sure 91 = some (.iload_n 1, 1) := by decide +kernel
theorem i_X9_sure_92 : xi_dc cX9_sure 92 = some (.iload 6, 2) := by decide +kernel
theorem i_X9_sure_94 : xi_dc cX9_sure 94 = some (.iload 7, 2) := by decide +kernel
theorem i_X9_sure_96 : xi_dc cX9_sure 96 = some (.invokevirtual 218, 3) := by decide +kernel
theorem i_X9_sure_99 : xi_dc cX9_sure 99 = some (.goto 5, 3) := by decide +kernel
theorem t_X9_sure_99 : ((99 : Nat) : Int) + 5 = ((104 : Nat) : Int) := by decide +kernel
theorem i_X9_sure_102 : xi_dc cX9_sure 102 = some (.bipush (-9), 2) := by decide +kernel
theorem i_X9_sure_104 : xi_dc cX9_sure 104 = some (.istore 8, 2) := by decide +kernel
theorem i_X9_sure_106 : xi_dc cX9_sure 106 = some (.iload 4, 2) := by decide +kernel
theorem i_X9_sure_108 : xi_dc cX9_sure 108 = some (.iload 8, 2) := by decide +kernel
theorem i_X9_sure_110 : xi_dc cX9_sure 110 = some (.bipush (-9), 2) := by decide +kernel
theorem i_X9_sure_112 : xi_dc cX9_sure 112 = some (.if_icmp .ne 8, 3) := by decide +kernel
theorem t_X9_sure_112 : ((112 : Nat) : Int) + 8 = ((120 : Nat) : Int) := by decide +kernel
theorem i_X9_sure_115 : xi_dc cX9_sure 115 = some (.ldc 217, 2) := by decide +kernel
theorem i_X9_sure_117 : xi_dc cX9_sure 117 = some (.goto 5, 3) := by decide +kernel
theorem t_X9_sure_117 : ((117 : Nat) : Int) + 5 = ((122 : Nat) : Int) := by decide +kernel
theorem i_X9_sure_120 : xi_dc cX9_sure 120 = some (.iload 8, 2) := by decide +kernel
theorem i_X9_sure_122 : xi_dc cX9_sure 122 = some (.iand, 1) := by decide +kernel
theorem i_X9_sure_123 : xi_dc cX9_sure 123 = some (.istore 4, 2) := by decide +kernel
theorem i_X9_sure_125 : xi_dc cX9_sure 125 = some (.iload 5, 2) := by decide +kernel
theorem i_X9_sure_127 : xi_dc cX9_sure 127 = some (.iload 8, 2) := by decide +kernel
theorem i_X9_sure_129 : xi_dc cX9_sure 129 = some (.bipush (-9), 2) := by decide +kernel
theorem i_X9_sure_131 : xi_dc cX9_sure 131 = some (.if_icmp .ne 7, 3) := by decide +kernel
theorem t_X9_sure_131 : ((131 : Nat) : Int) + 7 = ((138 : Nat) : Int) := by decide +kernel
theorem i_X9_sure_134 : xi_dc cX9_sure 134 = some (.iconst 0, 1) := by decide +kernel
theorem i_X9_sure_135 : xi_dc cX9_sure 135 = some (.goto 5, 3) := by decide +kernel
theorem t_X9_sure_135 : ((135 : Nat) : Int) + 5 = ((140 : Nat) : Int) := by decide +kernel
theorem i_X9_sure_138 : xi_dc cX9_sure 138 = some (.iload 8, 2) := by decide +kernel
theorem i_X9_sure_140 : xi_dc cX9_sure 140 = some (.ior, 1) := by decide +kernel
theorem i_X9_sure_141 : xi_dc cX9_sure 141 = some (.istore 5, 2) := by decide +kernel
theorem i_X9_sure_143 : xi_dc cX9_sure 143 = some (.iinc 7 1, 3) := by decide +kernel
theorem i_X9_sure_146 : xi_dc cX9_sure 146 = some (.goto (-76), 3) := by decide +kernel
theorem t_X9_sure_146 : ((146 : Nat) : Int) + (-76) = ((70 : Nat) : Int) := by decide +kernel
theorem i_X9_sure_149 : xi_dc cX9_sure 149 = some (.iinc 6 1, 3) := by decide +kernel
theorem i_X9_sure_152 : xi_dc cX9_sure 152 = some (.goto (-95), 3) := by decide +kernel
theorem t_X9_sure_152 : ((152 : Nat) : Int) + (-95) = ((57 : Nat) : Int) := by decide +kernel
theorem i_X9_sure_155 : xi_dc cX9_sure 155 = some (.aload_n 0, 1) := by decide +kernel
theorem i_X9_sure_156 : xi_dc cX9_sure 156 = some (.ldc 217, 2) := by decide +kernel
theorem i_X9_sure_158 : xi_dc cX9_sure 158 = some (.iload 5, 2) := by decide +kernel
theorem i_X9_sure_160 : xi_dc cX9_sure 160 = some (.iconst (-1), 1) := by decide +kernel
theorem i_X9_sure_161 : xi_dc cX9_sure 161 = some (.ixor, 1) := by decide +kernel
theorem i_X9_sure_162 : xi_dc cX9_sure 162 = some (.iand, 1) := by decide +kernel
theorem i_X9_sure_163 : xi_dc cX9_sure 163 = some (.invokevirtual 75, 3) := by decide +kernel
theorem i_X9_sure_166 : xi_dc cX9_sure 166 = some (.pop, 1) := by decide +kernel
theorem i_X9_sure_167 : xi_dc cX9_sure 167 = some (.iload 4, 2) := by decide +kernel
theorem i_X9_sure_169 : xi_dc cX9_sure 169 = some (.ireturn, 1) := by decide +kernel
def P_X9_sure (S : xi_S) : xi_P := (xi_dc cX9_sure, xi_tab xfl_X9, xi_tab xki_X9, xi_tab xkl_X9, xi_tab xcs_X9, xi_tab xcv_X9, xi_calls [(63, xi_wS 3 (F_X9_in0 S)), (67, xi_wS 1 (F_X9_isRow S))], xi_calls [(71, xi_wV S 11 1 (F_X9_found S)), (75, xi_wV S 11 1 (F_X9_tells S)), (183, xi_wV S 11 0 (F_X9_isAny S)), (208, xi_wV S 11 3 (F_X9_wrongIn S)), (211, xi_wV S 11 4 (F_X9_areSo S)), (218, xi_wV S 11 3 (F_X9_insBy S))], 1)
theorem cc_X9_sure_63 (S : xi_S) (a0 : Int32) (a1 : Int32) (a2 : Int32) (m : xi_M) : (P_X9_sure S).2.2.2.2.2.2.1 63 [.int a0, .int a1, .int a2] m = (E_X9_in0 S a0 a1 a2 m) := by
  show xi_calls [(63, xi_wS 3 (F_X9_in0 S)), (67, xi_wS 1 (F_X9_isRow S))] 63 [.int a0, .int a1, .int a2] m = _
  refine Eq.trans (b := xi_wS 3 (F_X9_in0 S) [.int a0, .int a1, .int a2] m) (xi_calls_hit rfl) ?_
  exact xi_wS_eq rfl
theorem cc_X9_sure_67 (S : xi_S) (a0 : Int32) (m : xi_M) : (P_X9_sure S).2.2.2.2.2.2.1 67 [.int a0] m = (E_X9_isRow S a0 m) := by
  show xi_calls [(63, xi_wS 3 (F_X9_in0 S)), (67, xi_wS 1 (F_X9_isRow S))] 67 [.int a0] m = _
  refine Eq.trans (b := xi_calls [(67, xi_wS 1 (F_X9_isRow S))] 67 [.int a0] m) (xi_calls_miss rfl) ?_
  refine Eq.trans (b := xi_wS 1 (F_X9_isRow S) [.int a0] m) (xi_calls_hit rfl) ?_
  exact xi_wS_eq rfl
theorem cc_X9_sure_71 (S : xi_S) (a0 : Nat) (a1 : Int32) (m : xi_M) : (P_X9_sure S).2.2.2.2.2.2.2.1 71 [.ref a0, .int a1] m = (if S.1 a0 = 11 then E_X9_found S a0 a1 m else none) := by
  show xi_calls [(71, xi_wV S 11 1 (F_X9_found S)), (75, xi_wV S 11 1 (F_X9_tells S)), (183, xi_wV S 11 0 (F_X9_isAny S)), (208, xi_wV S 11 3 (F_X9_wrongIn S)), (211, xi_wV S 11 4 (F_X9_areSo S)), (218, xi_wV S 11 3 (F_X9_insBy S))] 71 [.ref a0, .int a1] m = _
  refine Eq.trans (b := xi_wV S 11 1 (F_X9_found S) [.ref a0, .int a1] m) (xi_calls_hit rfl) ?_
  exact xi_wV_eq rfl
theorem cc_X9_sure_75 (S : xi_S) (a0 : Nat) (a1 : Int32) (m : xi_M) : (P_X9_sure S).2.2.2.2.2.2.2.1 75 [.ref a0, .int a1] m = (if S.1 a0 = 11 then E_X9_tells S a0 a1 m else none) := by
  show xi_calls [(71, xi_wV S 11 1 (F_X9_found S)), (75, xi_wV S 11 1 (F_X9_tells S)), (183, xi_wV S 11 0 (F_X9_isAny S)), (208, xi_wV S 11 3 (F_X9_wrongIn S)), (211, xi_wV S 11 4 (F_X9_areSo S)), (218, xi_wV S 11 3 (F_X9_insBy S))] 75 [.ref a0, .int a1] m = _
  refine Eq.trans (b := xi_calls [(75, xi_wV S 11 1 (F_X9_tells S)), (183, xi_wV S 11 0 (F_X9_isAny S)), (208, xi_wV S 11 3 (F_X9_wrongIn S)), (211, xi_wV S 11 4 (F_X9_areSo S)), (218, xi_wV S 11 3 (F_X9_insBy S))] 75 [.ref a0, .int a1] m) (xi_calls_miss rfl) ?_
  refine Eq.trans (b := xi_wV S 11 1 (F_X9_tells S) [.ref a0, .int a1] m) (xi_calls_hit rfl) ?_
  exact xi_wV_eq rfl
theorem cc_X9_sure_183 (S : xi_S) (a0 : Nat) (m : xi_M) : (P_X9_sure S).2.2.2.2.2.2.2.1 183 [.ref a0] m = (if S.1 a0 = 11 then E_X9_isAny S a0 m else none) := by
  show xi_calls [(71, xi_wV S 11 1 (F_X9_found S)), (75, xi_wV S 11 1 (F_X9_tells S)), (183, xi_wV S 11 0 (F_X9_isAny S)), (208, xi_wV S 11 3 (F_X9_wrongIn S)), (211, xi_wV S 11 4 (F_X9_areSo S)), (218, xi_wV S 11 3 (F_X9_insBy S))] 183 [.ref a0] m = _
  refine Eq.trans (b := xi_calls [(75, xi_wV S 11 1 (F_X9_tells S)), (183, xi_wV S 11 0 (F_X9_isAny S)), (208, xi_wV S 11 3 (F_X9_wrongIn S)), (211, xi_wV S 11 4 (F_X9_areSo S)), (218, xi_wV S 11 3 (F_X9_insBy S))] 183 [.ref a0] m) (xi_calls_miss rfl) ?_
  refine Eq.trans (b := xi_calls [(183, xi_wV S 11 0 (F_X9_isAny S)), (208, xi_wV S 11 3 (F_X9_wrongIn S)), (211, xi_wV S 11 4 (F_X9_areSo S)), (218, xi_wV S 11 3 (F_X9_insBy S))] 183 [.ref a0] m) (xi_calls_miss rfl) ?_
  refine Eq.trans (b := xi_wV S 11 0 (F_X9_isAny S) [.ref a0] m) (xi_calls_hit rfl) ?_
  exact xi_wV_eq rfl
theorem cc_X9_sure_208 (S : xi_S) (a0 : Nat) (a1 : Int32) (a2 : Int32) (a3 : Int32) (m : xi_M) : (P_X9_sure S).2.2.2.2.2.2.2.1 208 [.ref a0, .int a1, .int a2, .int a3] m = (if S.1 a0 = 11 then E_X9_wrongIn S a0 a1 a2 a3 m else none) := by
  show xi_calls [(71, xi_wV S 11 1 (F_X9_found S)), (75, xi_wV S 11 1 (F_X9_tells S)), (183, xi_wV S 11 0 (F_X9_isAny S)), (208, xi_wV S 11 3 (F_X9_wrongIn S)), (211, xi_wV S 11 4 (F_X9_areSo S)), (218, xi_wV S 11 3 (F_X9_insBy S))] 208 [.ref a0, .int a1, .int a2, .int a3] m = _
  refine Eq.trans (b := xi_calls [(75, xi_wV S 11 1 (F_X9_tells S)), (183, xi_wV S 11 0 (F_X9_isAny S)), (208, xi_wV S 11 3 (F_X9_wrongIn S)), (211, xi_wV S 11 4 (F_X9_areSo S)), (218, xi_wV S 11 3 (F_X9_insBy S))] 208 [.ref a0, .int a1, .int a2, .int a3] m) (xi_calls_miss rfl) ?_
  refine Eq.trans (b := xi_calls [(183, xi_wV S 11 0 (F_X9_isAny S)), (208, xi_wV S 11 3 (F_X9_wrongIn S)), (211, xi_wV S 11 4 (F_X9_areSo S)), (218, xi_wV S 11 3 (F_X9_insBy S))] 208 [.ref a0, .int a1, .int a2, .int a3] m) (xi_calls_miss rfl) ?_
  refine Eq.trans (b := xi_calls [(208, xi_wV S 11 3 (F_X9_wrongIn S)), (211, xi_wV S 11 4 (F_X9_areSo S)), (218, xi_wV S 11 3 (F_X9_insBy S))] 208 [.ref a0, .int a1, .int a2, .int a3] m) (xi_calls_miss rfl) ?_
  refine Eq.trans (b := xi_wV S 11 3 (F_X9_wrongIn S) [.ref a0, .int a1, .int a2, .int a3] m) (xi_calls_hit rfl) ?_
  exact xi_wV_eq rfl
theorem cc_X9_sure_211 (S : xi_S) (a0 : Nat) (a1 : Int32) (a2 : Int32) (a3 : Int32) (a4 : Int32) (m : xi_M) : (P_X9_sure S).2.2.2.2.2.2.2.1 211 [.ref a0, .int a1, .int a2, .int a3, .int a4] m = (if S.1 a0 = 11 then E_X9_areSo S a0 a1 a2 a3 a4 m else none) := by
  show xi_calls [(71, xi_wV S 11 1 (F_X9_found S)), (75, xi_wV S 11 1 (F_X9_tells S)), (183, xi_wV S 11 0 (F_X9_isAny S)), (208, xi_wV S 11 3 (F_X9_wrongIn S)), (211, xi_wV S 11 4 (F_X9_areSo S)), (218, xi_wV S 11 3 (F_X9_insBy S))] 211 [.ref a0, .int a1, .int a2, .int a3, .int a4] m = _
  refine Eq.trans (b := xi_calls [(75, xi_wV S 11 1 (F_X9_tells S)), (183, xi_wV S 11 0 (F_X9_isAny S)), (208, xi_wV S 11 3 (F_X9_wrongIn S)), (211, xi_wV S 11 4 (F_X9_areSo S)), (218, xi_wV S 11 3 (F_X9_insBy S))] 211 [.ref a0, .int a1, .int a2, .int a3, .int a4] m) (xi_calls_miss rfl) ?_
  refine Eq.trans (b := xi_calls [(183, xi_wV S 11 0 (F_X9_isAny S)), (208, xi_wV S 11 3 (F_X9_wrongIn S)), (211, xi_wV S 11 4 (F_X9_areSo S)), (218, xi_wV S 11 3 (F_X9_insBy S))] 211 [.ref a0, .int a1, .int a2, .int a3, .int a4] m) (xi_calls_miss rfl) ?_
  refine Eq.trans (b := xi_calls [(208, xi_wV S 11 3 (F_X9_wrongIn S)), (211, xi_wV S 11 4 (F_X9_areSo S)), (218, xi_wV S 11 3 (F_X9_insBy S))] 211 [.ref a0, .int a1, .int a2, .int a3, .int a4] m) (xi_calls_miss rfl) ?_
  refine Eq.trans (b := xi_calls [(211, xi_wV S 11 4 (F_X9_areSo S)), (218, xi_wV S 11 3 (F_X9_insBy S))] 211 [.ref a0, .int a1, .int a2, .int a3, .int a4] m) (xi_calls_miss rfl) ?_
  refine Eq.trans (b := xi_wV S 11 4 (F_X9_areSo S) [.ref a0, .int a1, .int a2, .int a3, .int a4] m) (xi_calls_hit rfl) ?_
  exact xi_wV_eq rfl
theorem cc_X9_sure_218 (S : xi_S) (a0 : Nat) (a1 : Int32) (a2 : Int32) (a3 : Int32) (m : xi_M) : (P_X9_sure S).2.2.2.2.2.2.2.1 218 [.ref a0, .int a1, .int a2, .int a3] m = (if S.1 a0 = 11 then E_X9_insBy S a0 a1 a2 a3 m else none) := by
  show xi_calls [(71, xi_wV S 11 1 (F_X9_found S)), (75, xi_wV S 11 1 (F_X9_tells S)), (183, xi_wV S 11 0 (F_X9_isAny S)), (208, xi_wV S 11 3 (F_X9_wrongIn S)), (211, xi_wV S 11 4 (F_X9_areSo S)), (218, xi_wV S 11 3 (F_X9_insBy S))] 218 [.ref a0, .int a1, .int a2, .int a3] m = _
  refine Eq.trans (b := xi_calls [(75, xi_wV S 11 1 (F_X9_tells S)), (183, xi_wV S 11 0 (F_X9_isAny S)), (208, xi_wV S 11 3 (F_X9_wrongIn S)), (211, xi_wV S 11 4 (F_X9_areSo S)), (218, xi_wV S 11 3 (F_X9_insBy S))] 218 [.ref a0, .int a1, .int a2, .int a3] m) (xi_calls_miss rfl) ?_
  refine Eq.trans (b := xi_calls [(183, xi_wV S 11 0 (F_X9_isAny S)), (208, xi_wV S 11 3 (F_X9_wrongIn S)), (211, xi_wV S 11 4 (F_X9_areSo S)), (218, xi_wV S 11 3 (F_X9_insBy S))] 218 [.ref a0, .int a1, .int a2, .int a3] m) (xi_calls_miss rfl) ?_
  refine Eq.trans (b := xi_calls [(208, xi_wV S 11 3 (F_X9_wrongIn S)), (211, xi_wV S 11 4 (F_X9_areSo S)), (218, xi_wV S 11 3 (F_X9_insBy S))] 218 [.ref a0, .int a1, .int a2, .int a3] m) (xi_calls_miss rfl) ?_
  refine Eq.trans (b := xi_calls [(211, xi_wV S 11 4 (F_X9_areSo S)), (218, xi_wV S 11 3 (F_X9_insBy S))] 218 [.ref a0, .int a1, .int a2, .int a3] m) (xi_calls_miss rfl) ?_
  refine Eq.trans (b := xi_calls [(218, xi_wV S 11 3 (F_X9_insBy S))] 218 [.ref a0, .int a1, .int a2, .int a3] m) (xi_calls_miss rfl) ?_
  refine Eq.trans (b := xi_wV S 11 3 (F_X9_insBy S) [.ref a0, .int a1, .int a2, .int a3] m) (xi_calls_hit rfl) ?_
  exact xi_wV_eq rfl
def G_X9_sure_70 (S : xi_S) (k57 : Nat → Int32 → Int32 → Int32 → Int32 → Int32 → xi_M → Option xi_R) : Nat → Nat → Int32 → Int32 → Int32 → Int32 → Int32 → Int32 → xi_M → Option xi_R
  | 0, _, _, _, _, _, _, _, _ => none
  | n + 1, v0, v1, v2, v4, v5, v6, v7, m =>
    if ((Int8.ofInt 21).toInt32) ≤ v7 then
      k57 v0 v1 v2 v4 v5 (v6 + Int32.ofInt 1) m
    else
      xi_bI (if S.1 v0 = 11 then E_X9_areSo S v0 v1 v2 v6 v7 m else none) fun x2 m1 =>
      if x2 = 0 then
        if ((Int8.ofInt (-9)).toInt32) = ((Int8.ofInt (-9)).toInt32) then
          if ((Int8.ofInt (-9)).toInt32) = ((Int8.ofInt (-9)).toInt32) then
            G_X9_sure_70 S k57 n v0 v1 v2 (v4 &&& (2097151 : Int32)) (v5 ||| (Int32.ofInt 0)) v6 (v7 + Int32.ofInt 1) m1
          else
            G_X9_sure_70 S k57 n v0 v1 v2 (v4 &&& (2097151 : Int32)) (v5 ||| ((Int8.ofInt (-9)).toInt32)) v6 (v7 + Int32.ofInt 1) m1
        else
          if ((Int8.ofInt (-9)).toInt32) = ((Int8.ofInt (-9)).toInt32) then
            G_X9_sure_70 S k57 n v0 v1 v2 (v4 &&& ((Int8.ofInt (-9)).toInt32)) (v5 ||| (Int32.ofInt 0)) v6 (v7 + Int32.ofInt 1) m1
          else
            G_X9_sure_70 S k57 n v0 v1 v2 (v4 &&& ((Int8.ofInt (-9)).toInt32)) (v5 ||| ((Int8.ofInt (-9)).toInt32)) v6 (v7 + Int32.ofInt 1) m1
      else
        xi_bI (if S.1 v0 = 11 then E_X9_insBy S v0 v1 v6 v7 m1 else none) fun x7 m6 =>
        if x7 = ((Int8.ofInt (-9)).toInt32) then
          if x7 = ((Int8.ofInt (-9)).toInt32) then
            G_X9_sure_70 S k57 n v0 v1 v2 (v4 &&& (2097151 : Int32)) (v5 ||| (Int32.ofInt 0)) v6 (v7 + Int32.ofInt 1) m6
          else
            G_X9_sure_70 S k57 n v0 v1 v2 (v4 &&& (2097151 : Int32)) (v5 ||| x7) v6 (v7 + Int32.ofInt 1) m6
        else
          if x7 = ((Int8.ofInt (-9)).toInt32) then
            G_X9_sure_70 S k57 n v0 v1 v2 (v4 &&& x7) (v5 ||| (Int32.ofInt 0)) v6 (v7 + Int32.ofInt 1) m6
          else
            G_X9_sure_70 S k57 n v0 v1 v2 (v4 &&& x7) (v5 ||| x7) v6 (v7 + Int32.ofInt 1) m6
set_option maxRecDepth 100000 in
set_option maxHeartbeats 4000000 in
theorem xs_X9_sure_70 {S : xi_S} {res : xi_R} {k57 : Nat → Int32 → Int32 → Int32 → Int32 → Int32 → xi_M → Option xi_R} (hk57 : ∀ (v0 : Nat) (v1 : Int32) (v2 : Int32) (v4 : Int32) (v5 : Int32) (v6 : Int32) (m : xi_M), k57 v0 v1 v2 v4 v5 v6 m = some res → xi_X S (P_X9_sure S) (57, [some (.ref v0), some (.int v1), some (.int v2), none, some (.int v4), some (.int v5), some (.int v6), none, none], [], m) res) : ∀ (n : Nat) (v0 : Nat) (v1 : Int32) (v2 : Int32) (v4 : Int32) (v5 : Int32) (v6 : Int32) (v7 : Int32) (m : xi_M), G_X9_sure_70 S k57 n v0 v1 v2 v4 v5 v6 v7 m = some res → xi_X S (P_X9_sure S) (70, [some (.ref v0), some (.int v1), some (.int v2), none, some (.int v4), some (.int v5), some (.int v6), some (.int v7), none], [], m) res := by
  intro n
  induction n with
  | zero => intro v0 v1 v2 v4 v5 v6 v7 m h; exact xi_no h
  | succ n ih =>
    intro v0 v1 v2 v4 v5 v6 v7 m h
    unfold G_X9_sure_70 at h
    refine xr_iload i_X9_sure_70 rfl (q := 72) rfl ?_
    refine xr_bipush i_X9_sure_72 (q := 74) rfl ?_
    by_cases c12 : ((Int8.ofInt 21).toInt32) ≤ v7
    · replace h := (if_pos c12).symm.trans h
      refine xr_if_icmp_ge_p i_X9_sure_74 c12 (q := 149) t_X9_sure_74 (q2 := 77) rfl ?_
      refine xr_iinc i_X9_sure_149 rfl rfl (L2 := [some (.ref v0), some (.int v1), some (.int v2), none, some (.int v4), some (.int v5), some (.int (v6 + Int32.ofInt 1)), some (.int v7), none]) rfl (q := 152) rfl ?_
      refine xr_goto i_X9_sure_152 (q := 57) t_X9_sure_152 ?_
      exact xi_X_le (xi_le_s (xi_le_s (xi_le_s (xi_le_n (xi_le_s (xi_le_s (xi_le_s (xi_le_n (xi_le_n xi_le_z))))))))) (hk57 _ _ _ _ _ _ _ h)
    · replace h := (if_neg c12).symm.trans h
      refine xr_if_icmp_ge_n i_X9_sure_74 c12 (q := 149) t_X9_sure_74 (q2 := 77) rfl ?_
      refine xr_aload_n i_X9_sure_77 rfl (q := 78) rfl ?_
      refine xr_iload_n i_X9_sure_78 rfl (q := 79) rfl ?_
      refine xr_iload_n i_X9_sure_79 rfl (q := 80) rfl ?_
      refine xr_iload i_X9_sure_80 rfl (q := 82) rfl ?_
      refine xr_iload i_X9_sure_82 rfl (q := 84) rfl ?_
      obtain ⟨x2, m1, em1, h⟩ := xi_bI_some h
      refine xr_VI i_X9_sure_84 xcve_X9_211 rfl (As := [.ref v0, .int v1, .int v2, .int v6, .int v7]) rfl (rest := []) rfl ((cc_X9_sure_211 S _ _ _ _ _ _).trans em1) (q := 87) rfl ?_
      by_cases c11 : x2 = 0
      · replace h := (if_pos c11).symm.trans h
        refine xr_ifCond_eq_p i_X9_sure_87 c11 (q := 102) t_X9_sure_87 (q2 := 90) rfl ?_
        refine xr_bipush i_X9_sure_102 (q := 104) rfl ?_
        refine xr_istore i_X9_sure_104 rfl (L2 := [some (.ref v0), some (.int v1), some (.int v2), none, some (.int v4), some (.int v5), some (.int v6), some (.int v7), some (.int ((Int8.ofInt (-9)).toInt32))]) rfl (q := 106) rfl ?_
        refine xr_iload i_X9_sure_106 rfl (q := 108) rfl ?_
        refine xr_iload i_X9_sure_108 rfl (q := 110) rfl ?_
        refine xr_bipush i_X9_sure_110 (q := 112) rfl ?_
        by_cases c5 : ((Int8.ofInt (-9)).toInt32) = ((Int8.ofInt (-9)).toInt32)
        · replace h := (if_pos c5).symm.trans h
          refine xr_if_icmp_ne_p i_X9_sure_112 c5 (q := 120) t_X9_sure_112 (q2 := 115) rfl ?_
          refine xr_ldc i_X9_sure_115 xkie_X9_217 (q := 117) rfl ?_
          refine xr_goto i_X9_sure_117 (q := 122) t_X9_sure_117 ?_
          refine xr_iand i_X9_sure_122 (q := 123) rfl ?_
          refine xr_istore i_X9_sure_123 rfl (L2 := [some (.ref v0), some (.int v1), some (.int v2), none, some (.int (v4 &&& (2097151 : Int32))), some (.int v5), some (.int v6), some (.int v7), some (.int ((Int8.ofInt (-9)).toInt32))]) rfl (q := 125) rfl ?_
          refine xr_iload i_X9_sure_125 rfl (q := 127) rfl ?_
          refine xr_iload i_X9_sure_127 rfl (q := 129) rfl ?_
          refine xr_bipush i_X9_sure_129 (q := 131) rfl ?_
          by_cases c4 : ((Int8.ofInt (-9)).toInt32) = ((Int8.ofInt (-9)).toInt32)
          · replace h := (if_pos c4).symm.trans h
            refine xr_if_icmp_ne_p i_X9_sure_131 c4 (q := 138) t_X9_sure_131 (q2 := 134) rfl ?_
            refine xr_iconst i_X9_sure_134 (q := 135) rfl ?_
            refine xr_goto i_X9_sure_135 (q := 140) t_X9_sure_135 ?_
            refine xr_ior i_X9_sure_140 (q := 141) rfl ?_
            refine xr_istore i_X9_sure_141 rfl (L2 := [some (.ref v0), some (.int v1), some (.int v2), none, some (.int (v4 &&& (2097151 : Int32))), some (.int (v5 ||| (Int32.ofInt 0))), some (.int v6), some (.int v7), some (.int ((Int8.ofInt (-9)).toInt32))]) rfl (q := 143) rfl ?_
            refine xr_iinc i_X9_sure_143 rfl rfl (L2 := [some (.ref v0), some (.int v1), some (.int v2), none, some (.int (v4 &&& (2097151 : Int32))), some (.int (v5 ||| (Int32.ofInt 0))), some (.int v6), some (.int (v7 + Int32.ofInt 1)), some (.int ((Int8.ofInt (-9)).toInt32))]) rfl (q := 146) rfl ?_
            refine xr_goto i_X9_sure_146 (q := 70) t_X9_sure_146 ?_
            exact xi_X_le (xi_le_s (xi_le_s (xi_le_s (xi_le_n (xi_le_s (xi_le_s (xi_le_s (xi_le_s (xi_le_n xi_le_z))))))))) (ih _ _ _ _ _ _ _ _ h)
          · replace h := (if_neg c4).symm.trans h
            refine xr_if_icmp_ne_n i_X9_sure_131 c4 (q := 138) t_X9_sure_131 (q2 := 134) rfl ?_
            refine xr_iload i_X9_sure_138 rfl (q := 140) rfl ?_
            refine xr_ior i_X9_sure_140 (q := 141) rfl ?_
            refine xr_istore i_X9_sure_141 rfl (L2 := [some (.ref v0), some (.int v1), some (.int v2), none, some (.int (v4 &&& (2097151 : Int32))), some (.int (v5 ||| ((Int8.ofInt (-9)).toInt32))), some (.int v6), some (.int v7), some (.int ((Int8.ofInt (-9)).toInt32))]) rfl (q := 143) rfl ?_
            refine xr_iinc i_X9_sure_143 rfl rfl (L2 := [some (.ref v0), some (.int v1), some (.int v2), none, some (.int (v4 &&& (2097151 : Int32))), some (.int (v5 ||| ((Int8.ofInt (-9)).toInt32))), some (.int v6), some (.int (v7 + Int32.ofInt 1)), some (.int ((Int8.ofInt (-9)).toInt32))]) rfl (q := 146) rfl ?_
            refine xr_goto i_X9_sure_146 (q := 70) t_X9_sure_146 ?_
            exact xi_X_le (xi_le_s (xi_le_s (xi_le_s (xi_le_n (xi_le_s (xi_le_s (xi_le_s (xi_le_s (xi_le_n xi_le_z))))))))) (ih _ _ _ _ _ _ _ _ h)
        · replace h := (if_neg c5).symm.trans h
          refine xr_if_icmp_ne_n i_X9_sure_112 c5 (q := 120) t_X9_sure_112 (q2 := 115) rfl ?_
          refine xr_iload i_X9_sure_120 rfl (q := 122) rfl ?_
          refine xr_iand i_X9_sure_122 (q := 123) rfl ?_
          refine xr_istore i_X9_sure_123 rfl (L2 := [some (.ref v0), some (.int v1), some (.int v2), none, some (.int (v4 &&& ((Int8.ofInt (-9)).toInt32))), some (.int v5), some (.int v6), some (.int v7), some (.int ((Int8.ofInt (-9)).toInt32))]) rfl (q := 125) rfl ?_
          refine xr_iload i_X9_sure_125 rfl (q := 127) rfl ?_
          refine xr_iload i_X9_sure_127 rfl (q := 129) rfl ?_
          refine xr_bipush i_X9_sure_129 (q := 131) rfl ?_
          by_cases c3 : ((Int8.ofInt (-9)).toInt32) = ((Int8.ofInt (-9)).toInt32)
          · replace h := (if_pos c3).symm.trans h
            refine xr_if_icmp_ne_p i_X9_sure_131 c3 (q := 138) t_X9_sure_131 (q2 := 134) rfl ?_
            refine xr_iconst i_X9_sure_134 (q := 135) rfl ?_
            refine xr_goto i_X9_sure_135 (q := 140) t_X9_sure_135 ?_
            refine xr_ior i_X9_sure_140 (q := 141) rfl ?_
            refine xr_istore i_X9_sure_141 rfl (L2 := [some (.ref v0), some (.int v1), some (.int v2), none, some (.int (v4 &&& ((Int8.ofInt (-9)).toInt32))), some (.int (v5 ||| (Int32.ofInt 0))), some (.int v6), some (.int v7), some (.int ((Int8.ofInt (-9)).toInt32))]) rfl (q := 143) rfl ?_
            refine xr_iinc i_X9_sure_143 rfl rfl (L2 := [some (.ref v0), some (.int v1), some (.int v2), none, some (.int (v4 &&& ((Int8.ofInt (-9)).toInt32))), some (.int (v5 ||| (Int32.ofInt 0))), some (.int v6), some (.int (v7 + Int32.ofInt 1)), some (.int ((Int8.ofInt (-9)).toInt32))]) rfl (q := 146) rfl ?_
            refine xr_goto i_X9_sure_146 (q := 70) t_X9_sure_146 ?_
            exact xi_X_le (xi_le_s (xi_le_s (xi_le_s (xi_le_n (xi_le_s (xi_le_s (xi_le_s (xi_le_s (xi_le_n xi_le_z))))))))) (ih _ _ _ _ _ _ _ _ h)
          · replace h := (if_neg c3).symm.trans h
            refine xr_if_icmp_ne_n i_X9_sure_131 c3 (q := 138) t_X9_sure_131 (q2 := 134) rfl ?_
            refine xr_iload i_X9_sure_138 rfl (q := 140) rfl ?_
            refine xr_ior i_X9_sure_140 (q := 141) rfl ?_
            refine xr_istore i_X9_sure_141 rfl (L2 := [some (.ref v0), some (.int v1), some (.int v2), none, some (.int (v4 &&& ((Int8.ofInt (-9)).toInt32))), some (.int (v5 ||| ((Int8.ofInt (-9)).toInt32))), some (.int v6), some (.int v7), some (.int ((Int8.ofInt (-9)).toInt32))]) rfl (q := 143) rfl ?_
            refine xr_iinc i_X9_sure_143 rfl rfl (L2 := [some (.ref v0), some (.int v1), some (.int v2), none, some (.int (v4 &&& ((Int8.ofInt (-9)).toInt32))), some (.int (v5 ||| ((Int8.ofInt (-9)).toInt32))), some (.int v6), some (.int (v7 + Int32.ofInt 1)), some (.int ((Int8.ofInt (-9)).toInt32))]) rfl (q := 146) rfl ?_
            refine xr_goto i_X9_sure_146 (q := 70) t_X9_sure_146 ?_
            exact xi_X_le (xi_le_s (xi_le_s (xi_le_s (xi_le_n (xi_le_s (xi_le_s (xi_le_s (xi_le_s (xi_le_n xi_le_z))))))))) (ih _ _ _ _ _ _ _ _ h)
      · replace h := (if_neg c11).symm.trans h
        refine xr_ifCond_eq_n i_X9_sure_87 c11 (q := 102) t_X9_sure_87 (q2 := 90) rfl ?_
        refine xr_aload_n i_X9_sure_90 rfl (q := 91) rfl ?_
        refine xr_iload_n i_X9_sure_91 rfl (q := 92) rfl ?_
        refine xr_iload i_X9_sure_92 rfl (q := 94) rfl ?_
        refine xr_iload i_X9_sure_94 rfl (q := 96) rfl ?_
        obtain ⟨x7, m6, em6, h⟩ := xi_bI_some h
        refine xr_VI i_X9_sure_96 xcve_X9_218 rfl (As := [.ref v0, .int v1, .int v6, .int v7]) rfl (rest := []) rfl ((cc_X9_sure_218 S _ _ _ _ _).trans em6) (q := 99) rfl ?_
        refine xr_goto i_X9_sure_99 (q := 104) t_X9_sure_99 ?_
        refine xr_istore i_X9_sure_104 rfl (L2 := [some (.ref v0), some (.int v1), some (.int v2), none, some (.int v4), some (.int v5), some (.int v6), some (.int v7), some (.int x7)]) rfl (q := 106) rfl ?_
        refine xr_iload i_X9_sure_106 rfl (q := 108) rfl ?_
        refine xr_iload i_X9_sure_108 rfl (q := 110) rfl ?_
        refine xr_bipush i_X9_sure_110 (q := 112) rfl ?_
        by_cases c10 : x7 = ((Int8.ofInt (-9)).toInt32)
        · replace h := (if_pos c10).symm.trans h
          refine xr_if_icmp_ne_p i_X9_sure_112 c10 (q := 120) t_X9_sure_112 (q2 := 115) rfl ?_
          refine xr_ldc i_X9_sure_115 xkie_X9_217 (q := 117) rfl ?_
          refine xr_goto i_X9_sure_117 (q := 122) t_X9_sure_117 ?_
          refine xr_iand i_X9_sure_122 (q := 123) rfl ?_
          refine xr_istore i_X9_sure_123 rfl (L2 := [some (.ref v0), some (.int v1), some (.int v2), none, some (.int (v4 &&& (2097151 : Int32))), some (.int v5), some (.int v6), some (.int v7), some (.int x7)]) rfl (q := 125) rfl ?_
          refine xr_iload i_X9_sure_125 rfl (q := 127) rfl ?_
          refine xr_iload i_X9_sure_127 rfl (q := 129) rfl ?_
          refine xr_bipush i_X9_sure_129 (q := 131) rfl ?_
          by_cases c9 : x7 = ((Int8.ofInt (-9)).toInt32)
          · replace h := (if_pos c9).symm.trans h
            refine xr_if_icmp_ne_p i_X9_sure_131 c9 (q := 138) t_X9_sure_131 (q2 := 134) rfl ?_
            refine xr_iconst i_X9_sure_134 (q := 135) rfl ?_
            refine xr_goto i_X9_sure_135 (q := 140) t_X9_sure_135 ?_
            refine xr_ior i_X9_sure_140 (q := 141) rfl ?_
            refine xr_istore i_X9_sure_141 rfl (L2 := [some (.ref v0), some (.int v1), some (.int v2), none, some (.int (v4 &&& (2097151 : Int32))), some (.int (v5 ||| (Int32.ofInt 0))), some (.int v6), some (.int v7), some (.int x7)]) rfl (q := 143) rfl ?_
            refine xr_iinc i_X9_sure_143 rfl rfl (L2 := [some (.ref v0), some (.int v1), some (.int v2), none, some (.int (v4 &&& (2097151 : Int32))), some (.int (v5 ||| (Int32.ofInt 0))), some (.int v6), some (.int (v7 + Int32.ofInt 1)), some (.int x7)]) rfl (q := 146) rfl ?_
            refine xr_goto i_X9_sure_146 (q := 70) t_X9_sure_146 ?_
            exact xi_X_le (xi_le_s (xi_le_s (xi_le_s (xi_le_n (xi_le_s (xi_le_s (xi_le_s (xi_le_s (xi_le_n xi_le_z))))))))) (ih _ _ _ _ _ _ _ _ h)
          · replace h := (if_neg c9).symm.trans h
            refine xr_if_icmp_ne_n i_X9_sure_131 c9 (q := 138) t_X9_sure_131 (q2 := 134) rfl ?_
            refine xr_iload i_X9_sure_138 rfl (q := 140) rfl ?_
            refine xr_ior i_X9_sure_140 (q := 141) rfl ?_
            refine xr_istore i_X9_sure_141 rfl (L2 := [some (.ref v0), some (.int v1), some (.int v2), none, some (.int (v4 &&& (2097151 : Int32))), some (.int (v5 ||| x7)), some (.int v6), some (.int v7), some (.int x7)]) rfl (q := 143) rfl ?_
            refine xr_iinc i_X9_sure_143 rfl rfl (L2 := [some (.ref v0), some (.int v1), some (.int v2), none, some (.int (v4 &&& (2097151 : Int32))), some (.int (v5 ||| x7)), some (.int v6), some (.int (v7 + Int32.ofInt 1)), some (.int x7)]) rfl (q := 146) rfl ?_
            refine xr_goto i_X9_sure_146 (q := 70) t_X9_sure_146 ?_
            exact xi_X_le (xi_le_s (xi_le_s (xi_le_s (xi_le_n (xi_le_s (xi_le_s (xi_le_s (xi_le_s (xi_le_n xi_le_z))))))))) (ih _ _ _ _ _ _ _ _ h)
        · replace h := (if_neg c10).symm.trans h
          refine xr_if_icmp_ne_n i_X9_sure_112 c10 (q := 120) t_X9_sure_112 (q2 := 115) rfl ?_
          refine xr_iload i_X9_sure_120 rfl (q := 122) rfl ?_
          refine xr_iand i_X9_sure_122 (q := 123) rfl ?_
          refine xr_istore i_X9_sure_123 rfl (L2 := [some (.ref v0), some (.int v1), some (.int v2), none, some (.int (v4 &&& x7)), some (.int v5), some (.int v6), some (.int v7), some (.int x7)]) rfl (q := 125) rfl ?_
          refine xr_iload i_X9_sure_125 rfl (q := 127) rfl ?_
          refine xr_iload i_X9_sure_127 rfl (q := 129) rfl ?_
          refine xr_bipush i_X9_sure_129 (q := 131) rfl ?_
          by_cases c8 : x7 = ((Int8.ofInt (-9)).toInt32)
          · replace h := (if_pos c8).symm.trans h
            refine xr_if_icmp_ne_p i_X9_sure_131 c8 (q := 138) t_X9_sure_131 (q2 := 134) rfl ?_
            refine xr_iconst i_X9_sure_134 (q := 135) rfl ?_
            refine xr_goto i_X9_sure_135 (q := 140) t_X9_sure_135 ?_
            refine xr_ior i_X9_sure_140 (q := 141) rfl ?_
            refine xr_istore i_X9_sure_141 rfl (L2 := [some (.ref v0), some (.int v1), some (.int v2), none, some (.int (v4 &&& x7)), some (.int (v5 ||| (Int32.ofInt 0))), some (.int v6), some (.int v7), some (.int x7)]) rfl (q := 143) rfl ?_
            refine xr_iinc i_X9_sure_143 rfl rfl (L2 := [some (.ref v0), some (.int v1), some (.int v2), none, some (.int (v4 &&& x7)), some (.int (v5 ||| (Int32.ofInt 0))), some (.int v6), some (.int (v7 + Int32.ofInt 1)), some (.int x7)]) rfl (q := 146) rfl ?_
            refine xr_goto i_X9_sure_146 (q := 70) t_X9_sure_146 ?_
            exact xi_X_le (xi_le_s (xi_le_s (xi_le_s (xi_le_n (xi_le_s (xi_le_s (xi_le_s (xi_le_s (xi_le_n xi_le_z))))))))) (ih _ _ _ _ _ _ _ _ h)
          · replace h := (if_neg c8).symm.trans h
            refine xr_if_icmp_ne_n i_X9_sure_131 c8 (q := 138) t_X9_sure_131 (q2 := 134) rfl ?_
            refine xr_iload i_X9_sure_138 rfl (q := 140) rfl ?_
            refine xr_ior i_X9_sure_140 (q := 141) rfl ?_
            refine xr_istore i_X9_sure_141 rfl (L2 := [some (.ref v0), some (.int v1), some (.int v2), none, some (.int (v4 &&& x7)), some (.int (v5 ||| x7)), some (.int v6), some (.int v7), some (.int x7)]) rfl (q := 143) rfl ?_
            refine xr_iinc i_X9_sure_143 rfl rfl (L2 := [some (.ref v0), some (.int v1), some (.int v2), none, some (.int (v4 &&& x7)), some (.int (v5 ||| x7)), some (.int v6), some (.int (v7 + Int32.ofInt 1)), some (.int x7)]) rfl (q := 146) rfl ?_
            refine xr_goto i_X9_sure_146 (q := 70) t_X9_sure_146 ?_
            exact xi_X_le (xi_le_s (xi_le_s (xi_le_s (xi_le_n (xi_le_s (xi_le_s (xi_le_s (xi_le_s (xi_le_n xi_le_z))))))))) (ih _ _ _ _ _ _ _ _ h)
def G_X9_sure_57 (S : xi_S) : Nat → Nat → Int32 → Int32 → Int32 → Int32 → Int32 → xi_M → Option xi_R
  | 0, _, _, _, _, _, _, _ => none
  | n + 1, v0, v1, v2, v4, v5, v6, m =>
    if ((Int8.ofInt 21).toInt32) ≤ v6 then
      xi_bI (if S.1 v0 = 11 then E_X9_tells S v0 ((2097151 : Int32) &&& (v5 ^^^ (Int32.ofInt (-1)))) m else none) fun x2 m1 =>
      some (some (.int v4), m1)
    else
      G_X9_sure_70 S (G_X9_sure_57 S n) 10000 v0 v1 v2 v4 v5 v6 (v6 + (Int32.ofInt 1)) m
set_option maxRecDepth 100000 in
set_option maxHeartbeats 4000000 in
theorem xs_X9_sure_57 {S : xi_S} {res : xi_R} : ∀ (n : Nat) (v0 : Nat) (v1 : Int32) (v2 : Int32) (v4 : Int32) (v5 : Int32) (v6 : Int32) (m : xi_M), G_X9_sure_57 S n v0 v1 v2 v4 v5 v6 m = some res → xi_X S (P_X9_sure S) (57, [some (.ref v0), some (.int v1), some (.int v2), none, some (.int v4), some (.int v5), some (.int v6), none, none], [], m) res := by
  intro n
  induction n with
  | zero => intro v0 v1 v2 v4 v5 v6 m h; exact xi_no h
  | succ n ih =>
    intro v0 v1 v2 v4 v5 v6 m h
    unfold G_X9_sure_57 at h
    refine xr_iload i_X9_sure_57 rfl (q := 59) rfl ?_
    refine xr_bipush i_X9_sure_59 (q := 61) rfl ?_
    by_cases c3 : ((Int8.ofInt 21).toInt32) ≤ v6
    · replace h := (if_pos c3).symm.trans h
      refine xr_if_icmp_ge_p i_X9_sure_61 c3 (q := 155) t_X9_sure_61 (q2 := 64) rfl ?_
      refine xr_aload_n i_X9_sure_155 rfl (q := 156) rfl ?_
      refine xr_ldc i_X9_sure_156 xkie_X9_217 (q := 158) rfl ?_
      refine xr_iload i_X9_sure_158 rfl (q := 160) rfl ?_
      refine xr_iconst i_X9_sure_160 (q := 161) rfl ?_
      refine xr_ixor i_X9_sure_161 (q := 162) rfl ?_
      refine xr_iand i_X9_sure_162 (q := 163) rfl ?_
      obtain ⟨x2, m1, em1, h⟩ := xi_bI_some h
      refine xr_VI i_X9_sure_163 xcve_X9_75 rfl (As := [.ref v0, .int ((2097151 : Int32) &&& (v5 ^^^ (Int32.ofInt (-1))))]) rfl (rest := []) rfl ((cc_X9_sure_75 S _ _ _).trans em1) (q := 166) rfl ?_
      refine xr_pop i_X9_sure_166 (q := 167) rfl ?_
      refine xr_iload i_X9_sure_167 rfl (q := 169) rfl ?_
      exact xr_ireturn i_X9_sure_169 rfl h
    · replace h := (if_neg c3).symm.trans h
      refine xr_if_icmp_ge_n i_X9_sure_61 c3 (q := 155) t_X9_sure_61 (q2 := 64) rfl ?_
      refine xr_iload i_X9_sure_64 rfl (q := 66) rfl ?_
      refine xr_iconst i_X9_sure_66 (q := 67) rfl ?_
      refine xr_iadd i_X9_sure_67 (q := 68) rfl ?_
      refine xr_istore i_X9_sure_68 rfl (L2 := [some (.ref v0), some (.int v1), some (.int v2), none, some (.int v4), some (.int v5), some (.int v6), some (.int (v6 + (Int32.ofInt 1))), none]) rfl (q := 70) rfl ?_
      exact xi_X_le (xi_le_s (xi_le_s (xi_le_s (xi_le_n (xi_le_s (xi_le_s (xi_le_s (xi_le_s (xi_le_n xi_le_z))))))))) (xs_X9_sure_70 ih 10000 _ _ _ _ _ _ _ _ h)
def E_X9_sure (S : xi_S) (v0 : Nat) (v1 : Int32) (v2 : Int32) (m : xi_M) : Option xi_R :=
  xi_bI (E_X9_in0 S v1 (Int32.ofInt 0) (Int32.ofInt 1) m) fun x2 m1 =>
  if x2 = 0 then
    some (some (.int (Int32.ofInt (-1))), m1)
  else
    xi_bI (E_X9_isRow S v2 m1) fun x4 m3 =>
    if x4 = 0 then
      some (some (.int (Int32.ofInt (-1))), m3)
    else
      xi_bI (if S.1 v0 = 11 then E_X9_isAny S v0 m3 else none) fun x6 m5 =>
      if x6 = 0 then
        some (some (.int ((Int8.ofInt (-4)).toInt32)), m5)
      else
        xi_bI (if S.1 v0 = 11 then E_X9_wrongIn S v0 v2 ((Int8.ofInt 20).toInt32) (Int32.ofInt 1) m5 else none) fun x8 m7 =>
        if x8 ≤ 0 then
          G_X9_sure_57 S 10000 v0 v1 v2 (2097151 : Int32) (Int32.ofInt 0) (Int32.ofInt 0) m7
        else
          xi_bI (if S.1 v0 = 11 then E_X9_found S v0 x8 m7 else none) fun x10 m9 =>
          some (some (.int x10), m9)
def F_X9_sure (S : xi_S) : xi_F := fun As m => match As with
  | [.ref v0, .int v1, .int v2] => E_X9_sure S v0 v1 v2 m
  | _ => none
set_option maxRecDepth 100000 in
set_option maxHeartbeats 4000000 in
theorem xe_X9_sure {S : xi_S} {res : xi_R} (v0 : Nat) (v1 : Int32) (v2 : Int32) (m : xi_M) (h : E_X9_sure S v0 v1 v2 m = some res) : xi_X S (P_X9_sure S) (0, [some (.ref v0), some (.int v1), some (.int v2), none, none, none, none, none, none], [], m) res := by
  unfold E_X9_sure at h
  refine xr_iload_n i_X9_sure_0 rfl (q := 1) rfl ?_
  refine xr_iconst i_X9_sure_1 (q := 2) rfl ?_
  refine xr_iconst i_X9_sure_2 (q := 3) rfl ?_
  obtain ⟨x2, m1, em1, h⟩ := xi_bI_some h
  refine xr_SI i_X9_sure_3 xcse_X9_63 rfl (As := [.int v1, .int (Int32.ofInt 0), .int (Int32.ofInt 1)]) rfl (rest := []) rfl ((cc_X9_sure_63 S _ _ _ _).trans em1) (q := 6) rfl ?_
  by_cases c14 : x2 = 0
  · replace h := (if_pos c14).symm.trans h
    refine xr_ifCond_eq_p i_X9_sure_6 c14 (q := 16) t_X9_sure_6 (q2 := 9) rfl ?_
    refine xr_iconst i_X9_sure_16 (q := 17) rfl ?_
    exact xr_ireturn i_X9_sure_17 rfl h
  · replace h := (if_neg c14).symm.trans h
    refine xr_ifCond_eq_n i_X9_sure_6 c14 (q := 16) t_X9_sure_6 (q2 := 9) rfl ?_
    refine xr_iload_n i_X9_sure_9 rfl (q := 10) rfl ?_
    obtain ⟨x4, m3, em3, h⟩ := xi_bI_some h
    refine xr_SI i_X9_sure_10 xcse_X9_67 rfl (As := [.int v2]) rfl (rest := []) rfl ((cc_X9_sure_67 S _ _).trans em3) (q := 13) rfl ?_
    by_cases c13 : x4 = 0
    · replace h := (if_pos c13).symm.trans h
      refine xr_ifCond_ne_p i_X9_sure_13 c13 (q := 18) t_X9_sure_13 (q2 := 16) rfl ?_
      refine xr_iconst i_X9_sure_16 (q := 17) rfl ?_
      exact xr_ireturn i_X9_sure_17 rfl h
    · replace h := (if_neg c13).symm.trans h
      refine xr_ifCond_ne_n i_X9_sure_13 c13 (q := 18) t_X9_sure_13 (q2 := 16) rfl ?_
      refine xr_aload_n i_X9_sure_18 rfl (q := 19) rfl ?_
      obtain ⟨x6, m5, em5, h⟩ := xi_bI_some h
      refine xr_VI i_X9_sure_19 xcve_X9_183 rfl (As := [.ref v0]) rfl (rest := []) rfl ((cc_X9_sure_183 S _ _).trans em5) (q := 22) rfl ?_
      by_cases c12 : x6 = 0
      · replace h := (if_pos c12).symm.trans h
        refine xr_ifCond_ne_p i_X9_sure_22 c12 (q := 28) t_X9_sure_22 (q2 := 25) rfl ?_
        refine xr_bipush i_X9_sure_25 (q := 27) rfl ?_
        exact xr_ireturn i_X9_sure_27 rfl h
      · replace h := (if_neg c12).symm.trans h
        refine xr_ifCond_ne_n i_X9_sure_22 c12 (q := 28) t_X9_sure_22 (q2 := 25) rfl ?_
        refine xr_aload_n i_X9_sure_28 rfl (q := 29) rfl ?_
        refine xr_iload_n i_X9_sure_29 rfl (q := 30) rfl ?_
        refine xr_bipush i_X9_sure_30 (q := 32) rfl ?_
        refine xr_iconst i_X9_sure_32 (q := 33) rfl ?_
        obtain ⟨x8, m7, em7, h⟩ := xi_bI_some h
        refine xr_VI i_X9_sure_33 xcve_X9_208 rfl (As := [.ref v0, .int v2, .int ((Int8.ofInt 20).toInt32), .int (Int32.ofInt 1)]) rfl (rest := []) rfl ((cc_X9_sure_208 S _ _ _ _ _).trans em7) (q := 36) rfl ?_
        refine xr_istore_n i_X9_sure_36 rfl (L2 := [some (.ref v0), some (.int v1), some (.int v2), some (.int x8), none, none, none, none, none]) rfl (q := 37) rfl ?_
        refine xr_iload_n i_X9_sure_37 rfl (q := 38) rfl ?_
        by_cases c11 : x8 ≤ 0
        · replace h := (if_pos c11).symm.trans h
          refine xr_ifCond_le_p i_X9_sure_38 c11 (q := 47) t_X9_sure_38 (q2 := 41) rfl ?_
          refine xr_ldc i_X9_sure_47 xkie_X9_217 (q := 49) rfl ?_
          refine xr_istore i_X9_sure_49 rfl (L2 := [some (.ref v0), some (.int v1), some (.int v2), some (.int x8), some (.int (2097151 : Int32)), none, none, none, none]) rfl (q := 51) rfl ?_
          refine xr_iconst i_X9_sure_51 (q := 52) rfl ?_
          refine xr_istore i_X9_sure_52 rfl (L2 := [some (.ref v0), some (.int v1), some (.int v2), some (.int x8), some (.int (2097151 : Int32)), some (.int (Int32.ofInt 0)), none, none, none]) rfl (q := 54) rfl ?_
          refine xr_iconst i_X9_sure_54 (q := 55) rfl ?_
          refine xr_istore i_X9_sure_55 rfl (L2 := [some (.ref v0), some (.int v1), some (.int v2), some (.int x8), some (.int (2097151 : Int32)), some (.int (Int32.ofInt 0)), some (.int (Int32.ofInt 0)), none, none]) rfl (q := 57) rfl ?_
          exact xi_X_le (xi_le_s (xi_le_s (xi_le_s (xi_le_n (xi_le_s (xi_le_s (xi_le_s (xi_le_n (xi_le_n xi_le_z))))))))) (xs_X9_sure_57 10000 _ _ _ _ _ _ _ h)
        · replace h := (if_neg c11).symm.trans h
          refine xr_ifCond_le_n i_X9_sure_38 c11 (q := 47) t_X9_sure_38 (q2 := 41) rfl ?_
          refine xr_aload_n i_X9_sure_41 rfl (q := 42) rfl ?_
          refine xr_iload_n i_X9_sure_42 rfl (q := 43) rfl ?_
          obtain ⟨x10, m9, em9, h⟩ := xi_bI_some h
          refine xr_VI i_X9_sure_43 xcve_X9_71 rfl (As := [.ref v0, .int x8]) rfl (rest := []) rfl ((cc_X9_sure_71 S _ _ _).trans em9) (q := 46) rfl ?_
          exact xr_ireturn i_X9_sure_46 rfl h
set_option maxRecDepth 100000 in
theorem po_X9_sure {l : Launch} {E : xi_E} {S : xi_S} {D : va_G} {tys : List (ClassId × FieldType)} (hC : xCx E S tys) : xi_Pok l E S D vwCl tys xNs RX9 xTs cX9_sure 9 5 (P_X9_sure S) := ⟨xi_dc_ok, by rw [hC.2]; exact xfo_X9, xkio_X9, xklo_X9, xi_calls_ok (ins := .invokestatic) (List.forall_mem_cons.mpr ⟨(xc_X9_63 (sn_X9_in0 hC) (by decide)), List.forall_mem_cons.mpr ⟨(xc_X9_67 (sn_X9_isRow hC) (by decide)), fun _ h => absurd h List.not_mem_nil⟩⟩), xi_calls_ok (ins := .invokevirtual) (List.forall_mem_cons.mpr ⟨(xc_X9_71 hC.1 (sn_X9_found hC) (by decide)), List.forall_mem_cons.mpr ⟨(xc_X9_75 hC.1 (sn_X9_tells hC) (by decide)), List.forall_mem_cons.mpr ⟨(xc_X9_183 hC.1 (sn_X9_isAny hC) (by decide)), List.forall_mem_cons.mpr ⟨(xc_X9_208 hC.1 (sn_X9_wrongIn hC) (by decide)), List.forall_mem_cons.mpr ⟨(xc_X9_211 hC.1 (sn_X9_areSo hC) (by decide)), List.forall_mem_cons.mpr ⟨(xc_X9_218 hC.1 (sn_X9_insBy hC) (by decide)), fun _ h => absurd h List.not_mem_nil⟩⟩⟩⟩⟩⟩)⟩
theorem sn_X9_sure {l : Launch} {E : xi_E} {S : xi_S} {D : va_G} {tys : List (ClassId × FieldType)} (hC : xCx E S tys) : ∀ As m1 r m2, F_X9_sure S As m1 = some (r, m2) → xi_Sound l E S D vwCl tys xNs xTs yX9_sure cX9_sure 9 (some .int) 5 As m1 r m2 := by
  intro As m1 r m2 h
  unfold F_X9_sure at h
  split at h
  · exact xi_meth (P := P_X9_sure S) (by decide) hC.1 (po_X9_sure hC) (Nat.le_of_ble_eq_true rfl) rfl (xe_X9_sure _ _ _ _ h)
  · exact xi_no h
theorem i_X9_partOf_0 : xi_dc cX9_partOf 0 = some (.iconst 0, 1) := by decide +kernel
theorem i_X9_partOf_1 : xi_dc cX9_partOf 1 = some (.istore 4, 2) := by decide +kernel
theorem i_X9_partOf_3 : xi_dc cX9_partOf 3 = some (.iconst 0, 1) := by decide +kernel
theorem i_X9_partOf_4 : xi_dc cX9_partOf 4 = some (.istore 5, 2) := by decide +kernel
theorem i_X9_partOf_6 : xi_dc cX9_partOf 6 = some (.iload 5, 2) := by decide +kernel
theorem i_X9_partOf_8 : xi_dc cX9_partOf 8 = some (.bipush 21, 2) := by decide +kernel
theorem i_X9_partOf_10 : xi_dc cX9_partOf 10 = some (.if_icmp .ge 71, 3) := by decide +kernel
theorem t_X9_partOf_10 : ((10 : Nat) : Int) + 71 = ((81 : Nat) : Int) := by decide +kernel
theorem i_X9_partOf_13 : xi_dc cX9_partOf 13 = some (.iload 5, 2) := by decide +kernel
theorem i_X9_partOf_15 : xi_dc cX9_partOf 15 = some (.iconst 1, 1) := by decide +kernel
theorem i_X9_partOf_16 : xi_dc cX9_partOf 16 = some (.iadd, 1) := by decide +kernel
theorem i_X9_partOf_17 : xi_dc cX9_partOf 17 = some (.istore 6, 2) := by decide +kernel
theorem i_X9_partOf_19 : xi_dc cX9_partOf 19 = some (.iload 6, 2) := by decide +kernel
theorem i_X9_partOf_21 : xi_dc cX9_partOf 21 = some (.bipush 21, 2) := by decide +kernel
theorem i_X9_partOf_23 : xi_dc cX9_partOf 23 = some (.if_icmp .ge 52, 3) := by decide +kernel
theorem t_X9_partOf_23 : ((23 : Nat) : Int) + 52 = ((75 : Nat) : Int) := by decide +kernel
theorem i_X9_partOf_26 : xi_dc cX9_partOf 26 = some (.iload 4, 2) := by decide +kernel
theorem i_X9_partOf_28 : xi_dc cX9_partOf 28 = some (.aload_n 0, 1) := by decide +kernel
theorem i_X9_partOf_29 : xi_dc cX9_partOf 29 = some (.iload_n 1, 1) := by decide +kernel
theorem i_X9_partOf_30 : xi_dc cX9_partOf 30 = some (.iload_n 2, 1) := by decide +kernel
theorem i_X9_partOf_31 : xi_dc cX9_partOf 31 = some (.iload 5, 2) := by decide +kernel
theorem i_X9_partOf_33 : xi_dc cX9_partOf 33 = some (.iload 6, 2) := by decide +kernel
theorem i_X9_partOf_35 : xi_dc cX9_partOf 35 = some (.invokevirtual 211, 3) := by decide +kernel
theorem i_X9_partOf_38 : xi_dc cX9_partOf 38 = some (.ifCond .eq 27, 3) := by decide +kernel
theorem t_X9_partOf_38 : ((38 : Nat) : Int) + 27 = ((65 : Nat) : Int) := by decide +kernel
theorem i_X9_partOf_41 : xi_dc cX9_partOf 41 = some (.iload_n 3, 1) := by decide +kernel
theorem i_X9_partOf_42 : xi_dc cX9_partOf 42 = some (.ifCond .lt 19, 3) := by decide +kernel
theorem t_X9_partOf_42 : ((42 : Nat) : Int) + 19 = ((61 : Nat) : Int) := by decide +kernel
theorem i_X9_partOf_45 : xi_dc cX9_partOf 45 = some (.aload_n 0, 1) := by decide +kernel
theorem i_X9_partOf_46 : xi_dc cX9_partOf 46 = some (.iload_n 1, 1) := by decide +kernel
theorem i_X9_partOf_47 : xi_dc cX9_partOf 47 = some (.iload 5, 2) := by decide +kernel
theorem i_X9_partOf_49 : xi_dc cX9_partOf 49 = some (.iload 6, 2) := by decide +kernel
theorem i_X9_partOf_51 : xi_dc cX9_partOf 51 = some (.invokevirtual 218, 3) := by decide +kernel
theorem i_X9_partOf_54 : xi_dc cX9_partOf 54 = some (.iload_n 3, 1) := by decide +kernel
theorem i_X9_partOf_55 : xi_dc cX9_partOf 55 = some (.invokestatic 221, 3) := by decide +kernel
theorem i_X9_partOf_58 : xi_dc cX9_partOf 58 = some (.ifCond .eq 7, 3) := by decide +kernel
theorem t_X9_partOf_58 : ((58 : Nat) : Int) + 7 = ((65 : Nat) : Int) := by decide +kernel
theorem i_X9_partOf_61 : xi_dc cX9_partOf 61 = some (.iconst 1, 1) := by decide +kernel
theorem i_X9_partOf_62 : xi_dc cX9_partOf 62 = some (.goto 4, 3) := by decide +kernel
theorem t_X9_partOf_62 : ((62 : Nat) : Int) + 4 = ((66 : Nat) : Int) := by decide +kernel
theorem i_X9_partOf_65 : xi_dc cX9_partOf 65 = some (.iconst 0, 1) := by decide +kernel
theorem i_X9_partOf_66 : xi_dc cX9_partOf 66 = some (.iadd, 1) := by decide +kernel
theorem i_X9_partOf_67 : xi_dc cX9_partOf 67 = some (.istore 4, 2) := by decide +kernel
theorem i_X9_partOf_69 : xi_dc cX9_partOf 69 = some (.iinc 6 1, 3) := by decide +kernel
theorem i_X9_partOf_72 : xi_dc cX9_partOf 72 = some (.goto (-53), 3) := by decide +kernel
theorem t_X9_partOf_72 : ((72 : Nat) : Int) + (-53) = ((19 : Nat) : Int) := by decide +kernel
theorem i_X9_partOf_75 : xi_dc cX9_partOf 75 = some (.iinc 5 1, 3) := by decide +kernel
theorem i_X9_partOf_78 : xi_dc cX9_partOf 78 = some (.goto (-72), 3) := by decide +kernel
theorem t_X9_partOf_78 : ((78 : Nat) : Int) + (-72) = ((6 : Nat) : Int) := by decide +kernel
theorem i_X9_partOf_81 : xi_dc cX9_partOf 81 = some (.iload 4, 2) := by decide +kernel
theorem i_X9_partOf_83 : xi_dc cX9_partOf 83 = some (.ireturn, 1) := by decide +kernel
def P_X9_partOf (S : xi_S) : xi_P := (xi_dc cX9_partOf, xi_tab xfl_X9, xi_tab xki_X9, xi_tab xkl_X9, xi_tab xcs_X9, xi_tab xcv_X9, xi_calls [(221, xi_wS 2 (F_X9_has S))], xi_calls [(211, xi_wV S 11 4 (F_X9_areSo S)), (218, xi_wV S 11 3 (F_X9_insBy S))], 1)
theorem cc_X9_partOf_221 (S : xi_S) (a0 : Int32) (a1 : Int32) (m : xi_M) : (P_X9_partOf S).2.2.2.2.2.2.1 221 [.int a0, .int a1] m = (E_X9_has S a0 a1 m) := by
  show xi_calls [(221, xi_wS 2 (F_X9_has S))] 221 [.int a0, .int a1] m = _
  refine Eq.trans (b := xi_wS 2 (F_X9_has S) [.int a0, .int a1] m) (xi_calls_hit rfl) ?_
  exact xi_wS_eq rfl
theorem cc_X9_partOf_211 (S : xi_S) (a0 : Nat) (a1 : Int32) (a2 : Int32) (a3 : Int32) (a4 : Int32) (m : xi_M) : (P_X9_partOf S).2.2.2.2.2.2.2.1 211 [.ref a0, .int a1, .int a2, .int a3, .int a4] m = (if S.1 a0 = 11 then E_X9_areSo S a0 a1 a2 a3 a4 m else none) := by
  show xi_calls [(211, xi_wV S 11 4 (F_X9_areSo S)), (218, xi_wV S 11 3 (F_X9_insBy S))] 211 [.ref a0, .int a1, .int a2, .int a3, .int a4] m = _
  refine Eq.trans (b := xi_wV S 11 4 (F_X9_areSo S) [.ref a0, .int a1, .int a2, .int a3, .int a4] m) (xi_calls_hit rfl) ?_
  exact xi_wV_eq rfl
theorem cc_X9_partOf_218 (S : xi_S) (a0 : Nat) (a1 : Int32) (a2 : Int32) (a3 : Int32) (m : xi_M) : (P_X9_partOf S).2.2.2.2.2.2.2.1 218 [.ref a0, .int a1, .int a2, .int a3] m = (if S.1 a0 = 11 then E_X9_insBy S a0 a1 a2 a3 m else none) := by
  show xi_calls [(211, xi_wV S 11 4 (F_X9_areSo S)), (218, xi_wV S 11 3 (F_X9_insBy S))] 218 [.ref a0, .int a1, .int a2, .int a3] m = _
  refine Eq.trans (b := xi_calls [(218, xi_wV S 11 3 (F_X9_insBy S))] 218 [.ref a0, .int a1, .int a2, .int a3] m) (xi_calls_miss rfl) ?_
  refine Eq.trans (b := xi_wV S 11 3 (F_X9_insBy S) [.ref a0, .int a1, .int a2, .int a3] m) (xi_calls_hit rfl) ?_
  exact xi_wV_eq rfl
def G_X9_partOf_19 (S : xi_S) (k6 : Nat → Int32 → Int32 → Int32 → Int32 → Int32 → xi_M → Option xi_R) : Nat → Nat → Int32 → Int32 → Int32 → Int32 → Int32 → Int32 → xi_M → Option xi_R
  | 0, _, _, _, _, _, _, _, _ => none
  | n + 1, v0, v1, v2, v3, v4, v5, v6, m =>
    if ((Int8.ofInt 21).toInt32) ≤ v6 then
      k6 v0 v1 v2 v3 v4 (v5 + Int32.ofInt 1) m
    else
      xi_bI (if S.1 v0 = 11 then E_X9_areSo S v0 v1 v2 v5 v6 m else none) fun x2 m1 =>
      if x2 = 0 then
        G_X9_partOf_19 S k6 n v0 v1 v2 v3 (v4 + (Int32.ofInt 0)) v5 (v6 + Int32.ofInt 1) m1
      else
        if v3 < 0 then
          G_X9_partOf_19 S k6 n v0 v1 v2 v3 (v4 + (Int32.ofInt 1)) v5 (v6 + Int32.ofInt 1) m1
        else
          xi_bI (if S.1 v0 = 11 then E_X9_insBy S v0 v1 v5 v6 m1 else none) fun x4 m3 =>
          xi_bI (E_X9_has S x4 v3 m3) fun x6 m5 =>
          if x6 = 0 then
            G_X9_partOf_19 S k6 n v0 v1 v2 v3 (v4 + (Int32.ofInt 0)) v5 (v6 + Int32.ofInt 1) m5
          else
            G_X9_partOf_19 S k6 n v0 v1 v2 v3 (v4 + (Int32.ofInt 1)) v5 (v6 + Int32.ofInt 1) m5
set_option maxRecDepth 100000 in
set_option maxHeartbeats 4000000 in
theorem xs_X9_partOf_19 {S : xi_S} {res : xi_R} {k6 : Nat → Int32 → Int32 → Int32 → Int32 → Int32 → xi_M → Option xi_R} (hk6 : ∀ (v0 : Nat) (v1 : Int32) (v2 : Int32) (v3 : Int32) (v4 : Int32) (v5 : Int32) (m : xi_M), k6 v0 v1 v2 v3 v4 v5 m = some res → xi_X S (P_X9_partOf S) (6, [some (.ref v0), some (.int v1), some (.int v2), some (.int v3), some (.int v4), some (.int v5), none], [], m) res) : ∀ (n : Nat) (v0 : Nat) (v1 : Int32) (v2 : Int32) (v3 : Int32) (v4 : Int32) (v5 : Int32) (v6 : Int32) (m : xi_M), G_X9_partOf_19 S k6 n v0 v1 v2 v3 v4 v5 v6 m = some res → xi_X S (P_X9_partOf S) (19, [some (.ref v0), some (.int v1), some (.int v2), some (.int v3), some (.int v4), some (.int v5), some (.int v6)], [], m) res := by
  intro n
  induction n with
  | zero => intro v0 v1 v2 v3 v4 v5 v6 m h; exact xi_no h
  | succ n ih =>
    intro v0 v1 v2 v3 v4 v5 v6 m h
    unfold G_X9_partOf_19 at h
    refine xr_iload i_X9_partOf_19 rfl (q := 21) rfl ?_
    refine xr_bipush i_X9_partOf_21 (q := 23) rfl ?_
    by_cases c10 : ((Int8.ofInt 21).toInt32) ≤ v6
    · replace h := (if_pos c10).symm.trans h
      refine xr_if_icmp_ge_p i_X9_partOf_23 c10 (q := 75) t_X9_partOf_23 (q2 := 26) rfl ?_
      refine xr_iinc i_X9_partOf_75 rfl rfl (L2 := [some (.ref v0), some (.int v1), some (.int v2), some (.int v3), some (.int v4), some (.int (v5 + Int32.ofInt 1)), some (.int v6)]) rfl (q := 78) rfl ?_
      refine xr_goto i_X9_partOf_78 (q := 6) t_X9_partOf_78 ?_
      exact xi_X_le (xi_le_s (xi_le_s (xi_le_s (xi_le_s (xi_le_s (xi_le_s (xi_le_n xi_le_z))))))) (hk6 _ _ _ _ _ _ _ h)
    · replace h := (if_neg c10).symm.trans h
      refine xr_if_icmp_ge_n i_X9_partOf_23 c10 (q := 75) t_X9_partOf_23 (q2 := 26) rfl ?_
      refine xr_iload i_X9_partOf_26 rfl (q := 28) rfl ?_
      refine xr_aload_n i_X9_partOf_28 rfl (q := 29) rfl ?_
      refine xr_iload_n i_X9_partOf_29 rfl (q := 30) rfl ?_
      refine xr_iload_n i_X9_partOf_30 rfl (q := 31) rfl ?_
      refine xr_iload i_X9_partOf_31 rfl (q := 33) rfl ?_
      refine xr_iload i_X9_partOf_33 rfl (q := 35) rfl ?_
      obtain ⟨x2, m1, em1, h⟩ := xi_bI_some h
      refine xr_VI i_X9_partOf_35 xcve_X9_211 rfl (As := [.ref v0, .int v1, .int v2, .int v5, .int v6]) rfl (rest := [.int v4]) rfl ((cc_X9_partOf_211 S _ _ _ _ _ _).trans em1) (q := 38) rfl ?_
      by_cases c9 : x2 = 0
      · replace h := (if_pos c9).symm.trans h
        refine xr_ifCond_eq_p i_X9_partOf_38 c9 (q := 65) t_X9_partOf_38 (q2 := 41) rfl ?_
        refine xr_iconst i_X9_partOf_65 (q := 66) rfl ?_
        refine xr_iadd i_X9_partOf_66 (q := 67) rfl ?_
        refine xr_istore i_X9_partOf_67 rfl (L2 := [some (.ref v0), some (.int v1), some (.int v2), some (.int v3), some (.int (v4 + (Int32.ofInt 0))), some (.int v5), some (.int v6)]) rfl (q := 69) rfl ?_
        refine xr_iinc i_X9_partOf_69 rfl rfl (L2 := [some (.ref v0), some (.int v1), some (.int v2), some (.int v3), some (.int (v4 + (Int32.ofInt 0))), some (.int v5), some (.int (v6 + Int32.ofInt 1))]) rfl (q := 72) rfl ?_
        refine xr_goto i_X9_partOf_72 (q := 19) t_X9_partOf_72 ?_
        exact xi_X_le (xi_le_s (xi_le_s (xi_le_s (xi_le_s (xi_le_s (xi_le_s (xi_le_s xi_le_z))))))) (ih _ _ _ _ _ _ _ _ h)
      · replace h := (if_neg c9).symm.trans h
        refine xr_ifCond_eq_n i_X9_partOf_38 c9 (q := 65) t_X9_partOf_38 (q2 := 41) rfl ?_
        refine xr_iload_n i_X9_partOf_41 rfl (q := 42) rfl ?_
        by_cases c8 : v3 < 0
        · replace h := (if_pos c8).symm.trans h
          refine xr_ifCond_lt_p i_X9_partOf_42 c8 (q := 61) t_X9_partOf_42 (q2 := 45) rfl ?_
          refine xr_iconst i_X9_partOf_61 (q := 62) rfl ?_
          refine xr_goto i_X9_partOf_62 (q := 66) t_X9_partOf_62 ?_
          refine xr_iadd i_X9_partOf_66 (q := 67) rfl ?_
          refine xr_istore i_X9_partOf_67 rfl (L2 := [some (.ref v0), some (.int v1), some (.int v2), some (.int v3), some (.int (v4 + (Int32.ofInt 1))), some (.int v5), some (.int v6)]) rfl (q := 69) rfl ?_
          refine xr_iinc i_X9_partOf_69 rfl rfl (L2 := [some (.ref v0), some (.int v1), some (.int v2), some (.int v3), some (.int (v4 + (Int32.ofInt 1))), some (.int v5), some (.int (v6 + Int32.ofInt 1))]) rfl (q := 72) rfl ?_
          refine xr_goto i_X9_partOf_72 (q := 19) t_X9_partOf_72 ?_
          exact xi_X_le (xi_le_s (xi_le_s (xi_le_s (xi_le_s (xi_le_s (xi_le_s (xi_le_s xi_le_z))))))) (ih _ _ _ _ _ _ _ _ h)
        · replace h := (if_neg c8).symm.trans h
          refine xr_ifCond_lt_n i_X9_partOf_42 c8 (q := 61) t_X9_partOf_42 (q2 := 45) rfl ?_
          refine xr_aload_n i_X9_partOf_45 rfl (q := 46) rfl ?_
          refine xr_iload_n i_X9_partOf_46 rfl (q := 47) rfl ?_
          refine xr_iload i_X9_partOf_47 rfl (q := 49) rfl ?_
          refine xr_iload i_X9_partOf_49 rfl (q := 51) rfl ?_
          obtain ⟨x4, m3, em3, h⟩ := xi_bI_some h
          refine xr_VI i_X9_partOf_51 xcve_X9_218 rfl (As := [.ref v0, .int v1, .int v5, .int v6]) rfl (rest := [.int v4]) rfl ((cc_X9_partOf_218 S _ _ _ _ _).trans em3) (q := 54) rfl ?_
          refine xr_iload_n i_X9_partOf_54 rfl (q := 55) rfl ?_
          obtain ⟨x6, m5, em5, h⟩ := xi_bI_some h
          refine xr_SI i_X9_partOf_55 xcse_X9_221 rfl (As := [.int x4, .int v3]) rfl (rest := [.int v4]) rfl ((cc_X9_partOf_221 S _ _ _).trans em5) (q := 58) rfl ?_
          by_cases c7 : x6 = 0
          · replace h := (if_pos c7).symm.trans h
            refine xr_ifCond_eq_p i_X9_partOf_58 c7 (q := 65) t_X9_partOf_58 (q2 := 61) rfl ?_
            refine xr_iconst i_X9_partOf_65 (q := 66) rfl ?_
            refine xr_iadd i_X9_partOf_66 (q := 67) rfl ?_
            refine xr_istore i_X9_partOf_67 rfl (L2 := [some (.ref v0), some (.int v1), some (.int v2), some (.int v3), some (.int (v4 + (Int32.ofInt 0))), some (.int v5), some (.int v6)]) rfl (q := 69) rfl ?_
            refine xr_iinc i_X9_partOf_69 rfl rfl (L2 := [some (.ref v0), some (.int v1), some (.int v2), some (.int v3), some (.int (v4 + (Int32.ofInt 0))), some (.int v5), some (.int (v6 + Int32.ofInt 1))]) rfl (q := 72) rfl ?_
            refine xr_goto i_X9_partOf_72 (q := 19) t_X9_partOf_72 ?_
            exact xi_X_le (xi_le_s (xi_le_s (xi_le_s (xi_le_s (xi_le_s (xi_le_s (xi_le_s xi_le_z))))))) (ih _ _ _ _ _ _ _ _ h)
          · replace h := (if_neg c7).symm.trans h
            refine xr_ifCond_eq_n i_X9_partOf_58 c7 (q := 65) t_X9_partOf_58 (q2 := 61) rfl ?_
            refine xr_iconst i_X9_partOf_61 (q := 62) rfl ?_
            refine xr_goto i_X9_partOf_62 (q := 66) t_X9_partOf_62 ?_
            refine xr_iadd i_X9_partOf_66 (q := 67) rfl ?_
            refine xr_istore i_X9_partOf_67 rfl (L2 := [some (.ref v0), some (.int v1), some (.int v2), some (.int v3), some (.int (v4 + (Int32.ofInt 1))), some (.int v5), some (.int v6)]) rfl (q := 69) rfl ?_
            refine xr_iinc i_X9_partOf_69 rfl rfl (L2 := [some (.ref v0), some (.int v1), some (.int v2), some (.int v3), some (.int (v4 + (Int32.ofInt 1))), some (.int v5), some (.int (v6 + Int32.ofInt 1))]) rfl (q := 72) rfl ?_
            refine xr_goto i_X9_partOf_72 (q := 19) t_X9_partOf_72 ?_
            exact xi_X_le (xi_le_s (xi_le_s (xi_le_s (xi_le_s (xi_le_s (xi_le_s (xi_le_s xi_le_z))))))) (ih _ _ _ _ _ _ _ _ h)
def G_X9_partOf_6 (S : xi_S) : Nat → Nat → Int32 → Int32 → Int32 → Int32 → Int32 → xi_M → Option xi_R
  | 0, _, _, _, _, _, _, _ => none
  | n + 1, v0, v1, v2, v3, v4, v5, m =>
    if ((Int8.ofInt 21).toInt32) ≤ v5 then
      some (some (.int v4), m)
    else
      G_X9_partOf_19 S (G_X9_partOf_6 S n) 10000 v0 v1 v2 v3 v4 v5 (v5 + (Int32.ofInt 1)) m
set_option maxRecDepth 100000 in
set_option maxHeartbeats 4000000 in
theorem xs_X9_partOf_6 {S : xi_S} {res : xi_R} : ∀ (n : Nat) (v0 : Nat) (v1 : Int32) (v2 : Int32) (v3 : Int32) (v4 : Int32) (v5 : Int32) (m : xi_M), G_X9_partOf_6 S n v0 v1 v2 v3 v4 v5 m = some res → xi_X S (P_X9_partOf S) (6, [some (.ref v0), some (.int v1), some (.int v2), some (.int v3), some (.int v4), some (.int v5), none], [], m) res := by
  intro n
  induction n with
  | zero => intro v0 v1 v2 v3 v4 v5 m h; exact xi_no h
  | succ n ih =>
    intro v0 v1 v2 v3 v4 v5 m h
    unfold G_X9_partOf_6 at h
    refine xr_iload i_X9_partOf_6 rfl (q := 8) rfl ?_
    refine xr_bipush i_X9_partOf_8 (q := 10) rfl ?_
    by_cases c1 : ((Int8.ofInt 21).toInt32) ≤ v5
    · replace h := (if_pos c1).symm.trans h
      refine xr_if_icmp_ge_p i_X9_partOf_10 c1 (q := 81) t_X9_partOf_10 (q2 := 13) rfl ?_
      refine xr_iload i_X9_partOf_81 rfl (q := 83) rfl ?_
      exact xr_ireturn i_X9_partOf_83 rfl h
    · replace h := (if_neg c1).symm.trans h
      refine xr_if_icmp_ge_n i_X9_partOf_10 c1 (q := 81) t_X9_partOf_10 (q2 := 13) rfl ?_
      refine xr_iload i_X9_partOf_13 rfl (q := 15) rfl ?_
      refine xr_iconst i_X9_partOf_15 (q := 16) rfl ?_
      refine xr_iadd i_X9_partOf_16 (q := 17) rfl ?_
      refine xr_istore i_X9_partOf_17 rfl (L2 := [some (.ref v0), some (.int v1), some (.int v2), some (.int v3), some (.int v4), some (.int v5), some (.int (v5 + (Int32.ofInt 1)))]) rfl (q := 19) rfl ?_
      exact xi_X_le (xi_le_s (xi_le_s (xi_le_s (xi_le_s (xi_le_s (xi_le_s (xi_le_s xi_le_z))))))) (xs_X9_partOf_19 ih 10000 _ _ _ _ _ _ _ _ h)
def E_X9_partOf (S : xi_S) (v0 : Nat) (v1 : Int32) (v2 : Int32) (v3 : Int32) (m : xi_M) : Option xi_R :=
  G_X9_partOf_6 S 10000 v0 v1 v2 v3 (Int32.ofInt 0) (Int32.ofInt 0) m
def F_X9_partOf (S : xi_S) : xi_F := fun As m => match As with
  | [.ref v0, .int v1, .int v2, .int v3] => E_X9_partOf S v0 v1 v2 v3 m
  | _ => none
set_option maxRecDepth 100000 in
set_option maxHeartbeats 4000000 in
theorem xe_X9_partOf {S : xi_S} {res : xi_R} (v0 : Nat) (v1 : Int32) (v2 : Int32) (v3 : Int32) (m : xi_M) (h : E_X9_partOf S v0 v1 v2 v3 m = some res) : xi_X S (P_X9_partOf S) (0, [some (.ref v0), some (.int v1), some (.int v2), some (.int v3), none, none, none], [], m) res := by
  unfold E_X9_partOf at h
  refine xr_iconst i_X9_partOf_0 (q := 1) rfl ?_
  refine xr_istore i_X9_partOf_1 rfl (L2 := [some (.ref v0), some (.int v1), some (.int v2), some (.int v3), some (.int (Int32.ofInt 0)), none, none]) rfl (q := 3) rfl ?_
  refine xr_iconst i_X9_partOf_3 (q := 4) rfl ?_
  refine xr_istore i_X9_partOf_4 rfl (L2 := [some (.ref v0), some (.int v1), some (.int v2), some (.int v3), some (.int (Int32.ofInt 0)), some (.int (Int32.ofInt 0)), none]) rfl (q := 6) rfl ?_
  exact xi_X_le (xi_le_s (xi_le_s (xi_le_s (xi_le_s (xi_le_s (xi_le_s (xi_le_n xi_le_z))))))) (xs_X9_partOf_6 10000 _ _ _ _ _ _ _ h)
set_option maxRecDepth 100000 in
theorem po_X9_partOf {l : Launch} {E : xi_E} {S : xi_S} {D : va_G} {tys : List (ClassId × FieldType)} (hC : xCx E S tys) : xi_Pok l E S D vwCl tys xNs RX9 xTs cX9_partOf 7 5 (P_X9_partOf S) := ⟨xi_dc_ok, by rw [hC.2]; exact xfo_X9, xkio_X9, xklo_X9, xi_calls_ok (ins := .invokestatic) (List.forall_mem_cons.mpr ⟨(xc_X9_221 (sn_X9_has hC) (by decide)), fun _ h => absurd h List.not_mem_nil⟩), xi_calls_ok (ins := .invokevirtual) (List.forall_mem_cons.mpr ⟨(xc_X9_211 hC.1 (sn_X9_areSo hC) (by decide)), List.forall_mem_cons.mpr ⟨(xc_X9_218 hC.1 (sn_X9_insBy hC) (by decide)), fun _ h => absurd h List.not_mem_nil⟩⟩)⟩
theorem sn_X9_partOf {l : Launch} {E : xi_E} {S : xi_S} {D : va_G} {tys : List (ClassId × FieldType)} (hC : xCx E S tys) : ∀ As m1 r m2, F_X9_partOf S As m1 = some (r, m2) → xi_Sound l E S D vwCl tys xNs xTs yX9_partOf cX9_partOf 7 (some .int) 5 As m1 r m2 := by
  intro As m1 r m2 h
  unfold F_X9_partOf at h
  split at h
  · exact xi_meth (P := P_X9_partOf S) (by decide) hC.1 (po_X9_partOf hC) (Nat.le_of_ble_eq_true rfl) rfl (xe_X9_partOf _ _ _ _ _ h)
  · exact xi_no h
theorem i_X9_next_0 : xi_dc cX9_next 0 = some (.iload_n 1, 1) := by decide +kernel
theorem i_X9_next_1 : xi_dc cX9_next 1 = some (.iconst 0, 1) := by decide +kernel
theorem i_X9_next_2 : xi_dc cX9_next 2 = some (.iconst 1, 1) := by decide +kernel
theorem i_X9_next_3 : xi_dc cX9_next 3 = some (.invokestatic 63, 3) := by decide +kernel
theorem i_X9_next_6 : xi_dc cX9_next 6 = some (.ifCond .eq 10, 3) := by decide +kernel
theorem t_X9_next_6 : ((6 : Nat) : Int) + 10 = ((16 : Nat) : Int) := by decide +kernel
theorem i_X9_next_9 : xi_dc cX9_next 9 = some (.iload_n 2, 1) := by decide +kernel
theorem i_X9_next_10 : xi_dc cX9_next 10 = some (.invokestatic 67, 3) := by decide +kernel
theorem i_X9_next_13 : xi_dc cX9_next 13 = some (.ifCond .ne 5, 3) := by decide +kernel
theorem t_X9_next_13 : ((13 : Nat) : Int) + 5 = ((18 : Nat) : Int) := by decide +kernel
theorem i_X9_next_16 : xi_dc cX9_next 16 = some (.iconst (-1), 1) := by decide +kernel
theorem i_X9_next_17 : xi_dc cX9_next 17 = some (.ireturn, 1) := by decide +kernel
theorem i_X9_next_18 : xi_dc cX9_next 18 = some (.aload_n 0, 1) := by decide +kernel
theorem i_X9_next_19 : xi_dc cX9_next 19 = some (.invokevirtual 183, 3) := by decide +kernel
theorem i_X9_next_22 : xi_dc cX9_next 22 = some (.ifCond .ne 6, 3) := by decide +kernel
theorem t_X9_next_22 : ((22 : Nat) : Int) + 6 = ((28 : Nat) : Int) := by decide +kernel
theorem i_X9_next_25 : xi_dc cX9_next 25 = some (.bipush (-4), 2) := by decide +kernel
theorem i_X9_next_27 : xi_dc cX9_next 27 = some (.ireturn, 1) := by decide +kernel
theorem i_X9_next_28 : xi_dc cX9_next 28 = some (.aload_n 0, 1) := by decide +kernel
theorem i_X9_next_29 : xi_dc cX9_next 29 = some (.iload_n 2, 1) := by decide +kernel
theorem i_X9_next_30 : xi_dc cX9_next 30 = some (.bipush 20, 2) := by decide +kernel
theorem i_X9_next_32 : xi_dc cX9_next 32 = some (.iconst 1, 1) := by decide +kernel
theorem i_X9_next_33 : xi_dc cX9_next 33 = some (.invokevirtual 208, 3) := by decide +kernel
theorem i_X9_next_36 : xi_dc cX9_next 36 = some (.istore_n 3, 1) := by decide +kernel
theorem i_X9_next_37 : xi_dc cX9_next 37 = some (.iload_n 3, 1) := by decide +kernel
theorem i_X9_next_38 : xi_dc cX9_next 38 = some (.ifCond .le 9, 3) := by decide +kernel
theorem t_X9_next_38 : ((38 : Nat) : Int) + 9 = ((47 : Nat) : Int) := by decide +kernel
theorem i_X9_next_41 : xi_dc cX9_next 41 = some (.aload_n 0, 1) := by decide +kernel
theorem i_X9_next_42 : xi_dc cX9_next 42 = some (.iload_n 3, 1) := by decide +kernel
theorem i_X9_next_43 : xi_dc cX9_next 43 = some (.invokevirtual 71, 3) := by decide +kernel
theorem i_X9_next_46 : xi_dc cX9_next 46 = some (.ireturn, 1) := by decide +kernel
theorem i_X9_next_47 : xi_dc cX9_next 47 = some (.aload_n 0, 1) := by decide +kernel
theorem i_X9_next_48 : xi_dc cX9_next 48 = some (.iload_n 1, 1) := by decide +kernel
theorem i_X9_next_49 : xi_dc cX9_next 49 = some (.iload_n 2, 1) := by decide +kernel
theorem i_X9_next_50 : xi_dc cX9_next 50 = some (.iconst (-1), 1) := by decide +kernel
theorem i_X9_next_51 : xi_dc cX9_next 51 = some (.invokevirtual 224, 3) := by decide +kernel
theorem i_X9_next_54 : xi_dc cX9_next 54 = some (.istore 4, 2) := by decide +kernel
theorem i_X9_next_56 : xi_dc cX9_next 56 = some (.iload 4, 2) := by decide +kernel
theorem i_X9_next_58 : xi_dc cX9_next 58 = some (.ifCond .ne 6, 3) := by decide +kernel
theorem t_X9_next_58 : ((58 : Nat) : Int) + 6 = ((64 : Nat) : Int) := by decide +kernel
theorem i_X9_next_61 : xi_dc cX9_next 61 = some (.bipush (-9), 2) := by decide +kernel
theorem i_X9_next_63 : xi_dc cX9_next 63 = some (.ireturn, 1) := by decide +kernel
theorem i_X9_next_64 : xi_dc cX9_next 64 = some (.iconst 0, 1) := by decide +kernel
theorem i_X9_next_65 : xi_dc cX9_next 65 = some (.istore 5, 2) := by decide +kernel
theorem i_X9_next_67 : xi_dc cX9_next 67 = some (.iload 4, 2) := by decide +kernel
theorem i_X9_next_69 : xi_dc cX9_next 69 = some (.iconst 1, 1) := by decide +kernel
theorem i_X9_next_70 : xi_dc cX9_next 70 = some (.iadd, 1) := by decide +kernel
theorem i_X9_next_71 : xi_dc cX9_next 71 = some (.istore 6, 2) := by decide +kernel
theorem i_X9_next_73 : xi_dc cX9_next 73 = some (.iconst 0, 1) := by decide +kernel
theorem i_X9_next_74 : xi_dc cX9_next 74 = some (.istore 7, 2) := by decide +kernel
theorem i_X9_next_76 : xi_dc cX9_next 76 = some (.iload 7, 2) := by decide +kernel
theorem i_X9_next_78 : xi_dc cX9_next 78 = some (.bipush 21, 2) := by decide +kernel
theorem i_X9_next_80 : xi_dc cX9_next 80 = some (.if_icmp .ge 73, 3) := by decide +kernel
theorem t_X9_next_80 : ((80 : Nat) : Int) + 73 = ((153 : Nat) : Int) := by decide +kernel
theorem i_X9_next_83 : xi_dc cX9_next 83 = some (.aload_n 0, 1) := by decide +kernel
theorem i_X9_next_84 : xi_dc cX9_next 84 = some (.iload_n 1, 1) := by decide +kernel
theorem i_X9_next_85 : xi_dc cX9_next 85 = some (.iload_n 2, 1) := by decide +kernel
theorem i_X9_next_86 : xi_dc cX9_next 86 = some (.iload 7, 2) := by decide +kernel
theorem i_X9_next_88 : xi_dc cX9_next 88 = some (.invokevirtual 224, 3) := by decide +kernel
theorem i_X9_next_91 : xi_dc cX9_next 91 = some (.istore 8, 2) := by decide +kernel
theorem i_X9_next_93 : xi_dc cX9_next 93 = some (.iload 8, 2) := by decide +kernel
theorem i_X9_next_95 : xi_dc cX9_next 95 = some (.iload 4, 2) := by decide +kernel
theorem i_X9_next_97 : xi_dc cX9_next 97 = some (.iload 8, 2) := by decide +kernel
theorem i_X9_next_99 : xi_dc cX9_next 99 = some (.isub, 1) := by decide +kernel
theorem i_X9_next_100 : xi_dc cX9_next 100 = some (.if_icmp .le 8, 3) := by decide +kernel
theorem t_X9_next_100 : ((100 : Nat) : Int) + 8 = ((108 : Nat) : Int) := by decide +kernel
theorem i_X9_next_103 : xi_dc cX9_next 103 = some (.iload 8, 2) := by decide +kernel
theorem i_X9_next_105 : xi_dc cX9_next 105 = some (.goto 8, 3) := by decide +kernel
theorem t_X9_next_105 : ((105 : Nat) : Int) + 8 = ((113 : Nat) : Int) := by decide +kernel
theorem i_X9_next_108 : xi_dc cX9_next 108 = some (.iload 4, 2) := by decide +kernel
theorem i_X9_next_110 : xi_dc cX9_next 110 = some (.iload 8, 2) := by decide +kernel
theorem i_X9_next_112 : xi_dc cX9_next 112 = some (.isub, 1) := by decide +kernel
theorem i_X9_next_113 : xi_dc cX9_next 113 = some (.istore 9, 2) := by decide +kernel
theorem i_X9_next_115 : xi_dc cX9_next 115 = some (.iload 9, 2) := by decide +kernel
theorem i_X9_next_117 : xi_dc cX9_next 117 = some (.iload 6, 2) := by decide +kernel
theorem i_X9_next_119 : xi_dc cX9_next 119 = some (.if_icmp .ge 8, 3) := by decide +kernel
theorem t_X9_next_119 : ((119 : Nat) : Int) + 8 = ((127 : Nat) : Int) := by decide +kernel
theorem i_X9_next_122 : xi_dc cX9_next 122 = some (.iload 7, 2) := by decide +kernel
theorem i_X9_next_124 : xi_dc cX9_next 124 = some (.goto 5, 3) := by decide +kernel
theorem t_X9_next_124 : ((124 : Nat) : Int) + 5 = ((129 : Nat) : Int) := by decide +kernel
theorem i_X9_next_127 : xi_dc cX9_next 127 = some (.iload 5, 2) := by decide +kernel
theorem i_X9_next_129 : xi_dc cX9_next 129 = some (.istore 5, 2) := by decide +kernel
theorem i_X9_next_131 : xi_dc cX9_next 131 = some (.iload 9, 2) := by decide +kernel
theorem i_X9_next_133 : xi_dc cX9_next 133 = some (.iload 6, 2) := by decide +kernel
theorem i_X9_next_135 : xi_dc cX9_next 135 = some (.if_icmp .ge 8, 3) := by decide +kernel
theorem t_X9_next_135 : ((135 : Nat) : Int) + 8 = ((143 : Nat) : Int) := by decide +kernel
theorem i_X9_next_138 : xi_dc cX9_next 138 = some (.iload 9, 2) := by decide +kernel
theorem i_X9_next_140 : xi_dc cX9_next 140 = some (.goto 5, 3) := by decide +kernel
theorem t_X9_next_140 : ((140 : Nat) : Int) + 5 = ((145 : Nat) : Int) := by decide +kernel
theorem i_X9_next_143 : xi_dc cX9_next 143 = some (.iload 6, 2) := by decide +kernel
theorem i_X9_next_145 : xi_dc cX9_next 145 = some (.istore 6, 2) := by decide +kernel
theorem i_X9_next_147 : xi_dc cX9_next 147 = some (.iinc 7 1, 3) := by decide +kernel
theorem i_X9_next_150 : xi_dc cX9_next 150 = some (.goto (-74), 3) := by decide +kernel
theorem t_X9_next_150 : ((150 : Nat) : Int) + (-74) = ((76 : Nat) : Int) := by decide +kernel
theorem i_X9_next_153 : xi_dc cX9_next 153 = some (.aload_n 0, 1) := by decide +kernel
theorem i_X9_next_154 : xi_dc cX9_next 154 = some (.iload 6, 2) := by decide +kernel
theorem i_X9_next_156 : xi_dc cX9_next 156 = some (.invokevirtual 75, 3) := by decide +kernel
theorem i_X9_next_159 : xi_dc cX9_next 159 = some (.pop, 1) := by decide +kernel
theorem i_X9_next_160 : xi_dc cX9_next 160 = some (.iload 5, 2) := by decide +kernel
theorem i_X9_next_162 : xi_dc cX9_next 162 = some (.ireturn, 1) := by decide +kernel
def P_X9_next (S : xi_S) : xi_P := (xi_dc cX9_next, xi_tab xfl_X9, xi_tab xki_X9, xi_tab xkl_X9, xi_tab xcs_X9, xi_tab xcv_X9, xi_calls [(63, xi_wS 3 (F_X9_in0 S)), (67, xi_wS 1 (F_X9_isRow S))], xi_calls [(71, xi_wV S 11 1 (F_X9_found S)), (75, xi_wV S 11 1 (F_X9_tells S)), (183, xi_wV S 11 0 (F_X9_isAny S)), (208, xi_wV S 11 3 (F_X9_wrongIn S)), (224, xi_wV S 11 3 (F_X9_partOf S))], 1)
theorem cc_X9_next_63 (S : xi_S) (a0 : Int32) (a1 : Int32) (a2 : Int32) (m : xi_M) : (P_X9_next S).2.2.2.2.2.2.1 63 [.int a0, .int a1, .int a2] m = (E_X9_in0 S a0 a1 a2 m) := by
  show xi_calls [(63, xi_wS 3 (F_X9_in0 S)), (67, xi_wS 1 (F_X9_isRow S))] 63 [.int a0, .int a1, .int a2] m = _
  refine Eq.trans (b := xi_wS 3 (F_X9_in0 S) [.int a0, .int a1, .int a2] m) (xi_calls_hit rfl) ?_
  exact xi_wS_eq rfl
theorem cc_X9_next_67 (S : xi_S) (a0 : Int32) (m : xi_M) : (P_X9_next S).2.2.2.2.2.2.1 67 [.int a0] m = (E_X9_isRow S a0 m) := by
  show xi_calls [(63, xi_wS 3 (F_X9_in0 S)), (67, xi_wS 1 (F_X9_isRow S))] 67 [.int a0] m = _
  refine Eq.trans (b := xi_calls [(67, xi_wS 1 (F_X9_isRow S))] 67 [.int a0] m) (xi_calls_miss rfl) ?_
  refine Eq.trans (b := xi_wS 1 (F_X9_isRow S) [.int a0] m) (xi_calls_hit rfl) ?_
  exact xi_wS_eq rfl
theorem cc_X9_next_71 (S : xi_S) (a0 : Nat) (a1 : Int32) (m : xi_M) : (P_X9_next S).2.2.2.2.2.2.2.1 71 [.ref a0, .int a1] m = (if S.1 a0 = 11 then E_X9_found S a0 a1 m else none) := by
  show xi_calls [(71, xi_wV S 11 1 (F_X9_found S)), (75, xi_wV S 11 1 (F_X9_tells S)), (183, xi_wV S 11 0 (F_X9_isAny S)), (208, xi_wV S 11 3 (F_X9_wrongIn S)), (224, xi_wV S 11 3 (F_X9_partOf S))] 71 [.ref a0, .int a1] m = _
  refine Eq.trans (b := xi_wV S 11 1 (F_X9_found S) [.ref a0, .int a1] m) (xi_calls_hit rfl) ?_
  exact xi_wV_eq rfl
theorem cc_X9_next_75 (S : xi_S) (a0 : Nat) (a1 : Int32) (m : xi_M) : (P_X9_next S).2.2.2.2.2.2.2.1 75 [.ref a0, .int a1] m = (if S.1 a0 = 11 then E_X9_tells S a0 a1 m else none) := by
  show xi_calls [(71, xi_wV S 11 1 (F_X9_found S)), (75, xi_wV S 11 1 (F_X9_tells S)), (183, xi_wV S 11 0 (F_X9_isAny S)), (208, xi_wV S 11 3 (F_X9_wrongIn S)), (224, xi_wV S 11 3 (F_X9_partOf S))] 75 [.ref a0, .int a1] m = _
  refine Eq.trans (b := xi_calls [(75, xi_wV S 11 1 (F_X9_tells S)), (183, xi_wV S 11 0 (F_X9_isAny S)), (208, xi_wV S 11 3 (F_X9_wrongIn S)), (224, xi_wV S 11 3 (F_X9_partOf S))] 75 [.ref a0, .int a1] m) (xi_calls_miss rfl) ?_
  refine Eq.trans (b := xi_wV S 11 1 (F_X9_tells S) [.ref a0, .int a1] m) (xi_calls_hit rfl) ?_
  exact xi_wV_eq rfl
theorem cc_X9_next_183 (S : xi_S) (a0 : Nat) (m : xi_M) : (P_X9_next S).2.2.2.2.2.2.2.1 183 [.ref a0] m = (if S.1 a0 = 11 then E_X9_isAny S a0 m else none) := by
  show xi_calls [(71, xi_wV S 11 1 (F_X9_found S)), (75, xi_wV S 11 1 (F_X9_tells S)), (183, xi_wV S 11 0 (F_X9_isAny S)), (208, xi_wV S 11 3 (F_X9_wrongIn S)), (224, xi_wV S 11 3 (F_X9_partOf S))] 183 [.ref a0] m = _
  refine Eq.trans (b := xi_calls [(75, xi_wV S 11 1 (F_X9_tells S)), (183, xi_wV S 11 0 (F_X9_isAny S)), (208, xi_wV S 11 3 (F_X9_wrongIn S)), (224, xi_wV S 11 3 (F_X9_partOf S))] 183 [.ref a0] m) (xi_calls_miss rfl) ?_
  refine Eq.trans (b := xi_calls [(183, xi_wV S 11 0 (F_X9_isAny S)), (208, xi_wV S 11 3 (F_X9_wrongIn S)), (224, xi_wV S 11 3 (F_X9_partOf S))] 183 [.ref a0] m) (xi_calls_miss rfl) ?_
  refine Eq.trans (b := xi_wV S 11 0 (F_X9_isAny S) [.ref a0] m) (xi_calls_hit rfl) ?_
  exact xi_wV_eq rfl
theorem cc_X9_next_208 (S : xi_S) (a0 : Nat) (a1 : Int32) (a2 : Int32) (a3 : Int32) (m : xi_M) : (P_X9_next S).2.2.2.2.2.2.2.1 208 [.ref a0, .int a1, .int a2, .int a3] m = (if S.1 a0 = 11 then E_X9_wrongIn S a0 a1 a2 a3 m else none) := by
  show xi_calls [(71, xi_wV S 11 1 (F_X9_found S)), (75, xi_wV S 11 1 (F_X9_tells S)), (183, xi_wV S 11 0 (F_X9_isAny S)), (208, xi_wV S 11 3 (F_X9_wrongIn S)), (224, xi_wV S 11 3 (F_X9_partOf S))] 208 [.ref a0, .int a1, .int a2, .int a3] m = _
  refine Eq.trans (b := xi_calls [(75, xi_wV S 11 1 (F_X9_tells S)), (183, xi_wV S 11 0 (F_X9_isAny S)), (208, xi_wV S 11 3 (F_X9_wrongIn S)), (224, xi_wV S 11 3 (F_X9_partOf S))] 208 [.ref a0, .int a1, .int a2, .int a3] m) (xi_calls_miss rfl) ?_
  refine Eq.trans (b := xi_calls [(183, xi_wV S 11 0 (F_X9_isAny S)), (208, xi_wV S 11 3 (F_X9_wrongIn S)), (224, xi_wV S 11 3 (F_X9_partOf S))] 208 [.ref a0, .int a1, .int a2, .int a3] m) (xi_calls_miss rfl) ?_
  refine Eq.trans (b := xi_calls [(208, xi_wV S 11 3 (F_X9_wrongIn S)), (224, xi_wV S 11 3 (F_X9_partOf S))] 208 [.ref a0, .int a1, .int a2, .int a3] m) (xi_calls_miss rfl) ?_
  refine Eq.trans (b := xi_wV S 11 3 (F_X9_wrongIn S) [.ref a0, .int a1, .int a2, .int a3] m) (xi_calls_hit rfl) ?_
  exact xi_wV_eq rfl
theorem cc_X9_next_224 (S : xi_S) (a0 : Nat) (a1 : Int32) (a2 : Int32) (a3 : Int32) (m : xi_M) : (P_X9_next S).2.2.2.2.2.2.2.1 224 [.ref a0, .int a1, .int a2, .int a3] m = (if S.1 a0 = 11 then E_X9_partOf S a0 a1 a2 a3 m else none) := by
  show xi_calls [(71, xi_wV S 11 1 (F_X9_found S)), (75, xi_wV S 11 1 (F_X9_tells S)), (183, xi_wV S 11 0 (F_X9_isAny S)), (208, xi_wV S 11 3 (F_X9_wrongIn S)), (224, xi_wV S 11 3 (F_X9_partOf S))] 224 [.ref a0, .int a1, .int a2, .int a3] m = _
  refine Eq.trans (b := xi_calls [(75, xi_wV S 11 1 (F_X9_tells S)), (183, xi_wV S 11 0 (F_X9_isAny S)), (208, xi_wV S 11 3 (F_X9_wrongIn S)), (224, xi_wV S 11 3 (F_X9_partOf S))] 224 [.ref a0, .int a1, .int a2, .int a3] m) (xi_calls_miss rfl) ?_
  refine Eq.trans (b := xi_calls [(183, xi_wV S 11 0 (F_X9_isAny S)), (208, xi_wV S 11 3 (F_X9_wrongIn S)), (224, xi_wV S 11 3 (F_X9_partOf S))] 224 [.ref a0, .int a1, .int a2, .int a3] m) (xi_calls_miss rfl) ?_
  refine Eq.trans (b := xi_calls [(208, xi_wV S 11 3 (F_X9_wrongIn S)), (224, xi_wV S 11 3 (F_X9_partOf S))] 224 [.ref a0, .int a1, .int a2, .int a3] m) (xi_calls_miss rfl) ?_
  refine Eq.trans (b := xi_calls [(224, xi_wV S 11 3 (F_X9_partOf S))] 224 [.ref a0, .int a1, .int a2, .int a3] m) (xi_calls_miss rfl) ?_
  refine Eq.trans (b := xi_wV S 11 3 (F_X9_partOf S) [.ref a0, .int a1, .int a2, .int a3] m) (xi_calls_hit rfl) ?_
  exact xi_wV_eq rfl
def G_X9_next_76 (S : xi_S) : Nat → Nat → Int32 → Int32 → Int32 → Int32 → Int32 → Int32 → xi_M → Option xi_R
  | 0, _, _, _, _, _, _, _, _ => none
  | n + 1, v0, v1, v2, v4, v5, v6, v7, m =>
    if ((Int8.ofInt 21).toInt32) ≤ v7 then
      xi_bI (if S.1 v0 = 11 then E_X9_tells S v0 v6 m else none) fun x2 m1 =>
      some (some (.int v5), m1)
    else
      xi_bI (if S.1 v0 = 11 then E_X9_partOf S v0 v1 v2 v7 m else none) fun x4 m3 =>
      if x4 ≤ (v4 - x4) then
        if v6 ≤ (v4 - x4) then
          if v6 ≤ (v4 - x4) then
            G_X9_next_76 S n v0 v1 v2 v4 v5 v6 (v7 + Int32.ofInt 1) m3
          else
            G_X9_next_76 S n v0 v1 v2 v4 v5 (v4 - x4) (v7 + Int32.ofInt 1) m3
        else
          if v6 ≤ (v4 - x4) then
            G_X9_next_76 S n v0 v1 v2 v4 v7 v6 (v7 + Int32.ofInt 1) m3
          else
            G_X9_next_76 S n v0 v1 v2 v4 v7 (v4 - x4) (v7 + Int32.ofInt 1) m3
      else
        if v6 ≤ x4 then
          if v6 ≤ x4 then
            G_X9_next_76 S n v0 v1 v2 v4 v5 v6 (v7 + Int32.ofInt 1) m3
          else
            G_X9_next_76 S n v0 v1 v2 v4 v5 x4 (v7 + Int32.ofInt 1) m3
        else
          if v6 ≤ x4 then
            G_X9_next_76 S n v0 v1 v2 v4 v7 v6 (v7 + Int32.ofInt 1) m3
          else
            G_X9_next_76 S n v0 v1 v2 v4 v7 x4 (v7 + Int32.ofInt 1) m3
set_option maxRecDepth 100000 in
set_option maxHeartbeats 4000000 in
theorem xs_X9_next_76 {S : xi_S} {res : xi_R} : ∀ (n : Nat) (v0 : Nat) (v1 : Int32) (v2 : Int32) (v4 : Int32) (v5 : Int32) (v6 : Int32) (v7 : Int32) (m : xi_M), G_X9_next_76 S n v0 v1 v2 v4 v5 v6 v7 m = some res → xi_X S (P_X9_next S) (76, [some (.ref v0), some (.int v1), some (.int v2), none, some (.int v4), some (.int v5), some (.int v6), some (.int v7), none, none], [], m) res := by
  intro n
  induction n with
  | zero => intro v0 v1 v2 v4 v5 v6 v7 m h; exact xi_no h
  | succ n ih =>
    intro v0 v1 v2 v4 v5 v6 v7 m h
    unfold G_X9_next_76 at h
    refine xr_iload i_X9_next_76 rfl (q := 78) rfl ?_
    refine xr_bipush i_X9_next_78 (q := 80) rfl ?_
    by_cases c12 : ((Int8.ofInt 21).toInt32) ≤ v7
    · replace h := (if_pos c12).symm.trans h
      refine xr_if_icmp_ge_p i_X9_next_80 c12 (q := 153) t_X9_next_80 (q2 := 83) rfl ?_
      refine xr_aload_n i_X9_next_153 rfl (q := 154) rfl ?_
      refine xr_iload i_X9_next_154 rfl (q := 156) rfl ?_
      obtain ⟨x2, m1, em1, h⟩ := xi_bI_some h
      refine xr_VI i_X9_next_156 xcve_X9_75 rfl (As := [.ref v0, .int v6]) rfl (rest := []) rfl ((cc_X9_next_75 S _ _ _).trans em1) (q := 159) rfl ?_
      refine xr_pop i_X9_next_159 (q := 160) rfl ?_
      refine xr_iload i_X9_next_160 rfl (q := 162) rfl ?_
      exact xr_ireturn i_X9_next_162 rfl h
    · replace h := (if_neg c12).symm.trans h
      refine xr_if_icmp_ge_n i_X9_next_80 c12 (q := 153) t_X9_next_80 (q2 := 83) rfl ?_
      refine xr_aload_n i_X9_next_83 rfl (q := 84) rfl ?_
      refine xr_iload_n i_X9_next_84 rfl (q := 85) rfl ?_
      refine xr_iload_n i_X9_next_85 rfl (q := 86) rfl ?_
      refine xr_iload i_X9_next_86 rfl (q := 88) rfl ?_
      obtain ⟨x4, m3, em3, h⟩ := xi_bI_some h
      refine xr_VI i_X9_next_88 xcve_X9_224 rfl (As := [.ref v0, .int v1, .int v2, .int v7]) rfl (rest := []) rfl ((cc_X9_next_224 S _ _ _ _ _).trans em3) (q := 91) rfl ?_
      refine xr_istore i_X9_next_91 rfl (L2 := [some (.ref v0), some (.int v1), some (.int v2), none, some (.int v4), some (.int v5), some (.int v6), some (.int v7), some (.int x4), none]) rfl (q := 93) rfl ?_
      refine xr_iload i_X9_next_93 rfl (q := 95) rfl ?_
      refine xr_iload i_X9_next_95 rfl (q := 97) rfl ?_
      refine xr_iload i_X9_next_97 rfl (q := 99) rfl ?_
      refine xr_isub i_X9_next_99 (q := 100) rfl ?_
      by_cases c11 : x4 ≤ (v4 - x4)
      · replace h := (if_pos c11).symm.trans h
        refine xr_if_icmp_le_p i_X9_next_100 c11 (q := 108) t_X9_next_100 (q2 := 103) rfl ?_
        refine xr_iload i_X9_next_108 rfl (q := 110) rfl ?_
        refine xr_iload i_X9_next_110 rfl (q := 112) rfl ?_
        refine xr_isub i_X9_next_112 (q := 113) rfl ?_
        refine xr_istore i_X9_next_113 rfl (L2 := [some (.ref v0), some (.int v1), some (.int v2), none, some (.int v4), some (.int v5), some (.int v6), some (.int v7), some (.int x4), some (.int (v4 - x4))]) rfl (q := 115) rfl ?_
        refine xr_iload i_X9_next_115 rfl (q := 117) rfl ?_
        refine xr_iload i_X9_next_117 rfl (q := 119) rfl ?_
        by_cases c7 : v6 ≤ (v4 - x4)
        · replace h := (if_pos c7).symm.trans h
          refine xr_if_icmp_ge_p i_X9_next_119 c7 (q := 127) t_X9_next_119 (q2 := 122) rfl ?_
          refine xr_iload i_X9_next_127 rfl (q := 129) rfl ?_
          refine xr_istore i_X9_next_129 rfl (L2 := [some (.ref v0), some (.int v1), some (.int v2), none, some (.int v4), some (.int v5), some (.int v6), some (.int v7), some (.int x4), some (.int (v4 - x4))]) rfl (q := 131) rfl ?_
          refine xr_iload i_X9_next_131 rfl (q := 133) rfl ?_
          refine xr_iload i_X9_next_133 rfl (q := 135) rfl ?_
          by_cases c5 : v6 ≤ (v4 - x4)
          · replace h := (if_pos c5).symm.trans h
            refine xr_if_icmp_ge_p i_X9_next_135 c5 (q := 143) t_X9_next_135 (q2 := 138) rfl ?_
            refine xr_iload i_X9_next_143 rfl (q := 145) rfl ?_
            refine xr_istore i_X9_next_145 rfl (L2 := [some (.ref v0), some (.int v1), some (.int v2), none, some (.int v4), some (.int v5), some (.int v6), some (.int v7), some (.int x4), some (.int (v4 - x4))]) rfl (q := 147) rfl ?_
            refine xr_iinc i_X9_next_147 rfl rfl (L2 := [some (.ref v0), some (.int v1), some (.int v2), none, some (.int v4), some (.int v5), some (.int v6), some (.int (v7 + Int32.ofInt 1)), some (.int x4), some (.int (v4 - x4))]) rfl (q := 150) rfl ?_
            refine xr_goto i_X9_next_150 (q := 76) t_X9_next_150 ?_
            exact xi_X_le (xi_le_s (xi_le_s (xi_le_s (xi_le_n (xi_le_s (xi_le_s (xi_le_s (xi_le_s (xi_le_n (xi_le_n xi_le_z)))))))))) (ih _ _ _ _ _ _ _ _ h)
          · replace h := (if_neg c5).symm.trans h
            refine xr_if_icmp_ge_n i_X9_next_135 c5 (q := 143) t_X9_next_135 (q2 := 138) rfl ?_
            refine xr_iload i_X9_next_138 rfl (q := 140) rfl ?_
            refine xr_goto i_X9_next_140 (q := 145) t_X9_next_140 ?_
            refine xr_istore i_X9_next_145 rfl (L2 := [some (.ref v0), some (.int v1), some (.int v2), none, some (.int v4), some (.int v5), some (.int (v4 - x4)), some (.int v7), some (.int x4), some (.int (v4 - x4))]) rfl (q := 147) rfl ?_
            refine xr_iinc i_X9_next_147 rfl rfl (L2 := [some (.ref v0), some (.int v1), some (.int v2), none, some (.int v4), some (.int v5), some (.int (v4 - x4)), some (.int (v7 + Int32.ofInt 1)), some (.int x4), some (.int (v4 - x4))]) rfl (q := 150) rfl ?_
            refine xr_goto i_X9_next_150 (q := 76) t_X9_next_150 ?_
            exact xi_X_le (xi_le_s (xi_le_s (xi_le_s (xi_le_n (xi_le_s (xi_le_s (xi_le_s (xi_le_s (xi_le_n (xi_le_n xi_le_z)))))))))) (ih _ _ _ _ _ _ _ _ h)
        · replace h := (if_neg c7).symm.trans h
          refine xr_if_icmp_ge_n i_X9_next_119 c7 (q := 127) t_X9_next_119 (q2 := 122) rfl ?_
          refine xr_iload i_X9_next_122 rfl (q := 124) rfl ?_
          refine xr_goto i_X9_next_124 (q := 129) t_X9_next_124 ?_
          refine xr_istore i_X9_next_129 rfl (L2 := [some (.ref v0), some (.int v1), some (.int v2), none, some (.int v4), some (.int v7), some (.int v6), some (.int v7), some (.int x4), some (.int (v4 - x4))]) rfl (q := 131) rfl ?_
          refine xr_iload i_X9_next_131 rfl (q := 133) rfl ?_
          refine xr_iload i_X9_next_133 rfl (q := 135) rfl ?_
          by_cases c6 : v6 ≤ (v4 - x4)
          · replace h := (if_pos c6).symm.trans h
            refine xr_if_icmp_ge_p i_X9_next_135 c6 (q := 143) t_X9_next_135 (q2 := 138) rfl ?_
            refine xr_iload i_X9_next_143 rfl (q := 145) rfl ?_
            refine xr_istore i_X9_next_145 rfl (L2 := [some (.ref v0), some (.int v1), some (.int v2), none, some (.int v4), some (.int v7), some (.int v6), some (.int v7), some (.int x4), some (.int (v4 - x4))]) rfl (q := 147) rfl ?_
            refine xr_iinc i_X9_next_147 rfl rfl (L2 := [some (.ref v0), some (.int v1), some (.int v2), none, some (.int v4), some (.int v7), some (.int v6), some (.int (v7 + Int32.ofInt 1)), some (.int x4), some (.int (v4 - x4))]) rfl (q := 150) rfl ?_
            refine xr_goto i_X9_next_150 (q := 76) t_X9_next_150 ?_
            exact xi_X_le (xi_le_s (xi_le_s (xi_le_s (xi_le_n (xi_le_s (xi_le_s (xi_le_s (xi_le_s (xi_le_n (xi_le_n xi_le_z)))))))))) (ih _ _ _ _ _ _ _ _ h)
          · replace h := (if_neg c6).symm.trans h
            refine xr_if_icmp_ge_n i_X9_next_135 c6 (q := 143) t_X9_next_135 (q2 := 138) rfl ?_
            refine xr_iload i_X9_next_138 rfl (q := 140) rfl ?_
            refine xr_goto i_X9_next_140 (q := 145) t_X9_next_140 ?_
            refine xr_istore i_X9_next_145 rfl (L2 := [some (.ref v0), some (.int v1), some (.int v2), none, some (.int v4), some (.int v7), some (.int (v4 - x4)), some (.int v7), some (.int x4), some (.int (v4 - x4))]) rfl (q := 147) rfl ?_
            refine xr_iinc i_X9_next_147 rfl rfl (L2 := [some (.ref v0), some (.int v1), some (.int v2), none, some (.int v4), some (.int v7), some (.int (v4 - x4)), some (.int (v7 + Int32.ofInt 1)), some (.int x4), some (.int (v4 - x4))]) rfl (q := 150) rfl ?_
            refine xr_goto i_X9_next_150 (q := 76) t_X9_next_150 ?_
            exact xi_X_le (xi_le_s (xi_le_s (xi_le_s (xi_le_n (xi_le_s (xi_le_s (xi_le_s (xi_le_s (xi_le_n (xi_le_n xi_le_z)))))))))) (ih _ _ _ _ _ _ _ _ h)
      · replace h := (if_neg c11).symm.trans h
        refine xr_if_icmp_le_n i_X9_next_100 c11 (q := 108) t_X9_next_100 (q2 := 103) rfl ?_
        refine xr_iload i_X9_next_103 rfl (q := 105) rfl ?_
        refine xr_goto i_X9_next_105 (q := 113) t_X9_next_105 ?_
        refine xr_istore i_X9_next_113 rfl (L2 := [some (.ref v0), some (.int v1), some (.int v2), none, some (.int v4), some (.int v5), some (.int v6), some (.int v7), some (.int x4), some (.int x4)]) rfl (q := 115) rfl ?_
        refine xr_iload i_X9_next_115 rfl (q := 117) rfl ?_
        refine xr_iload i_X9_next_117 rfl (q := 119) rfl ?_
        by_cases c10 : v6 ≤ x4
        · replace h := (if_pos c10).symm.trans h
          refine xr_if_icmp_ge_p i_X9_next_119 c10 (q := 127) t_X9_next_119 (q2 := 122) rfl ?_
          refine xr_iload i_X9_next_127 rfl (q := 129) rfl ?_
          refine xr_istore i_X9_next_129 rfl (L2 := [some (.ref v0), some (.int v1), some (.int v2), none, some (.int v4), some (.int v5), some (.int v6), some (.int v7), some (.int x4), some (.int x4)]) rfl (q := 131) rfl ?_
          refine xr_iload i_X9_next_131 rfl (q := 133) rfl ?_
          refine xr_iload i_X9_next_133 rfl (q := 135) rfl ?_
          by_cases c8 : v6 ≤ x4
          · replace h := (if_pos c8).symm.trans h
            refine xr_if_icmp_ge_p i_X9_next_135 c8 (q := 143) t_X9_next_135 (q2 := 138) rfl ?_
            refine xr_iload i_X9_next_143 rfl (q := 145) rfl ?_
            refine xr_istore i_X9_next_145 rfl (L2 := [some (.ref v0), some (.int v1), some (.int v2), none, some (.int v4), some (.int v5), some (.int v6), some (.int v7), some (.int x4), some (.int x4)]) rfl (q := 147) rfl ?_
            refine xr_iinc i_X9_next_147 rfl rfl (L2 := [some (.ref v0), some (.int v1), some (.int v2), none, some (.int v4), some (.int v5), some (.int v6), some (.int (v7 + Int32.ofInt 1)), some (.int x4), some (.int x4)]) rfl (q := 150) rfl ?_
            refine xr_goto i_X9_next_150 (q := 76) t_X9_next_150 ?_
            exact xi_X_le (xi_le_s (xi_le_s (xi_le_s (xi_le_n (xi_le_s (xi_le_s (xi_le_s (xi_le_s (xi_le_n (xi_le_n xi_le_z)))))))))) (ih _ _ _ _ _ _ _ _ h)
          · replace h := (if_neg c8).symm.trans h
            refine xr_if_icmp_ge_n i_X9_next_135 c8 (q := 143) t_X9_next_135 (q2 := 138) rfl ?_
            refine xr_iload i_X9_next_138 rfl (q := 140) rfl ?_
            refine xr_goto i_X9_next_140 (q := 145) t_X9_next_140 ?_
            refine xr_istore i_X9_next_145 rfl (L2 := [some (.ref v0), some (.int v1), some (.int v2), none, some (.int v4), some (.int v5), some (.int x4), some (.int v7), some (.int x4), some (.int x4)]) rfl (q := 147) rfl ?_
            refine xr_iinc i_X9_next_147 rfl rfl (L2 := [some (.ref v0), some (.int v1), some (.int v2), none, some (.int v4), some (.int v5), some (.int x4), some (.int (v7 + Int32.ofInt 1)), some (.int x4), some (.int x4)]) rfl (q := 150) rfl ?_
            refine xr_goto i_X9_next_150 (q := 76) t_X9_next_150 ?_
            exact xi_X_le (xi_le_s (xi_le_s (xi_le_s (xi_le_n (xi_le_s (xi_le_s (xi_le_s (xi_le_s (xi_le_n (xi_le_n xi_le_z)))))))))) (ih _ _ _ _ _ _ _ _ h)
        · replace h := (if_neg c10).symm.trans h
          refine xr_if_icmp_ge_n i_X9_next_119 c10 (q := 127) t_X9_next_119 (q2 := 122) rfl ?_
          refine xr_iload i_X9_next_122 rfl (q := 124) rfl ?_
          refine xr_goto i_X9_next_124 (q := 129) t_X9_next_124 ?_
          refine xr_istore i_X9_next_129 rfl (L2 := [some (.ref v0), some (.int v1), some (.int v2), none, some (.int v4), some (.int v7), some (.int v6), some (.int v7), some (.int x4), some (.int x4)]) rfl (q := 131) rfl ?_
          refine xr_iload i_X9_next_131 rfl (q := 133) rfl ?_
          refine xr_iload i_X9_next_133 rfl (q := 135) rfl ?_
          by_cases c9 : v6 ≤ x4
          · replace h := (if_pos c9).symm.trans h
            refine xr_if_icmp_ge_p i_X9_next_135 c9 (q := 143) t_X9_next_135 (q2 := 138) rfl ?_
            refine xr_iload i_X9_next_143 rfl (q := 145) rfl ?_
            refine xr_istore i_X9_next_145 rfl (L2 := [some (.ref v0), some (.int v1), some (.int v2), none, some (.int v4), some (.int v7), some (.int v6), some (.int v7), some (.int x4), some (.int x4)]) rfl (q := 147) rfl ?_
            refine xr_iinc i_X9_next_147 rfl rfl (L2 := [some (.ref v0), some (.int v1), some (.int v2), none, some (.int v4), some (.int v7), some (.int v6), some (.int (v7 + Int32.ofInt 1)), some (.int x4), some (.int x4)]) rfl (q := 150) rfl ?_
            refine xr_goto i_X9_next_150 (q := 76) t_X9_next_150 ?_
            exact xi_X_le (xi_le_s (xi_le_s (xi_le_s (xi_le_n (xi_le_s (xi_le_s (xi_le_s (xi_le_s (xi_le_n (xi_le_n xi_le_z)))))))))) (ih _ _ _ _ _ _ _ _ h)
          · replace h := (if_neg c9).symm.trans h
            refine xr_if_icmp_ge_n i_X9_next_135 c9 (q := 143) t_X9_next_135 (q2 := 138) rfl ?_
            refine xr_iload i_X9_next_138 rfl (q := 140) rfl ?_
            refine xr_goto i_X9_next_140 (q := 145) t_X9_next_140 ?_
            refine xr_istore i_X9_next_145 rfl (L2 := [some (.ref v0), some (.int v1), some (.int v2), none, some (.int v4), some (.int v7), some (.int x4), some (.int v7), some (.int x4), some (.int x4)]) rfl (q := 147) rfl ?_
            refine xr_iinc i_X9_next_147 rfl rfl (L2 := [some (.ref v0), some (.int v1), some (.int v2), none, some (.int v4), some (.int v7), some (.int x4), some (.int (v7 + Int32.ofInt 1)), some (.int x4), some (.int x4)]) rfl (q := 150) rfl ?_
            refine xr_goto i_X9_next_150 (q := 76) t_X9_next_150 ?_
            exact xi_X_le (xi_le_s (xi_le_s (xi_le_s (xi_le_n (xi_le_s (xi_le_s (xi_le_s (xi_le_s (xi_le_n (xi_le_n xi_le_z)))))))))) (ih _ _ _ _ _ _ _ _ h)
def E_X9_next (S : xi_S) (v0 : Nat) (v1 : Int32) (v2 : Int32) (m : xi_M) : Option xi_R :=
  xi_bI (E_X9_in0 S v1 (Int32.ofInt 0) (Int32.ofInt 1) m) fun x2 m1 =>
  if x2 = 0 then
    some (some (.int (Int32.ofInt (-1))), m1)
  else
    xi_bI (E_X9_isRow S v2 m1) fun x4 m3 =>
    if x4 = 0 then
      some (some (.int (Int32.ofInt (-1))), m3)
    else
      xi_bI (if S.1 v0 = 11 then E_X9_isAny S v0 m3 else none) fun x6 m5 =>
      if x6 = 0 then
        some (some (.int ((Int8.ofInt (-4)).toInt32)), m5)
      else
        xi_bI (if S.1 v0 = 11 then E_X9_wrongIn S v0 v2 ((Int8.ofInt 20).toInt32) (Int32.ofInt 1) m5 else none) fun x8 m7 =>
        if x8 ≤ 0 then
          xi_bI (if S.1 v0 = 11 then E_X9_partOf S v0 v1 v2 (Int32.ofInt (-1)) m7 else none) fun x10 m9 =>
          if x10 = 0 then
            some (some (.int ((Int8.ofInt (-9)).toInt32)), m9)
          else
            G_X9_next_76 S 10000 v0 v1 v2 x10 (Int32.ofInt 0) (x10 + (Int32.ofInt 1)) (Int32.ofInt 0) m9
        else
          xi_bI (if S.1 v0 = 11 then E_X9_found S v0 x8 m7 else none) fun x13 m12 =>
          some (some (.int x13), m12)
def F_X9_next (S : xi_S) : xi_F := fun As m => match As with
  | [.ref v0, .int v1, .int v2] => E_X9_next S v0 v1 v2 m
  | _ => none
set_option maxRecDepth 100000 in
set_option maxHeartbeats 4000000 in
theorem xe_X9_next {S : xi_S} {res : xi_R} (v0 : Nat) (v1 : Int32) (v2 : Int32) (m : xi_M) (h : E_X9_next S v0 v1 v2 m = some res) : xi_X S (P_X9_next S) (0, [some (.ref v0), some (.int v1), some (.int v2), none, none, none, none, none, none, none], [], m) res := by
  unfold E_X9_next at h
  refine xr_iload_n i_X9_next_0 rfl (q := 1) rfl ?_
  refine xr_iconst i_X9_next_1 (q := 2) rfl ?_
  refine xr_iconst i_X9_next_2 (q := 3) rfl ?_
  obtain ⟨x2, m1, em1, h⟩ := xi_bI_some h
  refine xr_SI i_X9_next_3 xcse_X9_63 rfl (As := [.int v1, .int (Int32.ofInt 0), .int (Int32.ofInt 1)]) rfl (rest := []) rfl ((cc_X9_next_63 S _ _ _ _).trans em1) (q := 6) rfl ?_
  by_cases c17 : x2 = 0
  · replace h := (if_pos c17).symm.trans h
    refine xr_ifCond_eq_p i_X9_next_6 c17 (q := 16) t_X9_next_6 (q2 := 9) rfl ?_
    refine xr_iconst i_X9_next_16 (q := 17) rfl ?_
    exact xr_ireturn i_X9_next_17 rfl h
  · replace h := (if_neg c17).symm.trans h
    refine xr_ifCond_eq_n i_X9_next_6 c17 (q := 16) t_X9_next_6 (q2 := 9) rfl ?_
    refine xr_iload_n i_X9_next_9 rfl (q := 10) rfl ?_
    obtain ⟨x4, m3, em3, h⟩ := xi_bI_some h
    refine xr_SI i_X9_next_10 xcse_X9_67 rfl (As := [.int v2]) rfl (rest := []) rfl ((cc_X9_next_67 S _ _).trans em3) (q := 13) rfl ?_
    by_cases c16 : x4 = 0
    · replace h := (if_pos c16).symm.trans h
      refine xr_ifCond_ne_p i_X9_next_13 c16 (q := 18) t_X9_next_13 (q2 := 16) rfl ?_
      refine xr_iconst i_X9_next_16 (q := 17) rfl ?_
      exact xr_ireturn i_X9_next_17 rfl h
    · replace h := (if_neg c16).symm.trans h
      refine xr_ifCond_ne_n i_X9_next_13 c16 (q := 18) t_X9_next_13 (q2 := 16) rfl ?_
      refine xr_aload_n i_X9_next_18 rfl (q := 19) rfl ?_
      obtain ⟨x6, m5, em5, h⟩ := xi_bI_some h
      refine xr_VI i_X9_next_19 xcve_X9_183 rfl (As := [.ref v0]) rfl (rest := []) rfl ((cc_X9_next_183 S _ _).trans em5) (q := 22) rfl ?_
      by_cases c15 : x6 = 0
      · replace h := (if_pos c15).symm.trans h
        refine xr_ifCond_ne_p i_X9_next_22 c15 (q := 28) t_X9_next_22 (q2 := 25) rfl ?_
        refine xr_bipush i_X9_next_25 (q := 27) rfl ?_
        exact xr_ireturn i_X9_next_27 rfl h
      · replace h := (if_neg c15).symm.trans h
        refine xr_ifCond_ne_n i_X9_next_22 c15 (q := 28) t_X9_next_22 (q2 := 25) rfl ?_
        refine xr_aload_n i_X9_next_28 rfl (q := 29) rfl ?_
        refine xr_iload_n i_X9_next_29 rfl (q := 30) rfl ?_
        refine xr_bipush i_X9_next_30 (q := 32) rfl ?_
        refine xr_iconst i_X9_next_32 (q := 33) rfl ?_
        obtain ⟨x8, m7, em7, h⟩ := xi_bI_some h
        refine xr_VI i_X9_next_33 xcve_X9_208 rfl (As := [.ref v0, .int v2, .int ((Int8.ofInt 20).toInt32), .int (Int32.ofInt 1)]) rfl (rest := []) rfl ((cc_X9_next_208 S _ _ _ _ _).trans em7) (q := 36) rfl ?_
        refine xr_istore_n i_X9_next_36 rfl (L2 := [some (.ref v0), some (.int v1), some (.int v2), some (.int x8), none, none, none, none, none, none]) rfl (q := 37) rfl ?_
        refine xr_iload_n i_X9_next_37 rfl (q := 38) rfl ?_
        by_cases c14 : x8 ≤ 0
        · replace h := (if_pos c14).symm.trans h
          refine xr_ifCond_le_p i_X9_next_38 c14 (q := 47) t_X9_next_38 (q2 := 41) rfl ?_
          refine xr_aload_n i_X9_next_47 rfl (q := 48) rfl ?_
          refine xr_iload_n i_X9_next_48 rfl (q := 49) rfl ?_
          refine xr_iload_n i_X9_next_49 rfl (q := 50) rfl ?_
          refine xr_iconst i_X9_next_50 (q := 51) rfl ?_
          obtain ⟨x10, m9, em9, h⟩ := xi_bI_some h
          refine xr_VI i_X9_next_51 xcve_X9_224 rfl (As := [.ref v0, .int v1, .int v2, .int (Int32.ofInt (-1))]) rfl (rest := []) rfl ((cc_X9_next_224 S _ _ _ _ _).trans em9) (q := 54) rfl ?_
          refine xr_istore i_X9_next_54 rfl (L2 := [some (.ref v0), some (.int v1), some (.int v2), some (.int x8), some (.int x10), none, none, none, none, none]) rfl (q := 56) rfl ?_
          refine xr_iload i_X9_next_56 rfl (q := 58) rfl ?_
          by_cases c11 : x10 = 0
          · replace h := (if_pos c11).symm.trans h
            refine xr_ifCond_ne_p i_X9_next_58 c11 (q := 64) t_X9_next_58 (q2 := 61) rfl ?_
            refine xr_bipush i_X9_next_61 (q := 63) rfl ?_
            exact xr_ireturn i_X9_next_63 rfl h
          · replace h := (if_neg c11).symm.trans h
            refine xr_ifCond_ne_n i_X9_next_58 c11 (q := 64) t_X9_next_58 (q2 := 61) rfl ?_
            refine xr_iconst i_X9_next_64 (q := 65) rfl ?_
            refine xr_istore i_X9_next_65 rfl (L2 := [some (.ref v0), some (.int v1), some (.int v2), some (.int x8), some (.int x10), some (.int (Int32.ofInt 0)), none, none, none, none]) rfl (q := 67) rfl ?_
            refine xr_iload i_X9_next_67 rfl (q := 69) rfl ?_
            refine xr_iconst i_X9_next_69 (q := 70) rfl ?_
            refine xr_iadd i_X9_next_70 (q := 71) rfl ?_
            refine xr_istore i_X9_next_71 rfl (L2 := [some (.ref v0), some (.int v1), some (.int v2), some (.int x8), some (.int x10), some (.int (Int32.ofInt 0)), some (.int (x10 + (Int32.ofInt 1))), none, none, none]) rfl (q := 73) rfl ?_
            refine xr_iconst i_X9_next_73 (q := 74) rfl ?_
            refine xr_istore i_X9_next_74 rfl (L2 := [some (.ref v0), some (.int v1), some (.int v2), some (.int x8), some (.int x10), some (.int (Int32.ofInt 0)), some (.int (x10 + (Int32.ofInt 1))), some (.int (Int32.ofInt 0)), none, none]) rfl (q := 76) rfl ?_
            exact xi_X_le (xi_le_s (xi_le_s (xi_le_s (xi_le_n (xi_le_s (xi_le_s (xi_le_s (xi_le_s (xi_le_n (xi_le_n xi_le_z)))))))))) (xs_X9_next_76 10000 _ _ _ _ _ _ _ _ h)
        · replace h := (if_neg c14).symm.trans h
          refine xr_ifCond_le_n i_X9_next_38 c14 (q := 47) t_X9_next_38 (q2 := 41) rfl ?_
          refine xr_aload_n i_X9_next_41 rfl (q := 42) rfl ?_
          refine xr_iload_n i_X9_next_42 rfl (q := 43) rfl ?_
          obtain ⟨x13, m12, em12, h⟩ := xi_bI_some h
          refine xr_VI i_X9_next_43 xcve_X9_71 rfl (As := [.ref v0, .int x8]) rfl (rest := []) rfl ((cc_X9_next_71 S _ _ _).trans em12) (q := 46) rfl ?_
          exact xr_ireturn i_X9_next_46 rfl h
set_option maxRecDepth 100000 in
theorem po_X9_next {l : Launch} {E : xi_E} {S : xi_S} {D : va_G} {tys : List (ClassId × FieldType)} (hC : xCx E S tys) : xi_Pok l E S D vwCl tys xNs RX9 xTs cX9_next 10 6 (P_X9_next S) := ⟨xi_dc_ok, by rw [hC.2]; exact xfo_X9, xkio_X9, xklo_X9, xi_calls_ok (ins := .invokestatic) (List.forall_mem_cons.mpr ⟨(xc_X9_63 (sn_X9_in0 hC) (by decide)), List.forall_mem_cons.mpr ⟨(xc_X9_67 (sn_X9_isRow hC) (by decide)), fun _ h => absurd h List.not_mem_nil⟩⟩), xi_calls_ok (ins := .invokevirtual) (List.forall_mem_cons.mpr ⟨(xc_X9_71 hC.1 (sn_X9_found hC) (by decide)), List.forall_mem_cons.mpr ⟨(xc_X9_75 hC.1 (sn_X9_tells hC) (by decide)), List.forall_mem_cons.mpr ⟨(xc_X9_183 hC.1 (sn_X9_isAny hC) (by decide)), List.forall_mem_cons.mpr ⟨(xc_X9_208 hC.1 (sn_X9_wrongIn hC) (by decide)), List.forall_mem_cons.mpr ⟨(xc_X9_224 hC.1 (sn_X9_partOf hC) (by decide)), fun _ h => absurd h List.not_mem_nil⟩⟩⟩⟩⟩)⟩
theorem sn_X9_next {l : Launch} {E : xi_E} {S : xi_S} {D : va_G} {tys : List (ClassId × FieldType)} (hC : xCx E S tys) : ∀ As m1 r m2, F_X9_next S As m1 = some (r, m2) → xi_Sound l E S D vwCl tys xNs xTs yX9_next cX9_next 10 (some .int) 6 As m1 r m2 := by
  intro As m1 r m2 h
  unfold F_X9_next at h
  split at h
  · exact xi_meth (P := P_X9_next S) (by decide) hC.1 (po_X9_next hC) (Nat.le_of_ble_eq_true rfl) rfl (xe_X9_next _ _ _ _ h)
  · exact xi_no h
theorem i_X9_landSo_0 : xi_dc cX9_landSo 0 = some (.iconst 1, 1) := by decide +kernel
theorem i_X9_landSo_1 : xi_dc cX9_landSo 1 = some (.istore 5, 2) := by decide +kernel
theorem i_X9_landSo_3 : xi_dc cX9_landSo 3 = some (.iconst 0, 1) := by decide +kernel
theorem i_X9_landSo_4 : xi_dc cX9_landSo 4 = some (.istore 6, 2) := by decide +kernel
theorem i_X9_landSo_6 : xi_dc cX9_landSo 6 = some (.iload 6, 2) := by decide +kernel
theorem i_X9_landSo_8 : xi_dc cX9_landSo 8 = some (.aload_n 0, 1) := by decide +kernel
theorem i_X9_landSo_9 : xi_dc cX9_landSo 9 = some (.getfield 7, 3) := by decide +kernel
theorem i_X9_landSo_12 : xi_dc cX9_landSo 12 = some (.iload_n 2, 1) := by decide +kernel
theorem i_X9_landSo_13 : xi_dc cX9_landSo 13 = some (.iaload, 1) := by decide +kernel
theorem i_X9_landSo_14 : xi_dc cX9_landSo 14 = some (.if_icmp .ge 69, 3) := by decide +kernel
theorem t_X9_landSo_14 : ((14 : Nat) : Int) + 69 = ((83 : Nat) : Int) := by decide +kernel
theorem i_X9_landSo_17 : xi_dc cX9_landSo 17 = some (.iload 5, 2) := by decide +kernel
theorem i_X9_landSo_19 : xi_dc cX9_landSo 19 = some (.ifCond .eq 55, 3) := by decide +kernel
theorem t_X9_landSo_19 : ((19 : Nat) : Int) + 55 = ((74 : Nat) : Int) := by decide +kernel
theorem i_X9_landSo_22 : xi_dc cX9_landSo 22 = some (.iload_n 3, 1) := by decide +kernel
theorem i_X9_landSo_23 : xi_dc cX9_landSo 23 = some (.aload_n 0, 1) := by decide +kernel
theorem i_X9_landSo_24 : xi_dc cX9_landSo 24 = some (.getfield 25, 3) := by decide +kernel
theorem i_X9_landSo_27 : xi_dc cX9_landSo 27 = some (.bipush 10, 2) := by decide +kernel
theorem i_X9_landSo_29 : xi_dc cX9_landSo 29 = some (.iconst 4, 1) := by decide +kernel
theorem i_X9_landSo_30 : xi_dc cX9_landSo 30 = some (.iload_n 1, 1) := by decide +kernel
theorem i_X9_landSo_31 : xi_dc cX9_landSo 31 = some (.imul, 1) := by decide +kernel
theorem i_X9_landSo_32 : xi_dc cX9_landSo 32 = some (.iadd, 1) := by decide +kernel
theorem i_X9_landSo_33 : xi_dc cX9_landSo 33 = some (.iconst 3, 1) := by decide +kernel
theorem i_X9_landSo_34 : xi_dc cX9_landSo 34 = some (.iadd, 1) := by decide +kernel
theorem i_X9_landSo_35 : xi_dc cX9_landSo 35 = some (.iaload, 1) := by decide +kernel
theorem i_X9_landSo_36 : xi_dc cX9_landSo 36 = some (.iload 4, 2) := by decide +kernel
theorem i_X9_landSo_38 : xi_dc cX9_landSo 38 = some (.aload_n 0, 1) := by decide +kernel
theorem i_X9_landSo_39 : xi_dc cX9_landSo 39 = some (.getfield 13, 3) := by decide +kernel
theorem i_X9_landSo_42 : xi_dc cX9_landSo 42 = some (.bipush 40, 2) := by decide +kernel
theorem i_X9_landSo_44 : xi_dc cX9_landSo 44 = some (.iload_n 2, 1) := by decide +kernel
theorem i_X9_landSo_45 : xi_dc cX9_landSo 45 = some (.imul, 1) := by decide +kernel
theorem i_X9_landSo_46 : xi_dc cX9_landSo 46 = some (.iload 6, 2) := by decide +kernel
theorem i_X9_landSo_48 : xi_dc cX9_landSo 48 = some (.iadd, 1) := by decide +kernel
theorem i_X9_landSo_49 : xi_dc cX9_landSo 49 = some (.iaload, 1) := by decide +kernel
theorem i_X9_landSo_50 : xi_dc cX9_landSo 50 = some (.invokestatic 128, 3) := by decide +kernel
theorem i_X9_landSo_53 : xi_dc cX9_landSo 53 = some (.aload_n 0, 1) := by decide +kernel
theorem i_X9_landSo_54 : xi_dc cX9_landSo 54 = some (.getfield 13, 3) := by decide +kernel
theorem i_X9_landSo_57 : xi_dc cX9_landSo 57 = some (.bipush 40, 2) := by decide +kernel
theorem i_X9_landSo_59 : xi_dc cX9_landSo 59 = some (.iload_n 2, 1) := by decide +kernel
theorem i_X9_landSo_60 : xi_dc cX9_landSo 60 = some (.imul, 1) := by decide +kernel
theorem i_X9_landSo_61 : xi_dc cX9_landSo 61 = some (.iload 6, 2) := by decide +kernel
theorem i_X9_landSo_63 : xi_dc cX9_landSo 63 = some (.iadd, 1) := by decide +kernel
theorem i_X9_landSo_64 : xi_dc cX9_landSo 64 = some (.iconst 1, 1) := by decide +kernel
theorem i_X9_landSo_65 : xi_dc cX9_landSo 65 = some (.iadd, 1) := by decide +kernel
theorem i_X9_landSo_66 : xi_dc cX9_landSo 66 = some (.iaload, 1) := by decide +kernel
theorem i_X9_landSo_67 : xi_dc cX9_landSo 67 = some (.if_icmp .ne 7, 3) := by decide +kernel
theorem t_X9_landSo_67 : ((67 : Nat) : Int) + 7 = ((74 : Nat) : Int) := by decide +kernel
theorem i_X9_landSo_70 : xi_dc cX9_landSo 70 = some (.iconst 1, 1) := by decide +kernel
theorem i_X9_landSo_71 : xi_dc cX9_landSo 71 = some (.goto 4, 3) := by decide +kernel
theorem t_X9_landSo_71 : ((71 : Nat) : Int) + 4 = ((75 : Nat) : Int) := by decide +kernel
theorem i_X9_landSo_74 : xi_dc cX9_landSo 74 = some (.iconst 0, 1) := by decide +kernel
theorem i_X9_landSo_75 : xi_dc cX9_landSo 75 = some (.istore 5, 2) := by decide +kernel
theorem i_X9_landSo_77 : xi_dc cX9_landSo 77 = some (.iinc 6 2, 3) := by decide +kernel
theorem i_X9_landSo_80 : xi_dc cX9_landSo 80 = some (.goto (-74), 3) := by decide +kernel
theorem t_X9_landSo_80 : ((80 : Nat) : Int) + (-74) = ((6 : Nat) : Int) := by decide +kernel
theorem i_X9_landSo_83 : xi_dc cX9_landSo 83 = some (.iload 5, 2) := by decide +kernel
theorem i_X9_landSo_85 : xi_dc cX9_landSo 85 = some (.ireturn, 1) := by decide +kernel
def P_X9_landSo (S : xi_S) : xi_P := (xi_dc cX9_landSo, xi_tab xfl_X9, xi_tab xki_X9, xi_tab xkl_X9, xi_tab xcs_X9, xi_tab xcv_X9, xi_calls [(128, xi_wS 4 (F_X9_landing S))], xi_calls [], 2)
theorem cc_X9_landSo_128 (S : xi_S) (a0 : Int32) (a1 : Int32) (a2 : Int32) (a3 : Int32) (m : xi_M) : (P_X9_landSo S).2.2.2.2.2.2.1 128 [.int a0, .int a1, .int a2, .int a3] m = (E_X9_landing S a0 a1 a2 a3 m) := by
  show xi_calls [(128, xi_wS 4 (F_X9_landing S))] 128 [.int a0, .int a1, .int a2, .int a3] m = _
  refine Eq.trans (b := xi_wS 4 (F_X9_landing S) [.int a0, .int a1, .int a2, .int a3] m) (xi_calls_hit rfl) ?_
  exact xi_wS_eq rfl
def G_X9_landSo_6 (S : xi_S) : Nat → Nat → Int32 → Int32 → Int32 → Int32 → Int32 → Int32 → xi_M → Option xi_R
  | 0, _, _, _, _, _, _, _, _ => none
  | n + 1, v0, v1, v2, v3, v4, v5, v6, m =>
    if S.1 v0 = 11 then (S.2.2 v0 0).bind fun b2 =>
      if S.1 b2 = 0 ∧ ¬ (v2 < 0 ∨ S.2.1 b2 ≤ Int32.toNatClampNeg v2) then
        if (m.1 b2 (Int32.toNatClampNeg v2)) ≤ v6 then
          if v5 = 0 ∨ v5 = 1 then some (some (.int v5), m) else none
        else
          if v5 = 0 then
            G_X9_landSo_6 S n v0 v1 v2 v3 v4 (Int32.ofInt 0) (v6 + Int32.ofInt 2) m
          else
            if S.1 v0 = 11 then (S.2.2 v0 5).bind fun b5 =>
              if S.1 b5 = 0 ∧ ¬ (((((Int8.ofInt 10).toInt32) + ((Int32.ofInt 4) * v1)) + (Int32.ofInt 3)) < 0 ∨ S.2.1 b5 ≤ Int32.toNatClampNeg ((((Int8.ofInt 10).toInt32) + ((Int32.ofInt 4) * v1)) + (Int32.ofInt 3))) then
                if S.1 v0 = 11 then (S.2.2 v0 1).bind fun b8 =>
                  if S.1 b8 = 0 ∧ ¬ (((((Int8.ofInt 40).toInt32) * v2) + v6) < 0 ∨ S.2.1 b8 ≤ Int32.toNatClampNeg ((((Int8.ofInt 40).toInt32) * v2) + v6)) then
                    xi_bI (E_X9_landing S v3 (m.1 b5 (Int32.toNatClampNeg ((((Int8.ofInt 10).toInt32) + ((Int32.ofInt 4) * v1)) + (Int32.ofInt 3)))) v4 (m.1 b8 (Int32.toNatClampNeg ((((Int8.ofInt 40).toInt32) * v2) + v6))) m) fun x11 m10 =>
                    if S.1 v0 = 11 then (S.2.2 v0 1).bind fun b13 =>
                      if S.1 b13 = 0 ∧ ¬ ((((((Int8.ofInt 40).toInt32) * v2) + v6) + (Int32.ofInt 1)) < 0 ∨ S.2.1 b13 ≤ Int32.toNatClampNeg (((((Int8.ofInt 40).toInt32) * v2) + v6) + (Int32.ofInt 1))) then
                        if x11 = (m10.1 b13 (Int32.toNatClampNeg (((((Int8.ofInt 40).toInt32) * v2) + v6) + (Int32.ofInt 1)))) then
                          G_X9_landSo_6 S n v0 v1 v2 v3 v4 (Int32.ofInt 1) (v6 + Int32.ofInt 2) m10
                        else
                          G_X9_landSo_6 S n v0 v1 v2 v3 v4 (Int32.ofInt 0) (v6 + Int32.ofInt 2) m10
                      else none
                    else none
                  else none
                else none
              else none
            else none
      else none
    else none
set_option maxRecDepth 100000 in
set_option maxHeartbeats 4000000 in
theorem xs_X9_landSo_6 {S : xi_S} {res : xi_R} : ∀ (n : Nat) (v0 : Nat) (v1 : Int32) (v2 : Int32) (v3 : Int32) (v4 : Int32) (v5 : Int32) (v6 : Int32) (m : xi_M), G_X9_landSo_6 S n v0 v1 v2 v3 v4 v5 v6 m = some res → xi_X S (P_X9_landSo S) (6, [some (.ref v0), some (.int v1), some (.int v2), some (.int v3), some (.int v4), some (.int v5), some (.int v6)], [], m) res := by
  intro n
  induction n with
  | zero => intro v0 v1 v2 v3 v4 v5 v6 m h; exact xi_no h
  | succ n ih =>
    intro v0 v1 v2 v3 v4 v5 v6 m h
    unfold G_X9_landSo_6 at h
    refine xr_iload i_X9_landSo_6 rfl (q := 8) rfl ?_
    refine xr_aload_n i_X9_landSo_8 rfl (q := 9) rfl ?_
    obtain ⟨c1, h⟩ := xi_if_some h
    obtain ⟨b2, eb2, h⟩ := xi_bind_some h
    refine xr_getR i_X9_landSo_9 xfe_X9_7 c1 eb2 (q := 12) rfl ?_
    refine xr_iload_n i_X9_landSo_12 rfl (q := 13) rfl ?_
    obtain ⟨c3, h⟩ := xi_if_some h
    refine xr_iaload i_X9_landSo_13 c3 (q := 14) rfl ?_
    by_cases c17 : (m.1 b2 (Int32.toNatClampNeg v2)) ≤ v6
    · replace h := (if_pos c17).symm.trans h
      refine xr_if_icmp_ge_p i_X9_landSo_14 c17 (q := 83) t_X9_landSo_14 (q2 := 17) rfl ?_
      refine xr_iload i_X9_landSo_83 rfl (q := 85) rfl ?_
      exact xr_zreturn i_X9_landSo_85 rfl h
    · replace h := (if_neg c17).symm.trans h
      refine xr_if_icmp_ge_n i_X9_landSo_14 c17 (q := 83) t_X9_landSo_14 (q2 := 17) rfl ?_
      refine xr_iload i_X9_landSo_17 rfl (q := 19) rfl ?_
      by_cases c16 : v5 = 0
      · replace h := (if_pos c16).symm.trans h
        refine xr_ifCond_eq_p i_X9_landSo_19 c16 (q := 74) t_X9_landSo_19 (q2 := 22) rfl ?_
        refine xr_iconst i_X9_landSo_74 (q := 75) rfl ?_
        refine xr_istore i_X9_landSo_75 rfl (L2 := [some (.ref v0), some (.int v1), some (.int v2), some (.int v3), some (.int v4), some (.int (Int32.ofInt 0)), some (.int v6)]) rfl (q := 77) rfl ?_
        refine xr_iinc i_X9_landSo_77 rfl rfl (L2 := [some (.ref v0), some (.int v1), some (.int v2), some (.int v3), some (.int v4), some (.int (Int32.ofInt 0)), some (.int (v6 + Int32.ofInt 2))]) rfl (q := 80) rfl ?_
        refine xr_goto i_X9_landSo_80 (q := 6) t_X9_landSo_80 ?_
        exact xi_X_le (xi_le_s (xi_le_s (xi_le_s (xi_le_s (xi_le_s (xi_le_s (xi_le_s xi_le_z))))))) (ih _ _ _ _ _ _ _ _ h)
      · replace h := (if_neg c16).symm.trans h
        refine xr_ifCond_eq_n i_X9_landSo_19 c16 (q := 74) t_X9_landSo_19 (q2 := 22) rfl ?_
        refine xr_iload_n i_X9_landSo_22 rfl (q := 23) rfl ?_
        refine xr_aload_n i_X9_landSo_23 rfl (q := 24) rfl ?_
        obtain ⟨c4, h⟩ := xi_if_some h
        obtain ⟨b5, eb5, h⟩ := xi_bind_some h
        refine xr_getR i_X9_landSo_24 xfe_X9_25 c4 eb5 (q := 27) rfl ?_
        refine xr_bipush i_X9_landSo_27 (q := 29) rfl ?_
        refine xr_iconst i_X9_landSo_29 (q := 30) rfl ?_
        refine xr_iload_n i_X9_landSo_30 rfl (q := 31) rfl ?_
        refine xr_imul i_X9_landSo_31 (q := 32) rfl ?_
        refine xr_iadd i_X9_landSo_32 (q := 33) rfl ?_
        refine xr_iconst i_X9_landSo_33 (q := 34) rfl ?_
        refine xr_iadd i_X9_landSo_34 (q := 35) rfl ?_
        obtain ⟨c6, h⟩ := xi_if_some h
        refine xr_iaload i_X9_landSo_35 c6 (q := 36) rfl ?_
        refine xr_iload i_X9_landSo_36 rfl (q := 38) rfl ?_
        refine xr_aload_n i_X9_landSo_38 rfl (q := 39) rfl ?_
        obtain ⟨c7, h⟩ := xi_if_some h
        obtain ⟨b8, eb8, h⟩ := xi_bind_some h
        refine xr_getR i_X9_landSo_39 xfe_X9_13 c7 eb8 (q := 42) rfl ?_
        refine xr_bipush i_X9_landSo_42 (q := 44) rfl ?_
        refine xr_iload_n i_X9_landSo_44 rfl (q := 45) rfl ?_
        refine xr_imul i_X9_landSo_45 (q := 46) rfl ?_
        refine xr_iload i_X9_landSo_46 rfl (q := 48) rfl ?_
        refine xr_iadd i_X9_landSo_48 (q := 49) rfl ?_
        obtain ⟨c9, h⟩ := xi_if_some h
        refine xr_iaload i_X9_landSo_49 c9 (q := 50) rfl ?_
        obtain ⟨x11, m10, em10, h⟩ := xi_bI_some h
        refine xr_SI i_X9_landSo_50 xcse_X9_128 rfl (As := [.int v3, .int (m.1 b5 (Int32.toNatClampNeg ((((Int8.ofInt 10).toInt32) + ((Int32.ofInt 4) * v1)) + (Int32.ofInt 3)))), .int v4, .int (m.1 b8 (Int32.toNatClampNeg ((((Int8.ofInt 40).toInt32) * v2) + v6)))]) rfl (rest := []) rfl ((cc_X9_landSo_128 S _ _ _ _ _).trans em10) (q := 53) rfl ?_
        refine xr_aload_n i_X9_landSo_53 rfl (q := 54) rfl ?_
        obtain ⟨c12, h⟩ := xi_if_some h
        obtain ⟨b13, eb13, h⟩ := xi_bind_some h
        refine xr_getR i_X9_landSo_54 xfe_X9_13 c12 eb13 (q := 57) rfl ?_
        refine xr_bipush i_X9_landSo_57 (q := 59) rfl ?_
        refine xr_iload_n i_X9_landSo_59 rfl (q := 60) rfl ?_
        refine xr_imul i_X9_landSo_60 (q := 61) rfl ?_
        refine xr_iload i_X9_landSo_61 rfl (q := 63) rfl ?_
        refine xr_iadd i_X9_landSo_63 (q := 64) rfl ?_
        refine xr_iconst i_X9_landSo_64 (q := 65) rfl ?_
        refine xr_iadd i_X9_landSo_65 (q := 66) rfl ?_
        obtain ⟨c14, h⟩ := xi_if_some h
        refine xr_iaload i_X9_landSo_66 c14 (q := 67) rfl ?_
        by_cases c15 : x11 = (m10.1 b13 (Int32.toNatClampNeg (((((Int8.ofInt 40).toInt32) * v2) + v6) + (Int32.ofInt 1))))
        · replace h := (if_pos c15).symm.trans h
          refine xr_if_icmp_ne_p i_X9_landSo_67 c15 (q := 74) t_X9_landSo_67 (q2 := 70) rfl ?_
          refine xr_iconst i_X9_landSo_70 (q := 71) rfl ?_
          refine xr_goto i_X9_landSo_71 (q := 75) t_X9_landSo_71 ?_
          refine xr_istore i_X9_landSo_75 rfl (L2 := [some (.ref v0), some (.int v1), some (.int v2), some (.int v3), some (.int v4), some (.int (Int32.ofInt 1)), some (.int v6)]) rfl (q := 77) rfl ?_
          refine xr_iinc i_X9_landSo_77 rfl rfl (L2 := [some (.ref v0), some (.int v1), some (.int v2), some (.int v3), some (.int v4), some (.int (Int32.ofInt 1)), some (.int (v6 + Int32.ofInt 2))]) rfl (q := 80) rfl ?_
          refine xr_goto i_X9_landSo_80 (q := 6) t_X9_landSo_80 ?_
          exact xi_X_le (xi_le_s (xi_le_s (xi_le_s (xi_le_s (xi_le_s (xi_le_s (xi_le_s xi_le_z))))))) (ih _ _ _ _ _ _ _ _ h)
        · replace h := (if_neg c15).symm.trans h
          refine xr_if_icmp_ne_n i_X9_landSo_67 c15 (q := 74) t_X9_landSo_67 (q2 := 70) rfl ?_
          refine xr_iconst i_X9_landSo_74 (q := 75) rfl ?_
          refine xr_istore i_X9_landSo_75 rfl (L2 := [some (.ref v0), some (.int v1), some (.int v2), some (.int v3), some (.int v4), some (.int (Int32.ofInt 0)), some (.int v6)]) rfl (q := 77) rfl ?_
          refine xr_iinc i_X9_landSo_77 rfl rfl (L2 := [some (.ref v0), some (.int v1), some (.int v2), some (.int v3), some (.int v4), some (.int (Int32.ofInt 0)), some (.int (v6 + Int32.ofInt 2))]) rfl (q := 80) rfl ?_
          refine xr_goto i_X9_landSo_80 (q := 6) t_X9_landSo_80 ?_
          exact xi_X_le (xi_le_s (xi_le_s (xi_le_s (xi_le_s (xi_le_s (xi_le_s (xi_le_s xi_le_z))))))) (ih _ _ _ _ _ _ _ _ h)
def E_X9_landSo (S : xi_S) (v0 : Nat) (v1 : Int32) (v2 : Int32) (v3 : Int32) (v4 : Int32) (m : xi_M) : Option xi_R :=
  G_X9_landSo_6 S 10000 v0 v1 v2 v3 v4 (Int32.ofInt 1) (Int32.ofInt 0) m
def F_X9_landSo (S : xi_S) : xi_F := fun As m => match As with
  | [.ref v0, .int v1, .int v2, .int v3, .int v4] => E_X9_landSo S v0 v1 v2 v3 v4 m
  | _ => none
set_option maxRecDepth 100000 in
set_option maxHeartbeats 4000000 in
theorem xe_X9_landSo {S : xi_S} {res : xi_R} (v0 : Nat) (v1 : Int32) (v2 : Int32) (v3 : Int32) (v4 : Int32) (m : xi_M) (h : E_X9_landSo S v0 v1 v2 v3 v4 m = some res) : xi_X S (P_X9_landSo S) (0, [some (.ref v0), some (.int v1), some (.int v2), some (.int v3), some (.int v4), none, none], [], m) res := by
  unfold E_X9_landSo at h
  refine xr_iconst i_X9_landSo_0 (q := 1) rfl ?_
  refine xr_istore i_X9_landSo_1 rfl (L2 := [some (.ref v0), some (.int v1), some (.int v2), some (.int v3), some (.int v4), some (.int (Int32.ofInt 1)), none]) rfl (q := 3) rfl ?_
  refine xr_iconst i_X9_landSo_3 (q := 4) rfl ?_
  refine xr_istore i_X9_landSo_4 rfl (L2 := [some (.ref v0), some (.int v1), some (.int v2), some (.int v3), some (.int v4), some (.int (Int32.ofInt 1)), some (.int (Int32.ofInt 0))]) rfl (q := 6) rfl ?_
  exact xi_X_le (xi_le_s (xi_le_s (xi_le_s (xi_le_s (xi_le_s (xi_le_s (xi_le_s xi_le_z))))))) (xs_X9_landSo_6 10000 _ _ _ _ _ _ _ _ h)
set_option maxRecDepth 100000 in
theorem po_X9_landSo {l : Launch} {E : xi_E} {S : xi_S} {D : va_G} {tys : List (ClassId × FieldType)} (hC : xCx E S tys) : xi_Pok l E S D vwCl tys xNs RX9 xTs cX9_landSo 7 1 (P_X9_landSo S) := ⟨xi_dc_ok, by rw [hC.2]; exact xfo_X9, xkio_X9, xklo_X9, xi_calls_ok (ins := .invokestatic) (List.forall_mem_cons.mpr ⟨(xc_X9_128 (sn_X9_landing hC) (by decide)), fun _ h => absurd h List.not_mem_nil⟩), xi_calls_ok (ins := .invokevirtual) (fun _ h => absurd h List.not_mem_nil)⟩
theorem sn_X9_landSo {l : Launch} {E : xi_E} {S : xi_S} {D : va_G} {tys : List (ClassId × FieldType)} (hC : xCx E S tys) : ∀ As m1 r m2, F_X9_landSo S As m1 = some (r, m2) → xi_Sound l E S D vwCl tys xNs xTs yX9_landSo cX9_landSo 7 (some .boolean) 1 As m1 r m2 := by
  intro As m1 r m2 h
  unfold F_X9_landSo at h
  split at h
  · exact xi_meth (P := P_X9_landSo S) (by decide) hC.1 (po_X9_landSo hC) (Nat.le_of_ble_eq_true rfl) rfl (xe_X9_landSo _ _ _ _ _ _ h)
  · exact xi_no h
theorem i_X9_stood_0 : xi_dc cX9_stood 0 = some (.aload_n 0, 1) := by decide +kernel
theorem i_X9_stood_1 : xi_dc cX9_stood 1 = some (.iload_n 1, 1) := by decide +kernel
theorem i_X9_stood_2 : xi_dc cX9_stood 2 = some (.invokevirtual 167, 3) := by decide +kernel
theorem i_X9_stood_5 : xi_dc cX9_stood 5 = some (.ifCond .eq 10, 3) := by decide +kernel
theorem t_X9_stood_5 : ((5 : Nat) : Int) + 10 = ((15 : Nat) : Int) := by decide +kernel
theorem i_X9_stood_8 : xi_dc cX9_stood 8 = some (.iload_n 2, 1) := by decide +kernel
theorem i_X9_stood_9 : xi_dc cX9_stood 9 = some (.invokestatic 67, 3) := by decide +kernel
theorem i_X9_stood_12 : xi_dc cX9_stood 12 = some (.ifCond .ne 5, 3) := by decide +kernel
theorem t_X9_stood_12 : ((12 : Nat) : Int) + 5 = ((17 : Nat) : Int) := by decide +kernel
theorem i_X9_stood_15 : xi_dc cX9_stood 15 = some (.iconst (-1), 1) := by decide +kernel
theorem i_X9_stood_16 : xi_dc cX9_stood 16 = some (.ireturn, 1) := by decide +kernel
theorem i_X9_stood_17 : xi_dc cX9_stood 17 = some (.aload_n 0, 1) := by decide +kernel
theorem i_X9_stood_18 : xi_dc cX9_stood 18 = some (.iload_n 2, 1) := by decide +kernel
theorem i_X9_stood_19 : xi_dc cX9_stood 19 = some (.iconst 1, 1) := by decide +kernel
theorem i_X9_stood_20 : xi_dc cX9_stood 20 = some (.bipush 20, 2) := by decide +kernel
theorem i_X9_stood_22 : xi_dc cX9_stood 22 = some (.invokevirtual 208, 3) := by decide +kernel
theorem i_X9_stood_25 : xi_dc cX9_stood 25 = some (.istore_n 3, 1) := by decide +kernel
theorem i_X9_stood_26 : xi_dc cX9_stood 26 = some (.iload_n 3, 1) := by decide +kernel
theorem i_X9_stood_27 : xi_dc cX9_stood 27 = some (.ifCond .le 9, 3) := by decide +kernel
theorem t_X9_stood_27 : ((27 : Nat) : Int) + 9 = ((36 : Nat) : Int) := by decide +kernel
theorem i_X9_stood_30 : xi_dc cX9_stood 30 = some (.aload_n 0, 1) := by decide +kernel
theorem i_X9_stood_31 : xi_dc cX9_stood 31 = some (.iload_n 3, 1) := by decide +kernel
theorem i_X9_stood_32 : xi_dc cX9_stood 32 = some (.invokevirtual 71, 3) := by decide +kernel
theorem i_X9_stood_35 : xi_dc cX9_stood 35 = some (.ireturn, 1) := by decide +kernel
theorem i_X9_stood_36 : xi_dc cX9_stood 36 = some (.iconst 0, 1) := by decide +kernel
theorem i_X9_stood_37 : xi_dc cX9_stood 37 = some (.istore 4, 2) := by decide +kernel
theorem i_X9_stood_39 : xi_dc cX9_stood 39 = some (.iconst 0, 1) := by decide +kernel
theorem i_X9_stood_40 : xi_dc cX9_stood 40 = some (.istore 5, 2) := by decide +kernel
theorem i_X9_stood_42 : xi_dc cX9_stood 42 = some (.iload 5, 2) := by decide +kernel
theorem i_X9_stood_44 : xi_dc cX9_stood 44 = some (.bipush 21, 2) := by decide +kernel
theorem i_X9_stood_46 : xi_dc cX9_stood 46 = some (.if_icmp .ge 44, 3) := by decide +kernel
theorem t_X9_stood_46 : ((46 : Nat) : Int) + 44 = ((90 : Nat) : Int) := by decide +kernel
theorem i_X9_stood_49 : xi_dc cX9_stood 49 = some (.iload 4, 2) := by decide +kernel
theorem i_X9_stood_51 : xi_dc cX9_stood 51 = some (.aload_n 0, 1) := by decide +kernel
theorem i_X9_stood_52 : xi_dc cX9_stood 52 = some (.iload_n 1, 1) := by decide +kernel
theorem i_X9_stood_53 : xi_dc cX9_stood 53 = some (.iload_n 2, 1) := by decide +kernel
theorem i_X9_stood_54 : xi_dc cX9_stood 54 = some (.aload_n 0, 1) := by decide +kernel
theorem i_X9_stood_55 : xi_dc cX9_stood 55 = some (.getfield 25, 3) := by decide +kernel
theorem i_X9_stood_58 : xi_dc cX9_stood 58 = some (.bipush 10, 2) := by decide +kernel
theorem i_X9_stood_60 : xi_dc cX9_stood 60 = some (.iconst 4, 1) := by decide +kernel
theorem i_X9_stood_61 : xi_dc cX9_stood 61 = some (.iload_n 1, 1) := by decide +kernel
theorem i_X9_stood_62 : xi_dc cX9_stood 62 = some (.imul, 1) := by decide +kernel
theorem i_X9_stood_63 : xi_dc cX9_stood 63 = some (.iadd, 1) := by decide +kernel
theorem i_X9_stood_64 : xi_dc cX9_stood 64 = some (.iaload, 1) := by decide +kernel
theorem i_X9_stood_65 : xi_dc cX9_stood 65 = some (.iload 5, 2) := by decide +kernel
theorem i_X9_stood_67 : xi_dc cX9_stood 67 = some (.invokevirtual 227, 3) := by decide +kernel
theorem i_X9_stood_70 : xi_dc cX9_stood 70 = some (.ifCond .eq 10, 3) := by decide +kernel
theorem t_X9_stood_70 : ((70 : Nat) : Int) + 10 = ((80 : Nat) : Int) := by decide +kernel
theorem i_X9_stood_73 : xi_dc cX9_stood 73 = some (.iconst 1, 1) := by decide +kernel
theorem i_X9_stood_74 : xi_dc cX9_stood 74 = some (.iload 5, 2) := by decide +kernel
theorem i_X9_stood_76 : xi_dc cX9_stood 76 = some (.ishl, 1) := by decide +kernel
theorem i_X9_stood_77 : xi_dc cX9_stood 77 = some (.goto 4, 3) := by decide +kernel
theorem t_X9_stood_77 : ((77 : Nat) : Int) + 4 = ((81 : Nat) : Int) := by decide +kernel
theorem i_X9_stood_80 : xi_dc cX9_stood 80 = some (.iconst 0, 1) := by decide +kernel
theorem i_X9_stood_81 : xi_dc cX9_stood 81 = some (.ior, 1) := by decide +kernel
theorem i_X9_stood_82 : xi_dc cX9_stood 82 = some (.istore 4, 2) := by decide +kernel
theorem i_X9_stood_84 : xi_dc cX9_stood 84 = some (.iinc 5 1, 3) := by decide +kernel
theorem i_X9_stood_87 : xi_dc cX9_stood 87 = some (.goto (-45), 3) := by decide +kernel
theorem t_X9_stood_87 : ((87 : Nat) : Int) + (-45) = ((42 : Nat) : Int) := by decide +kernel
theorem i_X9_stood_90 : xi_dc cX9_stood 90 = some (.iload 4, 2) := by decide +kernel
theorem i_X9_stood_92 : xi_dc cX9_stood 92 = some (.ireturn, 1) := by decide +kernel
def P_X9_stood (S : xi_S) : xi_P := (xi_dc cX9_stood, xi_tab xfl_X9, xi_tab xki_X9, xi_tab xkl_X9, xi_tab xcs_X9, xi_tab xcv_X9, xi_calls [(67, xi_wS 1 (F_X9_isRow S))], xi_calls [(71, xi_wV S 11 1 (F_X9_found S)), (167, xi_wV S 11 1 (F_X9_isPlayer S)), (208, xi_wV S 11 3 (F_X9_wrongIn S)), (227, xi_wV S 11 4 (F_X9_landSo S))], 1)
theorem cc_X9_stood_67 (S : xi_S) (a0 : Int32) (m : xi_M) : (P_X9_stood S).2.2.2.2.2.2.1 67 [.int a0] m = (E_X9_isRow S a0 m) := by
  show xi_calls [(67, xi_wS 1 (F_X9_isRow S))] 67 [.int a0] m = _
  refine Eq.trans (b := xi_wS 1 (F_X9_isRow S) [.int a0] m) (xi_calls_hit rfl) ?_
  exact xi_wS_eq rfl
theorem cc_X9_stood_71 (S : xi_S) (a0 : Nat) (a1 : Int32) (m : xi_M) : (P_X9_stood S).2.2.2.2.2.2.2.1 71 [.ref a0, .int a1] m = (if S.1 a0 = 11 then E_X9_found S a0 a1 m else none) := by
  show xi_calls [(71, xi_wV S 11 1 (F_X9_found S)), (167, xi_wV S 11 1 (F_X9_isPlayer S)), (208, xi_wV S 11 3 (F_X9_wrongIn S)), (227, xi_wV S 11 4 (F_X9_landSo S))] 71 [.ref a0, .int a1] m = _
  refine Eq.trans (b := xi_wV S 11 1 (F_X9_found S) [.ref a0, .int a1] m) (xi_calls_hit rfl) ?_
  exact xi_wV_eq rfl
theorem cc_X9_stood_167 (S : xi_S) (a0 : Nat) (a1 : Int32) (m : xi_M) : (P_X9_stood S).2.2.2.2.2.2.2.1 167 [.ref a0, .int a1] m = (if S.1 a0 = 11 then E_X9_isPlayer S a0 a1 m else none) := by
  show xi_calls [(71, xi_wV S 11 1 (F_X9_found S)), (167, xi_wV S 11 1 (F_X9_isPlayer S)), (208, xi_wV S 11 3 (F_X9_wrongIn S)), (227, xi_wV S 11 4 (F_X9_landSo S))] 167 [.ref a0, .int a1] m = _
  refine Eq.trans (b := xi_calls [(167, xi_wV S 11 1 (F_X9_isPlayer S)), (208, xi_wV S 11 3 (F_X9_wrongIn S)), (227, xi_wV S 11 4 (F_X9_landSo S))] 167 [.ref a0, .int a1] m) (xi_calls_miss rfl) ?_
  refine Eq.trans (b := xi_wV S 11 1 (F_X9_isPlayer S) [.ref a0, .int a1] m) (xi_calls_hit rfl) ?_
  exact xi_wV_eq rfl
theorem cc_X9_stood_208 (S : xi_S) (a0 : Nat) (a1 : Int32) (a2 : Int32) (a3 : Int32) (m : xi_M) : (P_X9_stood S).2.2.2.2.2.2.2.1 208 [.ref a0, .int a1, .int a2, .int a3] m = (if S.1 a0 = 11 then E_X9_wrongIn S a0 a1 a2 a3 m else none) := by
  show xi_calls [(71, xi_wV S 11 1 (F_X9_found S)), (167, xi_wV S 11 1 (F_X9_isPlayer S)), (208, xi_wV S 11 3 (F_X9_wrongIn S)), (227, xi_wV S 11 4 (F_X9_landSo S))] 208 [.ref a0, .int a1, .int a2, .int a3] m = _
  refine Eq.trans (b := xi_calls [(167, xi_wV S 11 1 (F_X9_isPlayer S)), (208, xi_wV S 11 3 (F_X9_wrongIn S)), (227, xi_wV S 11 4 (F_X9_landSo S))] 208 [.ref a0, .int a1, .int a2, .int a3] m) (xi_calls_miss rfl) ?_
  refine Eq.trans (b := xi_calls [(208, xi_wV S 11 3 (F_X9_wrongIn S)), (227, xi_wV S 11 4 (F_X9_landSo S))] 208 [.ref a0, .int a1, .int a2, .int a3] m) (xi_calls_miss rfl) ?_
  refine Eq.trans (b := xi_wV S 11 3 (F_X9_wrongIn S) [.ref a0, .int a1, .int a2, .int a3] m) (xi_calls_hit rfl) ?_
  exact xi_wV_eq rfl
theorem cc_X9_stood_227 (S : xi_S) (a0 : Nat) (a1 : Int32) (a2 : Int32) (a3 : Int32) (a4 : Int32) (m : xi_M) : (P_X9_stood S).2.2.2.2.2.2.2.1 227 [.ref a0, .int a1, .int a2, .int a3, .int a4] m = (if S.1 a0 = 11 then E_X9_landSo S a0 a1 a2 a3 a4 m else none) := by
  show xi_calls [(71, xi_wV S 11 1 (F_X9_found S)), (167, xi_wV S 11 1 (F_X9_isPlayer S)), (208, xi_wV S 11 3 (F_X9_wrongIn S)), (227, xi_wV S 11 4 (F_X9_landSo S))] 227 [.ref a0, .int a1, .int a2, .int a3, .int a4] m = _
  refine Eq.trans (b := xi_calls [(167, xi_wV S 11 1 (F_X9_isPlayer S)), (208, xi_wV S 11 3 (F_X9_wrongIn S)), (227, xi_wV S 11 4 (F_X9_landSo S))] 227 [.ref a0, .int a1, .int a2, .int a3, .int a4] m) (xi_calls_miss rfl) ?_
  refine Eq.trans (b := xi_calls [(208, xi_wV S 11 3 (F_X9_wrongIn S)), (227, xi_wV S 11 4 (F_X9_landSo S))] 227 [.ref a0, .int a1, .int a2, .int a3, .int a4] m) (xi_calls_miss rfl) ?_
  refine Eq.trans (b := xi_calls [(227, xi_wV S 11 4 (F_X9_landSo S))] 227 [.ref a0, .int a1, .int a2, .int a3, .int a4] m) (xi_calls_miss rfl) ?_
  refine Eq.trans (b := xi_wV S 11 4 (F_X9_landSo S) [.ref a0, .int a1, .int a2, .int a3, .int a4] m) (xi_calls_hit rfl) ?_
  exact xi_wV_eq rfl
def G_X9_stood_42 (S : xi_S) : Nat → Nat → Int32 → Int32 → Int32 → Int32 → xi_M → Option xi_R
  | 0, _, _, _, _, _, _ => none
  | n + 1, v0, v1, v2, v4, v5, m =>
    if ((Int8.ofInt 21).toInt32) ≤ v5 then
      some (some (.int v4), m)
    else
      if S.1 v0 = 11 then (S.2.2 v0 5).bind fun b2 =>
        if S.1 b2 = 0 ∧ ¬ ((((Int8.ofInt 10).toInt32) + ((Int32.ofInt 4) * v1)) < 0 ∨ S.2.1 b2 ≤ Int32.toNatClampNeg (((Int8.ofInt 10).toInt32) + ((Int32.ofInt 4) * v1))) then
          xi_bI (if S.1 v0 = 11 then E_X9_landSo S v0 v1 v2 (m.1 b2 (Int32.toNatClampNeg (((Int8.ofInt 10).toInt32) + ((Int32.ofInt 4) * v1)))) v5 m else none) fun x5 m4 =>
          if x5 = 0 then
            G_X9_stood_42 S n v0 v1 v2 (v4 ||| (Int32.ofInt 0)) (v5 + Int32.ofInt 1) m4
          else
            G_X9_stood_42 S n v0 v1 v2 (v4 ||| ((Int32.ofInt 1) <<< (v5 &&& 31))) (v5 + Int32.ofInt 1) m4
        else none
      else none
set_option maxRecDepth 100000 in
set_option maxHeartbeats 4000000 in
theorem xs_X9_stood_42 {S : xi_S} {res : xi_R} : ∀ (n : Nat) (v0 : Nat) (v1 : Int32) (v2 : Int32) (v4 : Int32) (v5 : Int32) (m : xi_M), G_X9_stood_42 S n v0 v1 v2 v4 v5 m = some res → xi_X S (P_X9_stood S) (42, [some (.ref v0), some (.int v1), some (.int v2), none, some (.int v4), some (.int v5)], [], m) res := by
  intro n
  induction n with
  | zero => intro v0 v1 v2 v4 v5 m h; exact xi_no h
  | succ n ih =>
    intro v0 v1 v2 v4 v5 m h
    unfold G_X9_stood_42 at h
    refine xr_iload i_X9_stood_42 rfl (q := 44) rfl ?_
    refine xr_bipush i_X9_stood_44 (q := 46) rfl ?_
    by_cases c7 : ((Int8.ofInt 21).toInt32) ≤ v5
    · replace h := (if_pos c7).symm.trans h
      refine xr_if_icmp_ge_p i_X9_stood_46 c7 (q := 90) t_X9_stood_46 (q2 := 49) rfl ?_
      refine xr_iload i_X9_stood_90 rfl (q := 92) rfl ?_
      exact xr_ireturn i_X9_stood_92 rfl h
    · replace h := (if_neg c7).symm.trans h
      refine xr_if_icmp_ge_n i_X9_stood_46 c7 (q := 90) t_X9_stood_46 (q2 := 49) rfl ?_
      refine xr_iload i_X9_stood_49 rfl (q := 51) rfl ?_
      refine xr_aload_n i_X9_stood_51 rfl (q := 52) rfl ?_
      refine xr_iload_n i_X9_stood_52 rfl (q := 53) rfl ?_
      refine xr_iload_n i_X9_stood_53 rfl (q := 54) rfl ?_
      refine xr_aload_n i_X9_stood_54 rfl (q := 55) rfl ?_
      obtain ⟨c1, h⟩ := xi_if_some h
      obtain ⟨b2, eb2, h⟩ := xi_bind_some h
      refine xr_getR i_X9_stood_55 xfe_X9_25 c1 eb2 (q := 58) rfl ?_
      refine xr_bipush i_X9_stood_58 (q := 60) rfl ?_
      refine xr_iconst i_X9_stood_60 (q := 61) rfl ?_
      refine xr_iload_n i_X9_stood_61 rfl (q := 62) rfl ?_
      refine xr_imul i_X9_stood_62 (q := 63) rfl ?_
      refine xr_iadd i_X9_stood_63 (q := 64) rfl ?_
      obtain ⟨c3, h⟩ := xi_if_some h
      refine xr_iaload i_X9_stood_64 c3 (q := 65) rfl ?_
      refine xr_iload i_X9_stood_65 rfl (q := 67) rfl ?_
      obtain ⟨x5, m4, em4, h⟩ := xi_bI_some h
      refine xr_VI i_X9_stood_67 xcve_X9_227 rfl (As := [.ref v0, .int v1, .int v2, .int (m.1 b2 (Int32.toNatClampNeg (((Int8.ofInt 10).toInt32) + ((Int32.ofInt 4) * v1)))), .int v5]) rfl (rest := [.int v4]) rfl ((cc_X9_stood_227 S _ _ _ _ _ _).trans em4) (q := 70) rfl ?_
      by_cases c6 : x5 = 0
      · replace h := (if_pos c6).symm.trans h
        refine xr_ifCond_eq_p i_X9_stood_70 c6 (q := 80) t_X9_stood_70 (q2 := 73) rfl ?_
        refine xr_iconst i_X9_stood_80 (q := 81) rfl ?_
        refine xr_ior i_X9_stood_81 (q := 82) rfl ?_
        refine xr_istore i_X9_stood_82 rfl (L2 := [some (.ref v0), some (.int v1), some (.int v2), none, some (.int (v4 ||| (Int32.ofInt 0))), some (.int v5)]) rfl (q := 84) rfl ?_
        refine xr_iinc i_X9_stood_84 rfl rfl (L2 := [some (.ref v0), some (.int v1), some (.int v2), none, some (.int (v4 ||| (Int32.ofInt 0))), some (.int (v5 + Int32.ofInt 1))]) rfl (q := 87) rfl ?_
        refine xr_goto i_X9_stood_87 (q := 42) t_X9_stood_87 ?_
        exact xi_X_le (xi_le_s (xi_le_s (xi_le_s (xi_le_n (xi_le_s (xi_le_s xi_le_z)))))) (ih _ _ _ _ _ _ h)
      · replace h := (if_neg c6).symm.trans h
        refine xr_ifCond_eq_n i_X9_stood_70 c6 (q := 80) t_X9_stood_70 (q2 := 73) rfl ?_
        refine xr_iconst i_X9_stood_73 (q := 74) rfl ?_
        refine xr_iload i_X9_stood_74 rfl (q := 76) rfl ?_
        refine xr_ishl i_X9_stood_76 (q := 77) rfl ?_
        refine xr_goto i_X9_stood_77 (q := 81) t_X9_stood_77 ?_
        refine xr_ior i_X9_stood_81 (q := 82) rfl ?_
        refine xr_istore i_X9_stood_82 rfl (L2 := [some (.ref v0), some (.int v1), some (.int v2), none, some (.int (v4 ||| ((Int32.ofInt 1) <<< (v5 &&& 31)))), some (.int v5)]) rfl (q := 84) rfl ?_
        refine xr_iinc i_X9_stood_84 rfl rfl (L2 := [some (.ref v0), some (.int v1), some (.int v2), none, some (.int (v4 ||| ((Int32.ofInt 1) <<< (v5 &&& 31)))), some (.int (v5 + Int32.ofInt 1))]) rfl (q := 87) rfl ?_
        refine xr_goto i_X9_stood_87 (q := 42) t_X9_stood_87 ?_
        exact xi_X_le (xi_le_s (xi_le_s (xi_le_s (xi_le_n (xi_le_s (xi_le_s xi_le_z)))))) (ih _ _ _ _ _ _ h)
def E_X9_stood (S : xi_S) (v0 : Nat) (v1 : Int32) (v2 : Int32) (m : xi_M) : Option xi_R :=
  xi_bI (if S.1 v0 = 11 then E_X9_isPlayer S v0 v1 m else none) fun x2 m1 =>
  if x2 = 0 then
    some (some (.int (Int32.ofInt (-1))), m1)
  else
    xi_bI (E_X9_isRow S v2 m1) fun x4 m3 =>
    if x4 = 0 then
      some (some (.int (Int32.ofInt (-1))), m3)
    else
      xi_bI (if S.1 v0 = 11 then E_X9_wrongIn S v0 v2 (Int32.ofInt 1) ((Int8.ofInt 20).toInt32) m3 else none) fun x6 m5 =>
      if x6 ≤ 0 then
        G_X9_stood_42 S 10000 v0 v1 v2 (Int32.ofInt 0) (Int32.ofInt 0) m5
      else
        xi_bI (if S.1 v0 = 11 then E_X9_found S v0 x6 m5 else none) fun x8 m7 =>
        some (some (.int x8), m7)
def F_X9_stood (S : xi_S) : xi_F := fun As m => match As with
  | [.ref v0, .int v1, .int v2] => E_X9_stood S v0 v1 v2 m
  | _ => none
set_option maxRecDepth 100000 in
set_option maxHeartbeats 4000000 in
theorem xe_X9_stood {S : xi_S} {res : xi_R} (v0 : Nat) (v1 : Int32) (v2 : Int32) (m : xi_M) (h : E_X9_stood S v0 v1 v2 m = some res) : xi_X S (P_X9_stood S) (0, [some (.ref v0), some (.int v1), some (.int v2), none, none, none], [], m) res := by
  unfold E_X9_stood at h
  refine xr_aload_n i_X9_stood_0 rfl (q := 1) rfl ?_
  refine xr_iload_n i_X9_stood_1 rfl (q := 2) rfl ?_
  obtain ⟨x2, m1, em1, h⟩ := xi_bI_some h
  refine xr_VI i_X9_stood_2 xcve_X9_167 rfl (As := [.ref v0, .int v1]) rfl (rest := []) rfl ((cc_X9_stood_167 S _ _ _).trans em1) (q := 5) rfl ?_
  by_cases c11 : x2 = 0
  · replace h := (if_pos c11).symm.trans h
    refine xr_ifCond_eq_p i_X9_stood_5 c11 (q := 15) t_X9_stood_5 (q2 := 8) rfl ?_
    refine xr_iconst i_X9_stood_15 (q := 16) rfl ?_
    exact xr_ireturn i_X9_stood_16 rfl h
  · replace h := (if_neg c11).symm.trans h
    refine xr_ifCond_eq_n i_X9_stood_5 c11 (q := 15) t_X9_stood_5 (q2 := 8) rfl ?_
    refine xr_iload_n i_X9_stood_8 rfl (q := 9) rfl ?_
    obtain ⟨x4, m3, em3, h⟩ := xi_bI_some h
    refine xr_SI i_X9_stood_9 xcse_X9_67 rfl (As := [.int v2]) rfl (rest := []) rfl ((cc_X9_stood_67 S _ _).trans em3) (q := 12) rfl ?_
    by_cases c10 : x4 = 0
    · replace h := (if_pos c10).symm.trans h
      refine xr_ifCond_ne_p i_X9_stood_12 c10 (q := 17) t_X9_stood_12 (q2 := 15) rfl ?_
      refine xr_iconst i_X9_stood_15 (q := 16) rfl ?_
      exact xr_ireturn i_X9_stood_16 rfl h
    · replace h := (if_neg c10).symm.trans h
      refine xr_ifCond_ne_n i_X9_stood_12 c10 (q := 17) t_X9_stood_12 (q2 := 15) rfl ?_
      refine xr_aload_n i_X9_stood_17 rfl (q := 18) rfl ?_
      refine xr_iload_n i_X9_stood_18 rfl (q := 19) rfl ?_
      refine xr_iconst i_X9_stood_19 (q := 20) rfl ?_
      refine xr_bipush i_X9_stood_20 (q := 22) rfl ?_
      obtain ⟨x6, m5, em5, h⟩ := xi_bI_some h
      refine xr_VI i_X9_stood_22 xcve_X9_208 rfl (As := [.ref v0, .int v2, .int (Int32.ofInt 1), .int ((Int8.ofInt 20).toInt32)]) rfl (rest := []) rfl ((cc_X9_stood_208 S _ _ _ _ _).trans em5) (q := 25) rfl ?_
      refine xr_istore_n i_X9_stood_25 rfl (L2 := [some (.ref v0), some (.int v1), some (.int v2), some (.int x6), none, none]) rfl (q := 26) rfl ?_
      refine xr_iload_n i_X9_stood_26 rfl (q := 27) rfl ?_
      by_cases c9 : x6 ≤ 0
      · replace h := (if_pos c9).symm.trans h
        refine xr_ifCond_le_p i_X9_stood_27 c9 (q := 36) t_X9_stood_27 (q2 := 30) rfl ?_
        refine xr_iconst i_X9_stood_36 (q := 37) rfl ?_
        refine xr_istore i_X9_stood_37 rfl (L2 := [some (.ref v0), some (.int v1), some (.int v2), some (.int x6), some (.int (Int32.ofInt 0)), none]) rfl (q := 39) rfl ?_
        refine xr_iconst i_X9_stood_39 (q := 40) rfl ?_
        refine xr_istore i_X9_stood_40 rfl (L2 := [some (.ref v0), some (.int v1), some (.int v2), some (.int x6), some (.int (Int32.ofInt 0)), some (.int (Int32.ofInt 0))]) rfl (q := 42) rfl ?_
        exact xi_X_le (xi_le_s (xi_le_s (xi_le_s (xi_le_n (xi_le_s (xi_le_s xi_le_z)))))) (xs_X9_stood_42 10000 _ _ _ _ _ _ h)
      · replace h := (if_neg c9).symm.trans h
        refine xr_ifCond_le_n i_X9_stood_27 c9 (q := 36) t_X9_stood_27 (q2 := 30) rfl ?_
        refine xr_aload_n i_X9_stood_30 rfl (q := 31) rfl ?_
        refine xr_iload_n i_X9_stood_31 rfl (q := 32) rfl ?_
        obtain ⟨x8, m7, em7, h⟩ := xi_bI_some h
        refine xr_VI i_X9_stood_32 xcve_X9_71 rfl (As := [.ref v0, .int x6]) rfl (rest := []) rfl ((cc_X9_stood_71 S _ _ _).trans em7) (q := 35) rfl ?_
        exact xr_ireturn i_X9_stood_35 rfl h
set_option maxRecDepth 100000 in
theorem po_X9_stood {l : Launch} {E : xi_E} {S : xi_S} {D : va_G} {tys : List (ClassId × FieldType)} (hC : xCx E S tys) : xi_Pok l E S D vwCl tys xNs RX9 xTs cX9_stood 6 2 (P_X9_stood S) := ⟨xi_dc_ok, by rw [hC.2]; exact xfo_X9, xkio_X9, xklo_X9, xi_calls_ok (ins := .invokestatic) (List.forall_mem_cons.mpr ⟨(xc_X9_67 (sn_X9_isRow hC) (by decide)), fun _ h => absurd h List.not_mem_nil⟩), xi_calls_ok (ins := .invokevirtual) (List.forall_mem_cons.mpr ⟨(xc_X9_71 hC.1 (sn_X9_found hC) (by decide)), List.forall_mem_cons.mpr ⟨(xc_X9_167 hC.1 (sn_X9_isPlayer hC) (by decide)), List.forall_mem_cons.mpr ⟨(xc_X9_208 hC.1 (sn_X9_wrongIn hC) (by decide)), List.forall_mem_cons.mpr ⟨(xc_X9_227 hC.1 (sn_X9_landSo hC) (by decide)), fun _ h => absurd h List.not_mem_nil⟩⟩⟩⟩)⟩
theorem sn_X9_stood {l : Launch} {E : xi_E} {S : xi_S} {D : va_G} {tys : List (ClassId × FieldType)} (hC : xCx E S tys) : ∀ As m1 r m2, F_X9_stood S As m1 = some (r, m2) → xi_Sound l E S D vwCl tys xNs xTs yX9_stood cX9_stood 6 (some .int) 2 As m1 r m2 := by
  intro As m1 r m2 h
  unfold F_X9_stood at h
  split at h
  · exact xi_meth (P := P_X9_stood S) (by decide) hC.1 (po_X9_stood hC) (Nat.le_of_ble_eq_true rfl) rfl (xe_X9_stood _ _ _ _ h)
  · exact xi_no h
theorem i_X9_kinds_0 : xi_dc cX9_kinds 0 = some (.aload_n 0, 1) := by decide +kernel
theorem i_X9_kinds_1 : xi_dc cX9_kinds 1 = some (.iload_n 1, 1) := by decide +kernel
theorem i_X9_kinds_2 : xi_dc cX9_kinds 2 = some (.invokevirtual 167, 3) := by decide +kernel
theorem i_X9_kinds_5 : xi_dc cX9_kinds 5 = some (.ifCond .eq 10, 3) := by decide +kernel
theorem t_X9_kinds_5 : ((5 : Nat) : Int) + 10 = ((15 : Nat) : Int) := by decide +kernel
theorem i_X9_kinds_8 : xi_dc cX9_kinds 8 = some (.iload_n 2, 1) := by decide +kernel
theorem i_X9_kinds_9 : xi_dc cX9_kinds 9 = some (.invokestatic 67, 3) := by decide +kernel
theorem i_X9_kinds_12 : xi_dc cX9_kinds 12 = some (.ifCond .ne 5, 3) := by decide +kernel
theorem t_X9_kinds_12 : ((12 : Nat) : Int) + 5 = ((17 : Nat) : Int) := by decide +kernel
theorem i_X9_kinds_15 : xi_dc cX9_kinds 15 = some (.iconst (-1), 1) := by decide +kernel
theorem i_X9_kinds_16 : xi_dc cX9_kinds 16 = some (.ireturn, 1) := by decide +kernel
theorem i_X9_kinds_17 : xi_dc cX9_kinds 17 = some (.aload_n 0, 1) := by decide +kernel
theorem i_X9_kinds_18 : xi_dc cX9_kinds 18 = some (.iload_n 2, 1) := by decide +kernel
theorem i_X9_kinds_19 : xi_dc cX9_kinds 19 = some (.iconst 1, 1) := by decide +kernel
theorem i_X9_kinds_20 : xi_dc cX9_kinds 20 = some (.bipush 20, 2) := by decide +kernel
theorem i_X9_kinds_22 : xi_dc cX9_kinds 22 = some (.invokevirtual 208, 3) := by decide +kernel
theorem i_X9_kinds_25 : xi_dc cX9_kinds 25 = some (.istore_n 3, 1) := by decide +kernel
theorem i_X9_kinds_26 : xi_dc cX9_kinds 26 = some (.iload_n 3, 1) := by decide +kernel
theorem i_X9_kinds_27 : xi_dc cX9_kinds 27 = some (.ifCond .le 9, 3) := by decide +kernel
theorem t_X9_kinds_27 : ((27 : Nat) : Int) + 9 = ((36 : Nat) : Int) := by decide +kernel
theorem i_X9_kinds_30 : xi_dc cX9_kinds 30 = some (.aload_n 0, 1) := by decide +kernel
theorem i_X9_kinds_31 : xi_dc cX9_kinds 31 = some (.iload_n 3, 1) := by decide +kernel
theorem i_X9_kinds_32 : xi_dc cX9_kinds 32 = some (.invokevirtual 71, 3) := by decide +kernel
theorem i_X9_kinds_35 : xi_dc cX9_kinds 35 = some (.ireturn, 1) := by decide +kernel
theorem i_X9_kinds_36 : xi_dc cX9_kinds 36 = some (.iconst 0, 1) := by decide +kernel
theorem i_X9_kinds_37 : xi_dc cX9_kinds 37 = some (.istore 4, 2) := by decide +kernel
theorem i_X9_kinds_39 : xi_dc cX9_kinds 39 = some (.iconst 0, 1) := by decide +kernel
theorem i_X9_kinds_40 : xi_dc cX9_kinds 40 = some (.istore 5, 2) := by decide +kernel
theorem i_X9_kinds_42 : xi_dc cX9_kinds 42 = some (.iload 5, 2) := by decide +kernel
theorem i_X9_kinds_44 : xi_dc cX9_kinds 44 = some (.bipush 6, 2) := by decide +kernel
theorem i_X9_kinds_46 : xi_dc cX9_kinds 46 = some (.if_icmp .ge 46, 3) := by decide +kernel
theorem t_X9_kinds_46 : ((46 : Nat) : Int) + 46 = ((92 : Nat) : Int) := by decide +kernel
theorem i_X9_kinds_49 : xi_dc cX9_kinds 49 = some (.iload 4, 2) := by decide +kernel
theorem i_X9_kinds_51 : xi_dc cX9_kinds 51 = some (.aload_n 0, 1) := by decide +kernel
theorem i_X9_kinds_52 : xi_dc cX9_kinds 52 = some (.iload_n 1, 1) := by decide +kernel
theorem i_X9_kinds_53 : xi_dc cX9_kinds 53 = some (.iload_n 2, 1) := by decide +kernel
theorem i_X9_kinds_54 : xi_dc cX9_kinds 54 = some (.iload 5, 2) := by decide +kernel
theorem i_X9_kinds_56 : xi_dc cX9_kinds 56 = some (.aload_n 0, 1) := by decide +kernel
theorem i_X9_kinds_57 : xi_dc cX9_kinds 57 = some (.getfield 25, 3) := by decide +kernel
theorem i_X9_kinds_60 : xi_dc cX9_kinds 60 = some (.bipush 10, 2) := by decide +kernel
theorem i_X9_kinds_62 : xi_dc cX9_kinds 62 = some (.iconst 4, 1) := by decide +kernel
theorem i_X9_kinds_63 : xi_dc cX9_kinds 63 = some (.iload_n 1, 1) := by decide +kernel
theorem i_X9_kinds_64 : xi_dc cX9_kinds 64 = some (.imul, 1) := by decide +kernel
theorem i_X9_kinds_65 : xi_dc cX9_kinds 65 = some (.iadd, 1) := by decide +kernel
theorem i_X9_kinds_66 : xi_dc cX9_kinds 66 = some (.iconst 2, 1) := by decide +kernel
theorem i_X9_kinds_67 : xi_dc cX9_kinds 67 = some (.iadd, 1) := by decide +kernel
theorem i_X9_kinds_68 : xi_dc cX9_kinds 68 = some (.iaload, 1) := by decide +kernel
theorem i_X9_kinds_69 : xi_dc cX9_kinds 69 = some (.invokevirtual 227, 3) := by decide +kernel
theorem i_X9_kinds_72 : xi_dc cX9_kinds 72 = some (.ifCond .eq 10, 3) := by decide +kernel
theorem t_X9_kinds_72 : ((72 : Nat) : Int) + 10 = ((82 : Nat) : Int) := by decide +kernel
theorem i_X9_kinds_75 : xi_dc cX9_kinds 75 = some (.iconst 1, 1) := by decide +kernel
theorem i_X9_kinds_76 : xi_dc cX9_kinds 76 = some (.iload 5, 2) := by decide +kernel
theorem i_X9_kinds_78 : xi_dc cX9_kinds 78 = some (.ishl, 1) := by decide +kernel
theorem i_X9_kinds_79 : xi_dc cX9_kinds 79 = some (.goto 4, 3) := by decide +kernel
theorem t_X9_kinds_79 : ((79 : Nat) : Int) + 4 = ((83 : Nat) : Int) := by decide +kernel
theorem i_X9_kinds_82 : xi_dc cX9_kinds 82 = some (.iconst 0, 1) := by decide +kernel
theorem i_X9_kinds_83 : xi_dc cX9_kinds 83 = some (.ior, 1) := by decide +kernel
theorem i_X9_kinds_84 : xi_dc cX9_kinds 84 = some (.istore 4, 2) := by decide +kernel
theorem i_X9_kinds_86 : xi_dc cX9_kinds 86 = some (.iinc 5 1, 3) := by decide +kernel
theorem i_X9_kinds_89 : xi_dc cX9_kinds 89 = some (.goto (-47), 3) := by decide +kernel
theorem t_X9_kinds_89 : ((89 : Nat) : Int) + (-47) = ((42 : Nat) : Int) := by decide +kernel
theorem i_X9_kinds_92 : xi_dc cX9_kinds 92 = some (.iload 4, 2) := by decide +kernel
theorem i_X9_kinds_94 : xi_dc cX9_kinds 94 = some (.ireturn, 1) := by decide +kernel
def P_X9_kinds (S : xi_S) : xi_P := (xi_dc cX9_kinds, xi_tab xfl_X9, xi_tab xki_X9, xi_tab xkl_X9, xi_tab xcs_X9, xi_tab xcv_X9, xi_calls [(67, xi_wS 1 (F_X9_isRow S))], xi_calls [(71, xi_wV S 11 1 (F_X9_found S)), (167, xi_wV S 11 1 (F_X9_isPlayer S)), (208, xi_wV S 11 3 (F_X9_wrongIn S)), (227, xi_wV S 11 4 (F_X9_landSo S))], 1)
theorem cc_X9_kinds_67 (S : xi_S) (a0 : Int32) (m : xi_M) : (P_X9_kinds S).2.2.2.2.2.2.1 67 [.int a0] m = (E_X9_isRow S a0 m) := by
  show xi_calls [(67, xi_wS 1 (F_X9_isRow S))] 67 [.int a0] m = _
  refine Eq.trans (b := xi_wS 1 (F_X9_isRow S) [.int a0] m) (xi_calls_hit rfl) ?_
  exact xi_wS_eq rfl
theorem cc_X9_kinds_71 (S : xi_S) (a0 : Nat) (a1 : Int32) (m : xi_M) : (P_X9_kinds S).2.2.2.2.2.2.2.1 71 [.ref a0, .int a1] m = (if S.1 a0 = 11 then E_X9_found S a0 a1 m else none) := by
  show xi_calls [(71, xi_wV S 11 1 (F_X9_found S)), (167, xi_wV S 11 1 (F_X9_isPlayer S)), (208, xi_wV S 11 3 (F_X9_wrongIn S)), (227, xi_wV S 11 4 (F_X9_landSo S))] 71 [.ref a0, .int a1] m = _
  refine Eq.trans (b := xi_wV S 11 1 (F_X9_found S) [.ref a0, .int a1] m) (xi_calls_hit rfl) ?_
  exact xi_wV_eq rfl
theorem cc_X9_kinds_167 (S : xi_S) (a0 : Nat) (a1 : Int32) (m : xi_M) : (P_X9_kinds S).2.2.2.2.2.2.2.1 167 [.ref a0, .int a1] m = (if S.1 a0 = 11 then E_X9_isPlayer S a0 a1 m else none) := by
  show xi_calls [(71, xi_wV S 11 1 (F_X9_found S)), (167, xi_wV S 11 1 (F_X9_isPlayer S)), (208, xi_wV S 11 3 (F_X9_wrongIn S)), (227, xi_wV S 11 4 (F_X9_landSo S))] 167 [.ref a0, .int a1] m = _
  refine Eq.trans (b := xi_calls [(167, xi_wV S 11 1 (F_X9_isPlayer S)), (208, xi_wV S 11 3 (F_X9_wrongIn S)), (227, xi_wV S 11 4 (F_X9_landSo S))] 167 [.ref a0, .int a1] m) (xi_calls_miss rfl) ?_
  refine Eq.trans (b := xi_wV S 11 1 (F_X9_isPlayer S) [.ref a0, .int a1] m) (xi_calls_hit rfl) ?_
  exact xi_wV_eq rfl
theorem cc_X9_kinds_208 (S : xi_S) (a0 : Nat) (a1 : Int32) (a2 : Int32) (a3 : Int32) (m : xi_M) : (P_X9_kinds S).2.2.2.2.2.2.2.1 208 [.ref a0, .int a1, .int a2, .int a3] m = (if S.1 a0 = 11 then E_X9_wrongIn S a0 a1 a2 a3 m else none) := by
  show xi_calls [(71, xi_wV S 11 1 (F_X9_found S)), (167, xi_wV S 11 1 (F_X9_isPlayer S)), (208, xi_wV S 11 3 (F_X9_wrongIn S)), (227, xi_wV S 11 4 (F_X9_landSo S))] 208 [.ref a0, .int a1, .int a2, .int a3] m = _
  refine Eq.trans (b := xi_calls [(167, xi_wV S 11 1 (F_X9_isPlayer S)), (208, xi_wV S 11 3 (F_X9_wrongIn S)), (227, xi_wV S 11 4 (F_X9_landSo S))] 208 [.ref a0, .int a1, .int a2, .int a3] m) (xi_calls_miss rfl) ?_
  refine Eq.trans (b := xi_calls [(208, xi_wV S 11 3 (F_X9_wrongIn S)), (227, xi_wV S 11 4 (F_X9_landSo S))] 208 [.ref a0, .int a1, .int a2, .int a3] m) (xi_calls_miss rfl) ?_
  refine Eq.trans (b := xi_wV S 11 3 (F_X9_wrongIn S) [.ref a0, .int a1, .int a2, .int a3] m) (xi_calls_hit rfl) ?_
  exact xi_wV_eq rfl
theorem cc_X9_kinds_227 (S : xi_S) (a0 : Nat) (a1 : Int32) (a2 : Int32) (a3 : Int32) (a4 : Int32) (m : xi_M) : (P_X9_kinds S).2.2.2.2.2.2.2.1 227 [.ref a0, .int a1, .int a2, .int a3, .int a4] m = (if S.1 a0 = 11 then E_X9_landSo S a0 a1 a2 a3 a4 m else none) := by
  show xi_calls [(71, xi_wV S 11 1 (F_X9_found S)), (167, xi_wV S 11 1 (F_X9_isPlayer S)), (208, xi_wV S 11 3 (F_X9_wrongIn S)), (227, xi_wV S 11 4 (F_X9_landSo S))] 227 [.ref a0, .int a1, .int a2, .int a3, .int a4] m = _
  refine Eq.trans (b := xi_calls [(167, xi_wV S 11 1 (F_X9_isPlayer S)), (208, xi_wV S 11 3 (F_X9_wrongIn S)), (227, xi_wV S 11 4 (F_X9_landSo S))] 227 [.ref a0, .int a1, .int a2, .int a3, .int a4] m) (xi_calls_miss rfl) ?_
  refine Eq.trans (b := xi_calls [(208, xi_wV S 11 3 (F_X9_wrongIn S)), (227, xi_wV S 11 4 (F_X9_landSo S))] 227 [.ref a0, .int a1, .int a2, .int a3, .int a4] m) (xi_calls_miss rfl) ?_
  refine Eq.trans (b := xi_calls [(227, xi_wV S 11 4 (F_X9_landSo S))] 227 [.ref a0, .int a1, .int a2, .int a3, .int a4] m) (xi_calls_miss rfl) ?_
  refine Eq.trans (b := xi_wV S 11 4 (F_X9_landSo S) [.ref a0, .int a1, .int a2, .int a3, .int a4] m) (xi_calls_hit rfl) ?_
  exact xi_wV_eq rfl
def G_X9_kinds_42 (S : xi_S) : Nat → Nat → Int32 → Int32 → Int32 → Int32 → xi_M → Option xi_R
  | 0, _, _, _, _, _, _ => none
  | n + 1, v0, v1, v2, v4, v5, m =>
    if ((Int8.ofInt 6).toInt32) ≤ v5 then
      some (some (.int v4), m)
    else
      if S.1 v0 = 11 then (S.2.2 v0 5).bind fun b2 =>
        if S.1 b2 = 0 ∧ ¬ (((((Int8.ofInt 10).toInt32) + ((Int32.ofInt 4) * v1)) + (Int32.ofInt 2)) < 0 ∨ S.2.1 b2 ≤ Int32.toNatClampNeg ((((Int8.ofInt 10).toInt32) + ((Int32.ofInt 4) * v1)) + (Int32.ofInt 2))) then
          xi_bI (if S.1 v0 = 11 then E_X9_landSo S v0 v1 v2 v5 (m.1 b2 (Int32.toNatClampNeg ((((Int8.ofInt 10).toInt32) + ((Int32.ofInt 4) * v1)) + (Int32.ofInt 2)))) m else none) fun x5 m4 =>
          if x5 = 0 then
            G_X9_kinds_42 S n v0 v1 v2 (v4 ||| (Int32.ofInt 0)) (v5 + Int32.ofInt 1) m4
          else
            G_X9_kinds_42 S n v0 v1 v2 (v4 ||| ((Int32.ofInt 1) <<< (v5 &&& 31))) (v5 + Int32.ofInt 1) m4
        else none
      else none
set_option maxRecDepth 100000 in
set_option maxHeartbeats 4000000 in
theorem xs_X9_kinds_42 {S : xi_S} {res : xi_R} : ∀ (n : Nat) (v0 : Nat) (v1 : Int32) (v2 : Int32) (v4 : Int32) (v5 : Int32) (m : xi_M), G_X9_kinds_42 S n v0 v1 v2 v4 v5 m = some res → xi_X S (P_X9_kinds S) (42, [some (.ref v0), some (.int v1), some (.int v2), none, some (.int v4), some (.int v5)], [], m) res := by
  intro n
  induction n with
  | zero => intro v0 v1 v2 v4 v5 m h; exact xi_no h
  | succ n ih =>
    intro v0 v1 v2 v4 v5 m h
    unfold G_X9_kinds_42 at h
    refine xr_iload i_X9_kinds_42 rfl (q := 44) rfl ?_
    refine xr_bipush i_X9_kinds_44 (q := 46) rfl ?_
    by_cases c7 : ((Int8.ofInt 6).toInt32) ≤ v5
    · replace h := (if_pos c7).symm.trans h
      refine xr_if_icmp_ge_p i_X9_kinds_46 c7 (q := 92) t_X9_kinds_46 (q2 := 49) rfl ?_
      refine xr_iload i_X9_kinds_92 rfl (q := 94) rfl ?_
      exact xr_ireturn i_X9_kinds_94 rfl h
    · replace h := (if_neg c7).symm.trans h
      refine xr_if_icmp_ge_n i_X9_kinds_46 c7 (q := 92) t_X9_kinds_46 (q2 := 49) rfl ?_
      refine xr_iload i_X9_kinds_49 rfl (q := 51) rfl ?_
      refine xr_aload_n i_X9_kinds_51 rfl (q := 52) rfl ?_
      refine xr_iload_n i_X9_kinds_52 rfl (q := 53) rfl ?_
      refine xr_iload_n i_X9_kinds_53 rfl (q := 54) rfl ?_
      refine xr_iload i_X9_kinds_54 rfl (q := 56) rfl ?_
      refine xr_aload_n i_X9_kinds_56 rfl (q := 57) rfl ?_
      obtain ⟨c1, h⟩ := xi_if_some h
      obtain ⟨b2, eb2, h⟩ := xi_bind_some h
      refine xr_getR i_X9_kinds_57 xfe_X9_25 c1 eb2 (q := 60) rfl ?_
      refine xr_bipush i_X9_kinds_60 (q := 62) rfl ?_
      refine xr_iconst i_X9_kinds_62 (q := 63) rfl ?_
      refine xr_iload_n i_X9_kinds_63 rfl (q := 64) rfl ?_
      refine xr_imul i_X9_kinds_64 (q := 65) rfl ?_
      refine xr_iadd i_X9_kinds_65 (q := 66) rfl ?_
      refine xr_iconst i_X9_kinds_66 (q := 67) rfl ?_
      refine xr_iadd i_X9_kinds_67 (q := 68) rfl ?_
      obtain ⟨c3, h⟩ := xi_if_some h
      refine xr_iaload i_X9_kinds_68 c3 (q := 69) rfl ?_
      obtain ⟨x5, m4, em4, h⟩ := xi_bI_some h
      refine xr_VI i_X9_kinds_69 xcve_X9_227 rfl (As := [.ref v0, .int v1, .int v2, .int v5, .int (m.1 b2 (Int32.toNatClampNeg ((((Int8.ofInt 10).toInt32) + ((Int32.ofInt 4) * v1)) + (Int32.ofInt 2))))]) rfl (rest := [.int v4]) rfl ((cc_X9_kinds_227 S _ _ _ _ _ _).trans em4) (q := 72) rfl ?_
      by_cases c6 : x5 = 0
      · replace h := (if_pos c6).symm.trans h
        refine xr_ifCond_eq_p i_X9_kinds_72 c6 (q := 82) t_X9_kinds_72 (q2 := 75) rfl ?_
        refine xr_iconst i_X9_kinds_82 (q := 83) rfl ?_
        refine xr_ior i_X9_kinds_83 (q := 84) rfl ?_
        refine xr_istore i_X9_kinds_84 rfl (L2 := [some (.ref v0), some (.int v1), some (.int v2), none, some (.int (v4 ||| (Int32.ofInt 0))), some (.int v5)]) rfl (q := 86) rfl ?_
        refine xr_iinc i_X9_kinds_86 rfl rfl (L2 := [some (.ref v0), some (.int v1), some (.int v2), none, some (.int (v4 ||| (Int32.ofInt 0))), some (.int (v5 + Int32.ofInt 1))]) rfl (q := 89) rfl ?_
        refine xr_goto i_X9_kinds_89 (q := 42) t_X9_kinds_89 ?_
        exact xi_X_le (xi_le_s (xi_le_s (xi_le_s (xi_le_n (xi_le_s (xi_le_s xi_le_z)))))) (ih _ _ _ _ _ _ h)
      · replace h := (if_neg c6).symm.trans h
        refine xr_ifCond_eq_n i_X9_kinds_72 c6 (q := 82) t_X9_kinds_72 (q2 := 75) rfl ?_
        refine xr_iconst i_X9_kinds_75 (q := 76) rfl ?_
        refine xr_iload i_X9_kinds_76 rfl (q := 78) rfl ?_
        refine xr_ishl i_X9_kinds_78 (q := 79) rfl ?_
        refine xr_goto i_X9_kinds_79 (q := 83) t_X9_kinds_79 ?_
        refine xr_ior i_X9_kinds_83 (q := 84) rfl ?_
        refine xr_istore i_X9_kinds_84 rfl (L2 := [some (.ref v0), some (.int v1), some (.int v2), none, some (.int (v4 ||| ((Int32.ofInt 1) <<< (v5 &&& 31)))), some (.int v5)]) rfl (q := 86) rfl ?_
        refine xr_iinc i_X9_kinds_86 rfl rfl (L2 := [some (.ref v0), some (.int v1), some (.int v2), none, some (.int (v4 ||| ((Int32.ofInt 1) <<< (v5 &&& 31)))), some (.int (v5 + Int32.ofInt 1))]) rfl (q := 89) rfl ?_
        refine xr_goto i_X9_kinds_89 (q := 42) t_X9_kinds_89 ?_
        exact xi_X_le (xi_le_s (xi_le_s (xi_le_s (xi_le_n (xi_le_s (xi_le_s xi_le_z)))))) (ih _ _ _ _ _ _ h)
def E_X9_kinds (S : xi_S) (v0 : Nat) (v1 : Int32) (v2 : Int32) (m : xi_M) : Option xi_R :=
  xi_bI (if S.1 v0 = 11 then E_X9_isPlayer S v0 v1 m else none) fun x2 m1 =>
  if x2 = 0 then
    some (some (.int (Int32.ofInt (-1))), m1)
  else
    xi_bI (E_X9_isRow S v2 m1) fun x4 m3 =>
    if x4 = 0 then
      some (some (.int (Int32.ofInt (-1))), m3)
    else
      xi_bI (if S.1 v0 = 11 then E_X9_wrongIn S v0 v2 (Int32.ofInt 1) ((Int8.ofInt 20).toInt32) m3 else none) fun x6 m5 =>
      if x6 ≤ 0 then
        G_X9_kinds_42 S 10000 v0 v1 v2 (Int32.ofInt 0) (Int32.ofInt 0) m5
      else
        xi_bI (if S.1 v0 = 11 then E_X9_found S v0 x6 m5 else none) fun x8 m7 =>
        some (some (.int x8), m7)
def F_X9_kinds (S : xi_S) : xi_F := fun As m => match As with
  | [.ref v0, .int v1, .int v2] => E_X9_kinds S v0 v1 v2 m
  | _ => none
set_option maxRecDepth 100000 in
set_option maxHeartbeats 4000000 in
theorem xe_X9_kinds {S : xi_S} {res : xi_R} (v0 : Nat) (v1 : Int32) (v2 : Int32) (m : xi_M) (h : E_X9_kinds S v0 v1 v2 m = some res) : xi_X S (P_X9_kinds S) (0, [some (.ref v0), some (.int v1), some (.int v2), none, none, none], [], m) res := by
  unfold E_X9_kinds at h
  refine xr_aload_n i_X9_kinds_0 rfl (q := 1) rfl ?_
  refine xr_iload_n i_X9_kinds_1 rfl (q := 2) rfl ?_
  obtain ⟨x2, m1, em1, h⟩ := xi_bI_some h
  refine xr_VI i_X9_kinds_2 xcve_X9_167 rfl (As := [.ref v0, .int v1]) rfl (rest := []) rfl ((cc_X9_kinds_167 S _ _ _).trans em1) (q := 5) rfl ?_
  by_cases c11 : x2 = 0
  · replace h := (if_pos c11).symm.trans h
    refine xr_ifCond_eq_p i_X9_kinds_5 c11 (q := 15) t_X9_kinds_5 (q2 := 8) rfl ?_
    refine xr_iconst i_X9_kinds_15 (q := 16) rfl ?_
    exact xr_ireturn i_X9_kinds_16 rfl h
  · replace h := (if_neg c11).symm.trans h
    refine xr_ifCond_eq_n i_X9_kinds_5 c11 (q := 15) t_X9_kinds_5 (q2 := 8) rfl ?_
    refine xr_iload_n i_X9_kinds_8 rfl (q := 9) rfl ?_
    obtain ⟨x4, m3, em3, h⟩ := xi_bI_some h
    refine xr_SI i_X9_kinds_9 xcse_X9_67 rfl (As := [.int v2]) rfl (rest := []) rfl ((cc_X9_kinds_67 S _ _).trans em3) (q := 12) rfl ?_
    by_cases c10 : x4 = 0
    · replace h := (if_pos c10).symm.trans h
      refine xr_ifCond_ne_p i_X9_kinds_12 c10 (q := 17) t_X9_kinds_12 (q2 := 15) rfl ?_
      refine xr_iconst i_X9_kinds_15 (q := 16) rfl ?_
      exact xr_ireturn i_X9_kinds_16 rfl h
    · replace h := (if_neg c10).symm.trans h
      refine xr_ifCond_ne_n i_X9_kinds_12 c10 (q := 17) t_X9_kinds_12 (q2 := 15) rfl ?_
      refine xr_aload_n i_X9_kinds_17 rfl (q := 18) rfl ?_
      refine xr_iload_n i_X9_kinds_18 rfl (q := 19) rfl ?_
      refine xr_iconst i_X9_kinds_19 (q := 20) rfl ?_
      refine xr_bipush i_X9_kinds_20 (q := 22) rfl ?_
      obtain ⟨x6, m5, em5, h⟩ := xi_bI_some h
      refine xr_VI i_X9_kinds_22 xcve_X9_208 rfl (As := [.ref v0, .int v2, .int (Int32.ofInt 1), .int ((Int8.ofInt 20).toInt32)]) rfl (rest := []) rfl ((cc_X9_kinds_208 S _ _ _ _ _).trans em5) (q := 25) rfl ?_
      refine xr_istore_n i_X9_kinds_25 rfl (L2 := [some (.ref v0), some (.int v1), some (.int v2), some (.int x6), none, none]) rfl (q := 26) rfl ?_
      refine xr_iload_n i_X9_kinds_26 rfl (q := 27) rfl ?_
      by_cases c9 : x6 ≤ 0
      · replace h := (if_pos c9).symm.trans h
        refine xr_ifCond_le_p i_X9_kinds_27 c9 (q := 36) t_X9_kinds_27 (q2 := 30) rfl ?_
        refine xr_iconst i_X9_kinds_36 (q := 37) rfl ?_
        refine xr_istore i_X9_kinds_37 rfl (L2 := [some (.ref v0), some (.int v1), some (.int v2), some (.int x6), some (.int (Int32.ofInt 0)), none]) rfl (q := 39) rfl ?_
        refine xr_iconst i_X9_kinds_39 (q := 40) rfl ?_
        refine xr_istore i_X9_kinds_40 rfl (L2 := [some (.ref v0), some (.int v1), some (.int v2), some (.int x6), some (.int (Int32.ofInt 0)), some (.int (Int32.ofInt 0))]) rfl (q := 42) rfl ?_
        exact xi_X_le (xi_le_s (xi_le_s (xi_le_s (xi_le_n (xi_le_s (xi_le_s xi_le_z)))))) (xs_X9_kinds_42 10000 _ _ _ _ _ _ h)
      · replace h := (if_neg c9).symm.trans h
        refine xr_ifCond_le_n i_X9_kinds_27 c9 (q := 36) t_X9_kinds_27 (q2 := 30) rfl ?_
        refine xr_aload_n i_X9_kinds_30 rfl (q := 31) rfl ?_
        refine xr_iload_n i_X9_kinds_31 rfl (q := 32) rfl ?_
        obtain ⟨x8, m7, em7, h⟩ := xi_bI_some h
        refine xr_VI i_X9_kinds_32 xcve_X9_71 rfl (As := [.ref v0, .int x6]) rfl (rest := []) rfl ((cc_X9_kinds_71 S _ _ _).trans em7) (q := 35) rfl ?_
        exact xr_ireturn i_X9_kinds_35 rfl h
set_option maxRecDepth 100000 in
theorem po_X9_kinds {l : Launch} {E : xi_E} {S : xi_S} {D : va_G} {tys : List (ClassId × FieldType)} (hC : xCx E S tys) : xi_Pok l E S D vwCl tys xNs RX9 xTs cX9_kinds 6 2 (P_X9_kinds S) := ⟨xi_dc_ok, by rw [hC.2]; exact xfo_X9, xkio_X9, xklo_X9, xi_calls_ok (ins := .invokestatic) (List.forall_mem_cons.mpr ⟨(xc_X9_67 (sn_X9_isRow hC) (by decide)), fun _ h => absurd h List.not_mem_nil⟩), xi_calls_ok (ins := .invokevirtual) (List.forall_mem_cons.mpr ⟨(xc_X9_71 hC.1 (sn_X9_found hC) (by decide)), List.forall_mem_cons.mpr ⟨(xc_X9_167 hC.1 (sn_X9_isPlayer hC) (by decide)), List.forall_mem_cons.mpr ⟨(xc_X9_208 hC.1 (sn_X9_wrongIn hC) (by decide)), List.forall_mem_cons.mpr ⟨(xc_X9_227 hC.1 (sn_X9_landSo hC) (by decide)), fun _ h => absurd h List.not_mem_nil⟩⟩⟩⟩)⟩
theorem sn_X9_kinds {l : Launch} {E : xi_E} {S : xi_S} {D : va_G} {tys : List (ClassId × FieldType)} (hC : xCx E S tys) : ∀ As m1 r m2, F_X9_kinds S As m1 = some (r, m2) → xi_Sound l E S D vwCl tys xNs xTs yX9_kinds cX9_kinds 6 (some .int) 2 As m1 r m2 := by
  intro As m1 r m2 h
  unfold F_X9_kinds at h
  split at h
  · exact xi_meth (P := P_X9_kinds S) (by decide) hC.1 (po_X9_kinds hC) (Nat.le_of_ble_eq_true rfl) rfl (xe_X9_kinds _ _ _ _ h)
  · exact xi_no h
