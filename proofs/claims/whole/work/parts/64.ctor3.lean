/-! the reference's constructor -/
theorem ddX9_init_0 : decode cX9_init 0 = .ok (.aload_n 0, 1) := by decide +kernel
theorem ddX9_init_1 : decode cX9_init 1 = .ok (.invokespecial 1, 3) := by decide +kernel
theorem ddX9_init_4 : decode cX9_init 4 = .ok (.aload_n 0, 1) := by decide +kernel
theorem ddX9_init_5 : decode cX9_init 5 = .ok (.bipush 6, 2) := by decide +kernel
theorem ddX9_init_7 : decode cX9_init 7 = .ok (.newarray .int, 2) := by decide +kernel
theorem ddX9_init_9 : decode cX9_init 9 = .ok (.putfield 7, 3) := by decide +kernel
theorem ddX9_init_12 : decode cX9_init 12 = .ok (.aload_n 0, 1) := by decide +kernel
theorem ddX9_init_13 : decode cX9_init 13 = .ok (.sipush 240, 3) := by decide +kernel
theorem ddX9_init_16 : decode cX9_init 16 = .ok (.newarray .int, 2) := by decide +kernel
theorem ddX9_init_18 : decode cX9_init 18 = .ok (.putfield 13, 3) := by decide +kernel
theorem ddX9_init_21 : decode cX9_init 21 = .ok (.aload_n 0, 1) := by decide +kernel
theorem ddX9_init_22 : decode cX9_init 22 = .ok (.iconst 4, 1) := by decide +kernel
theorem ddX9_init_23 : decode cX9_init 23 = .ok (.newarray .int, 2) := by decide +kernel
theorem ddX9_init_25 : decode cX9_init 25 = .ok (.putfield 16, 3) := by decide +kernel
theorem ddX9_init_28 : decode cX9_init 28 = .ok (.aload_n 0, 1) := by decide +kernel
theorem ddX9_init_29 : decode cX9_init 29 = .ok (.sipush 240, 3) := by decide +kernel
theorem ddX9_init_32 : decode cX9_init 32 = .ok (.newarray .int, 2) := by decide +kernel
theorem ddX9_init_34 : decode cX9_init 34 = .ok (.putfield 19, 3) := by decide +kernel
theorem ddX9_init_37 : decode cX9_init 37 = .ok (.aload_n 0, 1) := by decide +kernel
theorem ddX9_init_38 : decode cX9_init 38 = .ok (.bipush 40, 2) := by decide +kernel
theorem ddX9_init_40 : decode cX9_init 40 = .ok (.newarray .int, 2) := by decide +kernel
theorem ddX9_init_42 : decode cX9_init 42 = .ok (.putfield 22, 3) := by decide +kernel
theorem ddX9_init_45 : decode cX9_init 45 = .ok (.aload_n 0, 1) := by decide +kernel
theorem ddX9_init_46 : decode cX9_init 46 = .ok (.bipush 34, 2) := by decide +kernel
theorem ddX9_init_48 : decode cX9_init 48 = .ok (.newarray .int, 2) := by decide +kernel
theorem ddX9_init_50 : decode cX9_init 50 = .ok (.putfield 25, 3) := by decide +kernel
theorem ddX9_init_53 : decode cX9_init 53 = .ok (.aload_n 0, 1) := by decide +kernel
theorem ddX9_init_54 : decode cX9_init 54 = .ok (.bipush 34, 2) := by decide +kernel
theorem ddX9_init_56 : decode cX9_init 56 = .ok (.newarray .int, 2) := by decide +kernel
theorem ddX9_init_58 : decode cX9_init 58 = .ok (.putfield 28, 3) := by decide +kernel
theorem ddX9_init_61 : decode cX9_init 61 = .ok (.aload_n 0, 1) := by decide +kernel
theorem ddX9_init_62 : decode cX9_init 62 = .ok (.bipush 34, 2) := by decide +kernel
theorem ddX9_init_64 : decode cX9_init 64 = .ok (.newarray .int, 2) := by decide +kernel
theorem ddX9_init_66 : decode cX9_init 66 = .ok (.putfield 31, 3) := by decide +kernel
theorem ddX9_init_69 : decode cX9_init 69 = .ok (.aload_n 0, 1) := by decide +kernel
theorem ddX9_init_70 : decode cX9_init 70 = .ok (.sipush 1360, 3) := by decide +kernel
theorem ddX9_init_73 : decode cX9_init 73 = .ok (.newarray .int, 2) := by decide +kernel
theorem ddX9_init_75 : decode cX9_init 75 = .ok (.putfield 34, 3) := by decide +kernel
theorem ddX9_init_78 : decode cX9_init 78 = .ok (.aload_n 0, 1) := by decide +kernel
theorem ddX9_init_79 : decode cX9_init 79 = .ok (.bipush 102, 2) := by decide +kernel
theorem ddX9_init_81 : decode cX9_init 81 = .ok (.newarray .int, 2) := by decide +kernel
theorem ddX9_init_83 : decode cX9_init 83 = .ok (.putfield 37, 3) := by decide +kernel
theorem ddX9_init_86 : decode cX9_init 86 = .ok (.aload_n 0, 1) := by decide +kernel
theorem ddX9_init_87 : decode cX9_init 87 = .ok (.sipush 4080, 3) := by decide +kernel
theorem ddX9_init_90 : decode cX9_init 90 = .ok (.newarray .int, 2) := by decide +kernel
theorem ddX9_init_92 : decode cX9_init 92 = .ok (.putfield 40, 3) := by decide +kernel
theorem ddX9_init_95 : decode cX9_init 95 = .ok (.aload_n 0, 1) := by decide +kernel
theorem ddX9_init_96 : decode cX9_init 96 = .ok (.iconst 3, 1) := by decide +kernel
theorem ddX9_init_97 : decode cX9_init 97 = .ok (.newarray .int, 2) := by decide +kernel
theorem ddX9_init_99 : decode cX9_init 99 = .ok (.putfield 43, 3) := by decide +kernel
theorem ddX9_init_102 : decode cX9_init 102 = .ok (.aload_n 0, 1) := by decide +kernel
theorem ddX9_init_103 : decode cX9_init 103 = .ok (.bipush 6, 2) := by decide +kernel
theorem ddX9_init_105 : decode cX9_init 105 = .ok (.newarray .int, 2) := by decide +kernel
theorem ddX9_init_107 : decode cX9_init 107 = .ok (.putfield 46, 3) := by decide +kernel
theorem ddX9_init_110 : decode cX9_init 110 = .ok (.aload_n 0, 1) := by decide +kernel
theorem ddX9_init_111 : decode cX9_init 111 = .ok (.lconst 1, 1) := by decide +kernel
theorem ddX9_init_112 : decode cX9_init 112 = .ok (.putfield 49, 3) := by decide +kernel
theorem ddX9_init_115 : decode cX9_init 115 = .ok (.aload_n 0, 1) := by decide +kernel
theorem ddX9_init_116 : decode cX9_init 116 = .ok (.sipush 6561, 3) := by decide +kernel
theorem ddX9_init_119 : decode cX9_init 119 = .ok (.newarray .int, 2) := by decide +kernel
theorem ddX9_init_121 : decode cX9_init 121 = .ok (.putfield 53, 3) := by decide +kernel
theorem ddX9_init_124 : decode cX9_init 124 = .ok (.iconst 0, 1) := by decide +kernel
theorem ddX9_init_125 : decode cX9_init 125 = .ok (.istore_n 1, 1) := by decide +kernel
theorem ddX9_init_126 : decode cX9_init 126 = .ok (.iload_n 1, 1) := by decide +kernel
theorem ddX9_init_127 : decode cX9_init 127 = .ok (.bipush 6, 2) := by decide +kernel
theorem ddX9_init_129 : decode cX9_init 129 = .ok (.if_icmp .ge 17, 3) := by decide +kernel
theorem ddX9_init_132 : decode cX9_init 132 = .ok (.aload_n 0, 1) := by decide +kernel
theorem ddX9_init_133 : decode cX9_init 133 = .ok (.getfield 7, 3) := by decide +kernel
theorem ddX9_init_136 : decode cX9_init 136 = .ok (.iload_n 1, 1) := by decide +kernel
theorem ddX9_init_137 : decode cX9_init 137 = .ok (.bipush (-9), 2) := by decide +kernel
theorem ddX9_init_139 : decode cX9_init 139 = .ok (.iastore, 1) := by decide +kernel
theorem ddX9_init_140 : decode cX9_init 140 = .ok (.iinc 1 1, 3) := by decide +kernel
theorem ddX9_init_143 : decode cX9_init 143 = .ok (.goto (-17), 3) := by decide +kernel
theorem ddX9_init_146 : decode cX9_init 146 = .ok (.iconst 0, 1) := by decide +kernel
theorem ddX9_init_147 : decode cX9_init 147 = .ok (.istore_n 1, 1) := by decide +kernel
theorem ddX9_init_148 : decode cX9_init 148 = .ok (.iload_n 1, 1) := by decide +kernel
theorem ddX9_init_149 : decode cX9_init 149 = .ok (.iconst 4, 1) := by decide +kernel
theorem ddX9_init_150 : decode cX9_init 150 = .ok (.if_icmp .ge 17, 3) := by decide +kernel
theorem ddX9_init_153 : decode cX9_init 153 = .ok (.aload_n 0, 1) := by decide +kernel
theorem ddX9_init_154 : decode cX9_init 154 = .ok (.getfield 16, 3) := by decide +kernel
theorem ddX9_init_157 : decode cX9_init 157 = .ok (.iload_n 1, 1) := by decide +kernel
theorem ddX9_init_158 : decode cX9_init 158 = .ok (.bipush (-9), 2) := by decide +kernel
theorem ddX9_init_160 : decode cX9_init 160 = .ok (.iastore, 1) := by decide +kernel
theorem ddX9_init_161 : decode cX9_init 161 = .ok (.iinc 1 1, 3) := by decide +kernel
theorem ddX9_init_164 : decode cX9_init 164 = .ok (.goto (-16), 3) := by decide +kernel
theorem ddX9_init_167 : decode cX9_init 167 = .ok (.iconst 0, 1) := by decide +kernel
theorem ddX9_init_168 : decode cX9_init 168 = .ok (.istore_n 1, 1) := by decide +kernel
theorem ddX9_init_169 : decode cX9_init 169 = .ok (.iload_n 1, 1) := by decide +kernel
theorem ddX9_init_170 : decode cX9_init 170 = .ok (.iconst 3, 1) := by decide +kernel
theorem ddX9_init_171 : decode cX9_init 171 = .ok (.if_icmp .ge 17, 3) := by decide +kernel
theorem ddX9_init_174 : decode cX9_init 174 = .ok (.aload_n 0, 1) := by decide +kernel
theorem ddX9_init_175 : decode cX9_init 175 = .ok (.getfield 43, 3) := by decide +kernel
theorem ddX9_init_178 : decode cX9_init 178 = .ok (.iload_n 1, 1) := by decide +kernel
theorem ddX9_init_179 : decode cX9_init 179 = .ok (.bipush (-9), 2) := by decide +kernel
theorem ddX9_init_181 : decode cX9_init 181 = .ok (.iastore, 1) := by decide +kernel
theorem ddX9_init_182 : decode cX9_init 182 = .ok (.iinc 1 1, 3) := by decide +kernel
theorem ddX9_init_185 : decode cX9_init 185 = .ok (.goto (-16), 3) := by decide +kernel
theorem ddX9_init_188 : decode cX9_init 188 = .ok (.return_, 1) := by decide +kernel
abbrev wX9 (cI : ClassId) (h0 : Nat) (q : Nat → Nat) : va_W := [(h0, .inr (8, [.ref (q 16), .ref (q 17), .ref (q 18), .ref (q 19), .ref (q 20), .ref (q 21), .ref (q 22), .ref (q 23), .ref (q 24), .int 0, .ref (q 25), .ref (q 26), .ref (q 27), .int 0, .ref (q 28), .int 0, .long 0, .long 1, .int 0, .int 0, .ref (q 29)])), (q 16, .inl (cI, 6, .inl (upd (upd (upd (upd (upd (upd (fun _ => 0) 0 (-9)) 1 (-9)) 2 (-9)) 3 (-9)) 4 (-9)) 5 (-9)))), (q 17, .inl (cI, 240, .inl (fun _ => 0))), (q 18, .inl (cI, 4, .inl (upd (upd (upd (upd (fun _ => 0) 0 (-9)) 1 (-9)) 2 (-9)) 3 (-9)))), (q 19, .inl (cI, 240, .inl (fun _ => 0))), (q 20, .inl (cI, 40, .inl (fun _ => 0))), (q 21, .inl (cI, 34, .inl (fun _ => 0))), (q 22, .inl (cI, 34, .inl (fun _ => 0))), (q 23, .inl (cI, 34, .inl (fun _ => 0))), (q 24, .inl (cI, 1360, .inl (fun _ => 0))), (q 25, .inl (cI, 102, .inl (fun _ => 0))), (q 26, .inl (cI, 4080, .inl (fun _ => 0))), (q 27, .inl (cI, 3, .inl (upd (upd (upd (fun _ => 0) 0 (-9)) 1 (-9)) 2 (-9)))), (q 28, .inl (cI, 6, .inl (fun _ => 0))), (q 29, .inl (cI, 6561, .inl (fun _ => 0)))]
set_option maxHeartbeats 40000000 in
set_option maxRecDepth 1000000 in
theorem ci_X9 (l : Launch) (D : va_G) (h0 sz : Nat) : Met l yX9_init (.code yX9_init cX9_init 2 none :: xTs) ({ frames := 1, cells := 14, slots := 12744, locals := 12 }) (va_Pc [.ref h0] (fun U => U.heap.size = sz ∧ va_P D vwCl [(h0, .inr (8, [.null, .null, .null, .null, .null, .null, .null, .null, .null, .int 0, .null, .null, .null, .int 0, .null, .int 0, .long 0, .long 0, .int 0, .int 0, .null]))] U.heap ∧ va_K D vwCl [] U ∧ va_D (fun _ => True) [(h0, .inr (8, [.null, .null, .null, .null, .null, .null, .null, .null, .null, .int 0, .null, .null, .null, .int 0, .null, .int 0, .long 0, .long 0, .int 0, .int 0, .null]))])) (va_Qv (fun _ : ClassId × (Nat → Nat) => True) (fun u t => va_P D vwCl (wX9 u.1 h0 u.2) t.heap ∧ va_K D vwCl [(u.1, .int)] t ∧ va_D (va_A [(h0, .inr (8, [.null, .null, .null, .null, .null, .null, .null, .null, .null, .int 0, .null, .null, .null, .int 0, .null, .int 0, .long 0, .long 0, .int 0, .int 0, .null]))] sz) (wX9 u.1 h0 u.2)) (va_A [(h0, .inr (8, [.null, .null, .null, .null, .null, .null, .null, .null, .null, .int 0, .null, .null, .null, .int 0, .null, .int 0, .long 0, .long 0, .int 0, .int 0, .null]))] sz)) 14 12744 (va_A [(h0, .inr (8, [.null, .null, .null, .null, .null, .null, .null, .null, .null, .int 0, .null, .null, .null, .int 0, .null, .int 0, .long 0, .long 0, .int 0, .int 0, .null]))] sz) := by
  refine Met.ofW (cc := cX9_init) (maxL := 2) (ret := none) (by decide) rfl ?_
  intro p e s m args below meth c s₁ B hml hv
  obtain ⟨rfl, hsz, hP, hK, hD0⟩ := hv
  have hx := B.exec
  have hb := B.bytes
  have hr := B.returns
  have hts0 := atoms_spec (ws := .code yX9_init cX9_init 2 none :: xTs) B.pre
  have hts : ∀ w ∈ xTs, w.before _ s = true := fun w hw => hts0 w (List.mem_cons_of_mem _ hw)
  have hown : s.vm.findClass RX9 = some m.cls := findClass_of_methodNamed B.named
  have hlocks := B.notSynchronized
  have hin : meth.name = "<init>" := (name_of_methodNamed B.named B.method).1
  subst hsz
  have hD := hD0.self (sz := s.heap.size)
  generalize hAe : va_A [(h0, .inr (8, [.null, .null, .null, .null, .null, .null, .null, .null, .null, .int 0, .null, .null, .null, .int 0, .null, .int 0, .long 0, .long 0, .int 0, .int 0, .null]))] s.heap.size = A at hD ⊢
  have hA : ∀ q : Nat, s.heap.size ≤ q → A q := fun q h => by rw [← hAe]; exact Or.inr h
  have hS : va_S A s.heap s.heap [] := va_S.rf
  have hP : va_P D vwCl [(h0, .inr (8, [.null, .null, .null, .null, .null, .null, .null, .null, .null, .int 0, .null, .null, .null, .int 0, .null, .int 0, .long 0, .long 0, .int 0, .int 0, .null]))] s.heap := hP
  have hl := lv_entry ([.ref h0]) (n := 2) (Nat.le_of_ble_eq_true rfl)
  rw [lg_entry_eq]
  generalize (lg_sl ([.ref h0]) ++ List.replicate (2 - (lg_sl ([.ref h0])).length) Slot.unset).toArray = ls at hl ⊢
  have hl : lv_has ls 2 [(0, .ref h0)] := hl
  obtain ⟨r0, er0⟩ : ∃ z : va_W, z = [] := ⟨_, rfl⟩
  have hP : va_P D vwCl ([(h0, .inr (8, [.null, .null, .null, .null, .null, .null, .null, .null, .null, .int 0, .null, .null, .null, .int 0, .null, .int 0, .long 0, .long 0, .int 0, .int 0, .null]))] ++ r0) s.heap := by rw [er0]; exact hP
  have hD : va_D A ([(h0, .inr (8, [.null, .null, .null, .null, .null, .null, .null, .null, .null, .int 0, .null, .null, .null, .int 0, .null, .int 0, .long 0, .long 0, .int 0, .int 0, .null]))] ++ r0) := by rw [er0]; exact hD
  refine lv_aload_n hx hb ddX9_init_0 rfl (lv_at hl 0 rfl) ?_
  refine W.objInit hx hb hown (hts _ (xw_in 827 (by decide +kernel) rfl)) (hts _ (xw_in 73 (by decide +kernel) rfl)) (hts _ (xw_in 74 (by decide +kernel) rfl)) rfl (by rw [hml]; exact hl.1) rfl ddX9_init_1 (Nat.le_of_ble_eq_true rfl) (Nat.le_of_ble_eq_true rfl) ?_
  refine W.eq (g2 := F0 m 4 ls []) rfl ?_
  refine lv_aload_n hx hb ddX9_init_4 rfl (lv_at hl 0 rfl) ?_
  refine lv_bipush (v := 6) hx hb ddX9_init_5 (by decide) ?_
  refine va_newa (ty := .int) (N' := 6) (a0 := (6, .inl (fun _ => 0))) hx hb (hts _ (xw_in 148 (by decide +kernel) rfl)) rfl hK hP hD hS hA (fun _ => rfl) (by decide) (by decide) (by decide) (Nat.le_of_ble_eq_true rfl) (Nat.le_of_ble_eq_true rfl) ddX9_init_7 (fun a1 cA H hK hP hD hS => ?_)
  obtain ⟨cI, rfl⟩ : ∃ z, z = cA := ⟨_, rfl⟩
  have hK : va_K D vwCl [(cI, .int)] s := hK
  have hP := xj_mvP hP
  have hD := xj_mvD hD
  have hP : va_P D vwCl ([(h0, .inr (8, [.null, .null, .null, .null, .null, .null, .null, .null, .null, .int 0, .null, .null, .null, .int 0, .null, .int 0, .long 0, .long 0, .int 0, .int 0, .null])), (a1, .inl (cI, 6, .inl (fun _ => 0)))] ++ r0) H := hP
  have hD : va_D A ([(h0, .inr (8, [.null, .null, .null, .null, .null, .null, .null, .null, .null, .int 0, .null, .null, .null, .int 0, .null, .int 0, .long 0, .long 0, .int 0, .int 0, .null])), (a1, .inl (cI, 6, .inl (fun _ => 0)))] ++ r0) := hD
  refine W.widen (k := 1) (n := 6) (by omega) (by omega) ?_
  refine va_putF (D := D) (ci := 8) (v := .ref a1) (ty := .array .int) (C := RX9) (T := TX9) (N := 21) hx hb hts xin_X9 tyX9 tyX9_ok nmX9 hown hK hP hD hS 0 rfl rfl 0 (by decide) (hts _ (xw_in 828 (by decide +kernel) rfl)) (fun _ h9 => h9) rfl hin rfl (by decide +kernel) rfl rfl (Nat.le_of_ble_eq_true rfl) ddX9_init_9 (fun H locs hP hD hS => ?_)
  have hP : va_P D vwCl ([(h0, .inr (8, [.ref a1, .null, .null, .null, .null, .null, .null, .null, .null, .int 0, .null, .null, .null, .int 0, .null, .int 0, .long 0, .long 0, .int 0, .int 0, .null])), (a1, .inl (cI, 6, .inl (fun _ => 0)))] ++ r0) H := hP
  have hD : va_D A ([(h0, .inr (8, [.ref a1, .null, .null, .null, .null, .null, .null, .null, .null, .int 0, .null, .null, .null, .int 0, .null, .int 0, .long 0, .long 0, .int 0, .int 0, .null])), (a1, .inl (cI, 6, .inl (fun _ => 0)))] ++ r0) := hD
  refine lv_aload_n hx hb ddX9_init_12 rfl (lv_at hl 0 rfl) ?_
  refine lv_sipush (v := 240) hx hb ddX9_init_13 (by decide) ?_
  refine va_newa (ty := .int) (N' := 240) (a0 := (240, .inl (fun _ => 0))) hx hb (hts _ (xw_in 148 (by decide +kernel) rfl)) rfl hK hP hD hS hA (fun _ => rfl) (by decide) (by decide) (by decide) (Nat.le_of_ble_eq_true rfl) (Nat.le_of_ble_eq_true rfl) ddX9_init_16 (fun a2 cA H hK hP hD hS => ?_)
  obtain rfl : cI = cA := xk_int hK (i := 0) (j := 1) rfl rfl
  have hK : va_K D vwCl [(cI, .int)] s := hK.sub (tys' := [(cI, .int)]) [0] rfl
  have hP := xj_mvP hP
  have hD := xj_mvD hD
  have hP : va_P D vwCl ([(h0, .inr (8, [.ref a1, .null, .null, .null, .null, .null, .null, .null, .null, .int 0, .null, .null, .null, .int 0, .null, .int 0, .long 0, .long 0, .int 0, .int 0, .null])), (a1, .inl (cI, 6, .inl (fun _ => 0))), (a2, .inl (cI, 240, .inl (fun _ => 0)))] ++ r0) H := hP
  have hD : va_D A ([(h0, .inr (8, [.ref a1, .null, .null, .null, .null, .null, .null, .null, .null, .int 0, .null, .null, .null, .int 0, .null, .int 0, .long 0, .long 0, .int 0, .int 0, .null])), (a1, .inl (cI, 6, .inl (fun _ => 0))), (a2, .inl (cI, 240, .inl (fun _ => 0)))] ++ r0) := hD
  refine W.widen (k := 2) (n := 246) (by omega) (by omega) ?_
  refine va_putF (D := D) (ci := 8) (v := .ref a2) (ty := .array .int) (C := RX9) (T := TX9) (N := 21) hx hb hts xin_X9 tyX9 tyX9_ok nmX9 hown hK hP hD hS 0 rfl rfl 1 (by decide) (hts _ (xw_in 829 (by decide +kernel) rfl)) (fun _ h9 => h9) rfl hin rfl (by decide +kernel) rfl rfl (Nat.le_of_ble_eq_true rfl) ddX9_init_18 (fun H locs hP hD hS => ?_)
  have hP : va_P D vwCl ([(h0, .inr (8, [.ref a1, .ref a2, .null, .null, .null, .null, .null, .null, .null, .int 0, .null, .null, .null, .int 0, .null, .int 0, .long 0, .long 0, .int 0, .int 0, .null])), (a1, .inl (cI, 6, .inl (fun _ => 0))), (a2, .inl (cI, 240, .inl (fun _ => 0)))] ++ r0) H := hP
  have hD : va_D A ([(h0, .inr (8, [.ref a1, .ref a2, .null, .null, .null, .null, .null, .null, .null, .int 0, .null, .null, .null, .int 0, .null, .int 0, .long 0, .long 0, .int 0, .int 0, .null])), (a1, .inl (cI, 6, .inl (fun _ => 0))), (a2, .inl (cI, 240, .inl (fun _ => 0)))] ++ r0) := hD
  refine lv_aload_n hx hb ddX9_init_21 rfl (lv_at hl 0 rfl) ?_
  refine lv_iconst (v := 4) hx hb ddX9_init_22 (by decide) ?_
  refine va_newa (ty := .int) (N' := 4) (a0 := (4, .inl (fun _ => 0))) hx hb (hts _ (xw_in 148 (by decide +kernel) rfl)) rfl hK hP hD hS hA (fun _ => rfl) (by decide) (by decide) (by decide) (Nat.le_of_ble_eq_true rfl) (Nat.le_of_ble_eq_true rfl) ddX9_init_23 (fun a3 cA H hK hP hD hS => ?_)
  obtain rfl : cI = cA := xk_int hK (i := 0) (j := 1) rfl rfl
  have hK : va_K D vwCl [(cI, .int)] s := hK.sub (tys' := [(cI, .int)]) [0] rfl
  have hP := xj_mvP hP
  have hD := xj_mvD hD
  have hP : va_P D vwCl ([(h0, .inr (8, [.ref a1, .ref a2, .null, .null, .null, .null, .null, .null, .null, .int 0, .null, .null, .null, .int 0, .null, .int 0, .long 0, .long 0, .int 0, .int 0, .null])), (a1, .inl (cI, 6, .inl (fun _ => 0))), (a2, .inl (cI, 240, .inl (fun _ => 0))), (a3, .inl (cI, 4, .inl (fun _ => 0)))] ++ r0) H := hP
  have hD : va_D A ([(h0, .inr (8, [.ref a1, .ref a2, .null, .null, .null, .null, .null, .null, .null, .int 0, .null, .null, .null, .int 0, .null, .int 0, .long 0, .long 0, .int 0, .int 0, .null])), (a1, .inl (cI, 6, .inl (fun _ => 0))), (a2, .inl (cI, 240, .inl (fun _ => 0))), (a3, .inl (cI, 4, .inl (fun _ => 0)))] ++ r0) := hD
  refine W.widen (k := 3) (n := 250) (by omega) (by omega) ?_
  refine va_putF (D := D) (ci := 8) (v := .ref a3) (ty := .array .int) (C := RX9) (T := TX9) (N := 21) hx hb hts xin_X9 tyX9 tyX9_ok nmX9 hown hK hP hD hS 0 rfl rfl 2 (by decide) (hts _ (xw_in 830 (by decide +kernel) rfl)) (fun _ h9 => h9) rfl hin rfl (by decide +kernel) rfl rfl (Nat.le_of_ble_eq_true rfl) ddX9_init_25 (fun H locs hP hD hS => ?_)
  have hP : va_P D vwCl ([(h0, .inr (8, [.ref a1, .ref a2, .ref a3, .null, .null, .null, .null, .null, .null, .int 0, .null, .null, .null, .int 0, .null, .int 0, .long 0, .long 0, .int 0, .int 0, .null])), (a1, .inl (cI, 6, .inl (fun _ => 0))), (a2, .inl (cI, 240, .inl (fun _ => 0))), (a3, .inl (cI, 4, .inl (fun _ => 0)))] ++ r0) H := hP
  have hD : va_D A ([(h0, .inr (8, [.ref a1, .ref a2, .ref a3, .null, .null, .null, .null, .null, .null, .int 0, .null, .null, .null, .int 0, .null, .int 0, .long 0, .long 0, .int 0, .int 0, .null])), (a1, .inl (cI, 6, .inl (fun _ => 0))), (a2, .inl (cI, 240, .inl (fun _ => 0))), (a3, .inl (cI, 4, .inl (fun _ => 0)))] ++ r0) := hD
  refine lv_aload_n hx hb ddX9_init_28 rfl (lv_at hl 0 rfl) ?_
  refine lv_sipush (v := 240) hx hb ddX9_init_29 (by decide) ?_
  refine va_newa (ty := .int) (N' := 240) (a0 := (240, .inl (fun _ => 0))) hx hb (hts _ (xw_in 148 (by decide +kernel) rfl)) rfl hK hP hD hS hA (fun _ => rfl) (by decide) (by decide) (by decide) (Nat.le_of_ble_eq_true rfl) (Nat.le_of_ble_eq_true rfl) ddX9_init_32 (fun a4 cA H hK hP hD hS => ?_)
  obtain rfl : cI = cA := xk_int hK (i := 0) (j := 1) rfl rfl
  have hK : va_K D vwCl [(cI, .int)] s := hK.sub (tys' := [(cI, .int)]) [0] rfl
  have hP := xj_mvP hP
  have hD := xj_mvD hD
  have hP : va_P D vwCl ([(h0, .inr (8, [.ref a1, .ref a2, .ref a3, .null, .null, .null, .null, .null, .null, .int 0, .null, .null, .null, .int 0, .null, .int 0, .long 0, .long 0, .int 0, .int 0, .null])), (a1, .inl (cI, 6, .inl (fun _ => 0))), (a2, .inl (cI, 240, .inl (fun _ => 0))), (a3, .inl (cI, 4, .inl (fun _ => 0))), (a4, .inl (cI, 240, .inl (fun _ => 0)))] ++ r0) H := hP
  have hD : va_D A ([(h0, .inr (8, [.ref a1, .ref a2, .ref a3, .null, .null, .null, .null, .null, .null, .int 0, .null, .null, .null, .int 0, .null, .int 0, .long 0, .long 0, .int 0, .int 0, .null])), (a1, .inl (cI, 6, .inl (fun _ => 0))), (a2, .inl (cI, 240, .inl (fun _ => 0))), (a3, .inl (cI, 4, .inl (fun _ => 0))), (a4, .inl (cI, 240, .inl (fun _ => 0)))] ++ r0) := hD
  refine W.widen (k := 4) (n := 490) (by omega) (by omega) ?_
  refine va_putF (D := D) (ci := 8) (v := .ref a4) (ty := .array .int) (C := RX9) (T := TX9) (N := 21) hx hb hts xin_X9 tyX9 tyX9_ok nmX9 hown hK hP hD hS 0 rfl rfl 3 (by decide) (hts _ (xw_in 831 (by decide +kernel) rfl)) (fun _ h9 => h9) rfl hin rfl (by decide +kernel) rfl rfl (Nat.le_of_ble_eq_true rfl) ddX9_init_34 (fun H locs hP hD hS => ?_)
  have hP : va_P D vwCl ([(h0, .inr (8, [.ref a1, .ref a2, .ref a3, .ref a4, .null, .null, .null, .null, .null, .int 0, .null, .null, .null, .int 0, .null, .int 0, .long 0, .long 0, .int 0, .int 0, .null])), (a1, .inl (cI, 6, .inl (fun _ => 0))), (a2, .inl (cI, 240, .inl (fun _ => 0))), (a3, .inl (cI, 4, .inl (fun _ => 0))), (a4, .inl (cI, 240, .inl (fun _ => 0)))] ++ r0) H := hP
  have hD : va_D A ([(h0, .inr (8, [.ref a1, .ref a2, .ref a3, .ref a4, .null, .null, .null, .null, .null, .int 0, .null, .null, .null, .int 0, .null, .int 0, .long 0, .long 0, .int 0, .int 0, .null])), (a1, .inl (cI, 6, .inl (fun _ => 0))), (a2, .inl (cI, 240, .inl (fun _ => 0))), (a3, .inl (cI, 4, .inl (fun _ => 0))), (a4, .inl (cI, 240, .inl (fun _ => 0)))] ++ r0) := hD
  refine lv_aload_n hx hb ddX9_init_37 rfl (lv_at hl 0 rfl) ?_
  refine lv_bipush (v := 40) hx hb ddX9_init_38 (by decide) ?_
  refine va_newa (ty := .int) (N' := 40) (a0 := (40, .inl (fun _ => 0))) hx hb (hts _ (xw_in 148 (by decide +kernel) rfl)) rfl hK hP hD hS hA (fun _ => rfl) (by decide) (by decide) (by decide) (Nat.le_of_ble_eq_true rfl) (Nat.le_of_ble_eq_true rfl) ddX9_init_40 (fun a5 cA H hK hP hD hS => ?_)
  obtain rfl : cI = cA := xk_int hK (i := 0) (j := 1) rfl rfl
  have hK : va_K D vwCl [(cI, .int)] s := hK.sub (tys' := [(cI, .int)]) [0] rfl
  have hP := xj_mvP hP
  have hD := xj_mvD hD
  have hP : va_P D vwCl ([(h0, .inr (8, [.ref a1, .ref a2, .ref a3, .ref a4, .null, .null, .null, .null, .null, .int 0, .null, .null, .null, .int 0, .null, .int 0, .long 0, .long 0, .int 0, .int 0, .null])), (a1, .inl (cI, 6, .inl (fun _ => 0))), (a2, .inl (cI, 240, .inl (fun _ => 0))), (a3, .inl (cI, 4, .inl (fun _ => 0))), (a4, .inl (cI, 240, .inl (fun _ => 0))), (a5, .inl (cI, 40, .inl (fun _ => 0)))] ++ r0) H := hP
  have hD : va_D A ([(h0, .inr (8, [.ref a1, .ref a2, .ref a3, .ref a4, .null, .null, .null, .null, .null, .int 0, .null, .null, .null, .int 0, .null, .int 0, .long 0, .long 0, .int 0, .int 0, .null])), (a1, .inl (cI, 6, .inl (fun _ => 0))), (a2, .inl (cI, 240, .inl (fun _ => 0))), (a3, .inl (cI, 4, .inl (fun _ => 0))), (a4, .inl (cI, 240, .inl (fun _ => 0))), (a5, .inl (cI, 40, .inl (fun _ => 0)))] ++ r0) := hD
  refine W.widen (k := 5) (n := 530) (by omega) (by omega) ?_
  refine va_putF (D := D) (ci := 8) (v := .ref a5) (ty := .array .int) (C := RX9) (T := TX9) (N := 21) hx hb hts xin_X9 tyX9 tyX9_ok nmX9 hown hK hP hD hS 0 rfl rfl 4 (by decide) (hts _ (xw_in 832 (by decide +kernel) rfl)) (fun _ h9 => h9) rfl hin rfl (by decide +kernel) rfl rfl (Nat.le_of_ble_eq_true rfl) ddX9_init_42 (fun H locs hP hD hS => ?_)
  have hP : va_P D vwCl ([(h0, .inr (8, [.ref a1, .ref a2, .ref a3, .ref a4, .ref a5, .null, .null, .null, .null, .int 0, .null, .null, .null, .int 0, .null, .int 0, .long 0, .long 0, .int 0, .int 0, .null])), (a1, .inl (cI, 6, .inl (fun _ => 0))), (a2, .inl (cI, 240, .inl (fun _ => 0))), (a3, .inl (cI, 4, .inl (fun _ => 0))), (a4, .inl (cI, 240, .inl (fun _ => 0))), (a5, .inl (cI, 40, .inl (fun _ => 0)))] ++ r0) H := hP
  have hD : va_D A ([(h0, .inr (8, [.ref a1, .ref a2, .ref a3, .ref a4, .ref a5, .null, .null, .null, .null, .int 0, .null, .null, .null, .int 0, .null, .int 0, .long 0, .long 0, .int 0, .int 0, .null])), (a1, .inl (cI, 6, .inl (fun _ => 0))), (a2, .inl (cI, 240, .inl (fun _ => 0))), (a3, .inl (cI, 4, .inl (fun _ => 0))), (a4, .inl (cI, 240, .inl (fun _ => 0))), (a5, .inl (cI, 40, .inl (fun _ => 0)))] ++ r0) := hD
  refine lv_aload_n hx hb ddX9_init_45 rfl (lv_at hl 0 rfl) ?_
  refine lv_bipush (v := 34) hx hb ddX9_init_46 (by decide) ?_
  refine va_newa (ty := .int) (N' := 34) (a0 := (34, .inl (fun _ => 0))) hx hb (hts _ (xw_in 148 (by decide +kernel) rfl)) rfl hK hP hD hS hA (fun _ => rfl) (by decide) (by decide) (by decide) (Nat.le_of_ble_eq_true rfl) (Nat.le_of_ble_eq_true rfl) ddX9_init_48 (fun a6 cA H hK hP hD hS => ?_)
  obtain rfl : cI = cA := xk_int hK (i := 0) (j := 1) rfl rfl
  have hK : va_K D vwCl [(cI, .int)] s := hK.sub (tys' := [(cI, .int)]) [0] rfl
  have hP := xj_mvP hP
  have hD := xj_mvD hD
  have hP : va_P D vwCl ([(h0, .inr (8, [.ref a1, .ref a2, .ref a3, .ref a4, .ref a5, .null, .null, .null, .null, .int 0, .null, .null, .null, .int 0, .null, .int 0, .long 0, .long 0, .int 0, .int 0, .null])), (a1, .inl (cI, 6, .inl (fun _ => 0))), (a2, .inl (cI, 240, .inl (fun _ => 0))), (a3, .inl (cI, 4, .inl (fun _ => 0))), (a4, .inl (cI, 240, .inl (fun _ => 0))), (a5, .inl (cI, 40, .inl (fun _ => 0))), (a6, .inl (cI, 34, .inl (fun _ => 0)))] ++ r0) H := hP
  have hD : va_D A ([(h0, .inr (8, [.ref a1, .ref a2, .ref a3, .ref a4, .ref a5, .null, .null, .null, .null, .int 0, .null, .null, .null, .int 0, .null, .int 0, .long 0, .long 0, .int 0, .int 0, .null])), (a1, .inl (cI, 6, .inl (fun _ => 0))), (a2, .inl (cI, 240, .inl (fun _ => 0))), (a3, .inl (cI, 4, .inl (fun _ => 0))), (a4, .inl (cI, 240, .inl (fun _ => 0))), (a5, .inl (cI, 40, .inl (fun _ => 0))), (a6, .inl (cI, 34, .inl (fun _ => 0)))] ++ r0) := hD
  refine W.widen (k := 6) (n := 564) (by omega) (by omega) ?_
  refine va_putF (D := D) (ci := 8) (v := .ref a6) (ty := .array .int) (C := RX9) (T := TX9) (N := 21) hx hb hts xin_X9 tyX9 tyX9_ok nmX9 hown hK hP hD hS 0 rfl rfl 5 (by decide) (hts _ (xw_in 833 (by decide +kernel) rfl)) (fun _ h9 => h9) rfl hin rfl (by decide +kernel) rfl rfl (Nat.le_of_ble_eq_true rfl) ddX9_init_50 (fun H locs hP hD hS => ?_)
  have hP : va_P D vwCl ([(h0, .inr (8, [.ref a1, .ref a2, .ref a3, .ref a4, .ref a5, .ref a6, .null, .null, .null, .int 0, .null, .null, .null, .int 0, .null, .int 0, .long 0, .long 0, .int 0, .int 0, .null])), (a1, .inl (cI, 6, .inl (fun _ => 0))), (a2, .inl (cI, 240, .inl (fun _ => 0))), (a3, .inl (cI, 4, .inl (fun _ => 0))), (a4, .inl (cI, 240, .inl (fun _ => 0))), (a5, .inl (cI, 40, .inl (fun _ => 0))), (a6, .inl (cI, 34, .inl (fun _ => 0)))] ++ r0) H := hP
  have hD : va_D A ([(h0, .inr (8, [.ref a1, .ref a2, .ref a3, .ref a4, .ref a5, .ref a6, .null, .null, .null, .int 0, .null, .null, .null, .int 0, .null, .int 0, .long 0, .long 0, .int 0, .int 0, .null])), (a1, .inl (cI, 6, .inl (fun _ => 0))), (a2, .inl (cI, 240, .inl (fun _ => 0))), (a3, .inl (cI, 4, .inl (fun _ => 0))), (a4, .inl (cI, 240, .inl (fun _ => 0))), (a5, .inl (cI, 40, .inl (fun _ => 0))), (a6, .inl (cI, 34, .inl (fun _ => 0)))] ++ r0) := hD
  refine lv_aload_n hx hb ddX9_init_53 rfl (lv_at hl 0 rfl) ?_
  refine lv_bipush (v := 34) hx hb ddX9_init_54 (by decide) ?_
  refine va_newa (ty := .int) (N' := 34) (a0 := (34, .inl (fun _ => 0))) hx hb (hts _ (xw_in 148 (by decide +kernel) rfl)) rfl hK hP hD hS hA (fun _ => rfl) (by decide) (by decide) (by decide) (Nat.le_of_ble_eq_true rfl) (Nat.le_of_ble_eq_true rfl) ddX9_init_56 (fun a7 cA H hK hP hD hS => ?_)
  obtain rfl : cI = cA := xk_int hK (i := 0) (j := 1) rfl rfl
  have hK : va_K D vwCl [(cI, .int)] s := hK.sub (tys' := [(cI, .int)]) [0] rfl
  have hP := xj_mvP hP
  have hD := xj_mvD hD
  have hP : va_P D vwCl ([(h0, .inr (8, [.ref a1, .ref a2, .ref a3, .ref a4, .ref a5, .ref a6, .null, .null, .null, .int 0, .null, .null, .null, .int 0, .null, .int 0, .long 0, .long 0, .int 0, .int 0, .null])), (a1, .inl (cI, 6, .inl (fun _ => 0))), (a2, .inl (cI, 240, .inl (fun _ => 0))), (a3, .inl (cI, 4, .inl (fun _ => 0))), (a4, .inl (cI, 240, .inl (fun _ => 0))), (a5, .inl (cI, 40, .inl (fun _ => 0))), (a6, .inl (cI, 34, .inl (fun _ => 0))), (a7, .inl (cI, 34, .inl (fun _ => 0)))] ++ r0) H := hP
  have hD : va_D A ([(h0, .inr (8, [.ref a1, .ref a2, .ref a3, .ref a4, .ref a5, .ref a6, .null, .null, .null, .int 0, .null, .null, .null, .int 0, .null, .int 0, .long 0, .long 0, .int 0, .int 0, .null])), (a1, .inl (cI, 6, .inl (fun _ => 0))), (a2, .inl (cI, 240, .inl (fun _ => 0))), (a3, .inl (cI, 4, .inl (fun _ => 0))), (a4, .inl (cI, 240, .inl (fun _ => 0))), (a5, .inl (cI, 40, .inl (fun _ => 0))), (a6, .inl (cI, 34, .inl (fun _ => 0))), (a7, .inl (cI, 34, .inl (fun _ => 0)))] ++ r0) := hD
  refine W.widen (k := 7) (n := 598) (by omega) (by omega) ?_
  refine va_putF (D := D) (ci := 8) (v := .ref a7) (ty := .array .int) (C := RX9) (T := TX9) (N := 21) hx hb hts xin_X9 tyX9 tyX9_ok nmX9 hown hK hP hD hS 0 rfl rfl 6 (by decide) (hts _ (xw_in 834 (by decide +kernel) rfl)) (fun _ h9 => h9) rfl hin rfl (by decide +kernel) rfl rfl (Nat.le_of_ble_eq_true rfl) ddX9_init_58 (fun H locs hP hD hS => ?_)
  have hP : va_P D vwCl ([(h0, .inr (8, [.ref a1, .ref a2, .ref a3, .ref a4, .ref a5, .ref a6, .ref a7, .null, .null, .int 0, .null, .null, .null, .int 0, .null, .int 0, .long 0, .long 0, .int 0, .int 0, .null])), (a1, .inl (cI, 6, .inl (fun _ => 0))), (a2, .inl (cI, 240, .inl (fun _ => 0))), (a3, .inl (cI, 4, .inl (fun _ => 0))), (a4, .inl (cI, 240, .inl (fun _ => 0))), (a5, .inl (cI, 40, .inl (fun _ => 0))), (a6, .inl (cI, 34, .inl (fun _ => 0))), (a7, .inl (cI, 34, .inl (fun _ => 0)))] ++ r0) H := hP
  have hD : va_D A ([(h0, .inr (8, [.ref a1, .ref a2, .ref a3, .ref a4, .ref a5, .ref a6, .ref a7, .null, .null, .int 0, .null, .null, .null, .int 0, .null, .int 0, .long 0, .long 0, .int 0, .int 0, .null])), (a1, .inl (cI, 6, .inl (fun _ => 0))), (a2, .inl (cI, 240, .inl (fun _ => 0))), (a3, .inl (cI, 4, .inl (fun _ => 0))), (a4, .inl (cI, 240, .inl (fun _ => 0))), (a5, .inl (cI, 40, .inl (fun _ => 0))), (a6, .inl (cI, 34, .inl (fun _ => 0))), (a7, .inl (cI, 34, .inl (fun _ => 0)))] ++ r0) := hD
  refine lv_aload_n hx hb ddX9_init_61 rfl (lv_at hl 0 rfl) ?_
  refine lv_bipush (v := 34) hx hb ddX9_init_62 (by decide) ?_
  refine va_newa (ty := .int) (N' := 34) (a0 := (34, .inl (fun _ => 0))) hx hb (hts _ (xw_in 148 (by decide +kernel) rfl)) rfl hK hP hD hS hA (fun _ => rfl) (by decide) (by decide) (by decide) (Nat.le_of_ble_eq_true rfl) (Nat.le_of_ble_eq_true rfl) ddX9_init_64 (fun a8 cA H hK hP hD hS => ?_)
  obtain rfl : cI = cA := xk_int hK (i := 0) (j := 1) rfl rfl
  have hK : va_K D vwCl [(cI, .int)] s := hK.sub (tys' := [(cI, .int)]) [0] rfl
  have hP := xj_mvP hP
  have hD := xj_mvD hD
  have hP : va_P D vwCl ([(h0, .inr (8, [.ref a1, .ref a2, .ref a3, .ref a4, .ref a5, .ref a6, .ref a7, .null, .null, .int 0, .null, .null, .null, .int 0, .null, .int 0, .long 0, .long 0, .int 0, .int 0, .null])), (a1, .inl (cI, 6, .inl (fun _ => 0))), (a2, .inl (cI, 240, .inl (fun _ => 0))), (a3, .inl (cI, 4, .inl (fun _ => 0))), (a4, .inl (cI, 240, .inl (fun _ => 0))), (a5, .inl (cI, 40, .inl (fun _ => 0))), (a6, .inl (cI, 34, .inl (fun _ => 0))), (a7, .inl (cI, 34, .inl (fun _ => 0))), (a8, .inl (cI, 34, .inl (fun _ => 0)))] ++ r0) H := hP
  have hD : va_D A ([(h0, .inr (8, [.ref a1, .ref a2, .ref a3, .ref a4, .ref a5, .ref a6, .ref a7, .null, .null, .int 0, .null, .null, .null, .int 0, .null, .int 0, .long 0, .long 0, .int 0, .int 0, .null])), (a1, .inl (cI, 6, .inl (fun _ => 0))), (a2, .inl (cI, 240, .inl (fun _ => 0))), (a3, .inl (cI, 4, .inl (fun _ => 0))), (a4, .inl (cI, 240, .inl (fun _ => 0))), (a5, .inl (cI, 40, .inl (fun _ => 0))), (a6, .inl (cI, 34, .inl (fun _ => 0))), (a7, .inl (cI, 34, .inl (fun _ => 0))), (a8, .inl (cI, 34, .inl (fun _ => 0)))] ++ r0) := hD
  refine W.widen (k := 8) (n := 632) (by omega) (by omega) ?_
  refine va_putF (D := D) (ci := 8) (v := .ref a8) (ty := .array .int) (C := RX9) (T := TX9) (N := 21) hx hb hts xin_X9 tyX9 tyX9_ok nmX9 hown hK hP hD hS 0 rfl rfl 7 (by decide) (hts _ (xw_in 835 (by decide +kernel) rfl)) (fun _ h9 => h9) rfl hin rfl (by decide +kernel) rfl rfl (Nat.le_of_ble_eq_true rfl) ddX9_init_66 (fun H locs hP hD hS => ?_)
  have hP : va_P D vwCl ([(h0, .inr (8, [.ref a1, .ref a2, .ref a3, .ref a4, .ref a5, .ref a6, .ref a7, .ref a8, .null, .int 0, .null, .null, .null, .int 0, .null, .int 0, .long 0, .long 0, .int 0, .int 0, .null])), (a1, .inl (cI, 6, .inl (fun _ => 0))), (a2, .inl (cI, 240, .inl (fun _ => 0))), (a3, .inl (cI, 4, .inl (fun _ => 0))), (a4, .inl (cI, 240, .inl (fun _ => 0))), (a5, .inl (cI, 40, .inl (fun _ => 0))), (a6, .inl (cI, 34, .inl (fun _ => 0))), (a7, .inl (cI, 34, .inl (fun _ => 0))), (a8, .inl (cI, 34, .inl (fun _ => 0)))] ++ r0) H := hP
  have hD : va_D A ([(h0, .inr (8, [.ref a1, .ref a2, .ref a3, .ref a4, .ref a5, .ref a6, .ref a7, .ref a8, .null, .int 0, .null, .null, .null, .int 0, .null, .int 0, .long 0, .long 0, .int 0, .int 0, .null])), (a1, .inl (cI, 6, .inl (fun _ => 0))), (a2, .inl (cI, 240, .inl (fun _ => 0))), (a3, .inl (cI, 4, .inl (fun _ => 0))), (a4, .inl (cI, 240, .inl (fun _ => 0))), (a5, .inl (cI, 40, .inl (fun _ => 0))), (a6, .inl (cI, 34, .inl (fun _ => 0))), (a7, .inl (cI, 34, .inl (fun _ => 0))), (a8, .inl (cI, 34, .inl (fun _ => 0)))] ++ r0) := hD
  refine lv_aload_n hx hb ddX9_init_69 rfl (lv_at hl 0 rfl) ?_
  refine lv_sipush (v := 1360) hx hb ddX9_init_70 (by decide) ?_
  refine va_newa (ty := .int) (N' := 1360) (a0 := (1360, .inl (fun _ => 0))) hx hb (hts _ (xw_in 148 (by decide +kernel) rfl)) rfl hK hP hD hS hA (fun _ => rfl) (by decide) (by decide) (by decide) (Nat.le_of_ble_eq_true rfl) (Nat.le_of_ble_eq_true rfl) ddX9_init_73 (fun a9 cA H hK hP hD hS => ?_)
  obtain rfl : cI = cA := xk_int hK (i := 0) (j := 1) rfl rfl
  have hK : va_K D vwCl [(cI, .int)] s := hK.sub (tys' := [(cI, .int)]) [0] rfl
  have hP := xj_mvP hP
  have hD := xj_mvD hD
  have hP : va_P D vwCl ([(h0, .inr (8, [.ref a1, .ref a2, .ref a3, .ref a4, .ref a5, .ref a6, .ref a7, .ref a8, .null, .int 0, .null, .null, .null, .int 0, .null, .int 0, .long 0, .long 0, .int 0, .int 0, .null])), (a1, .inl (cI, 6, .inl (fun _ => 0))), (a2, .inl (cI, 240, .inl (fun _ => 0))), (a3, .inl (cI, 4, .inl (fun _ => 0))), (a4, .inl (cI, 240, .inl (fun _ => 0))), (a5, .inl (cI, 40, .inl (fun _ => 0))), (a6, .inl (cI, 34, .inl (fun _ => 0))), (a7, .inl (cI, 34, .inl (fun _ => 0))), (a8, .inl (cI, 34, .inl (fun _ => 0))), (a9, .inl (cI, 1360, .inl (fun _ => 0)))] ++ r0) H := hP
  have hD : va_D A ([(h0, .inr (8, [.ref a1, .ref a2, .ref a3, .ref a4, .ref a5, .ref a6, .ref a7, .ref a8, .null, .int 0, .null, .null, .null, .int 0, .null, .int 0, .long 0, .long 0, .int 0, .int 0, .null])), (a1, .inl (cI, 6, .inl (fun _ => 0))), (a2, .inl (cI, 240, .inl (fun _ => 0))), (a3, .inl (cI, 4, .inl (fun _ => 0))), (a4, .inl (cI, 240, .inl (fun _ => 0))), (a5, .inl (cI, 40, .inl (fun _ => 0))), (a6, .inl (cI, 34, .inl (fun _ => 0))), (a7, .inl (cI, 34, .inl (fun _ => 0))), (a8, .inl (cI, 34, .inl (fun _ => 0))), (a9, .inl (cI, 1360, .inl (fun _ => 0)))] ++ r0) := hD
  refine W.widen (k := 9) (n := 1992) (by omega) (by omega) ?_
  refine va_putF (D := D) (ci := 8) (v := .ref a9) (ty := .array .int) (C := RX9) (T := TX9) (N := 21) hx hb hts xin_X9 tyX9 tyX9_ok nmX9 hown hK hP hD hS 0 rfl rfl 8 (by decide) (hts _ (xw_in 836 (by decide +kernel) rfl)) (fun _ h9 => h9) rfl hin rfl (by decide +kernel) rfl rfl (Nat.le_of_ble_eq_true rfl) ddX9_init_75 (fun H locs hP hD hS => ?_)
  have hP : va_P D vwCl ([(h0, .inr (8, [.ref a1, .ref a2, .ref a3, .ref a4, .ref a5, .ref a6, .ref a7, .ref a8, .ref a9, .int 0, .null, .null, .null, .int 0, .null, .int 0, .long 0, .long 0, .int 0, .int 0, .null])), (a1, .inl (cI, 6, .inl (fun _ => 0))), (a2, .inl (cI, 240, .inl (fun _ => 0))), (a3, .inl (cI, 4, .inl (fun _ => 0))), (a4, .inl (cI, 240, .inl (fun _ => 0))), (a5, .inl (cI, 40, .inl (fun _ => 0))), (a6, .inl (cI, 34, .inl (fun _ => 0))), (a7, .inl (cI, 34, .inl (fun _ => 0))), (a8, .inl (cI, 34, .inl (fun _ => 0))), (a9, .inl (cI, 1360, .inl (fun _ => 0)))] ++ r0) H := hP
  have hD : va_D A ([(h0, .inr (8, [.ref a1, .ref a2, .ref a3, .ref a4, .ref a5, .ref a6, .ref a7, .ref a8, .ref a9, .int 0, .null, .null, .null, .int 0, .null, .int 0, .long 0, .long 0, .int 0, .int 0, .null])), (a1, .inl (cI, 6, .inl (fun _ => 0))), (a2, .inl (cI, 240, .inl (fun _ => 0))), (a3, .inl (cI, 4, .inl (fun _ => 0))), (a4, .inl (cI, 240, .inl (fun _ => 0))), (a5, .inl (cI, 40, .inl (fun _ => 0))), (a6, .inl (cI, 34, .inl (fun _ => 0))), (a7, .inl (cI, 34, .inl (fun _ => 0))), (a8, .inl (cI, 34, .inl (fun _ => 0))), (a9, .inl (cI, 1360, .inl (fun _ => 0)))] ++ r0) := hD
  refine lv_aload_n hx hb ddX9_init_78 rfl (lv_at hl 0 rfl) ?_
  refine lv_bipush (v := 102) hx hb ddX9_init_79 (by decide) ?_
  refine va_newa (ty := .int) (N' := 102) (a0 := (102, .inl (fun _ => 0))) hx hb (hts _ (xw_in 148 (by decide +kernel) rfl)) rfl hK hP hD hS hA (fun _ => rfl) (by decide) (by decide) (by decide) (Nat.le_of_ble_eq_true rfl) (Nat.le_of_ble_eq_true rfl) ddX9_init_81 (fun a10 cA H hK hP hD hS => ?_)
  obtain rfl : cI = cA := xk_int hK (i := 0) (j := 1) rfl rfl
  have hK : va_K D vwCl [(cI, .int)] s := hK.sub (tys' := [(cI, .int)]) [0] rfl
  have hP := xj_mvP hP
  have hD := xj_mvD hD
  have hP : va_P D vwCl ([(h0, .inr (8, [.ref a1, .ref a2, .ref a3, .ref a4, .ref a5, .ref a6, .ref a7, .ref a8, .ref a9, .int 0, .null, .null, .null, .int 0, .null, .int 0, .long 0, .long 0, .int 0, .int 0, .null])), (a1, .inl (cI, 6, .inl (fun _ => 0))), (a2, .inl (cI, 240, .inl (fun _ => 0))), (a3, .inl (cI, 4, .inl (fun _ => 0))), (a4, .inl (cI, 240, .inl (fun _ => 0))), (a5, .inl (cI, 40, .inl (fun _ => 0))), (a6, .inl (cI, 34, .inl (fun _ => 0))), (a7, .inl (cI, 34, .inl (fun _ => 0))), (a8, .inl (cI, 34, .inl (fun _ => 0))), (a9, .inl (cI, 1360, .inl (fun _ => 0))), (a10, .inl (cI, 102, .inl (fun _ => 0)))] ++ r0) H := hP
  have hD : va_D A ([(h0, .inr (8, [.ref a1, .ref a2, .ref a3, .ref a4, .ref a5, .ref a6, .ref a7, .ref a8, .ref a9, .int 0, .null, .null, .null, .int 0, .null, .int 0, .long 0, .long 0, .int 0, .int 0, .null])), (a1, .inl (cI, 6, .inl (fun _ => 0))), (a2, .inl (cI, 240, .inl (fun _ => 0))), (a3, .inl (cI, 4, .inl (fun _ => 0))), (a4, .inl (cI, 240, .inl (fun _ => 0))), (a5, .inl (cI, 40, .inl (fun _ => 0))), (a6, .inl (cI, 34, .inl (fun _ => 0))), (a7, .inl (cI, 34, .inl (fun _ => 0))), (a8, .inl (cI, 34, .inl (fun _ => 0))), (a9, .inl (cI, 1360, .inl (fun _ => 0))), (a10, .inl (cI, 102, .inl (fun _ => 0)))] ++ r0) := hD
  refine W.widen (k := 10) (n := 2094) (by omega) (by omega) ?_
  refine va_putF (D := D) (ci := 8) (v := .ref a10) (ty := .array .int) (C := RX9) (T := TX9) (N := 21) hx hb hts xin_X9 tyX9 tyX9_ok nmX9 hown hK hP hD hS 0 rfl rfl 10 (by decide) (hts _ (xw_in 838 (by decide +kernel) rfl)) (fun _ h9 => h9) rfl hin rfl (by decide +kernel) rfl rfl (Nat.le_of_ble_eq_true rfl) ddX9_init_83 (fun H locs hP hD hS => ?_)
  have hP : va_P D vwCl ([(h0, .inr (8, [.ref a1, .ref a2, .ref a3, .ref a4, .ref a5, .ref a6, .ref a7, .ref a8, .ref a9, .int 0, .ref a10, .null, .null, .int 0, .null, .int 0, .long 0, .long 0, .int 0, .int 0, .null])), (a1, .inl (cI, 6, .inl (fun _ => 0))), (a2, .inl (cI, 240, .inl (fun _ => 0))), (a3, .inl (cI, 4, .inl (fun _ => 0))), (a4, .inl (cI, 240, .inl (fun _ => 0))), (a5, .inl (cI, 40, .inl (fun _ => 0))), (a6, .inl (cI, 34, .inl (fun _ => 0))), (a7, .inl (cI, 34, .inl (fun _ => 0))), (a8, .inl (cI, 34, .inl (fun _ => 0))), (a9, .inl (cI, 1360, .inl (fun _ => 0))), (a10, .inl (cI, 102, .inl (fun _ => 0)))] ++ r0) H := hP
  have hD : va_D A ([(h0, .inr (8, [.ref a1, .ref a2, .ref a3, .ref a4, .ref a5, .ref a6, .ref a7, .ref a8, .ref a9, .int 0, .ref a10, .null, .null, .int 0, .null, .int 0, .long 0, .long 0, .int 0, .int 0, .null])), (a1, .inl (cI, 6, .inl (fun _ => 0))), (a2, .inl (cI, 240, .inl (fun _ => 0))), (a3, .inl (cI, 4, .inl (fun _ => 0))), (a4, .inl (cI, 240, .inl (fun _ => 0))), (a5, .inl (cI, 40, .inl (fun _ => 0))), (a6, .inl (cI, 34, .inl (fun _ => 0))), (a7, .inl (cI, 34, .inl (fun _ => 0))), (a8, .inl (cI, 34, .inl (fun _ => 0))), (a9, .inl (cI, 1360, .inl (fun _ => 0))), (a10, .inl (cI, 102, .inl (fun _ => 0)))] ++ r0) := hD
  refine lv_aload_n hx hb ddX9_init_86 rfl (lv_at hl 0 rfl) ?_
  refine lv_sipush (v := 4080) hx hb ddX9_init_87 (by decide) ?_
  refine va_newa (ty := .int) (N' := 4080) (a0 := (4080, .inl (fun _ => 0))) hx hb (hts _ (xw_in 148 (by decide +kernel) rfl)) rfl hK hP hD hS hA (fun _ => rfl) (by decide) (by decide) (by decide) (Nat.le_of_ble_eq_true rfl) (Nat.le_of_ble_eq_true rfl) ddX9_init_90 (fun a11 cA H hK hP hD hS => ?_)
  obtain rfl : cI = cA := xk_int hK (i := 0) (j := 1) rfl rfl
  have hK : va_K D vwCl [(cI, .int)] s := hK.sub (tys' := [(cI, .int)]) [0] rfl
  have hP := xj_mvP hP
  have hD := xj_mvD hD
  have hP : va_P D vwCl ([(h0, .inr (8, [.ref a1, .ref a2, .ref a3, .ref a4, .ref a5, .ref a6, .ref a7, .ref a8, .ref a9, .int 0, .ref a10, .null, .null, .int 0, .null, .int 0, .long 0, .long 0, .int 0, .int 0, .null])), (a1, .inl (cI, 6, .inl (fun _ => 0))), (a2, .inl (cI, 240, .inl (fun _ => 0))), (a3, .inl (cI, 4, .inl (fun _ => 0))), (a4, .inl (cI, 240, .inl (fun _ => 0))), (a5, .inl (cI, 40, .inl (fun _ => 0))), (a6, .inl (cI, 34, .inl (fun _ => 0))), (a7, .inl (cI, 34, .inl (fun _ => 0))), (a8, .inl (cI, 34, .inl (fun _ => 0))), (a9, .inl (cI, 1360, .inl (fun _ => 0))), (a10, .inl (cI, 102, .inl (fun _ => 0))), (a11, .inl (cI, 4080, .inl (fun _ => 0)))] ++ r0) H := hP
  have hD : va_D A ([(h0, .inr (8, [.ref a1, .ref a2, .ref a3, .ref a4, .ref a5, .ref a6, .ref a7, .ref a8, .ref a9, .int 0, .ref a10, .null, .null, .int 0, .null, .int 0, .long 0, .long 0, .int 0, .int 0, .null])), (a1, .inl (cI, 6, .inl (fun _ => 0))), (a2, .inl (cI, 240, .inl (fun _ => 0))), (a3, .inl (cI, 4, .inl (fun _ => 0))), (a4, .inl (cI, 240, .inl (fun _ => 0))), (a5, .inl (cI, 40, .inl (fun _ => 0))), (a6, .inl (cI, 34, .inl (fun _ => 0))), (a7, .inl (cI, 34, .inl (fun _ => 0))), (a8, .inl (cI, 34, .inl (fun _ => 0))), (a9, .inl (cI, 1360, .inl (fun _ => 0))), (a10, .inl (cI, 102, .inl (fun _ => 0))), (a11, .inl (cI, 4080, .inl (fun _ => 0)))] ++ r0) := hD
  refine W.widen (k := 11) (n := 6174) (by omega) (by omega) ?_
  refine va_putF (D := D) (ci := 8) (v := .ref a11) (ty := .array .int) (C := RX9) (T := TX9) (N := 21) hx hb hts xin_X9 tyX9 tyX9_ok nmX9 hown hK hP hD hS 0 rfl rfl 11 (by decide) (hts _ (xw_in 839 (by decide +kernel) rfl)) (fun _ h9 => h9) rfl hin rfl (by decide +kernel) rfl rfl (Nat.le_of_ble_eq_true rfl) ddX9_init_92 (fun H locs hP hD hS => ?_)
  have hP : va_P D vwCl ([(h0, .inr (8, [.ref a1, .ref a2, .ref a3, .ref a4, .ref a5, .ref a6, .ref a7, .ref a8, .ref a9, .int 0, .ref a10, .ref a11, .null, .int 0, .null, .int 0, .long 0, .long 0, .int 0, .int 0, .null])), (a1, .inl (cI, 6, .inl (fun _ => 0))), (a2, .inl (cI, 240, .inl (fun _ => 0))), (a3, .inl (cI, 4, .inl (fun _ => 0))), (a4, .inl (cI, 240, .inl (fun _ => 0))), (a5, .inl (cI, 40, .inl (fun _ => 0))), (a6, .inl (cI, 34, .inl (fun _ => 0))), (a7, .inl (cI, 34, .inl (fun _ => 0))), (a8, .inl (cI, 34, .inl (fun _ => 0))), (a9, .inl (cI, 1360, .inl (fun _ => 0))), (a10, .inl (cI, 102, .inl (fun _ => 0))), (a11, .inl (cI, 4080, .inl (fun _ => 0)))] ++ r0) H := hP
  have hD : va_D A ([(h0, .inr (8, [.ref a1, .ref a2, .ref a3, .ref a4, .ref a5, .ref a6, .ref a7, .ref a8, .ref a9, .int 0, .ref a10, .ref a11, .null, .int 0, .null, .int 0, .long 0, .long 0, .int 0, .int 0, .null])), (a1, .inl (cI, 6, .inl (fun _ => 0))), (a2, .inl (cI, 240, .inl (fun _ => 0))), (a3, .inl (cI, 4, .inl (fun _ => 0))), (a4, .inl (cI, 240, .inl (fun _ => 0))), (a5, .inl (cI, 40, .inl (fun _ => 0))), (a6, .inl (cI, 34, .inl (fun _ => 0))), (a7, .inl (cI, 34, .inl (fun _ => 0))), (a8, .inl (cI, 34, .inl (fun _ => 0))), (a9, .inl (cI, 1360, .inl (fun _ => 0))), (a10, .inl (cI, 102, .inl (fun _ => 0))), (a11, .inl (cI, 4080, .inl (fun _ => 0)))] ++ r0) := hD
  refine lv_aload_n hx hb ddX9_init_95 rfl (lv_at hl 0 rfl) ?_
  refine lv_iconst (v := 3) hx hb ddX9_init_96 (by decide) ?_
  refine va_newa (ty := .int) (N' := 3) (a0 := (3, .inl (fun _ => 0))) hx hb (hts _ (xw_in 148 (by decide +kernel) rfl)) rfl hK hP hD hS hA (fun _ => rfl) (by decide) (by decide) (by decide) (Nat.le_of_ble_eq_true rfl) (Nat.le_of_ble_eq_true rfl) ddX9_init_97 (fun a12 cA H hK hP hD hS => ?_)
  obtain rfl : cI = cA := xk_int hK (i := 0) (j := 1) rfl rfl
  have hK : va_K D vwCl [(cI, .int)] s := hK.sub (tys' := [(cI, .int)]) [0] rfl
  have hP := xj_mvP hP
  have hD := xj_mvD hD
  have hP : va_P D vwCl ([(h0, .inr (8, [.ref a1, .ref a2, .ref a3, .ref a4, .ref a5, .ref a6, .ref a7, .ref a8, .ref a9, .int 0, .ref a10, .ref a11, .null, .int 0, .null, .int 0, .long 0, .long 0, .int 0, .int 0, .null])), (a1, .inl (cI, 6, .inl (fun _ => 0))), (a2, .inl (cI, 240, .inl (fun _ => 0))), (a3, .inl (cI, 4, .inl (fun _ => 0))), (a4, .inl (cI, 240, .inl (fun _ => 0))), (a5, .inl (cI, 40, .inl (fun _ => 0))), (a6, .inl (cI, 34, .inl (fun _ => 0))), (a7, .inl (cI, 34, .inl (fun _ => 0))), (a8, .inl (cI, 34, .inl (fun _ => 0))), (a9, .inl (cI, 1360, .inl (fun _ => 0))), (a10, .inl (cI, 102, .inl (fun _ => 0))), (a11, .inl (cI, 4080, .inl (fun _ => 0))), (a12, .inl (cI, 3, .inl (fun _ => 0)))] ++ r0) H := hP
  have hD : va_D A ([(h0, .inr (8, [.ref a1, .ref a2, .ref a3, .ref a4, .ref a5, .ref a6, .ref a7, .ref a8, .ref a9, .int 0, .ref a10, .ref a11, .null, .int 0, .null, .int 0, .long 0, .long 0, .int 0, .int 0, .null])), (a1, .inl (cI, 6, .inl (fun _ => 0))), (a2, .inl (cI, 240, .inl (fun _ => 0))), (a3, .inl (cI, 4, .inl (fun _ => 0))), (a4, .inl (cI, 240, .inl (fun _ => 0))), (a5, .inl (cI, 40, .inl (fun _ => 0))), (a6, .inl (cI, 34, .inl (fun _ => 0))), (a7, .inl (cI, 34, .inl (fun _ => 0))), (a8, .inl (cI, 34, .inl (fun _ => 0))), (a9, .inl (cI, 1360, .inl (fun _ => 0))), (a10, .inl (cI, 102, .inl (fun _ => 0))), (a11, .inl (cI, 4080, .inl (fun _ => 0))), (a12, .inl (cI, 3, .inl (fun _ => 0)))] ++ r0) := hD
  refine W.widen (k := 12) (n := 6177) (by omega) (by omega) ?_
  refine va_putF (D := D) (ci := 8) (v := .ref a12) (ty := .array .int) (C := RX9) (T := TX9) (N := 21) hx hb hts xin_X9 tyX9 tyX9_ok nmX9 hown hK hP hD hS 0 rfl rfl 12 (by decide) (hts _ (xw_in 840 (by decide +kernel) rfl)) (fun _ h9 => h9) rfl hin rfl (by decide +kernel) rfl rfl (Nat.le_of_ble_eq_true rfl) ddX9_init_99 (fun H locs hP hD hS => ?_)
  have hP : va_P D vwCl ([(h0, .inr (8, [.ref a1, .ref a2, .ref a3, .ref a4, .ref a5, .ref a6, .ref a7, .ref a8, .ref a9, .int 0, .ref a10, .ref a11, .ref a12, .int 0, .null, .int 0, .long 0, .long 0, .int 0, .int 0, .null])), (a1, .inl (cI, 6, .inl (fun _ => 0))), (a2, .inl (cI, 240, .inl (fun _ => 0))), (a3, .inl (cI, 4, .inl (fun _ => 0))), (a4, .inl (cI, 240, .inl (fun _ => 0))), (a5, .inl (cI, 40, .inl (fun _ => 0))), (a6, .inl (cI, 34, .inl (fun _ => 0))), (a7, .inl (cI, 34, .inl (fun _ => 0))), (a8, .inl (cI, 34, .inl (fun _ => 0))), (a9, .inl (cI, 1360, .inl (fun _ => 0))), (a10, .inl (cI, 102, .inl (fun _ => 0))), (a11, .inl (cI, 4080, .inl (fun _ => 0))), (a12, .inl (cI, 3, .inl (fun _ => 0)))] ++ r0) H := hP
  have hD : va_D A ([(h0, .inr (8, [.ref a1, .ref a2, .ref a3, .ref a4, .ref a5, .ref a6, .ref a7, .ref a8, .ref a9, .int 0, .ref a10, .ref a11, .ref a12, .int 0, .null, .int 0, .long 0, .long 0, .int 0, .int 0, .null])), (a1, .inl (cI, 6, .inl (fun _ => 0))), (a2, .inl (cI, 240, .inl (fun _ => 0))), (a3, .inl (cI, 4, .inl (fun _ => 0))), (a4, .inl (cI, 240, .inl (fun _ => 0))), (a5, .inl (cI, 40, .inl (fun _ => 0))), (a6, .inl (cI, 34, .inl (fun _ => 0))), (a7, .inl (cI, 34, .inl (fun _ => 0))), (a8, .inl (cI, 34, .inl (fun _ => 0))), (a9, .inl (cI, 1360, .inl (fun _ => 0))), (a10, .inl (cI, 102, .inl (fun _ => 0))), (a11, .inl (cI, 4080, .inl (fun _ => 0))), (a12, .inl (cI, 3, .inl (fun _ => 0)))] ++ r0) := hD
  refine lv_aload_n hx hb ddX9_init_102 rfl (lv_at hl 0 rfl) ?_
  refine lv_bipush (v := 6) hx hb ddX9_init_103 (by decide) ?_
  refine va_newa (ty := .int) (N' := 6) (a0 := (6, .inl (fun _ => 0))) hx hb (hts _ (xw_in 148 (by decide +kernel) rfl)) rfl hK hP hD hS hA (fun _ => rfl) (by decide) (by decide) (by decide) (Nat.le_of_ble_eq_true rfl) (Nat.le_of_ble_eq_true rfl) ddX9_init_105 (fun a13 cA H hK hP hD hS => ?_)
  obtain rfl : cI = cA := xk_int hK (i := 0) (j := 1) rfl rfl
  have hK : va_K D vwCl [(cI, .int)] s := hK.sub (tys' := [(cI, .int)]) [0] rfl
  have hP := xj_mvP hP
  have hD := xj_mvD hD
  have hP : va_P D vwCl ([(h0, .inr (8, [.ref a1, .ref a2, .ref a3, .ref a4, .ref a5, .ref a6, .ref a7, .ref a8, .ref a9, .int 0, .ref a10, .ref a11, .ref a12, .int 0, .null, .int 0, .long 0, .long 0, .int 0, .int 0, .null])), (a1, .inl (cI, 6, .inl (fun _ => 0))), (a2, .inl (cI, 240, .inl (fun _ => 0))), (a3, .inl (cI, 4, .inl (fun _ => 0))), (a4, .inl (cI, 240, .inl (fun _ => 0))), (a5, .inl (cI, 40, .inl (fun _ => 0))), (a6, .inl (cI, 34, .inl (fun _ => 0))), (a7, .inl (cI, 34, .inl (fun _ => 0))), (a8, .inl (cI, 34, .inl (fun _ => 0))), (a9, .inl (cI, 1360, .inl (fun _ => 0))), (a10, .inl (cI, 102, .inl (fun _ => 0))), (a11, .inl (cI, 4080, .inl (fun _ => 0))), (a12, .inl (cI, 3, .inl (fun _ => 0))), (a13, .inl (cI, 6, .inl (fun _ => 0)))] ++ r0) H := hP
  have hD : va_D A ([(h0, .inr (8, [.ref a1, .ref a2, .ref a3, .ref a4, .ref a5, .ref a6, .ref a7, .ref a8, .ref a9, .int 0, .ref a10, .ref a11, .ref a12, .int 0, .null, .int 0, .long 0, .long 0, .int 0, .int 0, .null])), (a1, .inl (cI, 6, .inl (fun _ => 0))), (a2, .inl (cI, 240, .inl (fun _ => 0))), (a3, .inl (cI, 4, .inl (fun _ => 0))), (a4, .inl (cI, 240, .inl (fun _ => 0))), (a5, .inl (cI, 40, .inl (fun _ => 0))), (a6, .inl (cI, 34, .inl (fun _ => 0))), (a7, .inl (cI, 34, .inl (fun _ => 0))), (a8, .inl (cI, 34, .inl (fun _ => 0))), (a9, .inl (cI, 1360, .inl (fun _ => 0))), (a10, .inl (cI, 102, .inl (fun _ => 0))), (a11, .inl (cI, 4080, .inl (fun _ => 0))), (a12, .inl (cI, 3, .inl (fun _ => 0))), (a13, .inl (cI, 6, .inl (fun _ => 0)))] ++ r0) := hD
  refine W.widen (k := 13) (n := 6183) (by omega) (by omega) ?_
  refine va_putF (D := D) (ci := 8) (v := .ref a13) (ty := .array .int) (C := RX9) (T := TX9) (N := 21) hx hb hts xin_X9 tyX9 tyX9_ok nmX9 hown hK hP hD hS 0 rfl rfl 14 (by decide) (hts _ (xw_in 842 (by decide +kernel) rfl)) (fun _ h9 => h9) rfl hin rfl (by decide +kernel) rfl rfl (Nat.le_of_ble_eq_true rfl) ddX9_init_107 (fun H locs hP hD hS => ?_)
  have hP : va_P D vwCl ([(h0, .inr (8, [.ref a1, .ref a2, .ref a3, .ref a4, .ref a5, .ref a6, .ref a7, .ref a8, .ref a9, .int 0, .ref a10, .ref a11, .ref a12, .int 0, .ref a13, .int 0, .long 0, .long 0, .int 0, .int 0, .null])), (a1, .inl (cI, 6, .inl (fun _ => 0))), (a2, .inl (cI, 240, .inl (fun _ => 0))), (a3, .inl (cI, 4, .inl (fun _ => 0))), (a4, .inl (cI, 240, .inl (fun _ => 0))), (a5, .inl (cI, 40, .inl (fun _ => 0))), (a6, .inl (cI, 34, .inl (fun _ => 0))), (a7, .inl (cI, 34, .inl (fun _ => 0))), (a8, .inl (cI, 34, .inl (fun _ => 0))), (a9, .inl (cI, 1360, .inl (fun _ => 0))), (a10, .inl (cI, 102, .inl (fun _ => 0))), (a11, .inl (cI, 4080, .inl (fun _ => 0))), (a12, .inl (cI, 3, .inl (fun _ => 0))), (a13, .inl (cI, 6, .inl (fun _ => 0)))] ++ r0) H := hP
  have hD : va_D A ([(h0, .inr (8, [.ref a1, .ref a2, .ref a3, .ref a4, .ref a5, .ref a6, .ref a7, .ref a8, .ref a9, .int 0, .ref a10, .ref a11, .ref a12, .int 0, .ref a13, .int 0, .long 0, .long 0, .int 0, .int 0, .null])), (a1, .inl (cI, 6, .inl (fun _ => 0))), (a2, .inl (cI, 240, .inl (fun _ => 0))), (a3, .inl (cI, 4, .inl (fun _ => 0))), (a4, .inl (cI, 240, .inl (fun _ => 0))), (a5, .inl (cI, 40, .inl (fun _ => 0))), (a6, .inl (cI, 34, .inl (fun _ => 0))), (a7, .inl (cI, 34, .inl (fun _ => 0))), (a8, .inl (cI, 34, .inl (fun _ => 0))), (a9, .inl (cI, 1360, .inl (fun _ => 0))), (a10, .inl (cI, 102, .inl (fun _ => 0))), (a11, .inl (cI, 4080, .inl (fun _ => 0))), (a12, .inl (cI, 3, .inl (fun _ => 0))), (a13, .inl (cI, 6, .inl (fun _ => 0)))] ++ r0) := hD
  refine lv_aload_n hx hb ddX9_init_110 rfl (lv_at hl 0 rfl) ?_
  refine lv_lconst (v := 1) hx hb ddX9_init_111 (by decide) ?_
  refine va_put (D := D) (ci := 8) (v := .long 1) (ty := .long) (C := RX9) (T := TX9) (N := 21) hx hb hts xin_X9 tyX9 tyX9_ok nmX9 hown hK hP hD hS 0 rfl rfl 17 (by decide) (hts _ (xw_in 845 (by decide +kernel) rfl)) (fun _ h9 => h9) rfl (by decide +kernel) rfl rfl (Nat.le_of_ble_eq_true rfl) ddX9_init_112 (fun H locs hP hD hS => ?_)
  have hP : va_P D vwCl ([(h0, .inr (8, [.ref a1, .ref a2, .ref a3, .ref a4, .ref a5, .ref a6, .ref a7, .ref a8, .ref a9, .int 0, .ref a10, .ref a11, .ref a12, .int 0, .ref a13, .int 0, .long 0, .long 1, .int 0, .int 0, .null])), (a1, .inl (cI, 6, .inl (fun _ => 0))), (a2, .inl (cI, 240, .inl (fun _ => 0))), (a3, .inl (cI, 4, .inl (fun _ => 0))), (a4, .inl (cI, 240, .inl (fun _ => 0))), (a5, .inl (cI, 40, .inl (fun _ => 0))), (a6, .inl (cI, 34, .inl (fun _ => 0))), (a7, .inl (cI, 34, .inl (fun _ => 0))), (a8, .inl (cI, 34, .inl (fun _ => 0))), (a9, .inl (cI, 1360, .inl (fun _ => 0))), (a10, .inl (cI, 102, .inl (fun _ => 0))), (a11, .inl (cI, 4080, .inl (fun _ => 0))), (a12, .inl (cI, 3, .inl (fun _ => 0))), (a13, .inl (cI, 6, .inl (fun _ => 0)))] ++ r0) H := hP
  have hD : va_D A ([(h0, .inr (8, [.ref a1, .ref a2, .ref a3, .ref a4, .ref a5, .ref a6, .ref a7, .ref a8, .ref a9, .int 0, .ref a10, .ref a11, .ref a12, .int 0, .ref a13, .int 0, .long 0, .long 1, .int 0, .int 0, .null])), (a1, .inl (cI, 6, .inl (fun _ => 0))), (a2, .inl (cI, 240, .inl (fun _ => 0))), (a3, .inl (cI, 4, .inl (fun _ => 0))), (a4, .inl (cI, 240, .inl (fun _ => 0))), (a5, .inl (cI, 40, .inl (fun _ => 0))), (a6, .inl (cI, 34, .inl (fun _ => 0))), (a7, .inl (cI, 34, .inl (fun _ => 0))), (a8, .inl (cI, 34, .inl (fun _ => 0))), (a9, .inl (cI, 1360, .inl (fun _ => 0))), (a10, .inl (cI, 102, .inl (fun _ => 0))), (a11, .inl (cI, 4080, .inl (fun _ => 0))), (a12, .inl (cI, 3, .inl (fun _ => 0))), (a13, .inl (cI, 6, .inl (fun _ => 0)))] ++ r0) := hD
  refine lv_aload_n hx hb ddX9_init_115 rfl (lv_at hl 0 rfl) ?_
  refine lv_sipush (v := 6561) hx hb ddX9_init_116 (by decide) ?_
  refine va_newa (ty := .int) (N' := 6561) (a0 := (6561, .inl (fun _ => 0))) hx hb (hts _ (xw_in 148 (by decide +kernel) rfl)) rfl hK hP hD hS hA (fun _ => rfl) (by decide) (by decide) (by decide) (Nat.le_of_ble_eq_true rfl) (Nat.le_of_ble_eq_true rfl) ddX9_init_119 (fun a14 cA H hK hP hD hS => ?_)
  obtain rfl : cI = cA := xk_int hK (i := 0) (j := 1) rfl rfl
  have hK : va_K D vwCl [(cI, .int)] s := hK.sub (tys' := [(cI, .int)]) [0] rfl
  have hP := xj_mvP hP
  have hD := xj_mvD hD
  have hP : va_P D vwCl ([(h0, .inr (8, [.ref a1, .ref a2, .ref a3, .ref a4, .ref a5, .ref a6, .ref a7, .ref a8, .ref a9, .int 0, .ref a10, .ref a11, .ref a12, .int 0, .ref a13, .int 0, .long 0, .long 1, .int 0, .int 0, .null])), (a1, .inl (cI, 6, .inl (fun _ => 0))), (a2, .inl (cI, 240, .inl (fun _ => 0))), (a3, .inl (cI, 4, .inl (fun _ => 0))), (a4, .inl (cI, 240, .inl (fun _ => 0))), (a5, .inl (cI, 40, .inl (fun _ => 0))), (a6, .inl (cI, 34, .inl (fun _ => 0))), (a7, .inl (cI, 34, .inl (fun _ => 0))), (a8, .inl (cI, 34, .inl (fun _ => 0))), (a9, .inl (cI, 1360, .inl (fun _ => 0))), (a10, .inl (cI, 102, .inl (fun _ => 0))), (a11, .inl (cI, 4080, .inl (fun _ => 0))), (a12, .inl (cI, 3, .inl (fun _ => 0))), (a13, .inl (cI, 6, .inl (fun _ => 0))), (a14, .inl (cI, 6561, .inl (fun _ => 0)))] ++ r0) H := hP
  have hD : va_D A ([(h0, .inr (8, [.ref a1, .ref a2, .ref a3, .ref a4, .ref a5, .ref a6, .ref a7, .ref a8, .ref a9, .int 0, .ref a10, .ref a11, .ref a12, .int 0, .ref a13, .int 0, .long 0, .long 1, .int 0, .int 0, .null])), (a1, .inl (cI, 6, .inl (fun _ => 0))), (a2, .inl (cI, 240, .inl (fun _ => 0))), (a3, .inl (cI, 4, .inl (fun _ => 0))), (a4, .inl (cI, 240, .inl (fun _ => 0))), (a5, .inl (cI, 40, .inl (fun _ => 0))), (a6, .inl (cI, 34, .inl (fun _ => 0))), (a7, .inl (cI, 34, .inl (fun _ => 0))), (a8, .inl (cI, 34, .inl (fun _ => 0))), (a9, .inl (cI, 1360, .inl (fun _ => 0))), (a10, .inl (cI, 102, .inl (fun _ => 0))), (a11, .inl (cI, 4080, .inl (fun _ => 0))), (a12, .inl (cI, 3, .inl (fun _ => 0))), (a13, .inl (cI, 6, .inl (fun _ => 0))), (a14, .inl (cI, 6561, .inl (fun _ => 0)))] ++ r0) := hD
  refine W.widen (k := 14) (n := 12744) (by omega) (by omega) ?_
  refine va_putF (D := D) (ci := 8) (v := .ref a14) (ty := .array .int) (C := RX9) (T := TX9) (N := 21) hx hb hts xin_X9 tyX9 tyX9_ok nmX9 hown hK hP hD hS 0 rfl rfl 20 (by decide) (hts _ (xw_in 848 (by decide +kernel) rfl)) (fun _ h9 => h9) rfl hin rfl (by decide +kernel) rfl rfl (Nat.le_of_ble_eq_true rfl) ddX9_init_121 (fun H locs hP hD hS => ?_)
  have hP : va_P D vwCl ([(h0, .inr (8, [.ref a1, .ref a2, .ref a3, .ref a4, .ref a5, .ref a6, .ref a7, .ref a8, .ref a9, .int 0, .ref a10, .ref a11, .ref a12, .int 0, .ref a13, .int 0, .long 0, .long 1, .int 0, .int 0, .ref a14])), (a1, .inl (cI, 6, .inl (fun _ => 0))), (a2, .inl (cI, 240, .inl (fun _ => 0))), (a3, .inl (cI, 4, .inl (fun _ => 0))), (a4, .inl (cI, 240, .inl (fun _ => 0))), (a5, .inl (cI, 40, .inl (fun _ => 0))), (a6, .inl (cI, 34, .inl (fun _ => 0))), (a7, .inl (cI, 34, .inl (fun _ => 0))), (a8, .inl (cI, 34, .inl (fun _ => 0))), (a9, .inl (cI, 1360, .inl (fun _ => 0))), (a10, .inl (cI, 102, .inl (fun _ => 0))), (a11, .inl (cI, 4080, .inl (fun _ => 0))), (a12, .inl (cI, 3, .inl (fun _ => 0))), (a13, .inl (cI, 6, .inl (fun _ => 0))), (a14, .inl (cI, 6561, .inl (fun _ => 0)))] ++ r0) H := hP
  have hD : va_D A ([(h0, .inr (8, [.ref a1, .ref a2, .ref a3, .ref a4, .ref a5, .ref a6, .ref a7, .ref a8, .ref a9, .int 0, .ref a10, .ref a11, .ref a12, .int 0, .ref a13, .int 0, .long 0, .long 1, .int 0, .int 0, .ref a14])), (a1, .inl (cI, 6, .inl (fun _ => 0))), (a2, .inl (cI, 240, .inl (fun _ => 0))), (a3, .inl (cI, 4, .inl (fun _ => 0))), (a4, .inl (cI, 240, .inl (fun _ => 0))), (a5, .inl (cI, 40, .inl (fun _ => 0))), (a6, .inl (cI, 34, .inl (fun _ => 0))), (a7, .inl (cI, 34, .inl (fun _ => 0))), (a8, .inl (cI, 34, .inl (fun _ => 0))), (a9, .inl (cI, 1360, .inl (fun _ => 0))), (a10, .inl (cI, 102, .inl (fun _ => 0))), (a11, .inl (cI, 4080, .inl (fun _ => 0))), (a12, .inl (cI, 3, .inl (fun _ => 0))), (a13, .inl (cI, 6, .inl (fun _ => 0))), (a14, .inl (cI, 6561, .inl (fun _ => 0)))] ++ r0) := hD
  refine lv_iconst (v := 0) hx hb ddX9_init_124 (by decide) ?_
  refine lv_istore_n (lv' := [(1, .int 0), (0, .ref h0)]) hx hb ddX9_init_125 rfl hl (by decide) rfl (fun ls hl => ?_)
  refine lv_iload_n hx hb ddX9_init_126 rfl (lv_at hl 0 rfl) ?_
  refine lv_bipush (v := 6) hx hb ddX9_init_127 (by decide) ?_
  refine lv_icmp_ge (tgt := 146) hx hb ddX9_init_129 (by decide) (fun c9 => absurd c9 (by decide)) (fun c9 => ?_)
  refine lv_aload_n hx hb ddX9_init_132 rfl (lv_at hl 1 rfl) ?_
  refine va_get (D := D) (ci := 8) (v := .ref a1) (C := RX9) (T := TX9) (N := 21) hx hb hts xin_X9 hown hK hP 0 rfl rfl 0 (by decide) (hts _ (xw_in 828 (by decide +kernel) rfl)) (fun _ h9 => h9) rfl ddX9_init_133 ?_
  refine lv_iload_n hx hb ddX9_init_136 rfl (lv_at hl 0 rfl) ?_
  refine lv_bipush (v := (-9)) hx hb ddX9_init_137 (by decide) ?_
  refine va_iast hx hb hK hP hD hS 1 0 rfl rfl (by unfold vp_in; decide) ddX9_init_139 (fun H locs hP hD hS => ?_)
  have hP : va_P D vwCl ([(h0, .inr (8, [.ref a1, .ref a2, .ref a3, .ref a4, .ref a5, .ref a6, .ref a7, .ref a8, .ref a9, .int 0, .ref a10, .ref a11, .ref a12, .int 0, .ref a13, .int 0, .long 0, .long 1, .int 0, .int 0, .ref a14])), (a1, .inl (cI, 6, .inl (upd (fun _ => 0) 0 (-9)))), (a2, .inl (cI, 240, .inl (fun _ => 0))), (a3, .inl (cI, 4, .inl (fun _ => 0))), (a4, .inl (cI, 240, .inl (fun _ => 0))), (a5, .inl (cI, 40, .inl (fun _ => 0))), (a6, .inl (cI, 34, .inl (fun _ => 0))), (a7, .inl (cI, 34, .inl (fun _ => 0))), (a8, .inl (cI, 34, .inl (fun _ => 0))), (a9, .inl (cI, 1360, .inl (fun _ => 0))), (a10, .inl (cI, 102, .inl (fun _ => 0))), (a11, .inl (cI, 4080, .inl (fun _ => 0))), (a12, .inl (cI, 3, .inl (fun _ => 0))), (a13, .inl (cI, 6, .inl (fun _ => 0))), (a14, .inl (cI, 6561, .inl (fun _ => 0)))] ++ r0) H := hP
  have hD : va_D A ([(h0, .inr (8, [.ref a1, .ref a2, .ref a3, .ref a4, .ref a5, .ref a6, .ref a7, .ref a8, .ref a9, .int 0, .ref a10, .ref a11, .ref a12, .int 0, .ref a13, .int 0, .long 0, .long 1, .int 0, .int 0, .ref a14])), (a1, .inl (cI, 6, .inl (upd (fun _ => 0) 0 (-9)))), (a2, .inl (cI, 240, .inl (fun _ => 0))), (a3, .inl (cI, 4, .inl (fun _ => 0))), (a4, .inl (cI, 240, .inl (fun _ => 0))), (a5, .inl (cI, 40, .inl (fun _ => 0))), (a6, .inl (cI, 34, .inl (fun _ => 0))), (a7, .inl (cI, 34, .inl (fun _ => 0))), (a8, .inl (cI, 34, .inl (fun _ => 0))), (a9, .inl (cI, 1360, .inl (fun _ => 0))), (a10, .inl (cI, 102, .inl (fun _ => 0))), (a11, .inl (cI, 4080, .inl (fun _ => 0))), (a12, .inl (cI, 3, .inl (fun _ => 0))), (a13, .inl (cI, 6, .inl (fun _ => 0))), (a14, .inl (cI, 6561, .inl (fun _ => 0)))] ++ r0) := hD
  refine lv_iinc (v := 1) (lv' := [(1, .int 1), (0, .ref h0)]) hx hb ddX9_init_140 hl (k := 0) rfl (by decide) (by decide) rfl (fun ls hl => ?_)
  refine lv_goto (tgt := 126) hx hb ddX9_init_143 (by decide) ?_
  refine lv_iload_n hx hb ddX9_init_126 rfl (lv_at hl 0 rfl) ?_
  refine lv_bipush (v := 6) hx hb ddX9_init_127 (by decide) ?_
  refine lv_icmp_ge (tgt := 146) hx hb ddX9_init_129 (by decide) (fun c9 => absurd c9 (by decide)) (fun c9 => ?_)
  refine lv_aload_n hx hb ddX9_init_132 rfl (lv_at hl 1 rfl) ?_
  refine va_get (D := D) (ci := 8) (v := .ref a1) (C := RX9) (T := TX9) (N := 21) hx hb hts xin_X9 hown hK hP 0 rfl rfl 0 (by decide) (hts _ (xw_in 828 (by decide +kernel) rfl)) (fun _ h9 => h9) rfl ddX9_init_133 ?_
  refine lv_iload_n hx hb ddX9_init_136 rfl (lv_at hl 0 rfl) ?_
  refine lv_bipush (v := (-9)) hx hb ddX9_init_137 (by decide) ?_
  refine va_iast hx hb hK hP hD hS 1 0 rfl rfl (by unfold vp_in; decide) ddX9_init_139 (fun H locs hP hD hS => ?_)
  have hP : va_P D vwCl ([(h0, .inr (8, [.ref a1, .ref a2, .ref a3, .ref a4, .ref a5, .ref a6, .ref a7, .ref a8, .ref a9, .int 0, .ref a10, .ref a11, .ref a12, .int 0, .ref a13, .int 0, .long 0, .long 1, .int 0, .int 0, .ref a14])), (a1, .inl (cI, 6, .inl (upd (upd (fun _ => 0) 0 (-9)) 1 (-9)))), (a2, .inl (cI, 240, .inl (fun _ => 0))), (a3, .inl (cI, 4, .inl (fun _ => 0))), (a4, .inl (cI, 240, .inl (fun _ => 0))), (a5, .inl (cI, 40, .inl (fun _ => 0))), (a6, .inl (cI, 34, .inl (fun _ => 0))), (a7, .inl (cI, 34, .inl (fun _ => 0))), (a8, .inl (cI, 34, .inl (fun _ => 0))), (a9, .inl (cI, 1360, .inl (fun _ => 0))), (a10, .inl (cI, 102, .inl (fun _ => 0))), (a11, .inl (cI, 4080, .inl (fun _ => 0))), (a12, .inl (cI, 3, .inl (fun _ => 0))), (a13, .inl (cI, 6, .inl (fun _ => 0))), (a14, .inl (cI, 6561, .inl (fun _ => 0)))] ++ r0) H := hP
  have hD : va_D A ([(h0, .inr (8, [.ref a1, .ref a2, .ref a3, .ref a4, .ref a5, .ref a6, .ref a7, .ref a8, .ref a9, .int 0, .ref a10, .ref a11, .ref a12, .int 0, .ref a13, .int 0, .long 0, .long 1, .int 0, .int 0, .ref a14])), (a1, .inl (cI, 6, .inl (upd (upd (fun _ => 0) 0 (-9)) 1 (-9)))), (a2, .inl (cI, 240, .inl (fun _ => 0))), (a3, .inl (cI, 4, .inl (fun _ => 0))), (a4, .inl (cI, 240, .inl (fun _ => 0))), (a5, .inl (cI, 40, .inl (fun _ => 0))), (a6, .inl (cI, 34, .inl (fun _ => 0))), (a7, .inl (cI, 34, .inl (fun _ => 0))), (a8, .inl (cI, 34, .inl (fun _ => 0))), (a9, .inl (cI, 1360, .inl (fun _ => 0))), (a10, .inl (cI, 102, .inl (fun _ => 0))), (a11, .inl (cI, 4080, .inl (fun _ => 0))), (a12, .inl (cI, 3, .inl (fun _ => 0))), (a13, .inl (cI, 6, .inl (fun _ => 0))), (a14, .inl (cI, 6561, .inl (fun _ => 0)))] ++ r0) := hD
  refine lv_iinc (v := 2) (lv' := [(1, .int 2), (0, .ref h0)]) hx hb ddX9_init_140 hl (k := 0) rfl (by decide) (by decide) rfl (fun ls hl => ?_)
  refine lv_goto (tgt := 126) hx hb ddX9_init_143 (by decide) ?_
  refine lv_iload_n hx hb ddX9_init_126 rfl (lv_at hl 0 rfl) ?_
  refine lv_bipush (v := 6) hx hb ddX9_init_127 (by decide) ?_
  refine lv_icmp_ge (tgt := 146) hx hb ddX9_init_129 (by decide) (fun c9 => absurd c9 (by decide)) (fun c9 => ?_)
  refine lv_aload_n hx hb ddX9_init_132 rfl (lv_at hl 1 rfl) ?_
  refine va_get (D := D) (ci := 8) (v := .ref a1) (C := RX9) (T := TX9) (N := 21) hx hb hts xin_X9 hown hK hP 0 rfl rfl 0 (by decide) (hts _ (xw_in 828 (by decide +kernel) rfl)) (fun _ h9 => h9) rfl ddX9_init_133 ?_
  refine lv_iload_n hx hb ddX9_init_136 rfl (lv_at hl 0 rfl) ?_
  refine lv_bipush (v := (-9)) hx hb ddX9_init_137 (by decide) ?_
  refine va_iast hx hb hK hP hD hS 1 0 rfl rfl (by unfold vp_in; decide) ddX9_init_139 (fun H locs hP hD hS => ?_)
  have hP : va_P D vwCl ([(h0, .inr (8, [.ref a1, .ref a2, .ref a3, .ref a4, .ref a5, .ref a6, .ref a7, .ref a8, .ref a9, .int 0, .ref a10, .ref a11, .ref a12, .int 0, .ref a13, .int 0, .long 0, .long 1, .int 0, .int 0, .ref a14])), (a1, .inl (cI, 6, .inl (upd (upd (upd (fun _ => 0) 0 (-9)) 1 (-9)) 2 (-9)))), (a2, .inl (cI, 240, .inl (fun _ => 0))), (a3, .inl (cI, 4, .inl (fun _ => 0))), (a4, .inl (cI, 240, .inl (fun _ => 0))), (a5, .inl (cI, 40, .inl (fun _ => 0))), (a6, .inl (cI, 34, .inl (fun _ => 0))), (a7, .inl (cI, 34, .inl (fun _ => 0))), (a8, .inl (cI, 34, .inl (fun _ => 0))), (a9, .inl (cI, 1360, .inl (fun _ => 0))), (a10, .inl (cI, 102, .inl (fun _ => 0))), (a11, .inl (cI, 4080, .inl (fun _ => 0))), (a12, .inl (cI, 3, .inl (fun _ => 0))), (a13, .inl (cI, 6, .inl (fun _ => 0))), (a14, .inl (cI, 6561, .inl (fun _ => 0)))] ++ r0) H := hP
  have hD : va_D A ([(h0, .inr (8, [.ref a1, .ref a2, .ref a3, .ref a4, .ref a5, .ref a6, .ref a7, .ref a8, .ref a9, .int 0, .ref a10, .ref a11, .ref a12, .int 0, .ref a13, .int 0, .long 0, .long 1, .int 0, .int 0, .ref a14])), (a1, .inl (cI, 6, .inl (upd (upd (upd (fun _ => 0) 0 (-9)) 1 (-9)) 2 (-9)))), (a2, .inl (cI, 240, .inl (fun _ => 0))), (a3, .inl (cI, 4, .inl (fun _ => 0))), (a4, .inl (cI, 240, .inl (fun _ => 0))), (a5, .inl (cI, 40, .inl (fun _ => 0))), (a6, .inl (cI, 34, .inl (fun _ => 0))), (a7, .inl (cI, 34, .inl (fun _ => 0))), (a8, .inl (cI, 34, .inl (fun _ => 0))), (a9, .inl (cI, 1360, .inl (fun _ => 0))), (a10, .inl (cI, 102, .inl (fun _ => 0))), (a11, .inl (cI, 4080, .inl (fun _ => 0))), (a12, .inl (cI, 3, .inl (fun _ => 0))), (a13, .inl (cI, 6, .inl (fun _ => 0))), (a14, .inl (cI, 6561, .inl (fun _ => 0)))] ++ r0) := hD
  refine lv_iinc (v := 3) (lv' := [(1, .int 3), (0, .ref h0)]) hx hb ddX9_init_140 hl (k := 0) rfl (by decide) (by decide) rfl (fun ls hl => ?_)
  refine lv_goto (tgt := 126) hx hb ddX9_init_143 (by decide) ?_
  refine lv_iload_n hx hb ddX9_init_126 rfl (lv_at hl 0 rfl) ?_
  refine lv_bipush (v := 6) hx hb ddX9_init_127 (by decide) ?_
  refine lv_icmp_ge (tgt := 146) hx hb ddX9_init_129 (by decide) (fun c9 => absurd c9 (by decide)) (fun c9 => ?_)
  refine lv_aload_n hx hb ddX9_init_132 rfl (lv_at hl 1 rfl) ?_
  refine va_get (D := D) (ci := 8) (v := .ref a1) (C := RX9) (T := TX9) (N := 21) hx hb hts xin_X9 hown hK hP 0 rfl rfl 0 (by decide) (hts _ (xw_in 828 (by decide +kernel) rfl)) (fun _ h9 => h9) rfl ddX9_init_133 ?_
  refine lv_iload_n hx hb ddX9_init_136 rfl (lv_at hl 0 rfl) ?_
  refine lv_bipush (v := (-9)) hx hb ddX9_init_137 (by decide) ?_
  refine va_iast hx hb hK hP hD hS 1 0 rfl rfl (by unfold vp_in; decide) ddX9_init_139 (fun H locs hP hD hS => ?_)
  have hP : va_P D vwCl ([(h0, .inr (8, [.ref a1, .ref a2, .ref a3, .ref a4, .ref a5, .ref a6, .ref a7, .ref a8, .ref a9, .int 0, .ref a10, .ref a11, .ref a12, .int 0, .ref a13, .int 0, .long 0, .long 1, .int 0, .int 0, .ref a14])), (a1, .inl (cI, 6, .inl (upd (upd (upd (upd (fun _ => 0) 0 (-9)) 1 (-9)) 2 (-9)) 3 (-9)))), (a2, .inl (cI, 240, .inl (fun _ => 0))), (a3, .inl (cI, 4, .inl (fun _ => 0))), (a4, .inl (cI, 240, .inl (fun _ => 0))), (a5, .inl (cI, 40, .inl (fun _ => 0))), (a6, .inl (cI, 34, .inl (fun _ => 0))), (a7, .inl (cI, 34, .inl (fun _ => 0))), (a8, .inl (cI, 34, .inl (fun _ => 0))), (a9, .inl (cI, 1360, .inl (fun _ => 0))), (a10, .inl (cI, 102, .inl (fun _ => 0))), (a11, .inl (cI, 4080, .inl (fun _ => 0))), (a12, .inl (cI, 3, .inl (fun _ => 0))), (a13, .inl (cI, 6, .inl (fun _ => 0))), (a14, .inl (cI, 6561, .inl (fun _ => 0)))] ++ r0) H := hP
  have hD : va_D A ([(h0, .inr (8, [.ref a1, .ref a2, .ref a3, .ref a4, .ref a5, .ref a6, .ref a7, .ref a8, .ref a9, .int 0, .ref a10, .ref a11, .ref a12, .int 0, .ref a13, .int 0, .long 0, .long 1, .int 0, .int 0, .ref a14])), (a1, .inl (cI, 6, .inl (upd (upd (upd (upd (fun _ => 0) 0 (-9)) 1 (-9)) 2 (-9)) 3 (-9)))), (a2, .inl (cI, 240, .inl (fun _ => 0))), (a3, .inl (cI, 4, .inl (fun _ => 0))), (a4, .inl (cI, 240, .inl (fun _ => 0))), (a5, .inl (cI, 40, .inl (fun _ => 0))), (a6, .inl (cI, 34, .inl (fun _ => 0))), (a7, .inl (cI, 34, .inl (fun _ => 0))), (a8, .inl (cI, 34, .inl (fun _ => 0))), (a9, .inl (cI, 1360, .inl (fun _ => 0))), (a10, .inl (cI, 102, .inl (fun _ => 0))), (a11, .inl (cI, 4080, .inl (fun _ => 0))), (a12, .inl (cI, 3, .inl (fun _ => 0))), (a13, .inl (cI, 6, .inl (fun _ => 0))), (a14, .inl (cI, 6561, .inl (fun _ => 0)))] ++ r0) := hD
  refine lv_iinc (v := 4) (lv' := [(1, .int 4), (0, .ref h0)]) hx hb ddX9_init_140 hl (k := 0) rfl (by decide) (by decide) rfl (fun ls hl => ?_)
  refine lv_goto (tgt := 126) hx hb ddX9_init_143 (by decide) ?_
  refine lv_iload_n hx hb ddX9_init_126 rfl (lv_at hl 0 rfl) ?_
  refine lv_bipush (v := 6) hx hb ddX9_init_127 (by decide) ?_
  refine lv_icmp_ge (tgt := 146) hx hb ddX9_init_129 (by decide) (fun c9 => absurd c9 (by decide)) (fun c9 => ?_)
  refine lv_aload_n hx hb ddX9_init_132 rfl (lv_at hl 1 rfl) ?_
  refine va_get (D := D) (ci := 8) (v := .ref a1) (C := RX9) (T := TX9) (N := 21) hx hb hts xin_X9 hown hK hP 0 rfl rfl 0 (by decide) (hts _ (xw_in 828 (by decide +kernel) rfl)) (fun _ h9 => h9) rfl ddX9_init_133 ?_
  refine lv_iload_n hx hb ddX9_init_136 rfl (lv_at hl 0 rfl) ?_
  refine lv_bipush (v := (-9)) hx hb ddX9_init_137 (by decide) ?_
  refine va_iast hx hb hK hP hD hS 1 0 rfl rfl (by unfold vp_in; decide) ddX9_init_139 (fun H locs hP hD hS => ?_)
  have hP : va_P D vwCl ([(h0, .inr (8, [.ref a1, .ref a2, .ref a3, .ref a4, .ref a5, .ref a6, .ref a7, .ref a8, .ref a9, .int 0, .ref a10, .ref a11, .ref a12, .int 0, .ref a13, .int 0, .long 0, .long 1, .int 0, .int 0, .ref a14])), (a1, .inl (cI, 6, .inl (upd (upd (upd (upd (upd (fun _ => 0) 0 (-9)) 1 (-9)) 2 (-9)) 3 (-9)) 4 (-9)))), (a2, .inl (cI, 240, .inl (fun _ => 0))), (a3, .inl (cI, 4, .inl (fun _ => 0))), (a4, .inl (cI, 240, .inl (fun _ => 0))), (a5, .inl (cI, 40, .inl (fun _ => 0))), (a6, .inl (cI, 34, .inl (fun _ => 0))), (a7, .inl (cI, 34, .inl (fun _ => 0))), (a8, .inl (cI, 34, .inl (fun _ => 0))), (a9, .inl (cI, 1360, .inl (fun _ => 0))), (a10, .inl (cI, 102, .inl (fun _ => 0))), (a11, .inl (cI, 4080, .inl (fun _ => 0))), (a12, .inl (cI, 3, .inl (fun _ => 0))), (a13, .inl (cI, 6, .inl (fun _ => 0))), (a14, .inl (cI, 6561, .inl (fun _ => 0)))] ++ r0) H := hP
  have hD : va_D A ([(h0, .inr (8, [.ref a1, .ref a2, .ref a3, .ref a4, .ref a5, .ref a6, .ref a7, .ref a8, .ref a9, .int 0, .ref a10, .ref a11, .ref a12, .int 0, .ref a13, .int 0, .long 0, .long 1, .int 0, .int 0, .ref a14])), (a1, .inl (cI, 6, .inl (upd (upd (upd (upd (upd (fun _ => 0) 0 (-9)) 1 (-9)) 2 (-9)) 3 (-9)) 4 (-9)))), (a2, .inl (cI, 240, .inl (fun _ => 0))), (a3, .inl (cI, 4, .inl (fun _ => 0))), (a4, .inl (cI, 240, .inl (fun _ => 0))), (a5, .inl (cI, 40, .inl (fun _ => 0))), (a6, .inl (cI, 34, .inl (fun _ => 0))), (a7, .inl (cI, 34, .inl (fun _ => 0))), (a8, .inl (cI, 34, .inl (fun _ => 0))), (a9, .inl (cI, 1360, .inl (fun _ => 0))), (a10, .inl (cI, 102, .inl (fun _ => 0))), (a11, .inl (cI, 4080, .inl (fun _ => 0))), (a12, .inl (cI, 3, .inl (fun _ => 0))), (a13, .inl (cI, 6, .inl (fun _ => 0))), (a14, .inl (cI, 6561, .inl (fun _ => 0)))] ++ r0) := hD
  refine lv_iinc (v := 5) (lv' := [(1, .int 5), (0, .ref h0)]) hx hb ddX9_init_140 hl (k := 0) rfl (by decide) (by decide) rfl (fun ls hl => ?_)
  refine lv_goto (tgt := 126) hx hb ddX9_init_143 (by decide) ?_
  refine lv_iload_n hx hb ddX9_init_126 rfl (lv_at hl 0 rfl) ?_
  refine lv_bipush (v := 6) hx hb ddX9_init_127 (by decide) ?_
  refine lv_icmp_ge (tgt := 146) hx hb ddX9_init_129 (by decide) (fun c9 => absurd c9 (by decide)) (fun c9 => ?_)
  refine lv_aload_n hx hb ddX9_init_132 rfl (lv_at hl 1 rfl) ?_
  refine va_get (D := D) (ci := 8) (v := .ref a1) (C := RX9) (T := TX9) (N := 21) hx hb hts xin_X9 hown hK hP 0 rfl rfl 0 (by decide) (hts _ (xw_in 828 (by decide +kernel) rfl)) (fun _ h9 => h9) rfl ddX9_init_133 ?_
  refine lv_iload_n hx hb ddX9_init_136 rfl (lv_at hl 0 rfl) ?_
  refine lv_bipush (v := (-9)) hx hb ddX9_init_137 (by decide) ?_
  refine va_iast hx hb hK hP hD hS 1 0 rfl rfl (by unfold vp_in; decide) ddX9_init_139 (fun H locs hP hD hS => ?_)
  have hP : va_P D vwCl ([(h0, .inr (8, [.ref a1, .ref a2, .ref a3, .ref a4, .ref a5, .ref a6, .ref a7, .ref a8, .ref a9, .int 0, .ref a10, .ref a11, .ref a12, .int 0, .ref a13, .int 0, .long 0, .long 1, .int 0, .int 0, .ref a14])), (a1, .inl (cI, 6, .inl (upd (upd (upd (upd (upd (upd (fun _ => 0) 0 (-9)) 1 (-9)) 2 (-9)) 3 (-9)) 4 (-9)) 5 (-9)))), (a2, .inl (cI, 240, .inl (fun _ => 0))), (a3, .inl (cI, 4, .inl (fun _ => 0))), (a4, .inl (cI, 240, .inl (fun _ => 0))), (a5, .inl (cI, 40, .inl (fun _ => 0))), (a6, .inl (cI, 34, .inl (fun _ => 0))), (a7, .inl (cI, 34, .inl (fun _ => 0))), (a8, .inl (cI, 34, .inl (fun _ => 0))), (a9, .inl (cI, 1360, .inl (fun _ => 0))), (a10, .inl (cI, 102, .inl (fun _ => 0))), (a11, .inl (cI, 4080, .inl (fun _ => 0))), (a12, .inl (cI, 3, .inl (fun _ => 0))), (a13, .inl (cI, 6, .inl (fun _ => 0))), (a14, .inl (cI, 6561, .inl (fun _ => 0)))] ++ r0) H := hP
  have hD : va_D A ([(h0, .inr (8, [.ref a1, .ref a2, .ref a3, .ref a4, .ref a5, .ref a6, .ref a7, .ref a8, .ref a9, .int 0, .ref a10, .ref a11, .ref a12, .int 0, .ref a13, .int 0, .long 0, .long 1, .int 0, .int 0, .ref a14])), (a1, .inl (cI, 6, .inl (upd (upd (upd (upd (upd (upd (fun _ => 0) 0 (-9)) 1 (-9)) 2 (-9)) 3 (-9)) 4 (-9)) 5 (-9)))), (a2, .inl (cI, 240, .inl (fun _ => 0))), (a3, .inl (cI, 4, .inl (fun _ => 0))), (a4, .inl (cI, 240, .inl (fun _ => 0))), (a5, .inl (cI, 40, .inl (fun _ => 0))), (a6, .inl (cI, 34, .inl (fun _ => 0))), (a7, .inl (cI, 34, .inl (fun _ => 0))), (a8, .inl (cI, 34, .inl (fun _ => 0))), (a9, .inl (cI, 1360, .inl (fun _ => 0))), (a10, .inl (cI, 102, .inl (fun _ => 0))), (a11, .inl (cI, 4080, .inl (fun _ => 0))), (a12, .inl (cI, 3, .inl (fun _ => 0))), (a13, .inl (cI, 6, .inl (fun _ => 0))), (a14, .inl (cI, 6561, .inl (fun _ => 0)))] ++ r0) := hD
  refine lv_iinc (v := 6) (lv' := [(1, .int 6), (0, .ref h0)]) hx hb ddX9_init_140 hl (k := 0) rfl (by decide) (by decide) rfl (fun ls hl => ?_)
  refine lv_goto (tgt := 126) hx hb ddX9_init_143 (by decide) ?_
  refine lv_iload_n hx hb ddX9_init_126 rfl (lv_at hl 0 rfl) ?_
  refine lv_bipush (v := 6) hx hb ddX9_init_127 (by decide) ?_
  refine lv_icmp_ge (tgt := 146) hx hb ddX9_init_129 (by decide) (fun c9 => ?_) (fun c9 => absurd (by decide) c9)
  refine lv_iconst (v := 0) hx hb ddX9_init_146 (by decide) ?_
  refine lv_istore_n (lv' := [(1, .int 0), (0, .ref h0)]) hx hb ddX9_init_147 rfl hl (by decide) rfl (fun ls hl => ?_)
  refine lv_iload_n hx hb ddX9_init_148 rfl (lv_at hl 0 rfl) ?_
  refine lv_iconst (v := 4) hx hb ddX9_init_149 (by decide) ?_
  refine lv_icmp_ge (tgt := 167) hx hb ddX9_init_150 (by decide) (fun c9 => absurd c9 (by decide)) (fun c9 => ?_)
  refine lv_aload_n hx hb ddX9_init_153 rfl (lv_at hl 1 rfl) ?_
  refine va_get (D := D) (ci := 8) (v := .ref a3) (C := RX9) (T := TX9) (N := 21) hx hb hts xin_X9 hown hK hP 0 rfl rfl 2 (by decide) (hts _ (xw_in 830 (by decide +kernel) rfl)) (fun _ h9 => h9) rfl ddX9_init_154 ?_
  refine lv_iload_n hx hb ddX9_init_157 rfl (lv_at hl 0 rfl) ?_
  refine lv_bipush (v := (-9)) hx hb ddX9_init_158 (by decide) ?_
  refine va_iast hx hb hK hP hD hS 3 0 rfl rfl (by unfold vp_in; decide) ddX9_init_160 (fun H locs hP hD hS => ?_)
  have hP : va_P D vwCl ([(h0, .inr (8, [.ref a1, .ref a2, .ref a3, .ref a4, .ref a5, .ref a6, .ref a7, .ref a8, .ref a9, .int 0, .ref a10, .ref a11, .ref a12, .int 0, .ref a13, .int 0, .long 0, .long 1, .int 0, .int 0, .ref a14])), (a1, .inl (cI, 6, .inl (upd (upd (upd (upd (upd (upd (fun _ => 0) 0 (-9)) 1 (-9)) 2 (-9)) 3 (-9)) 4 (-9)) 5 (-9)))), (a2, .inl (cI, 240, .inl (fun _ => 0))), (a3, .inl (cI, 4, .inl (upd (fun _ => 0) 0 (-9)))), (a4, .inl (cI, 240, .inl (fun _ => 0))), (a5, .inl (cI, 40, .inl (fun _ => 0))), (a6, .inl (cI, 34, .inl (fun _ => 0))), (a7, .inl (cI, 34, .inl (fun _ => 0))), (a8, .inl (cI, 34, .inl (fun _ => 0))), (a9, .inl (cI, 1360, .inl (fun _ => 0))), (a10, .inl (cI, 102, .inl (fun _ => 0))), (a11, .inl (cI, 4080, .inl (fun _ => 0))), (a12, .inl (cI, 3, .inl (fun _ => 0))), (a13, .inl (cI, 6, .inl (fun _ => 0))), (a14, .inl (cI, 6561, .inl (fun _ => 0)))] ++ r0) H := hP
  have hD : va_D A ([(h0, .inr (8, [.ref a1, .ref a2, .ref a3, .ref a4, .ref a5, .ref a6, .ref a7, .ref a8, .ref a9, .int 0, .ref a10, .ref a11, .ref a12, .int 0, .ref a13, .int 0, .long 0, .long 1, .int 0, .int 0, .ref a14])), (a1, .inl (cI, 6, .inl (upd (upd (upd (upd (upd (upd (fun _ => 0) 0 (-9)) 1 (-9)) 2 (-9)) 3 (-9)) 4 (-9)) 5 (-9)))), (a2, .inl (cI, 240, .inl (fun _ => 0))), (a3, .inl (cI, 4, .inl (upd (fun _ => 0) 0 (-9)))), (a4, .inl (cI, 240, .inl (fun _ => 0))), (a5, .inl (cI, 40, .inl (fun _ => 0))), (a6, .inl (cI, 34, .inl (fun _ => 0))), (a7, .inl (cI, 34, .inl (fun _ => 0))), (a8, .inl (cI, 34, .inl (fun _ => 0))), (a9, .inl (cI, 1360, .inl (fun _ => 0))), (a10, .inl (cI, 102, .inl (fun _ => 0))), (a11, .inl (cI, 4080, .inl (fun _ => 0))), (a12, .inl (cI, 3, .inl (fun _ => 0))), (a13, .inl (cI, 6, .inl (fun _ => 0))), (a14, .inl (cI, 6561, .inl (fun _ => 0)))] ++ r0) := hD
  refine lv_iinc (v := 1) (lv' := [(1, .int 1), (0, .ref h0)]) hx hb ddX9_init_161 hl (k := 0) rfl (by decide) (by decide) rfl (fun ls hl => ?_)
  refine lv_goto (tgt := 148) hx hb ddX9_init_164 (by decide) ?_
  refine lv_iload_n hx hb ddX9_init_148 rfl (lv_at hl 0 rfl) ?_
  refine lv_iconst (v := 4) hx hb ddX9_init_149 (by decide) ?_
  refine lv_icmp_ge (tgt := 167) hx hb ddX9_init_150 (by decide) (fun c9 => absurd c9 (by decide)) (fun c9 => ?_)
  refine lv_aload_n hx hb ddX9_init_153 rfl (lv_at hl 1 rfl) ?_
  refine va_get (D := D) (ci := 8) (v := .ref a3) (C := RX9) (T := TX9) (N := 21) hx hb hts xin_X9 hown hK hP 0 rfl rfl 2 (by decide) (hts _ (xw_in 830 (by decide +kernel) rfl)) (fun _ h9 => h9) rfl ddX9_init_154 ?_
  refine lv_iload_n hx hb ddX9_init_157 rfl (lv_at hl 0 rfl) ?_
  refine lv_bipush (v := (-9)) hx hb ddX9_init_158 (by decide) ?_
  refine va_iast hx hb hK hP hD hS 3 0 rfl rfl (by unfold vp_in; decide) ddX9_init_160 (fun H locs hP hD hS => ?_)
  have hP : va_P D vwCl ([(h0, .inr (8, [.ref a1, .ref a2, .ref a3, .ref a4, .ref a5, .ref a6, .ref a7, .ref a8, .ref a9, .int 0, .ref a10, .ref a11, .ref a12, .int 0, .ref a13, .int 0, .long 0, .long 1, .int 0, .int 0, .ref a14])), (a1, .inl (cI, 6, .inl (upd (upd (upd (upd (upd (upd (fun _ => 0) 0 (-9)) 1 (-9)) 2 (-9)) 3 (-9)) 4 (-9)) 5 (-9)))), (a2, .inl (cI, 240, .inl (fun _ => 0))), (a3, .inl (cI, 4, .inl (upd (upd (fun _ => 0) 0 (-9)) 1 (-9)))), (a4, .inl (cI, 240, .inl (fun _ => 0))), (a5, .inl (cI, 40, .inl (fun _ => 0))), (a6, .inl (cI, 34, .inl (fun _ => 0))), (a7, .inl (cI, 34, .inl (fun _ => 0))), (a8, .inl (cI, 34, .inl (fun _ => 0))), (a9, .inl (cI, 1360, .inl (fun _ => 0))), (a10, .inl (cI, 102, .inl (fun _ => 0))), (a11, .inl (cI, 4080, .inl (fun _ => 0))), (a12, .inl (cI, 3, .inl (fun _ => 0))), (a13, .inl (cI, 6, .inl (fun _ => 0))), (a14, .inl (cI, 6561, .inl (fun _ => 0)))] ++ r0) H := hP
  have hD : va_D A ([(h0, .inr (8, [.ref a1, .ref a2, .ref a3, .ref a4, .ref a5, .ref a6, .ref a7, .ref a8, .ref a9, .int 0, .ref a10, .ref a11, .ref a12, .int 0, .ref a13, .int 0, .long 0, .long 1, .int 0, .int 0, .ref a14])), (a1, .inl (cI, 6, .inl (upd (upd (upd (upd (upd (upd (fun _ => 0) 0 (-9)) 1 (-9)) 2 (-9)) 3 (-9)) 4 (-9)) 5 (-9)))), (a2, .inl (cI, 240, .inl (fun _ => 0))), (a3, .inl (cI, 4, .inl (upd (upd (fun _ => 0) 0 (-9)) 1 (-9)))), (a4, .inl (cI, 240, .inl (fun _ => 0))), (a5, .inl (cI, 40, .inl (fun _ => 0))), (a6, .inl (cI, 34, .inl (fun _ => 0))), (a7, .inl (cI, 34, .inl (fun _ => 0))), (a8, .inl (cI, 34, .inl (fun _ => 0))), (a9, .inl (cI, 1360, .inl (fun _ => 0))), (a10, .inl (cI, 102, .inl (fun _ => 0))), (a11, .inl (cI, 4080, .inl (fun _ => 0))), (a12, .inl (cI, 3, .inl (fun _ => 0))), (a13, .inl (cI, 6, .inl (fun _ => 0))), (a14, .inl (cI, 6561, .inl (fun _ => 0)))] ++ r0) := hD
  refine lv_iinc (v := 2) (lv' := [(1, .int 2), (0, .ref h0)]) hx hb ddX9_init_161 hl (k := 0) rfl (by decide) (by decide) rfl (fun ls hl => ?_)
  refine lv_goto (tgt := 148) hx hb ddX9_init_164 (by decide) ?_
  refine lv_iload_n hx hb ddX9_init_148 rfl (lv_at hl 0 rfl) ?_
  refine lv_iconst (v := 4) hx hb ddX9_init_149 (by decide) ?_
  refine lv_icmp_ge (tgt := 167) hx hb ddX9_init_150 (by decide) (fun c9 => absurd c9 (by decide)) (fun c9 => ?_)
  refine lv_aload_n hx hb ddX9_init_153 rfl (lv_at hl 1 rfl) ?_
  refine va_get (D := D) (ci := 8) (v := .ref a3) (C := RX9) (T := TX9) (N := 21) hx hb hts xin_X9 hown hK hP 0 rfl rfl 2 (by decide) (hts _ (xw_in 830 (by decide +kernel) rfl)) (fun _ h9 => h9) rfl ddX9_init_154 ?_
  refine lv_iload_n hx hb ddX9_init_157 rfl (lv_at hl 0 rfl) ?_
  refine lv_bipush (v := (-9)) hx hb ddX9_init_158 (by decide) ?_
  refine va_iast hx hb hK hP hD hS 3 0 rfl rfl (by unfold vp_in; decide) ddX9_init_160 (fun H locs hP hD hS => ?_)
  have hP : va_P D vwCl ([(h0, .inr (8, [.ref a1, .ref a2, .ref a3, .ref a4, .ref a5, .ref a6, .ref a7, .ref a8, .ref a9, .int 0, .ref a10, .ref a11, .ref a12, .int 0, .ref a13, .int 0, .long 0, .long 1, .int 0, .int 0, .ref a14])), (a1, .inl (cI, 6, .inl (upd (upd (upd (upd (upd (upd (fun _ => 0) 0 (-9)) 1 (-9)) 2 (-9)) 3 (-9)) 4 (-9)) 5 (-9)))), (a2, .inl (cI, 240, .inl (fun _ => 0))), (a3, .inl (cI, 4, .inl (upd (upd (upd (fun _ => 0) 0 (-9)) 1 (-9)) 2 (-9)))), (a4, .inl (cI, 240, .inl (fun _ => 0))), (a5, .inl (cI, 40, .inl (fun _ => 0))), (a6, .inl (cI, 34, .inl (fun _ => 0))), (a7, .inl (cI, 34, .inl (fun _ => 0))), (a8, .inl (cI, 34, .inl (fun _ => 0))), (a9, .inl (cI, 1360, .inl (fun _ => 0))), (a10, .inl (cI, 102, .inl (fun _ => 0))), (a11, .inl (cI, 4080, .inl (fun _ => 0))), (a12, .inl (cI, 3, .inl (fun _ => 0))), (a13, .inl (cI, 6, .inl (fun _ => 0))), (a14, .inl (cI, 6561, .inl (fun _ => 0)))] ++ r0) H := hP
  have hD : va_D A ([(h0, .inr (8, [.ref a1, .ref a2, .ref a3, .ref a4, .ref a5, .ref a6, .ref a7, .ref a8, .ref a9, .int 0, .ref a10, .ref a11, .ref a12, .int 0, .ref a13, .int 0, .long 0, .long 1, .int 0, .int 0, .ref a14])), (a1, .inl (cI, 6, .inl (upd (upd (upd (upd (upd (upd (fun _ => 0) 0 (-9)) 1 (-9)) 2 (-9)) 3 (-9)) 4 (-9)) 5 (-9)))), (a2, .inl (cI, 240, .inl (fun _ => 0))), (a3, .inl (cI, 4, .inl (upd (upd (upd (fun _ => 0) 0 (-9)) 1 (-9)) 2 (-9)))), (a4, .inl (cI, 240, .inl (fun _ => 0))), (a5, .inl (cI, 40, .inl (fun _ => 0))), (a6, .inl (cI, 34, .inl (fun _ => 0))), (a7, .inl (cI, 34, .inl (fun _ => 0))), (a8, .inl (cI, 34, .inl (fun _ => 0))), (a9, .inl (cI, 1360, .inl (fun _ => 0))), (a10, .inl (cI, 102, .inl (fun _ => 0))), (a11, .inl (cI, 4080, .inl (fun _ => 0))), (a12, .inl (cI, 3, .inl (fun _ => 0))), (a13, .inl (cI, 6, .inl (fun _ => 0))), (a14, .inl (cI, 6561, .inl (fun _ => 0)))] ++ r0) := hD
  refine lv_iinc (v := 3) (lv' := [(1, .int 3), (0, .ref h0)]) hx hb ddX9_init_161 hl (k := 0) rfl (by decide) (by decide) rfl (fun ls hl => ?_)
  refine lv_goto (tgt := 148) hx hb ddX9_init_164 (by decide) ?_
  refine lv_iload_n hx hb ddX9_init_148 rfl (lv_at hl 0 rfl) ?_
  refine lv_iconst (v := 4) hx hb ddX9_init_149 (by decide) ?_
  refine lv_icmp_ge (tgt := 167) hx hb ddX9_init_150 (by decide) (fun c9 => absurd c9 (by decide)) (fun c9 => ?_)
  refine lv_aload_n hx hb ddX9_init_153 rfl (lv_at hl 1 rfl) ?_
  refine va_get (D := D) (ci := 8) (v := .ref a3) (C := RX9) (T := TX9) (N := 21) hx hb hts xin_X9 hown hK hP 0 rfl rfl 2 (by decide) (hts _ (xw_in 830 (by decide +kernel) rfl)) (fun _ h9 => h9) rfl ddX9_init_154 ?_
  refine lv_iload_n hx hb ddX9_init_157 rfl (lv_at hl 0 rfl) ?_
  refine lv_bipush (v := (-9)) hx hb ddX9_init_158 (by decide) ?_
  refine va_iast hx hb hK hP hD hS 3 0 rfl rfl (by unfold vp_in; decide) ddX9_init_160 (fun H locs hP hD hS => ?_)
  have hP : va_P D vwCl ([(h0, .inr (8, [.ref a1, .ref a2, .ref a3, .ref a4, .ref a5, .ref a6, .ref a7, .ref a8, .ref a9, .int 0, .ref a10, .ref a11, .ref a12, .int 0, .ref a13, .int 0, .long 0, .long 1, .int 0, .int 0, .ref a14])), (a1, .inl (cI, 6, .inl (upd (upd (upd (upd (upd (upd (fun _ => 0) 0 (-9)) 1 (-9)) 2 (-9)) 3 (-9)) 4 (-9)) 5 (-9)))), (a2, .inl (cI, 240, .inl (fun _ => 0))), (a3, .inl (cI, 4, .inl (upd (upd (upd (upd (fun _ => 0) 0 (-9)) 1 (-9)) 2 (-9)) 3 (-9)))), (a4, .inl (cI, 240, .inl (fun _ => 0))), (a5, .inl (cI, 40, .inl (fun _ => 0))), (a6, .inl (cI, 34, .inl (fun _ => 0))), (a7, .inl (cI, 34, .inl (fun _ => 0))), (a8, .inl (cI, 34, .inl (fun _ => 0))), (a9, .inl (cI, 1360, .inl (fun _ => 0))), (a10, .inl (cI, 102, .inl (fun _ => 0))), (a11, .inl (cI, 4080, .inl (fun _ => 0))), (a12, .inl (cI, 3, .inl (fun _ => 0))), (a13, .inl (cI, 6, .inl (fun _ => 0))), (a14, .inl (cI, 6561, .inl (fun _ => 0)))] ++ r0) H := hP
  have hD : va_D A ([(h0, .inr (8, [.ref a1, .ref a2, .ref a3, .ref a4, .ref a5, .ref a6, .ref a7, .ref a8, .ref a9, .int 0, .ref a10, .ref a11, .ref a12, .int 0, .ref a13, .int 0, .long 0, .long 1, .int 0, .int 0, .ref a14])), (a1, .inl (cI, 6, .inl (upd (upd (upd (upd (upd (upd (fun _ => 0) 0 (-9)) 1 (-9)) 2 (-9)) 3 (-9)) 4 (-9)) 5 (-9)))), (a2, .inl (cI, 240, .inl (fun _ => 0))), (a3, .inl (cI, 4, .inl (upd (upd (upd (upd (fun _ => 0) 0 (-9)) 1 (-9)) 2 (-9)) 3 (-9)))), (a4, .inl (cI, 240, .inl (fun _ => 0))), (a5, .inl (cI, 40, .inl (fun _ => 0))), (a6, .inl (cI, 34, .inl (fun _ => 0))), (a7, .inl (cI, 34, .inl (fun _ => 0))), (a8, .inl (cI, 34, .inl (fun _ => 0))), (a9, .inl (cI, 1360, .inl (fun _ => 0))), (a10, .inl (cI, 102, .inl (fun _ => 0))), (a11, .inl (cI, 4080, .inl (fun _ => 0))), (a12, .inl (cI, 3, .inl (fun _ => 0))), (a13, .inl (cI, 6, .inl (fun _ => 0))), (a14, .inl (cI, 6561, .inl (fun _ => 0)))] ++ r0) := hD
  refine lv_iinc (v := 4) (lv' := [(1, .int 4), (0, .ref h0)]) hx hb ddX9_init_161 hl (k := 0) rfl (by decide) (by decide) rfl (fun ls hl => ?_)
  refine lv_goto (tgt := 148) hx hb ddX9_init_164 (by decide) ?_
  refine lv_iload_n hx hb ddX9_init_148 rfl (lv_at hl 0 rfl) ?_
  refine lv_iconst (v := 4) hx hb ddX9_init_149 (by decide) ?_
  refine lv_icmp_ge (tgt := 167) hx hb ddX9_init_150 (by decide) (fun c9 => ?_) (fun c9 => absurd (by decide) c9)
  refine lv_iconst (v := 0) hx hb ddX9_init_167 (by decide) ?_
  refine lv_istore_n (lv' := [(1, .int 0), (0, .ref h0)]) hx hb ddX9_init_168 rfl hl (by decide) rfl (fun ls hl => ?_)
  refine lv_iload_n hx hb ddX9_init_169 rfl (lv_at hl 0 rfl) ?_
  refine lv_iconst (v := 3) hx hb ddX9_init_170 (by decide) ?_
  refine lv_icmp_ge (tgt := 188) hx hb ddX9_init_171 (by decide) (fun c9 => absurd c9 (by decide)) (fun c9 => ?_)
  refine lv_aload_n hx hb ddX9_init_174 rfl (lv_at hl 1 rfl) ?_
  refine va_get (D := D) (ci := 8) (v := .ref a12) (C := RX9) (T := TX9) (N := 21) hx hb hts xin_X9 hown hK hP 0 rfl rfl 12 (by decide) (hts _ (xw_in 840 (by decide +kernel) rfl)) (fun _ h9 => h9) rfl ddX9_init_175 ?_
  refine lv_iload_n hx hb ddX9_init_178 rfl (lv_at hl 0 rfl) ?_
  refine lv_bipush (v := (-9)) hx hb ddX9_init_179 (by decide) ?_
  refine va_iast hx hb hK hP hD hS 12 0 rfl rfl (by unfold vp_in; decide) ddX9_init_181 (fun H locs hP hD hS => ?_)
  have hP : va_P D vwCl ([(h0, .inr (8, [.ref a1, .ref a2, .ref a3, .ref a4, .ref a5, .ref a6, .ref a7, .ref a8, .ref a9, .int 0, .ref a10, .ref a11, .ref a12, .int 0, .ref a13, .int 0, .long 0, .long 1, .int 0, .int 0, .ref a14])), (a1, .inl (cI, 6, .inl (upd (upd (upd (upd (upd (upd (fun _ => 0) 0 (-9)) 1 (-9)) 2 (-9)) 3 (-9)) 4 (-9)) 5 (-9)))), (a2, .inl (cI, 240, .inl (fun _ => 0))), (a3, .inl (cI, 4, .inl (upd (upd (upd (upd (fun _ => 0) 0 (-9)) 1 (-9)) 2 (-9)) 3 (-9)))), (a4, .inl (cI, 240, .inl (fun _ => 0))), (a5, .inl (cI, 40, .inl (fun _ => 0))), (a6, .inl (cI, 34, .inl (fun _ => 0))), (a7, .inl (cI, 34, .inl (fun _ => 0))), (a8, .inl (cI, 34, .inl (fun _ => 0))), (a9, .inl (cI, 1360, .inl (fun _ => 0))), (a10, .inl (cI, 102, .inl (fun _ => 0))), (a11, .inl (cI, 4080, .inl (fun _ => 0))), (a12, .inl (cI, 3, .inl (upd (fun _ => 0) 0 (-9)))), (a13, .inl (cI, 6, .inl (fun _ => 0))), (a14, .inl (cI, 6561, .inl (fun _ => 0)))] ++ r0) H := hP
  have hD : va_D A ([(h0, .inr (8, [.ref a1, .ref a2, .ref a3, .ref a4, .ref a5, .ref a6, .ref a7, .ref a8, .ref a9, .int 0, .ref a10, .ref a11, .ref a12, .int 0, .ref a13, .int 0, .long 0, .long 1, .int 0, .int 0, .ref a14])), (a1, .inl (cI, 6, .inl (upd (upd (upd (upd (upd (upd (fun _ => 0) 0 (-9)) 1 (-9)) 2 (-9)) 3 (-9)) 4 (-9)) 5 (-9)))), (a2, .inl (cI, 240, .inl (fun _ => 0))), (a3, .inl (cI, 4, .inl (upd (upd (upd (upd (fun _ => 0) 0 (-9)) 1 (-9)) 2 (-9)) 3 (-9)))), (a4, .inl (cI, 240, .inl (fun _ => 0))), (a5, .inl (cI, 40, .inl (fun _ => 0))), (a6, .inl (cI, 34, .inl (fun _ => 0))), (a7, .inl (cI, 34, .inl (fun _ => 0))), (a8, .inl (cI, 34, .inl (fun _ => 0))), (a9, .inl (cI, 1360, .inl (fun _ => 0))), (a10, .inl (cI, 102, .inl (fun _ => 0))), (a11, .inl (cI, 4080, .inl (fun _ => 0))), (a12, .inl (cI, 3, .inl (upd (fun _ => 0) 0 (-9)))), (a13, .inl (cI, 6, .inl (fun _ => 0))), (a14, .inl (cI, 6561, .inl (fun _ => 0)))] ++ r0) := hD
  refine lv_iinc (v := 1) (lv' := [(1, .int 1), (0, .ref h0)]) hx hb ddX9_init_182 hl (k := 0) rfl (by decide) (by decide) rfl (fun ls hl => ?_)
  refine lv_goto (tgt := 169) hx hb ddX9_init_185 (by decide) ?_
  refine lv_iload_n hx hb ddX9_init_169 rfl (lv_at hl 0 rfl) ?_
  refine lv_iconst (v := 3) hx hb ddX9_init_170 (by decide) ?_
  refine lv_icmp_ge (tgt := 188) hx hb ddX9_init_171 (by decide) (fun c9 => absurd c9 (by decide)) (fun c9 => ?_)
  refine lv_aload_n hx hb ddX9_init_174 rfl (lv_at hl 1 rfl) ?_
  refine va_get (D := D) (ci := 8) (v := .ref a12) (C := RX9) (T := TX9) (N := 21) hx hb hts xin_X9 hown hK hP 0 rfl rfl 12 (by decide) (hts _ (xw_in 840 (by decide +kernel) rfl)) (fun _ h9 => h9) rfl ddX9_init_175 ?_
  refine lv_iload_n hx hb ddX9_init_178 rfl (lv_at hl 0 rfl) ?_
  refine lv_bipush (v := (-9)) hx hb ddX9_init_179 (by decide) ?_
  refine va_iast hx hb hK hP hD hS 12 0 rfl rfl (by unfold vp_in; decide) ddX9_init_181 (fun H locs hP hD hS => ?_)
  have hP : va_P D vwCl ([(h0, .inr (8, [.ref a1, .ref a2, .ref a3, .ref a4, .ref a5, .ref a6, .ref a7, .ref a8, .ref a9, .int 0, .ref a10, .ref a11, .ref a12, .int 0, .ref a13, .int 0, .long 0, .long 1, .int 0, .int 0, .ref a14])), (a1, .inl (cI, 6, .inl (upd (upd (upd (upd (upd (upd (fun _ => 0) 0 (-9)) 1 (-9)) 2 (-9)) 3 (-9)) 4 (-9)) 5 (-9)))), (a2, .inl (cI, 240, .inl (fun _ => 0))), (a3, .inl (cI, 4, .inl (upd (upd (upd (upd (fun _ => 0) 0 (-9)) 1 (-9)) 2 (-9)) 3 (-9)))), (a4, .inl (cI, 240, .inl (fun _ => 0))), (a5, .inl (cI, 40, .inl (fun _ => 0))), (a6, .inl (cI, 34, .inl (fun _ => 0))), (a7, .inl (cI, 34, .inl (fun _ => 0))), (a8, .inl (cI, 34, .inl (fun _ => 0))), (a9, .inl (cI, 1360, .inl (fun _ => 0))), (a10, .inl (cI, 102, .inl (fun _ => 0))), (a11, .inl (cI, 4080, .inl (fun _ => 0))), (a12, .inl (cI, 3, .inl (upd (upd (fun _ => 0) 0 (-9)) 1 (-9)))), (a13, .inl (cI, 6, .inl (fun _ => 0))), (a14, .inl (cI, 6561, .inl (fun _ => 0)))] ++ r0) H := hP
  have hD : va_D A ([(h0, .inr (8, [.ref a1, .ref a2, .ref a3, .ref a4, .ref a5, .ref a6, .ref a7, .ref a8, .ref a9, .int 0, .ref a10, .ref a11, .ref a12, .int 0, .ref a13, .int 0, .long 0, .long 1, .int 0, .int 0, .ref a14])), (a1, .inl (cI, 6, .inl (upd (upd (upd (upd (upd (upd (fun _ => 0) 0 (-9)) 1 (-9)) 2 (-9)) 3 (-9)) 4 (-9)) 5 (-9)))), (a2, .inl (cI, 240, .inl (fun _ => 0))), (a3, .inl (cI, 4, .inl (upd (upd (upd (upd (fun _ => 0) 0 (-9)) 1 (-9)) 2 (-9)) 3 (-9)))), (a4, .inl (cI, 240, .inl (fun _ => 0))), (a5, .inl (cI, 40, .inl (fun _ => 0))), (a6, .inl (cI, 34, .inl (fun _ => 0))), (a7, .inl (cI, 34, .inl (fun _ => 0))), (a8, .inl (cI, 34, .inl (fun _ => 0))), (a9, .inl (cI, 1360, .inl (fun _ => 0))), (a10, .inl (cI, 102, .inl (fun _ => 0))), (a11, .inl (cI, 4080, .inl (fun _ => 0))), (a12, .inl (cI, 3, .inl (upd (upd (fun _ => 0) 0 (-9)) 1 (-9)))), (a13, .inl (cI, 6, .inl (fun _ => 0))), (a14, .inl (cI, 6561, .inl (fun _ => 0)))] ++ r0) := hD
  refine lv_iinc (v := 2) (lv' := [(1, .int 2), (0, .ref h0)]) hx hb ddX9_init_182 hl (k := 0) rfl (by decide) (by decide) rfl (fun ls hl => ?_)
  refine lv_goto (tgt := 169) hx hb ddX9_init_185 (by decide) ?_
  refine lv_iload_n hx hb ddX9_init_169 rfl (lv_at hl 0 rfl) ?_
  refine lv_iconst (v := 3) hx hb ddX9_init_170 (by decide) ?_
  refine lv_icmp_ge (tgt := 188) hx hb ddX9_init_171 (by decide) (fun c9 => absurd c9 (by decide)) (fun c9 => ?_)
  refine lv_aload_n hx hb ddX9_init_174 rfl (lv_at hl 1 rfl) ?_
  refine va_get (D := D) (ci := 8) (v := .ref a12) (C := RX9) (T := TX9) (N := 21) hx hb hts xin_X9 hown hK hP 0 rfl rfl 12 (by decide) (hts _ (xw_in 840 (by decide +kernel) rfl)) (fun _ h9 => h9) rfl ddX9_init_175 ?_
  refine lv_iload_n hx hb ddX9_init_178 rfl (lv_at hl 0 rfl) ?_
  refine lv_bipush (v := (-9)) hx hb ddX9_init_179 (by decide) ?_
  refine va_iast hx hb hK hP hD hS 12 0 rfl rfl (by unfold vp_in; decide) ddX9_init_181 (fun H locs hP hD hS => ?_)
  have hP : va_P D vwCl ([(h0, .inr (8, [.ref a1, .ref a2, .ref a3, .ref a4, .ref a5, .ref a6, .ref a7, .ref a8, .ref a9, .int 0, .ref a10, .ref a11, .ref a12, .int 0, .ref a13, .int 0, .long 0, .long 1, .int 0, .int 0, .ref a14])), (a1, .inl (cI, 6, .inl (upd (upd (upd (upd (upd (upd (fun _ => 0) 0 (-9)) 1 (-9)) 2 (-9)) 3 (-9)) 4 (-9)) 5 (-9)))), (a2, .inl (cI, 240, .inl (fun _ => 0))), (a3, .inl (cI, 4, .inl (upd (upd (upd (upd (fun _ => 0) 0 (-9)) 1 (-9)) 2 (-9)) 3 (-9)))), (a4, .inl (cI, 240, .inl (fun _ => 0))), (a5, .inl (cI, 40, .inl (fun _ => 0))), (a6, .inl (cI, 34, .inl (fun _ => 0))), (a7, .inl (cI, 34, .inl (fun _ => 0))), (a8, .inl (cI, 34, .inl (fun _ => 0))), (a9, .inl (cI, 1360, .inl (fun _ => 0))), (a10, .inl (cI, 102, .inl (fun _ => 0))), (a11, .inl (cI, 4080, .inl (fun _ => 0))), (a12, .inl (cI, 3, .inl (upd (upd (upd (fun _ => 0) 0 (-9)) 1 (-9)) 2 (-9)))), (a13, .inl (cI, 6, .inl (fun _ => 0))), (a14, .inl (cI, 6561, .inl (fun _ => 0)))] ++ r0) H := hP
  have hD : va_D A ([(h0, .inr (8, [.ref a1, .ref a2, .ref a3, .ref a4, .ref a5, .ref a6, .ref a7, .ref a8, .ref a9, .int 0, .ref a10, .ref a11, .ref a12, .int 0, .ref a13, .int 0, .long 0, .long 1, .int 0, .int 0, .ref a14])), (a1, .inl (cI, 6, .inl (upd (upd (upd (upd (upd (upd (fun _ => 0) 0 (-9)) 1 (-9)) 2 (-9)) 3 (-9)) 4 (-9)) 5 (-9)))), (a2, .inl (cI, 240, .inl (fun _ => 0))), (a3, .inl (cI, 4, .inl (upd (upd (upd (upd (fun _ => 0) 0 (-9)) 1 (-9)) 2 (-9)) 3 (-9)))), (a4, .inl (cI, 240, .inl (fun _ => 0))), (a5, .inl (cI, 40, .inl (fun _ => 0))), (a6, .inl (cI, 34, .inl (fun _ => 0))), (a7, .inl (cI, 34, .inl (fun _ => 0))), (a8, .inl (cI, 34, .inl (fun _ => 0))), (a9, .inl (cI, 1360, .inl (fun _ => 0))), (a10, .inl (cI, 102, .inl (fun _ => 0))), (a11, .inl (cI, 4080, .inl (fun _ => 0))), (a12, .inl (cI, 3, .inl (upd (upd (upd (fun _ => 0) 0 (-9)) 1 (-9)) 2 (-9)))), (a13, .inl (cI, 6, .inl (fun _ => 0))), (a14, .inl (cI, 6561, .inl (fun _ => 0)))] ++ r0) := hD
  refine lv_iinc (v := 3) (lv' := [(1, .int 3), (0, .ref h0)]) hx hb ddX9_init_182 hl (k := 0) rfl (by decide) (by decide) rfl (fun ls hl => ?_)
  refine lv_goto (tgt := 169) hx hb ddX9_init_185 (by decide) ?_
  refine lv_iload_n hx hb ddX9_init_169 rfl (lv_at hl 0 rfl) ?_
  refine lv_iconst (v := 3) hx hb ddX9_init_170 (by decide) ?_
  refine lv_icmp_ge (tgt := 188) hx hb ddX9_init_171 (by decide) (fun c9 => ?_) (fun c9 => absurd (by decide) c9)
  subst er0
  have hP9 := hP.sub (ws' := wX9 cI h0 (fun a => ([0, 0, 0, 0, 0, 0, 0, 0, 0, 0, 0, 0, 0, 0, 0, 0, a1, a2, a3, a4, a5, a6, a7, a8, a9, a10, a11, a12, a13, a14] : List Nat).getD a 0)) [0, 1, 2, 3, 4, 5, 6, 7, 8, 9, 10, 11, 12, 13, 14] rfl
  have hD9 := hD.sub (ws' := wX9 cI h0 (fun a => ([0, 0, 0, 0, 0, 0, 0, 0, 0, 0, 0, 0, 0, 0, 0, 0, a1, a2, a3, a4, a5, a6, a7, a8, a9, a10, a11, a12, a13, a14] : List Nat).getD a 0)) [0, 1, 2, 3, 4, 5, 6, 7, 8, 9, 10, 11, 12, 13, 14] (by decide +kernel) rfl
  exact W.vret hx hb hr (fun t ht hW => ⟨⟨(cI, fun a => ([0, 0, 0, 0, 0, 0, 0, 0, 0, 0, 0, 0, 0, 0, 0, 0, a1, a2, a3, a4, a5, a6, a7, a8, a9, a10, a11, a12, a13, a14] : List Nat).getD a 0), rfl, trivial, by rw [ht]; exact hP9, va_K.moved hW.alike hK, hD9⟩, hS.F ht⟩) hS.2.2 ddX9_init_188
