/-! the law's cases -/
section
variable {p : Program} {l : Launch} {e : Env} {s : State} {m : MethodId} {below : List Frame} {meth : Method} {c : Code} {b L : Nat} {xs : Nat → Int32} {H : Heap} {locs : List Loc} {k n : Nat} {Q : State → Prop} {D : va_G} {E : xi_E} {tys : List (ClassId × FieldType)} {ls : Array Slot} {m0 : xi_M} {i : Int}
set_option maxHeartbeats 4000000 in
theorem lc_28 (hX : xLw p s m meth c b L xs D E tys) (hi : 0 ≤ i ∧ i + 5 < L) (hl : lv_has ls 4 [(3, .int (zi i)), (2, .ref (E.1 15)), (1, .ref (E.1 0)), (0, .ref b)]) (hP : va_P D vwCl (xi_wld E xS0 m0) H) (hS : va_S (fun q => s.heap.size ≤ q) s.heap H locs) (hR : Rel m0) (hk : k + 1 ≤ 600000 ∧ n + 3 ≤ 7302250) (kk : ∀ (H1 : Heap) (locs1 : List Loc) (m2 : xi_M), va_P D vwCl (xi_wld E xS0 m2) H1 → va_S (fun q => s.heap.size ≤ q) s.heap H1 locs1 → Rel m2 → W p l e room_1 s m #[Value.ref b] below meth c H1 locs1 (k + 1) (n + 3) Q (F0 m 1395 ls [])) : W p l e room_1 s m #[Value.ref b] below meth c H locs k n Q (F0 m 1090 ls []) := by
  have hX' := hX
  obtain ⟨hAt, hL, hC, hn, hK, hA⟩ := hX
  have hF := xT_of hAt
  have hx := hAt.1
  have hb := hAt.2.1
  obtain ⟨v, m1, m2, e1, e2, hR2⟩ := sq_kinds (xs (i + 1).toNat) (xs (i + 2).toNat) hR
  refine lv_aload_n hx hb dl_1090 rfl (lv_at hl 2 rfl) ?_
  refine lw_arg hX' hl hi.1 (j := 1) (by omega) (by omega) hS dl_1091 dl_1092 dl_1093 dl_1094 dl_1095 ?_
  refine lw_arg hX' hl hi.1 (j := 2) (by omega) (by omega) hS dl_1096 dl_1097 dl_1098 dl_1099 dl_1100 ?_
  refine xl_callV (E := E) (S := xS0) (A := fun q => s.heap.size ≤ q) (b := 0) (ci := 7) (As := [.int (xs (i + 1).toNat), .int (xs (i + 2).toNat)]) (rest := []) hF hK hC.1 rfl rfl (sn_X8_kinds hC _ _ _ _ e1) (xw_in 718 (by decide +kernel) rfl) (xw_in 715 (by decide +kernel) rfl) (xw_in 716 (by decide +kernel) rfl) (xw_in 717 (by decide +kernel) rfl) (xw_in 53 (by decide +kernel) rfl) ⟨by decide +kernel, by decide +kernel, by show _ = some 2; decide +kernel⟩ ⟨Nat.le_of_ble_eq_true rfl, Nat.le_of_ble_eq_true rfl⟩ hl.1 (Nat.le_of_ble_eq_true rfl) dl_1101 hP hS hA ⟨(by show k ≤ 600000; omega), (by show n ≤ 7302250; omega)⟩ (fun H locs hP hS => ?_)
  refine lv_aload_n hx hb dl_1104 rfl (lv_at hl 1 rfl) ?_
  refine lw_arg hX' hl hi.1 (j := 1) (by omega) (by omega) hS dl_1105 dl_1106 dl_1107 dl_1108 dl_1109 ?_
  refine lw_arg hX' hl hi.1 (j := 2) (by omega) (by omega) hS dl_1110 dl_1111 dl_1112 dl_1113 dl_1114 ?_
  refine xl_callV (E := E) (S := xS0) (A := fun q => s.heap.size ≤ q) (b := 15) (ci := 8) (As := [.int (xs (i + 1).toNat), .int (xs (i + 2).toNat)]) (rest := [.int v]) hF hK hC.1 rfl rfl (sn_X9_kinds hC _ _ _ _ e2) (xw_in 1169 (by decide +kernel) rfl) (xw_in 1166 (by decide +kernel) rfl) (xw_in 1167 (by decide +kernel) rfl) (xw_in 1168 (by decide +kernel) rfl) (xw_in 60 (by decide +kernel) rfl) ⟨by decide +kernel, by decide +kernel, by show _ = some 2; decide +kernel⟩ ⟨Nat.le_of_ble_eq_true rfl, Nat.le_of_ble_eq_true rfl⟩ hl.1 (Nat.le_of_ble_eq_true rfl) dl_1115 hP hS hA ⟨(by show k ≤ 600000; omega), (by show n ≤ 7302250; omega)⟩ (fun H locs hP hS => ?_)
  refine lv_icmp_eq (tgt := 1395) hx hb dl_1118 (by decide) (fun c9 => ?_) (fun c9 => absurd rfl c9)
  refine W.widen (k := k + 1) (n := n + 3) (by omega) (by omega) ?_
  exact kk H locs m2 hP hS hR2
set_option maxHeartbeats 4000000 in
theorem lc_29 (hX : xLw p s m meth c b L xs D E tys) (hi : 0 ≤ i ∧ i + 5 < L) (hl : lv_has ls 4 [(3, .int (zi i)), (2, .ref (E.1 15)), (1, .ref (E.1 0)), (0, .ref b)]) (hP : va_P D vwCl (xi_wld E xS0 m0) H) (hS : va_S (fun q => s.heap.size ≤ q) s.heap H locs) (hR : Rel m0) (hk : k + 1 ≤ 600000 ∧ n + 3 ≤ 7302250) (kk : ∀ (H1 : Heap) (locs1 : List Loc) (m2 : xi_M), va_P D vwCl (xi_wld E xS0 m2) H1 → va_S (fun q => s.heap.size ≤ q) s.heap H1 locs1 → Rel m2 → W p l e room_1 s m #[Value.ref b] below meth c H1 locs1 (k + 1) (n + 3) Q (F0 m 1395 ls [])) : W p l e room_1 s m #[Value.ref b] below meth c H locs k n Q (F0 m 1123 ls []) := by
  have hX' := hX
  obtain ⟨hAt, hL, hC, hn, hK, hA⟩ := hX
  have hF := xT_of hAt
  have hx := hAt.1
  have hb := hAt.2.1
  obtain ⟨v, m1, m2, e1, e2, hR2⟩ := sq_sets (xs (i + 1).toNat) hR
  refine lv_aload_n hx hb dl_1123 rfl (lv_at hl 2 rfl) ?_
  refine lw_arg hX' hl hi.1 (j := 1) (by omega) (by omega) hS dl_1124 dl_1125 dl_1126 dl_1127 dl_1128 ?_
  refine xl_callV (E := E) (S := xS0) (A := fun q => s.heap.size ≤ q) (b := 0) (ci := 7) (As := [.int (xs (i + 1).toNat)]) (rest := []) hF hK hC.1 rfl rfl (sn_X8_sets hC _ _ _ _ e1) (xw_in 722 (by decide +kernel) rfl) (xw_in 719 (by decide +kernel) rfl) (xw_in 720 (by decide +kernel) rfl) (xw_in 721 (by decide +kernel) rfl) (xw_in 53 (by decide +kernel) rfl) ⟨by decide +kernel, by decide +kernel, by show _ = some 1; decide +kernel⟩ ⟨Nat.le_of_ble_eq_true rfl, Nat.le_of_ble_eq_true rfl⟩ hl.1 (Nat.le_of_ble_eq_true rfl) dl_1129 hP hS hA ⟨(by show k ≤ 600000; omega), (by show n ≤ 7302250; omega)⟩ (fun H locs hP hS => ?_)
  refine lv_aload_n hx hb dl_1132 rfl (lv_at hl 1 rfl) ?_
  refine lw_arg hX' hl hi.1 (j := 1) (by omega) (by omega) hS dl_1133 dl_1134 dl_1135 dl_1136 dl_1137 ?_
  refine xl_callV (E := E) (S := xS0) (A := fun q => s.heap.size ≤ q) (b := 15) (ci := 8) (As := [.int (xs (i + 1).toNat)]) (rest := [.int v]) hF hK hC.1 rfl rfl (sn_X9_sets hC _ _ _ _ e2) (xw_in 1173 (by decide +kernel) rfl) (xw_in 1170 (by decide +kernel) rfl) (xw_in 1171 (by decide +kernel) rfl) (xw_in 1172 (by decide +kernel) rfl) (xw_in 60 (by decide +kernel) rfl) ⟨by decide +kernel, by decide +kernel, by show _ = some 1; decide +kernel⟩ ⟨Nat.le_of_ble_eq_true rfl, Nat.le_of_ble_eq_true rfl⟩ hl.1 (Nat.le_of_ble_eq_true rfl) dl_1138 hP hS hA ⟨(by show k ≤ 600000; omega), (by show n ≤ 7302250; omega)⟩ (fun H locs hP hS => ?_)
  refine lv_icmp_eq (tgt := 1395) hx hb dl_1141 (by decide) (fun c9 => ?_) (fun c9 => absurd rfl c9)
  refine W.widen (k := k + 1) (n := n + 3) (by omega) (by omega) ?_
  exact kk H locs m2 hP hS hR2
set_option maxHeartbeats 4000000 in
theorem lc_30 (hX : xLw p s m meth c b L xs D E tys) (hi : 0 ≤ i ∧ i + 5 < L) (hl : lv_has ls 4 [(3, .int (zi i)), (2, .ref (E.1 15)), (1, .ref (E.1 0)), (0, .ref b)]) (hP : va_P D vwCl (xi_wld E xS0 m0) H) (hS : va_S (fun q => s.heap.size ≤ q) s.heap H locs) (hR : Rel m0) (hk : k + 1 ≤ 600000 ∧ n + 3 ≤ 7302250) (kk : ∀ (H1 : Heap) (locs1 : List Loc) (m2 : xi_M), va_P D vwCl (xi_wld E xS0 m2) H1 → va_S (fun q => s.heap.size ≤ q) s.heap H1 locs1 → Rel m2 → W p l e room_1 s m #[Value.ref b] below meth c H1 locs1 (k + 1) (n + 3) Q (F0 m 1395 ls [])) : W p l e room_1 s m #[Value.ref b] below meth c H locs k n Q (F0 m 1146 ls []) := by
  have hX' := hX
  obtain ⟨hAt, hL, hC, hn, hK, hA⟩ := hX
  have hF := xT_of hAt
  have hx := hAt.1
  have hb := hAt.2.1
  obtain ⟨v, m1, m2, e1, e2, hR2⟩ := sq_surely (xs (i + 1).toNat) hR
  refine lv_aload_n hx hb dl_1146 rfl (lv_at hl 2 rfl) ?_
  refine lw_arg hX' hl hi.1 (j := 1) (by omega) (by omega) hS dl_1147 dl_1148 dl_1149 dl_1150 dl_1151 ?_
  refine xl_callV (E := E) (S := xS0) (A := fun q => s.heap.size ≤ q) (b := 0) (ci := 7) (As := [.int (xs (i + 1).toNat)]) (rest := []) hF hK hC.1 rfl rfl (sn_X8_surely hC _ _ _ _ e1) (xw_in 730 (by decide +kernel) rfl) (xw_in 727 (by decide +kernel) rfl) (xw_in 728 (by decide +kernel) rfl) (xw_in 729 (by decide +kernel) rfl) (xw_in 53 (by decide +kernel) rfl) ⟨by decide +kernel, by decide +kernel, by show _ = some 1; decide +kernel⟩ ⟨Nat.le_of_ble_eq_true rfl, Nat.le_of_ble_eq_true rfl⟩ hl.1 (Nat.le_of_ble_eq_true rfl) dl_1152 hP hS hA ⟨(by show k ≤ 600000; omega), (by show n ≤ 7302250; omega)⟩ (fun H locs hP hS => ?_)
  refine lv_aload_n hx hb dl_1155 rfl (lv_at hl 1 rfl) ?_
  refine lw_arg hX' hl hi.1 (j := 1) (by omega) (by omega) hS dl_1156 dl_1157 dl_1158 dl_1159 dl_1160 ?_
  refine xl_callV (E := E) (S := xS0) (A := fun q => s.heap.size ≤ q) (b := 15) (ci := 8) (As := [.int (xs (i + 1).toNat)]) (rest := [.int v]) hF hK hC.1 rfl rfl (sn_X9_surely hC _ _ _ _ e2) (xw_in 1181 (by decide +kernel) rfl) (xw_in 1178 (by decide +kernel) rfl) (xw_in 1179 (by decide +kernel) rfl) (xw_in 1180 (by decide +kernel) rfl) (xw_in 60 (by decide +kernel) rfl) ⟨by decide +kernel, by decide +kernel, by show _ = some 1; decide +kernel⟩ ⟨Nat.le_of_ble_eq_true rfl, Nat.le_of_ble_eq_true rfl⟩ hl.1 (Nat.le_of_ble_eq_true rfl) dl_1161 hP hS hA ⟨(by show k ≤ 600000; omega), (by show n ≤ 7302250; omega)⟩ (fun H locs hP hS => ?_)
  refine lv_icmp_eq (tgt := 1395) hx hb dl_1164 (by decide) (fun c9 => ?_) (fun c9 => absurd rfl c9)
  refine W.widen (k := k + 1) (n := n + 3) (by omega) (by omega) ?_
  exact kk H locs m2 hP hS hR2
set_option maxHeartbeats 4000000 in
theorem lc_31 (hX : xLw p s m meth c b L xs D E tys) (hi : 0 ≤ i ∧ i + 5 < L) (hl : lv_has ls 4 [(3, .int (zi i)), (2, .ref (E.1 15)), (1, .ref (E.1 0)), (0, .ref b)]) (hP : va_P D vwCl (xi_wld E xS0 m0) H) (hS : va_S (fun q => s.heap.size ≤ q) s.heap H locs) (hR : Rel m0) (hk : k + 1 ≤ 600000 ∧ n + 3 ≤ 7302250) (kk : ∀ (H1 : Heap) (locs1 : List Loc) (m2 : xi_M), va_P D vwCl (xi_wld E xS0 m2) H1 → va_S (fun q => s.heap.size ≤ q) s.heap H1 locs1 → Rel m2 → W p l e room_1 s m #[Value.ref b] below meth c H1 locs1 (k + 1) (n + 3) Q (F0 m 1395 ls [])) : W p l e room_1 s m #[Value.ref b] below meth c H locs k n Q (F0 m 1169 ls []) := by
  have hX' := hX
  obtain ⟨hAt, hL, hC, hn, hK, hA⟩ := hX
  have hF := xT_of hAt
  have hx := hAt.1
  have hb := hAt.2.1
  obtain ⟨v, m1, m2, e1, e2, hR2⟩ := sq_duel (xs (i + 1).toNat) hR
  refine lv_aload_n hx hb dl_1169 rfl (lv_at hl 2 rfl) ?_
  refine lw_arg hX' hl hi.1 (j := 1) (by omega) (by omega) hS dl_1170 dl_1171 dl_1172 dl_1173 dl_1174 ?_
  refine xl_callV (E := E) (S := xS0) (A := fun q => s.heap.size ≤ q) (b := 0) (ci := 7) (As := [.int (xs (i + 1).toNat)]) (rest := []) hF hK hC.1 rfl rfl (sn_X8_duel hC _ _ _ _ e1) (xw_in 734 (by decide +kernel) rfl) (xw_in 731 (by decide +kernel) rfl) (xw_in 732 (by decide +kernel) rfl) (xw_in 733 (by decide +kernel) rfl) (xw_in 53 (by decide +kernel) rfl) ⟨by decide +kernel, by decide +kernel, by show _ = some 1; decide +kernel⟩ ⟨Nat.le_of_ble_eq_true rfl, Nat.le_of_ble_eq_true rfl⟩ hl.1 (Nat.le_of_ble_eq_true rfl) dl_1175 hP hS hA ⟨(by show k ≤ 600000; omega), (by show n ≤ 7302250; omega)⟩ (fun H locs hP hS => ?_)
  refine lv_aload_n hx hb dl_1178 rfl (lv_at hl 1 rfl) ?_
  refine lw_arg hX' hl hi.1 (j := 1) (by omega) (by omega) hS dl_1179 dl_1180 dl_1181 dl_1182 dl_1183 ?_
  refine xl_callV (E := E) (S := xS0) (A := fun q => s.heap.size ≤ q) (b := 15) (ci := 8) (As := [.int (xs (i + 1).toNat)]) (rest := [.int v]) hF hK hC.1 rfl rfl (sn_X9_duel hC _ _ _ _ e2) (xw_in 1185 (by decide +kernel) rfl) (xw_in 1182 (by decide +kernel) rfl) (xw_in 1183 (by decide +kernel) rfl) (xw_in 1184 (by decide +kernel) rfl) (xw_in 60 (by decide +kernel) rfl) ⟨by decide +kernel, by decide +kernel, by show _ = some 1; decide +kernel⟩ ⟨Nat.le_of_ble_eq_true rfl, Nat.le_of_ble_eq_true rfl⟩ hl.1 (Nat.le_of_ble_eq_true rfl) dl_1184 hP hS hA ⟨(by show k ≤ 600000; omega), (by show n ≤ 7302250; omega)⟩ (fun H locs hP hS => ?_)
  refine lv_icmp_eq (tgt := 1395) hx hb dl_1187 (by decide) (fun c9 => ?_) (fun c9 => absurd rfl c9)
  refine W.widen (k := k + 1) (n := n + 3) (by omega) (by omega) ?_
  exact kk H locs m2 hP hS hR2
set_option maxHeartbeats 4000000 in
theorem lc_32 (hX : xLw p s m meth c b L xs D E tys) (hi : 0 ≤ i ∧ i + 5 < L) (hl : lv_has ls 4 [(3, .int (zi i)), (2, .ref (E.1 15)), (1, .ref (E.1 0)), (0, .ref b)]) (hP : va_P D vwCl (xi_wld E xS0 m0) H) (hS : va_S (fun q => s.heap.size ≤ q) s.heap H locs) (hR : Rel m0) (hk : k + 1 ≤ 600000 ∧ n + 3 ≤ 7302250) (kk : ∀ (H1 : Heap) (locs1 : List Loc) (m2 : xi_M), va_P D vwCl (xi_wld E xS0 m2) H1 → va_S (fun q => s.heap.size ≤ q) s.heap H1 locs1 → Rel m2 → W p l e room_1 s m #[Value.ref b] below meth c H1 locs1 (k + 1) (n + 3) Q (F0 m 1395 ls [])) : W p l e room_1 s m #[Value.ref b] below meth c H locs k n Q (F0 m 1192 ls []) := by
  have hX' := hX
  obtain ⟨hAt, hL, hC, hn, hK, hA⟩ := hX
  have hF := xT_of hAt
  have hx := hAt.1
  have hb := hAt.2.1
  obtain ⟨v, m1, m2, e1, e2, hR2⟩ := sq_odds (xs (i + 1).toNat) (xs (i + 2).toNat) hR
  refine lv_aload_n hx hb dl_1192 rfl (lv_at hl 2 rfl) ?_
  refine lw_arg hX' hl hi.1 (j := 1) (by omega) (by omega) hS dl_1193 dl_1194 dl_1195 dl_1196 dl_1197 ?_
  refine lw_arg hX' hl hi.1 (j := 2) (by omega) (by omega) hS dl_1198 dl_1199 dl_1200 dl_1201 dl_1202 ?_
  refine xl_callV (E := E) (S := xS0) (A := fun q => s.heap.size ≤ q) (b := 0) (ci := 7) (As := [.int (xs (i + 1).toNat), .int (xs (i + 2).toNat)]) (rest := []) hF hK hC.1 rfl rfl (sn_X8_odds hC _ _ _ _ e1) (xw_in 750 (by decide +kernel) rfl) (xw_in 747 (by decide +kernel) rfl) (xw_in 748 (by decide +kernel) rfl) (xw_in 749 (by decide +kernel) rfl) (xw_in 53 (by decide +kernel) rfl) ⟨by decide +kernel, by decide +kernel, by show _ = some 2; decide +kernel⟩ ⟨Nat.le_of_ble_eq_true rfl, Nat.le_of_ble_eq_true rfl⟩ hl.1 (Nat.le_of_ble_eq_true rfl) dl_1203 hP hS hA ⟨(by show k ≤ 600000; omega), (by show n ≤ 7302250; omega)⟩ (fun H locs hP hS => ?_)
  refine lv_aload_n hx hb dl_1206 rfl (lv_at hl 1 rfl) ?_
  refine lw_arg hX' hl hi.1 (j := 1) (by omega) (by omega) hS dl_1207 dl_1208 dl_1209 dl_1210 dl_1211 ?_
  refine lw_arg hX' hl hi.1 (j := 2) (by omega) (by omega) hS dl_1212 dl_1213 dl_1214 dl_1215 dl_1216 ?_
  refine xl_callV (E := E) (S := xS0) (A := fun q => s.heap.size ≤ q) (b := 15) (ci := 8) (As := [.int (xs (i + 1).toNat), .int (xs (i + 2).toNat)]) (rest := [.int v]) hF hK hC.1 rfl rfl (sn_X9_odds hC _ _ _ _ e2) (xw_in 1193 (by decide +kernel) rfl) (xw_in 1190 (by decide +kernel) rfl) (xw_in 1191 (by decide +kernel) rfl) (xw_in 1192 (by decide +kernel) rfl) (xw_in 60 (by decide +kernel) rfl) ⟨by decide +kernel, by decide +kernel, by show _ = some 2; decide +kernel⟩ ⟨Nat.le_of_ble_eq_true rfl, Nat.le_of_ble_eq_true rfl⟩ hl.1 (Nat.le_of_ble_eq_true rfl) dl_1217 hP hS hA ⟨(by show k ≤ 600000; omega), (by show n ≤ 7302250; omega)⟩ (fun H locs hP hS => ?_)
  refine lv_icmp_eq (tgt := 1395) hx hb dl_1220 (by decide) (fun c9 => ?_) (fun c9 => absurd rfl c9)
  refine W.widen (k := k + 1) (n := n + 3) (by omega) (by omega) ?_
  exact kk H locs m2 hP hS hR2
set_option maxHeartbeats 4000000 in
theorem lc_33 (hX : xLw p s m meth c b L xs D E tys) (hi : 0 ≤ i ∧ i + 5 < L) (hl : lv_has ls 4 [(3, .int (zi i)), (2, .ref (E.1 15)), (1, .ref (E.1 0)), (0, .ref b)]) (hP : va_P D vwCl (xi_wld E xS0 m0) H) (hS : va_S (fun q => s.heap.size ≤ q) s.heap H locs) (hR : Rel m0) (hk : k + 1 ≤ 600000 ∧ n + 3 ≤ 7302250) (kk : ∀ (H1 : Heap) (locs1 : List Loc) (m2 : xi_M), va_P D vwCl (xi_wld E xS0 m2) H1 → va_S (fun q => s.heap.size ≤ q) s.heap H1 locs1 → Rel m2 → W p l e room_1 s m #[Value.ref b] below meth c H1 locs1 (k + 1) (n + 3) Q (F0 m 1395 ls [])) : W p l e room_1 s m #[Value.ref b] below meth c H locs k n Q (F0 m 1225 ls []) := by
  have hX' := hX
  obtain ⟨hAt, hL, hC, hn, hK, hA⟩ := hX
  have hF := xT_of hAt
  have hx := hAt.1
  have hb := hAt.2.1
  obtain ⟨v, m1, m2, e1, e2, hR2⟩ := sq_mid (xs (i + 1).toNat) hR
  refine lv_aload_n hx hb dl_1225 rfl (lv_at hl 2 rfl) ?_
  refine lw_arg hX' hl hi.1 (j := 1) (by omega) (by omega) hS dl_1226 dl_1227 dl_1228 dl_1229 dl_1230 ?_
  refine xl_callV (E := E) (S := xS0) (A := fun q => s.heap.size ≤ q) (b := 0) (ci := 7) (As := [.int (xs (i + 1).toNat)]) (rest := []) hF hK hC.1 rfl rfl (sn_X8_mid hC _ _ _ _ e1) (xw_in 758 (by decide +kernel) rfl) (xw_in 755 (by decide +kernel) rfl) (xw_in 756 (by decide +kernel) rfl) (xw_in 757 (by decide +kernel) rfl) (xw_in 53 (by decide +kernel) rfl) ⟨by decide +kernel, by decide +kernel, by show _ = some 1; decide +kernel⟩ ⟨Nat.le_of_ble_eq_true rfl, Nat.le_of_ble_eq_true rfl⟩ hl.1 (Nat.le_of_ble_eq_true rfl) dl_1231 hP hS hA ⟨(by show k ≤ 600000; omega), (by show n ≤ 7302250; omega)⟩ (fun H locs hP hS => ?_)
  refine lv_aload_n hx hb dl_1234 rfl (lv_at hl 1 rfl) ?_
  refine lw_arg hX' hl hi.1 (j := 1) (by omega) (by omega) hS dl_1235 dl_1236 dl_1237 dl_1238 dl_1239 ?_
  refine xl_callV (E := E) (S := xS0) (A := fun q => s.heap.size ≤ q) (b := 15) (ci := 8) (As := [.int (xs (i + 1).toNat)]) (rest := [.int v]) hF hK hC.1 rfl rfl (sn_X9_mid hC _ _ _ _ e2) (xw_in 1206 (by decide +kernel) rfl) (xw_in 1203 (by decide +kernel) rfl) (xw_in 1204 (by decide +kernel) rfl) (xw_in 1205 (by decide +kernel) rfl) (xw_in 60 (by decide +kernel) rfl) ⟨by decide +kernel, by decide +kernel, by show _ = some 1; decide +kernel⟩ ⟨Nat.le_of_ble_eq_true rfl, Nat.le_of_ble_eq_true rfl⟩ hl.1 (Nat.le_of_ble_eq_true rfl) dl_1240 hP hS hA ⟨(by show k ≤ 600000; omega), (by show n ≤ 7302250; omega)⟩ (fun H locs hP hS => ?_)
  refine lv_icmp_eq (tgt := 1395) hx hb dl_1243 (by decide) (fun c9 => ?_) (fun c9 => absurd rfl c9)
  refine W.widen (k := k + 1) (n := n + 3) (by omega) (by omega) ?_
  exact kk H locs m2 hP hS hR2
set_option maxHeartbeats 4000000 in
theorem lc_34 (hX : xLw p s m meth c b L xs D E tys) (hi : 0 ≤ i ∧ i + 5 < L) (hl : lv_has ls 4 [(3, .int (zi i)), (2, .ref (E.1 15)), (1, .ref (E.1 0)), (0, .ref b)]) (hP : va_P D vwCl (xi_wld E xS0 m0) H) (hS : va_S (fun q => s.heap.size ≤ q) s.heap H locs) (hR : Rel m0) (hk : k + 1 ≤ 600000 ∧ n + 3 ≤ 7302250) (kk : ∀ (H1 : Heap) (locs1 : List Loc) (m2 : xi_M), va_P D vwCl (xi_wld E xS0 m2) H1 → va_S (fun q => s.heap.size ≤ q) s.heap H1 locs1 → Rel m2 → W p l e room_1 s m #[Value.ref b] below meth c H1 locs1 (k + 1) (n + 3) Q (F0 m 1395 ls [])) : W p l e room_1 s m #[Value.ref b] below meth c H locs k n Q (F0 m 1248 ls []) := by
  have hX' := hX
  obtain ⟨hAt, hL, hC, hn, hK, hA⟩ := hX
  have hF := xT_of hAt
  have hx := hAt.1
  have hb := hAt.2.1
  obtain ⟨v, m1, m2, e1, e2, hR2⟩ := sq_lots (xs (i + 1).toNat) (xs (i + 2).toNat) hR
  refine lv_aload_n hx hb dl_1248 rfl (lv_at hl 2 rfl) ?_
  refine lw_arg hX' hl hi.1 (j := 1) (by omega) (by omega) hS dl_1249 dl_1250 dl_1251 dl_1252 dl_1253 ?_
  refine lw_arg hX' hl hi.1 (j := 2) (by omega) (by omega) hS dl_1254 dl_1255 dl_1256 dl_1257 dl_1258 ?_
  refine xl_callV (E := E) (S := xS0) (A := fun q => s.heap.size ≤ q) (b := 0) (ci := 7) (As := [.int (xs (i + 1).toNat), .int (xs (i + 2).toNat)]) (rest := []) hF hK hC.1 rfl rfl (sn_X8_lots hC _ _ _ _ e1) (xw_in 763 (by decide +kernel) rfl) (xw_in 760 (by decide +kernel) rfl) (xw_in 761 (by decide +kernel) rfl) (xw_in 762 (by decide +kernel) rfl) (xw_in 53 (by decide +kernel) rfl) ⟨by decide +kernel, by decide +kernel, by show _ = some 2; decide +kernel⟩ ⟨Nat.le_of_ble_eq_true rfl, Nat.le_of_ble_eq_true rfl⟩ hl.1 (Nat.le_of_ble_eq_true rfl) dl_1259 hP hS hA ⟨(by show k ≤ 600000; omega), (by show n ≤ 7302250; omega)⟩ (fun H locs hP hS => ?_)
  refine lv_aload_n hx hb dl_1262 rfl (lv_at hl 1 rfl) ?_
  refine lw_arg hX' hl hi.1 (j := 1) (by omega) (by omega) hS dl_1263 dl_1264 dl_1265 dl_1266 dl_1267 ?_
  refine lw_arg hX' hl hi.1 (j := 2) (by omega) (by omega) hS dl_1268 dl_1269 dl_1270 dl_1271 dl_1272 ?_
  refine xl_callV (E := E) (S := xS0) (A := fun q => s.heap.size ≤ q) (b := 15) (ci := 8) (As := [.int (xs (i + 1).toNat), .int (xs (i + 2).toNat)]) (rest := [.int v]) hF hK hC.1 rfl rfl (sn_X9_lots hC _ _ _ _ e2) (xw_in 1210 (by decide +kernel) rfl) (xw_in 1207 (by decide +kernel) rfl) (xw_in 1208 (by decide +kernel) rfl) (xw_in 1209 (by decide +kernel) rfl) (xw_in 60 (by decide +kernel) rfl) ⟨by decide +kernel, by decide +kernel, by show _ = some 2; decide +kernel⟩ ⟨Nat.le_of_ble_eq_true rfl, Nat.le_of_ble_eq_true rfl⟩ hl.1 (Nat.le_of_ble_eq_true rfl) dl_1273 hP hS hA ⟨(by show k ≤ 600000; omega), (by show n ≤ 7302250; omega)⟩ (fun H locs hP hS => ?_)
  refine lv_icmp_eq (tgt := 1395) hx hb dl_1276 (by decide) (fun c9 => ?_) (fun c9 => absurd rfl c9)
  refine W.widen (k := k + 1) (n := n + 3) (by omega) (by omega) ?_
  exact kk H locs m2 hP hS hR2
set_option maxHeartbeats 4000000 in
theorem lc_35 (hX : xLw p s m meth c b L xs D E tys) (hi : 0 ≤ i ∧ i + 5 < L) (hl : lv_has ls 4 [(3, .int (zi i)), (2, .ref (E.1 15)), (1, .ref (E.1 0)), (0, .ref b)]) (hP : va_P D vwCl (xi_wld E xS0 m0) H) (hS : va_S (fun q => s.heap.size ≤ q) s.heap H locs) (hR : Rel m0) (hk : k + 1 ≤ 600000 ∧ n + 3 ≤ 7302250) (kk : ∀ (H1 : Heap) (locs1 : List Loc) (m2 : xi_M), va_P D vwCl (xi_wld E xS0 m2) H1 → va_S (fun q => s.heap.size ≤ q) s.heap H1 locs1 → Rel m2 → W p l e room_1 s m #[Value.ref b] below meth c H1 locs1 (k + 1) (n + 3) Q (F0 m 1395 ls [])) : W p l e room_1 s m #[Value.ref b] below meth c H locs k n Q (F0 m 1281 ls []) := by
  have hX' := hX
  obtain ⟨hAt, hL, hC, hn, hK, hA⟩ := hX
  have hF := xT_of hAt
  have hx := hAt.1
  have hb := hAt.2.1
  obtain ⟨v, m1, m2, e1, e2, hR2⟩ := sq_asked  hR
  refine lv_aload_n hx hb dl_1281 rfl (lv_at hl 2 rfl) ?_
  refine xl_callV (E := E) (S := xS0) (A := fun q => s.heap.size ≤ q) (b := 0) (ci := 7) (As := []) (rest := []) hF hK hC.1 rfl rfl (sn_X8_asked hC _ _ _ _ e1) (xw_in 773 (by decide +kernel) rfl) (xw_in 770 (by decide +kernel) rfl) (xw_in 771 (by decide +kernel) rfl) (xw_in 772 (by decide +kernel) rfl) (xw_in 53 (by decide +kernel) rfl) ⟨by decide +kernel, by decide +kernel, by show _ = some 0; decide +kernel⟩ ⟨Nat.le_of_ble_eq_true rfl, Nat.le_of_ble_eq_true rfl⟩ hl.1 (Nat.le_of_ble_eq_true rfl) dl_1282 hP hS hA ⟨(by show k ≤ 600000; omega), (by show n ≤ 7302250; omega)⟩ (fun H locs hP hS => ?_)
  refine lv_aload_n hx hb dl_1285 rfl (lv_at hl 1 rfl) ?_
  refine xl_callV (E := E) (S := xS0) (A := fun q => s.heap.size ≤ q) (b := 15) (ci := 8) (As := []) (rest := [.int v]) hF hK hC.1 rfl rfl (sn_X9_asked hC _ _ _ _ e2) (xw_in 1225 (by decide +kernel) rfl) (xw_in 1222 (by decide +kernel) rfl) (xw_in 1223 (by decide +kernel) rfl) (xw_in 1224 (by decide +kernel) rfl) (xw_in 60 (by decide +kernel) rfl) ⟨by decide +kernel, by decide +kernel, by show _ = some 0; decide +kernel⟩ ⟨Nat.le_of_ble_eq_true rfl, Nat.le_of_ble_eq_true rfl⟩ hl.1 (Nat.le_of_ble_eq_true rfl) dl_1286 hP hS hA ⟨(by show k ≤ 600000; omega), (by show n ≤ 7302250; omega)⟩ (fun H locs hP hS => ?_)
  refine lv_icmp_eq (tgt := 1395) hx hb dl_1289 (by decide) (fun c9 => ?_) (fun c9 => absurd rfl c9)
  refine W.widen (k := k + 1) (n := n + 3) (by omega) (by omega) ?_
  exact kk H locs m2 hP hS hR2
set_option maxHeartbeats 4000000 in
theorem lc_36 (hX : xLw p s m meth c b L xs D E tys) (hi : 0 ≤ i ∧ i + 5 < L) (hl : lv_has ls 4 [(3, .int (zi i)), (2, .ref (E.1 15)), (1, .ref (E.1 0)), (0, .ref b)]) (hP : va_P D vwCl (xi_wld E xS0 m0) H) (hS : va_S (fun q => s.heap.size ≤ q) s.heap H locs) (hR : Rel m0) (hk : k + 1 ≤ 600000 ∧ n + 3 ≤ 7302250) (kk : ∀ (H1 : Heap) (locs1 : List Loc) (m2 : xi_M), va_P D vwCl (xi_wld E xS0 m2) H1 → va_S (fun q => s.heap.size ≤ q) s.heap H1 locs1 → Rel m2 → W p l e room_1 s m #[Value.ref b] below meth c H1 locs1 (k + 1) (n + 3) Q (F0 m 1395 ls [])) : W p l e room_1 s m #[Value.ref b] below meth c H locs k n Q (F0 m 1294 ls []) := by
  have hX' := hX
  obtain ⟨hAt, hL, hC, hn, hK, hA⟩ := hX
  have hF := xT_of hAt
  have hx := hAt.1
  have hb := hAt.2.1
  obtain ⟨v, m1, m2, e1, e2, hR2⟩ := sq_upper  hR
  refine lv_aload_n hx hb dl_1294 rfl (lv_at hl 2 rfl) ?_
  refine xl_callV (E := E) (S := xS0) (A := fun q => s.heap.size ≤ q) (b := 0) (ci := 7) (As := []) (rest := []) hF hK hC.1 rfl rfl (sn_X8_upper hC _ _ _ _ e1) (xw_in 777 (by decide +kernel) rfl) (xw_in 774 (by decide +kernel) rfl) (xw_in 775 (by decide +kernel) rfl) (xw_in 776 (by decide +kernel) rfl) (xw_in 53 (by decide +kernel) rfl) ⟨by decide +kernel, by decide +kernel, by show _ = some 0; decide +kernel⟩ ⟨Nat.le_of_ble_eq_true rfl, Nat.le_of_ble_eq_true rfl⟩ hl.1 (Nat.le_of_ble_eq_true rfl) dl_1295 hP hS hA ⟨(by show k ≤ 600000; omega), (by show n ≤ 7302250; omega)⟩ (fun H locs hP hS => ?_)
  refine lv_aload_n hx hb dl_1298 rfl (lv_at hl 1 rfl) ?_
  refine xl_callV (E := E) (S := xS0) (A := fun q => s.heap.size ≤ q) (b := 15) (ci := 8) (As := []) (rest := [.long v]) hF hK hC.1 rfl rfl (sn_X9_upper hC _ _ _ _ e2) (xw_in 1229 (by decide +kernel) rfl) (xw_in 1226 (by decide +kernel) rfl) (xw_in 1227 (by decide +kernel) rfl) (xw_in 1228 (by decide +kernel) rfl) (xw_in 60 (by decide +kernel) rfl) ⟨by decide +kernel, by decide +kernel, by show _ = some 0; decide +kernel⟩ ⟨Nat.le_of_ble_eq_true rfl, Nat.le_of_ble_eq_true rfl⟩ hl.1 (Nat.le_of_ble_eq_true rfl) dl_1299 hP hS hA ⟨(by show k ≤ 600000; omega), (by show n ≤ 7302250; omega)⟩ (fun H locs hP hS => ?_)
  refine W.lcmp hx hb dl_1302 ?_
  rw [show lg_cmp v v = 0 by unfold lg_cmp; rw [if_neg (by simp), if_pos rfl]]
  refine lv_if_eq (tgt := 1395) hx hb dl_1303 (by decide) (fun c9 => ?_) (fun c9 => absurd rfl c9)
  refine W.widen (k := k + 1) (n := n + 3) (by omega) (by omega) ?_
  exact kk H locs m2 hP hS hR2
set_option maxHeartbeats 4000000 in
theorem lc_37 (hX : xLw p s m meth c b L xs D E tys) (hi : 0 ≤ i ∧ i + 5 < L) (hl : lv_has ls 4 [(3, .int (zi i)), (2, .ref (E.1 15)), (1, .ref (E.1 0)), (0, .ref b)]) (hP : va_P D vwCl (xi_wld E xS0 m0) H) (hS : va_S (fun q => s.heap.size ≤ q) s.heap H locs) (hR : Rel m0) (hk : k + 1 ≤ 600000 ∧ n + 3 ≤ 7302250) (kk : ∀ (H1 : Heap) (locs1 : List Loc) (m2 : xi_M), va_P D vwCl (xi_wld E xS0 m2) H1 → va_S (fun q => s.heap.size ≤ q) s.heap H1 locs1 → Rel m2 → W p l e room_1 s m #[Value.ref b] below meth c H1 locs1 (k + 1) (n + 3) Q (F0 m 1395 ls [])) : W p l e room_1 s m #[Value.ref b] below meth c H locs k n Q (F0 m 1308 ls []) := by
  have hX' := hX
  obtain ⟨hAt, hL, hC, hn, hK, hA⟩ := hX
  have hF := xT_of hAt
  have hx := hAt.1
  have hb := hAt.2.1
  obtain ⟨v, m1, m2, e1, e2, hR2⟩ := sq_lower  hR
  refine lv_aload_n hx hb dl_1308 rfl (lv_at hl 2 rfl) ?_
  refine xl_callV (E := E) (S := xS0) (A := fun q => s.heap.size ≤ q) (b := 0) (ci := 7) (As := []) (rest := []) hF hK hC.1 rfl rfl (sn_X8_lower hC _ _ _ _ e1) (xw_in 781 (by decide +kernel) rfl) (xw_in 778 (by decide +kernel) rfl) (xw_in 779 (by decide +kernel) rfl) (xw_in 780 (by decide +kernel) rfl) (xw_in 53 (by decide +kernel) rfl) ⟨by decide +kernel, by decide +kernel, by show _ = some 0; decide +kernel⟩ ⟨Nat.le_of_ble_eq_true rfl, Nat.le_of_ble_eq_true rfl⟩ hl.1 (Nat.le_of_ble_eq_true rfl) dl_1309 hP hS hA ⟨(by show k ≤ 600000; omega), (by show n ≤ 7302250; omega)⟩ (fun H locs hP hS => ?_)
  refine lv_aload_n hx hb dl_1312 rfl (lv_at hl 1 rfl) ?_
  refine xl_callV (E := E) (S := xS0) (A := fun q => s.heap.size ≤ q) (b := 15) (ci := 8) (As := []) (rest := [.long v]) hF hK hC.1 rfl rfl (sn_X9_lower hC _ _ _ _ e2) (xw_in 1233 (by decide +kernel) rfl) (xw_in 1230 (by decide +kernel) rfl) (xw_in 1231 (by decide +kernel) rfl) (xw_in 1232 (by decide +kernel) rfl) (xw_in 60 (by decide +kernel) rfl) ⟨by decide +kernel, by decide +kernel, by show _ = some 0; decide +kernel⟩ ⟨Nat.le_of_ble_eq_true rfl, Nat.le_of_ble_eq_true rfl⟩ hl.1 (Nat.le_of_ble_eq_true rfl) dl_1313 hP hS hA ⟨(by show k ≤ 600000; omega), (by show n ≤ 7302250; omega)⟩ (fun H locs hP hS => ?_)
  refine W.lcmp hx hb dl_1316 ?_
  rw [show lg_cmp v v = 0 by unfold lg_cmp; rw [if_neg (by simp), if_pos rfl]]
  refine lv_if_eq (tgt := 1395) hx hb dl_1317 (by decide) (fun c9 => ?_) (fun c9 => absurd rfl c9)
  refine W.widen (k := k + 1) (n := n + 3) (by omega) (by omega) ?_
  exact kk H locs m2 hP hS hR2
set_option maxHeartbeats 4000000 in
theorem lc_38 (hX : xLw p s m meth c b L xs D E tys) (hi : 0 ≤ i ∧ i + 5 < L) (hl : lv_has ls 4 [(3, .int (zi i)), (2, .ref (E.1 15)), (1, .ref (E.1 0)), (0, .ref b)]) (hP : va_P D vwCl (xi_wld E xS0 m0) H) (hS : va_S (fun q => s.heap.size ≤ q) s.heap H locs) (hR : Rel m0) (hk : k + 1 ≤ 600000 ∧ n + 3 ≤ 7302250) (kk : ∀ (H1 : Heap) (locs1 : List Loc) (m2 : xi_M), va_P D vwCl (xi_wld E xS0 m2) H1 → va_S (fun q => s.heap.size ≤ q) s.heap H1 locs1 → Rel m2 → W p l e room_1 s m #[Value.ref b] below meth c H1 locs1 (k + 1) (n + 3) Q (F0 m 1395 ls [])) : W p l e room_1 s m #[Value.ref b] below meth c H locs k n Q (F0 m 1322 ls []) := by
  have hX' := hX
  obtain ⟨hAt, hL, hC, hn, hK, hA⟩ := hX
  have hF := xT_of hAt
  have hx := hAt.1
  have hb := hAt.2.1
  obtain ⟨v, m1, m2, e1, e2, hR2⟩ := sq_count (xs (i + 1).toNat) hR
  refine lv_aload_n hx hb dl_1322 rfl (lv_at hl 2 rfl) ?_
  refine lw_arg hX' hl hi.1 (j := 1) (by omega) (by omega) hS dl_1323 dl_1324 dl_1325 dl_1326 dl_1327 ?_
  refine xl_callV (E := E) (S := xS0) (A := fun q => s.heap.size ≤ q) (b := 0) (ci := 7) (As := [.int (xs (i + 1).toNat)]) (rest := []) hF hK hC.1 rfl rfl (sn_X8_count hC _ _ _ _ e1) (xw_in 785 (by decide +kernel) rfl) (xw_in 782 (by decide +kernel) rfl) (xw_in 783 (by decide +kernel) rfl) (xw_in 784 (by decide +kernel) rfl) (xw_in 53 (by decide +kernel) rfl) ⟨by decide +kernel, by decide +kernel, by show _ = some 1; decide +kernel⟩ ⟨Nat.le_of_ble_eq_true rfl, Nat.le_of_ble_eq_true rfl⟩ hl.1 (Nat.le_of_ble_eq_true rfl) dl_1328 hP hS hA ⟨(by show k ≤ 600000; omega), (by show n ≤ 7302250; omega)⟩ (fun H locs hP hS => ?_)
  refine lv_aload_n hx hb dl_1331 rfl (lv_at hl 1 rfl) ?_
  refine lw_arg hX' hl hi.1 (j := 1) (by omega) (by omega) hS dl_1332 dl_1333 dl_1334 dl_1335 dl_1336 ?_
  refine xl_callV (E := E) (S := xS0) (A := fun q => s.heap.size ≤ q) (b := 15) (ci := 8) (As := [.int (xs (i + 1).toNat)]) (rest := [.int v]) hF hK hC.1 rfl rfl (sn_X9_count hC _ _ _ _ e2) (xw_in 1237 (by decide +kernel) rfl) (xw_in 1234 (by decide +kernel) rfl) (xw_in 1235 (by decide +kernel) rfl) (xw_in 1236 (by decide +kernel) rfl) (xw_in 60 (by decide +kernel) rfl) ⟨by decide +kernel, by decide +kernel, by show _ = some 1; decide +kernel⟩ ⟨Nat.le_of_ble_eq_true rfl, Nat.le_of_ble_eq_true rfl⟩ hl.1 (Nat.le_of_ble_eq_true rfl) dl_1337 hP hS hA ⟨(by show k ≤ 600000; omega), (by show n ≤ 7302250; omega)⟩ (fun H locs hP hS => ?_)
  refine lv_icmp_eq (tgt := 1395) hx hb dl_1340 (by decide) (fun c9 => ?_) (fun c9 => absurd rfl c9)
  refine W.widen (k := k + 1) (n := n + 3) (by omega) (by omega) ?_
  exact kk H locs m2 hP hS hR2
set_option maxHeartbeats 4000000 in
theorem lc_39 (hX : xLw p s m meth c b L xs D E tys) (hi : 0 ≤ i ∧ i + 5 < L) (hl : lv_has ls 4 [(3, .int (zi i)), (2, .ref (E.1 15)), (1, .ref (E.1 0)), (0, .ref b)]) (hP : va_P D vwCl (xi_wld E xS0 m0) H) (hS : va_S (fun q => s.heap.size ≤ q) s.heap H locs) (hR : Rel m0) (hk : k + 1 ≤ 600000 ∧ n + 3 ≤ 7302250) (kk : ∀ (H1 : Heap) (locs1 : List Loc) (m2 : xi_M), va_P D vwCl (xi_wld E xS0 m2) H1 → va_S (fun q => s.heap.size ≤ q) s.heap H1 locs1 → Rel m2 → W p l e room_1 s m #[Value.ref b] below meth c H1 locs1 (k + 1) (n + 3) Q (F0 m 1395 ls [])) : W p l e room_1 s m #[Value.ref b] below meth c H locs k n Q (F0 m 1345 ls []) := by
  have hX' := hX
  obtain ⟨hAt, hL, hC, hn, hK, hA⟩ := hX
  have hF := xT_of hAt
  have hx := hAt.1
  have hb := hAt.2.1
  obtain ⟨v, m1, m2, e1, e2, hR2⟩ := sq_finding  hR
  refine lv_aload_n hx hb dl_1345 rfl (lv_at hl 2 rfl) ?_
  refine xl_callV (E := E) (S := xS0) (A := fun q => s.heap.size ≤ q) (b := 0) (ci := 7) (As := []) (rest := []) hF hK hC.1 rfl rfl (sn_X8_finding hC _ _ _ _ e1) (xw_in 805 (by decide +kernel) rfl) (xw_in 802 (by decide +kernel) rfl) (xw_in 803 (by decide +kernel) rfl) (xw_in 804 (by decide +kernel) rfl) (xw_in 53 (by decide +kernel) rfl) ⟨by decide +kernel, by decide +kernel, by show _ = some 0; decide +kernel⟩ ⟨Nat.le_of_ble_eq_true rfl, Nat.le_of_ble_eq_true rfl⟩ hl.1 (Nat.le_of_ble_eq_true rfl) dl_1346 hP hS hA ⟨(by show k ≤ 600000; omega), (by show n ≤ 7302250; omega)⟩ (fun H locs hP hS => ?_)
  refine lv_aload_n hx hb dl_1349 rfl (lv_at hl 1 rfl) ?_
  refine xl_callV (E := E) (S := xS0) (A := fun q => s.heap.size ≤ q) (b := 15) (ci := 8) (As := []) (rest := [.int v]) hF hK hC.1 rfl rfl (sn_X9_finding hC _ _ _ _ e2) (xw_in 1248 (by decide +kernel) rfl) (xw_in 1245 (by decide +kernel) rfl) (xw_in 1246 (by decide +kernel) rfl) (xw_in 1247 (by decide +kernel) rfl) (xw_in 60 (by decide +kernel) rfl) ⟨by decide +kernel, by decide +kernel, by show _ = some 0; decide +kernel⟩ ⟨Nat.le_of_ble_eq_true rfl, Nat.le_of_ble_eq_true rfl⟩ hl.1 (Nat.le_of_ble_eq_true rfl) dl_1350 hP hS hA ⟨(by show k ≤ 600000; omega), (by show n ≤ 7302250; omega)⟩ (fun H locs hP hS => ?_)
  refine lv_icmp_eq (tgt := 1395) hx hb dl_1353 (by decide) (fun c9 => ?_) (fun c9 => absurd rfl c9)
  refine W.widen (k := k + 1) (n := n + 3) (by omega) (by omega) ?_
  exact kk H locs m2 hP hS hR2
set_option maxHeartbeats 4000000 in
theorem lc_40 (hX : xLw p s m meth c b L xs D E tys) (hi : 0 ≤ i ∧ i + 5 < L) (hl : lv_has ls 4 [(3, .int (zi i)), (2, .ref (E.1 15)), (1, .ref (E.1 0)), (0, .ref b)]) (hP : va_P D vwCl (xi_wld E xS0 m0) H) (hS : va_S (fun q => s.heap.size ≤ q) s.heap H locs) (hR : Rel m0) (hk : k + 1 ≤ 600000 ∧ n + 3 ≤ 7302250) (kk : ∀ (H1 : Heap) (locs1 : List Loc) (m2 : xi_M), va_P D vwCl (xi_wld E xS0 m2) H1 → va_S (fun q => s.heap.size ≤ q) s.heap H1 locs1 → Rel m2 → W p l e room_1 s m #[Value.ref b] below meth c H1 locs1 (k + 1) (n + 3) Q (F0 m 1395 ls [])) : W p l e room_1 s m #[Value.ref b] below meth c H locs k n Q (F0 m 1358 ls []) := by
  have hX' := hX
  obtain ⟨hAt, hL, hC, hn, hK, hA⟩ := hX
  have hF := xT_of hAt
  have hx := hAt.1
  have hb := hAt.2.1
  obtain ⟨v, m1, m2, e1, e2, hR2⟩ := sq_findings (xs (i + 1).toNat) hR
  refine lv_aload_n hx hb dl_1358 rfl (lv_at hl 2 rfl) ?_
  refine lw_arg hX' hl hi.1 (j := 1) (by omega) (by omega) hS dl_1359 dl_1360 dl_1361 dl_1362 dl_1363 ?_
  refine xl_callV (E := E) (S := xS0) (A := fun q => s.heap.size ≤ q) (b := 0) (ci := 7) (As := [.int (xs (i + 1).toNat)]) (rest := []) hF hK hC.1 rfl rfl (sn_X8_findings hC _ _ _ _ e1) (xw_in 809 (by decide +kernel) rfl) (xw_in 806 (by decide +kernel) rfl) (xw_in 807 (by decide +kernel) rfl) (xw_in 808 (by decide +kernel) rfl) (xw_in 53 (by decide +kernel) rfl) ⟨by decide +kernel, by decide +kernel, by show _ = some 1; decide +kernel⟩ ⟨Nat.le_of_ble_eq_true rfl, Nat.le_of_ble_eq_true rfl⟩ hl.1 (Nat.le_of_ble_eq_true rfl) dl_1364 hP hS hA ⟨(by show k ≤ 600000; omega), (by show n ≤ 7302250; omega)⟩ (fun H locs hP hS => ?_)
  refine lv_aload_n hx hb dl_1367 rfl (lv_at hl 1 rfl) ?_
  refine lw_arg hX' hl hi.1 (j := 1) (by omega) (by omega) hS dl_1368 dl_1369 dl_1370 dl_1371 dl_1372 ?_
  refine xl_callV (E := E) (S := xS0) (A := fun q => s.heap.size ≤ q) (b := 15) (ci := 8) (As := [.int (xs (i + 1).toNat)]) (rest := [.int v]) hF hK hC.1 rfl rfl (sn_X9_findings hC _ _ _ _ e2) (xw_in 1252 (by decide +kernel) rfl) (xw_in 1249 (by decide +kernel) rfl) (xw_in 1250 (by decide +kernel) rfl) (xw_in 1251 (by decide +kernel) rfl) (xw_in 60 (by decide +kernel) rfl) ⟨by decide +kernel, by decide +kernel, by show _ = some 1; decide +kernel⟩ ⟨Nat.le_of_ble_eq_true rfl, Nat.le_of_ble_eq_true rfl⟩ hl.1 (Nat.le_of_ble_eq_true rfl) dl_1373 hP hS hA ⟨(by show k ≤ 600000; omega), (by show n ≤ 7302250; omega)⟩ (fun H locs hP hS => ?_)
  refine lv_icmp_eq (tgt := 1395) hx hb dl_1376 (by decide) (fun c9 => ?_) (fun c9 => absurd rfl c9)
  refine W.widen (k := k + 1) (n := n + 3) (by omega) (by omega) ?_
  exact kk H locs m2 hP hS hR2
set_option maxHeartbeats 4000000 in
theorem lc_41 (hX : xLw p s m meth c b L xs D E tys) (hi : 0 ≤ i ∧ i + 5 < L) (hl : lv_has ls 4 [(3, .int (zi i)), (2, .ref (E.1 15)), (1, .ref (E.1 0)), (0, .ref b)]) (hP : va_P D vwCl (xi_wld E xS0 m0) H) (hS : va_S (fun q => s.heap.size ≤ q) s.heap H locs) (hR : Rel m0) (hk : k + 1 ≤ 600000 ∧ n + 3 ≤ 7302250) (kk : ∀ (H1 : Heap) (locs1 : List Loc) (m2 : xi_M), va_P D vwCl (xi_wld E xS0 m2) H1 → va_S (fun q => s.heap.size ≤ q) s.heap H1 locs1 → Rel m2 → W p l e room_1 s m #[Value.ref b] below meth c H1 locs1 (k + 1) (n + 3) Q (F0 m 1395 ls [])) : W p l e room_1 s m #[Value.ref b] below meth c H locs k n Q (F0 m 1381 ls []) := by
  have hX' := hX
  obtain ⟨hAt, hL, hC, hn, hK, hA⟩ := hX
  have hF := xT_of hAt
  have hx := hAt.1
  have hb := hAt.2.1
  obtain ⟨v, m1, m2, e1, e2, hR2⟩ := sq_digest  hR
  refine lv_aload_n hx hb dl_1381 rfl (lv_at hl 2 rfl) ?_
  refine xl_callV (E := E) (S := xS0) (A := fun q => s.heap.size ≤ q) (b := 0) (ci := 7) (As := []) (rest := []) hF hK hC.1 rfl rfl (sn_X8_digest hC _ _ _ _ e1) (xw_in 813 (by decide +kernel) rfl) (xw_in 810 (by decide +kernel) rfl) (xw_in 811 (by decide +kernel) rfl) (xw_in 812 (by decide +kernel) rfl) (xw_in 53 (by decide +kernel) rfl) ⟨by decide +kernel, by decide +kernel, by show _ = some 0; decide +kernel⟩ ⟨Nat.le_of_ble_eq_true rfl, Nat.le_of_ble_eq_true rfl⟩ hl.1 (Nat.le_of_ble_eq_true rfl) dl_1382 hP hS hA ⟨(by show k ≤ 600000; omega), (by show n ≤ 7302250; omega)⟩ (fun H locs hP hS => ?_)
  refine lv_aload_n hx hb dl_1385 rfl (lv_at hl 1 rfl) ?_
  refine xl_callV (E := E) (S := xS0) (A := fun q => s.heap.size ≤ q) (b := 15) (ci := 8) (As := []) (rest := [.long v]) hF hK hC.1 rfl rfl (sn_X9_digest hC _ _ _ _ e2) (xw_in 1256 (by decide +kernel) rfl) (xw_in 1253 (by decide +kernel) rfl) (xw_in 1254 (by decide +kernel) rfl) (xw_in 1255 (by decide +kernel) rfl) (xw_in 60 (by decide +kernel) rfl) ⟨by decide +kernel, by decide +kernel, by show _ = some 0; decide +kernel⟩ ⟨Nat.le_of_ble_eq_true rfl, Nat.le_of_ble_eq_true rfl⟩ hl.1 (Nat.le_of_ble_eq_true rfl) dl_1386 hP hS hA ⟨(by show k ≤ 600000; omega), (by show n ≤ 7302250; omega)⟩ (fun H locs hP hS => ?_)
  refine W.lcmp hx hb dl_1389 ?_
  rw [show lg_cmp v v = 0 by unfold lg_cmp; rw [if_neg (by simp), if_pos rfl]]
  refine lv_if_eq (tgt := 1395) hx hb dl_1390 (by decide) (fun c9 => ?_) (fun c9 => absurd rfl c9)
  refine W.widen (k := k + 1) (n := n + 3) (by omega) (by omega) ?_
  exact kk H locs m2 hP hS hR2
end
