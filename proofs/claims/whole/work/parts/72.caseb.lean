/-! the law's cases -/
section
variable {p : Program} {l : Launch} {e : Env} {s : State} {m : MethodId} {below : List Frame} {meth : Method} {c : Code} {b L : Nat} {xs : Nat → Int32} {H : Heap} {locs : List Loc} {k n : Nat} {Q : State → Prop} {D : va_G} {E : xi_E} {tys : List (ClassId × FieldType)} {ls : Array Slot} {m0 : xi_M} {i : Int}
set_option maxHeartbeats 4000000 in
theorem lc_14 (hX : xLw p s m meth c b L xs D E tys) (hi : 0 ≤ i ∧ i + 5 < L) (hl : lv_has ls 4 [(3, .int (zi i)), (2, .ref (E.1 15)), (1, .ref (E.1 0)), (0, .ref b)]) (hP : va_P D vwCl (xi_wld E xS0 m0) H) (hS : va_S (fun q => s.heap.size ≤ q) s.heap H locs) (hR : Rel m0) (hk : k + 1 ≤ 600000 ∧ n + 3 ≤ 7302250) (kk : ∀ (H1 : Heap) (locs1 : List Loc) (m2 : xi_M), va_P D vwCl (xi_wld E xS0 m2) H1 → va_S (fun q => s.heap.size ≤ q) s.heap H1 locs1 → Rel m2 → W p l e room_1 s m #[Value.ref b] below meth c H1 locs1 (k + 1) (n + 3) Q (F0 m 1395 ls [])) : W p l e room_1 s m #[Value.ref b] below meth c H locs k n Q (F0 m 668 ls []) := by
  have hX' := hX
  obtain ⟨hAt, hL, hC, hn, hK, hA⟩ := hX
  have hF := xT_of hAt
  have hx := hAt.1
  have hb := hAt.2.1
  obtain ⟨v, m1, m2, e1, e2, hR2⟩ := sq_rain (xs (i + 1).toNat) hR
  refine lv_aload_n hx hb dl_668 rfl (lv_at hl 2 rfl) ?_
  refine lw_arg hX' hl hi.1 (j := 1) (by omega) (by omega) hS dl_669 dl_670 dl_671 dl_672 dl_673 ?_
  refine xl_callV (E := E) (S := xS0) (A := fun q => s.heap.size ≤ q) (b := 0) (ci := 7) (As := [.int (xs (i + 1).toNat)]) (rest := []) hF hK hC.1 rfl rfl (sn_X8_rain hC _ _ _ _ e1) (xw_in 546 (by decide +kernel) rfl) (xw_in 543 (by decide +kernel) rfl) (xw_in 544 (by decide +kernel) rfl) (xw_in 545 (by decide +kernel) rfl) (xw_in 53 (by decide +kernel) rfl) ⟨by decide +kernel, by decide +kernel, by show _ = some 1; decide +kernel⟩ ⟨Nat.le_of_ble_eq_true rfl, Nat.le_of_ble_eq_true rfl⟩ hl.1 (Nat.le_of_ble_eq_true rfl) dl_674 hP hS hA ⟨(by show k ≤ 600000; omega), (by show n ≤ 7302250; omega)⟩ (fun H locs hP hS => ?_)
  refine lv_aload_n hx hb dl_677 rfl (lv_at hl 1 rfl) ?_
  refine lw_arg hX' hl hi.1 (j := 1) (by omega) (by omega) hS dl_678 dl_679 dl_680 dl_681 dl_682 ?_
  refine xl_callV (E := E) (S := xS0) (A := fun q => s.heap.size ≤ q) (b := 15) (ci := 8) (As := [.int (xs (i + 1).toNat)]) (rest := [.int v]) hF hK hC.1 rfl rfl (sn_X9_rain hC _ _ _ _ e2) (xw_in 1079 (by decide +kernel) rfl) (xw_in 1076 (by decide +kernel) rfl) (xw_in 1077 (by decide +kernel) rfl) (xw_in 1078 (by decide +kernel) rfl) (xw_in 60 (by decide +kernel) rfl) ⟨by decide +kernel, by decide +kernel, by show _ = some 1; decide +kernel⟩ ⟨Nat.le_of_ble_eq_true rfl, Nat.le_of_ble_eq_true rfl⟩ hl.1 (Nat.le_of_ble_eq_true rfl) dl_683 hP hS hA ⟨(by show k ≤ 600000; omega), (by show n ≤ 7302250; omega)⟩ (fun H locs hP hS => ?_)
  refine lv_icmp_eq (tgt := 1395) hx hb dl_686 (by decide) (fun c9 => ?_) (fun c9 => absurd rfl c9)
  refine W.widen (k := k + 1) (n := n + 3) (by omega) (by omega) ?_
  exact kk H locs m2 hP hS hR2
set_option maxHeartbeats 4000000 in
theorem lc_15 (hX : xLw p s m meth c b L xs D E tys) (hi : 0 ≤ i ∧ i + 5 < L) (hl : lv_has ls 4 [(3, .int (zi i)), (2, .ref (E.1 15)), (1, .ref (E.1 0)), (0, .ref b)]) (hP : va_P D vwCl (xi_wld E xS0 m0) H) (hS : va_S (fun q => s.heap.size ≤ q) s.heap H locs) (hR : Rel m0) (hk : k + 1 ≤ 600000 ∧ n + 3 ≤ 7302250) (kk : ∀ (H1 : Heap) (locs1 : List Loc) (m2 : xi_M), va_P D vwCl (xi_wld E xS0 m2) H1 → va_S (fun q => s.heap.size ≤ q) s.heap H1 locs1 → Rel m2 → W p l e room_1 s m #[Value.ref b] below meth c H1 locs1 (k + 1) (n + 3) Q (F0 m 1395 ls [])) : W p l e room_1 s m #[Value.ref b] below meth c H locs k n Q (F0 m 691 ls []) := by
  have hX' := hX
  obtain ⟨hAt, hL, hC, hn, hK, hA⟩ := hX
  have hF := xT_of hAt
  have hx := hAt.1
  have hb := hAt.2.1
  obtain ⟨v, m1, m2, e1, e2, hR2⟩ := sq_stand (xs (i + 1).toNat) (xs (i + 2).toNat) hR
  refine lv_aload_n hx hb dl_691 rfl (lv_at hl 2 rfl) ?_
  refine lw_arg hX' hl hi.1 (j := 1) (by omega) (by omega) hS dl_692 dl_693 dl_694 dl_695 dl_696 ?_
  refine lw_arg hX' hl hi.1 (j := 2) (by omega) (by omega) hS dl_697 dl_698 dl_699 dl_700 dl_701 ?_
  refine xl_callV (E := E) (S := xS0) (A := fun q => s.heap.size ≤ q) (b := 0) (ci := 7) (As := [.int (xs (i + 1).toNat), .int (xs (i + 2).toNat)]) (rest := []) hF hK hC.1 rfl rfl (sn_X8_stand hC _ _ _ _ e1) (xw_in 554 (by decide +kernel) rfl) (xw_in 551 (by decide +kernel) rfl) (xw_in 552 (by decide +kernel) rfl) (xw_in 553 (by decide +kernel) rfl) (xw_in 53 (by decide +kernel) rfl) ⟨by decide +kernel, by decide +kernel, by show _ = some 2; decide +kernel⟩ ⟨Nat.le_of_ble_eq_true rfl, Nat.le_of_ble_eq_true rfl⟩ hl.1 (Nat.le_of_ble_eq_true rfl) dl_702 hP hS hA ⟨(by show k ≤ 600000; omega), (by show n ≤ 7302250; omega)⟩ (fun H locs hP hS => ?_)
  refine lv_aload_n hx hb dl_705 rfl (lv_at hl 1 rfl) ?_
  refine lw_arg hX' hl hi.1 (j := 1) (by omega) (by omega) hS dl_706 dl_707 dl_708 dl_709 dl_710 ?_
  refine lw_arg hX' hl hi.1 (j := 2) (by omega) (by omega) hS dl_711 dl_712 dl_713 dl_714 dl_715 ?_
  refine xl_callV (E := E) (S := xS0) (A := fun q => s.heap.size ≤ q) (b := 15) (ci := 8) (As := [.int (xs (i + 1).toNat), .int (xs (i + 2).toNat)]) (rest := [.int v]) hF hK hC.1 rfl rfl (sn_X9_stand hC _ _ _ _ e2) (xw_in 1083 (by decide +kernel) rfl) (xw_in 1080 (by decide +kernel) rfl) (xw_in 1081 (by decide +kernel) rfl) (xw_in 1082 (by decide +kernel) rfl) (xw_in 60 (by decide +kernel) rfl) ⟨by decide +kernel, by decide +kernel, by show _ = some 2; decide +kernel⟩ ⟨Nat.le_of_ble_eq_true rfl, Nat.le_of_ble_eq_true rfl⟩ hl.1 (Nat.le_of_ble_eq_true rfl) dl_716 hP hS hA ⟨(by show k ≤ 600000; omega), (by show n ≤ 7302250; omega)⟩ (fun H locs hP hS => ?_)
  refine lv_icmp_eq (tgt := 1395) hx hb dl_719 (by decide) (fun c9 => ?_) (fun c9 => absurd rfl c9)
  refine W.widen (k := k + 1) (n := n + 3) (by omega) (by omega) ?_
  exact kk H locs m2 hP hS hR2
set_option maxHeartbeats 4000000 in
theorem lc_16 (hX : xLw p s m meth c b L xs D E tys) (hi : 0 ≤ i ∧ i + 5 < L) (hl : lv_has ls 4 [(3, .int (zi i)), (2, .ref (E.1 15)), (1, .ref (E.1 0)), (0, .ref b)]) (hP : va_P D vwCl (xi_wld E xS0 m0) H) (hS : va_S (fun q => s.heap.size ≤ q) s.heap H locs) (hR : Rel m0) (hk : k + 1 ≤ 600000 ∧ n + 3 ≤ 7302250) (kk : ∀ (H1 : Heap) (locs1 : List Loc) (m2 : xi_M), va_P D vwCl (xi_wld E xS0 m2) H1 → va_S (fun q => s.heap.size ≤ q) s.heap H1 locs1 → Rel m2 → W p l e room_1 s m #[Value.ref b] below meth c H1 locs1 (k + 1) (n + 3) Q (F0 m 1395 ls [])) : W p l e room_1 s m #[Value.ref b] below meth c H locs k n Q (F0 m 724 ls []) := by
  have hX' := hX
  obtain ⟨hAt, hL, hC, hn, hK, hA⟩ := hX
  have hF := xT_of hAt
  have hx := hAt.1
  have hb := hAt.2.1
  obtain ⟨v, m1, m2, e1, e2, hR2⟩ := sq_undo (xs (i + 1).toNat) hR
  refine lv_aload_n hx hb dl_724 rfl (lv_at hl 2 rfl) ?_
  refine lw_arg hX' hl hi.1 (j := 1) (by omega) (by omega) hS dl_725 dl_726 dl_727 dl_728 dl_729 ?_
  refine xl_callV (E := E) (S := xS0) (A := fun q => s.heap.size ≤ q) (b := 0) (ci := 7) (As := [.int (xs (i + 1).toNat)]) (rest := []) hF hK hC.1 rfl rfl (sn_X8_undo hC _ _ _ _ e1) (xw_in 562 (by decide +kernel) rfl) (xw_in 559 (by decide +kernel) rfl) (xw_in 560 (by decide +kernel) rfl) (xw_in 561 (by decide +kernel) rfl) (xw_in 53 (by decide +kernel) rfl) ⟨by decide +kernel, by decide +kernel, by show _ = some 1; decide +kernel⟩ ⟨Nat.le_of_ble_eq_true rfl, Nat.le_of_ble_eq_true rfl⟩ hl.1 (Nat.le_of_ble_eq_true rfl) dl_730 hP hS hA ⟨(by show k ≤ 600000; omega), (by show n ≤ 7302250; omega)⟩ (fun H locs hP hS => ?_)
  refine lv_aload_n hx hb dl_733 rfl (lv_at hl 1 rfl) ?_
  refine lw_arg hX' hl hi.1 (j := 1) (by omega) (by omega) hS dl_734 dl_735 dl_736 dl_737 dl_738 ?_
  refine xl_callV (E := E) (S := xS0) (A := fun q => s.heap.size ≤ q) (b := 15) (ci := 8) (As := [.int (xs (i + 1).toNat)]) (rest := [.int v]) hF hK hC.1 rfl rfl (sn_X9_undo hC _ _ _ _ e2) (xw_in 1087 (by decide +kernel) rfl) (xw_in 1084 (by decide +kernel) rfl) (xw_in 1085 (by decide +kernel) rfl) (xw_in 1086 (by decide +kernel) rfl) (xw_in 60 (by decide +kernel) rfl) ⟨by decide +kernel, by decide +kernel, by show _ = some 1; decide +kernel⟩ ⟨Nat.le_of_ble_eq_true rfl, Nat.le_of_ble_eq_true rfl⟩ hl.1 (Nat.le_of_ble_eq_true rfl) dl_739 hP hS hA ⟨(by show k ≤ 600000; omega), (by show n ≤ 7302250; omega)⟩ (fun H locs hP hS => ?_)
  refine lv_icmp_eq (tgt := 1395) hx hb dl_742 (by decide) (fun c9 => ?_) (fun c9 => absurd rfl c9)
  refine W.widen (k := k + 1) (n := n + 3) (by omega) (by omega) ?_
  exact kk H locs m2 hP hS hR2
set_option maxHeartbeats 4000000 in
theorem lc_17 (hX : xLw p s m meth c b L xs D E tys) (hi : 0 ≤ i ∧ i + 5 < L) (hl : lv_has ls 4 [(3, .int (zi i)), (2, .ref (E.1 15)), (1, .ref (E.1 0)), (0, .ref b)]) (hP : va_P D vwCl (xi_wld E xS0 m0) H) (hS : va_S (fun q => s.heap.size ≤ q) s.heap H locs) (hR : Rel m0) (hk : k + 1 ≤ 600000 ∧ n + 3 ≤ 7302250) (kk : ∀ (H1 : Heap) (locs1 : List Loc) (m2 : xi_M), va_P D vwCl (xi_wld E xS0 m2) H1 → va_S (fun q => s.heap.size ≤ q) s.heap H1 locs1 → Rel m2 → W p l e room_1 s m #[Value.ref b] below meth c H1 locs1 (k + 1) (n + 3) Q (F0 m 1395 ls [])) : W p l e room_1 s m #[Value.ref b] below meth c H locs k n Q (F0 m 747 ls []) := by
  have hX' := hX
  obtain ⟨hAt, hL, hC, hn, hK, hA⟩ := hX
  have hF := xT_of hAt
  have hx := hAt.1
  have hb := hAt.2.1
  obtain ⟨v, m1, m2, e1, e2, hR2⟩ := sq_keep (xs (i + 1).toNat) hR
  refine lv_aload_n hx hb dl_747 rfl (lv_at hl 2 rfl) ?_
  refine lw_arg hX' hl hi.1 (j := 1) (by omega) (by omega) hS dl_748 dl_749 dl_750 dl_751 dl_752 ?_
  refine xl_callV (E := E) (S := xS0) (A := fun q => s.heap.size ≤ q) (b := 0) (ci := 7) (As := [.int (xs (i + 1).toNat)]) (rest := []) hF hK hC.1 rfl rfl (sn_X8_keep hC _ _ _ _ e1) (xw_in 574 (by decide +kernel) rfl) (xw_in 571 (by decide +kernel) rfl) (xw_in 572 (by decide +kernel) rfl) (xw_in 573 (by decide +kernel) rfl) (xw_in 53 (by decide +kernel) rfl) ⟨by decide +kernel, by decide +kernel, by show _ = some 1; decide +kernel⟩ ⟨Nat.le_of_ble_eq_true rfl, Nat.le_of_ble_eq_true rfl⟩ hl.1 (Nat.le_of_ble_eq_true rfl) dl_753 hP hS hA ⟨(by show k ≤ 600000; omega), (by show n ≤ 7302250; omega)⟩ (fun H locs hP hS => ?_)
  refine lv_aload_n hx hb dl_756 rfl (lv_at hl 1 rfl) ?_
  refine lw_arg hX' hl hi.1 (j := 1) (by omega) (by omega) hS dl_757 dl_758 dl_759 dl_760 dl_761 ?_
  refine xl_callV (E := E) (S := xS0) (A := fun q => s.heap.size ≤ q) (b := 15) (ci := 8) (As := [.int (xs (i + 1).toNat)]) (rest := [.int v]) hF hK hC.1 rfl rfl (sn_X9_keep hC _ _ _ _ e2) (xw_in 1091 (by decide +kernel) rfl) (xw_in 1088 (by decide +kernel) rfl) (xw_in 1089 (by decide +kernel) rfl) (xw_in 1090 (by decide +kernel) rfl) (xw_in 60 (by decide +kernel) rfl) ⟨by decide +kernel, by decide +kernel, by show _ = some 1; decide +kernel⟩ ⟨Nat.le_of_ble_eq_true rfl, Nat.le_of_ble_eq_true rfl⟩ hl.1 (Nat.le_of_ble_eq_true rfl) dl_762 hP hS hA ⟨(by show k ≤ 600000; omega), (by show n ≤ 7302250; omega)⟩ (fun H locs hP hS => ?_)
  refine lv_icmp_eq (tgt := 1395) hx hb dl_765 (by decide) (fun c9 => ?_) (fun c9 => absurd rfl c9)
  refine W.widen (k := k + 1) (n := n + 3) (by omega) (by omega) ?_
  exact kk H locs m2 hP hS hR2
set_option maxHeartbeats 4000000 in
theorem lc_18 (hX : xLw p s m meth c b L xs D E tys) (hi : 0 ≤ i ∧ i + 5 < L) (hl : lv_has ls 4 [(3, .int (zi i)), (2, .ref (E.1 15)), (1, .ref (E.1 0)), (0, .ref b)]) (hP : va_P D vwCl (xi_wld E xS0 m0) H) (hS : va_S (fun q => s.heap.size ≤ q) s.heap H locs) (hR : Rel m0) (hk : k + 1 ≤ 600000 ∧ n + 3 ≤ 7302250) (kk : ∀ (H1 : Heap) (locs1 : List Loc) (m2 : xi_M), va_P D vwCl (xi_wld E xS0 m2) H1 → va_S (fun q => s.heap.size ≤ q) s.heap H1 locs1 → Rel m2 → W p l e room_1 s m #[Value.ref b] below meth c H1 locs1 (k + 1) (n + 3) Q (F0 m 1395 ls [])) : W p l e room_1 s m #[Value.ref b] below meth c H locs k n Q (F0 m 770 ls []) := by
  have hX' := hX
  obtain ⟨hAt, hL, hC, hn, hK, hA⟩ := hX
  have hF := xT_of hAt
  have hx := hAt.1
  have hb := hAt.2.1
  obtain ⟨v, m1, m2, e1, e2, hR2⟩ := sq_on (xs (i + 1).toNat) hR
  refine lv_aload_n hx hb dl_770 rfl (lv_at hl 2 rfl) ?_
  refine lw_arg hX' hl hi.1 (j := 1) (by omega) (by omega) hS dl_771 dl_772 dl_773 dl_774 dl_775 ?_
  refine xl_callV (E := E) (S := xS0) (A := fun q => s.heap.size ≤ q) (b := 0) (ci := 7) (As := [.int (xs (i + 1).toNat)]) (rest := []) hF hK hC.1 rfl rfl (sn_X8_on hC _ _ _ _ e1) (xw_in 578 (by decide +kernel) rfl) (xw_in 575 (by decide +kernel) rfl) (xw_in 576 (by decide +kernel) rfl) (xw_in 577 (by decide +kernel) rfl) (xw_in 53 (by decide +kernel) rfl) ⟨by decide +kernel, by decide +kernel, by show _ = some 1; decide +kernel⟩ ⟨Nat.le_of_ble_eq_true rfl, Nat.le_of_ble_eq_true rfl⟩ hl.1 (Nat.le_of_ble_eq_true rfl) dl_776 hP hS hA ⟨(by show k ≤ 600000; omega), (by show n ≤ 7302250; omega)⟩ (fun H locs hP hS => ?_)
  refine lv_aload_n hx hb dl_779 rfl (lv_at hl 1 rfl) ?_
  refine lw_arg hX' hl hi.1 (j := 1) (by omega) (by omega) hS dl_780 dl_781 dl_782 dl_783 dl_784 ?_
  refine xl_callV (E := E) (S := xS0) (A := fun q => s.heap.size ≤ q) (b := 15) (ci := 8) (As := [.int (xs (i + 1).toNat)]) (rest := [.int v]) hF hK hC.1 rfl rfl (sn_X9_on hC _ _ _ _ e2) (xw_in 1095 (by decide +kernel) rfl) (xw_in 1092 (by decide +kernel) rfl) (xw_in 1093 (by decide +kernel) rfl) (xw_in 1094 (by decide +kernel) rfl) (xw_in 60 (by decide +kernel) rfl) ⟨by decide +kernel, by decide +kernel, by show _ = some 1; decide +kernel⟩ ⟨Nat.le_of_ble_eq_true rfl, Nat.le_of_ble_eq_true rfl⟩ hl.1 (Nat.le_of_ble_eq_true rfl) dl_785 hP hS hA ⟨(by show k ≤ 600000; omega), (by show n ≤ 7302250; omega)⟩ (fun H locs hP hS => ?_)
  refine lv_icmp_eq (tgt := 1395) hx hb dl_788 (by decide) (fun c9 => ?_) (fun c9 => absurd rfl c9)
  refine W.widen (k := k + 1) (n := n + 3) (by omega) (by omega) ?_
  exact kk H locs m2 hP hS hR2
set_option maxHeartbeats 4000000 in
theorem lc_19 (hX : xLw p s m meth c b L xs D E tys) (hi : 0 ≤ i ∧ i + 5 < L) (hl : lv_has ls 4 [(3, .int (zi i)), (2, .ref (E.1 15)), (1, .ref (E.1 0)), (0, .ref b)]) (hP : va_P D vwCl (xi_wld E xS0 m0) H) (hS : va_S (fun q => s.heap.size ≤ q) s.heap H locs) (hR : Rel m0) (hk : k + 1 ≤ 600000 ∧ n + 3 ≤ 7302250) (kk : ∀ (H1 : Heap) (locs1 : List Loc) (m2 : xi_M), va_P D vwCl (xi_wld E xS0 m2) H1 → va_S (fun q => s.heap.size ≤ q) s.heap H1 locs1 → Rel m2 → W p l e room_1 s m #[Value.ref b] below meth c H1 locs1 (k + 1) (n + 3) Q (F0 m 1395 ls [])) : W p l e room_1 s m #[Value.ref b] below meth c H locs k n Q (F0 m 793 ls []) := by
  have hX' := hX
  obtain ⟨hAt, hL, hC, hn, hK, hA⟩ := hX
  have hF := xT_of hAt
  have hx := hAt.1
  have hb := hAt.2.1
  obtain ⟨v, m1, m2, e1, e2, hR2⟩ := sq_lands (xs (i + 1).toNat) (xs (i + 2).toNat) (xs (i + 3).toNat) hR
  refine lv_aload_n hx hb dl_793 rfl (lv_at hl 2 rfl) ?_
  refine lw_arg hX' hl hi.1 (j := 1) (by omega) (by omega) hS dl_794 dl_795 dl_796 dl_797 dl_798 ?_
  refine lw_arg hX' hl hi.1 (j := 2) (by omega) (by omega) hS dl_799 dl_800 dl_801 dl_802 dl_803 ?_
  refine lw_arg hX' hl hi.1 (j := 3) (by omega) (by omega) hS dl_804 dl_805 dl_806 dl_807 dl_808 ?_
  refine xl_callV (E := E) (S := xS0) (A := fun q => s.heap.size ≤ q) (b := 0) (ci := 7) (As := [.int (xs (i + 1).toNat), .int (xs (i + 2).toNat), .int (xs (i + 3).toNat)]) (rest := []) hF hK hC.1 rfl rfl (sn_X8_lands hC _ _ _ _ e1) (xw_in 586 (by decide +kernel) rfl) (xw_in 583 (by decide +kernel) rfl) (xw_in 584 (by decide +kernel) rfl) (xw_in 585 (by decide +kernel) rfl) (xw_in 53 (by decide +kernel) rfl) ⟨by decide +kernel, by decide +kernel, by show _ = some 3; decide +kernel⟩ ⟨Nat.le_of_ble_eq_true rfl, Nat.le_of_ble_eq_true rfl⟩ hl.1 (Nat.le_of_ble_eq_true rfl) dl_809 hP hS hA ⟨(by show k ≤ 600000; omega), (by show n ≤ 7302250; omega)⟩ (fun H locs hP hS => ?_)
  refine lv_aload_n hx hb dl_812 rfl (lv_at hl 1 rfl) ?_
  refine lw_arg hX' hl hi.1 (j := 1) (by omega) (by omega) hS dl_813 dl_814 dl_815 dl_816 dl_817 ?_
  refine lw_arg hX' hl hi.1 (j := 2) (by omega) (by omega) hS dl_818 dl_819 dl_820 dl_821 dl_822 ?_
  refine lw_arg hX' hl hi.1 (j := 3) (by omega) (by omega) hS dl_823 dl_824 dl_825 dl_826 dl_827 ?_
  refine xl_callV (E := E) (S := xS0) (A := fun q => s.heap.size ≤ q) (b := 15) (ci := 8) (As := [.int (xs (i + 1).toNat), .int (xs (i + 2).toNat), .int (xs (i + 3).toNat)]) (rest := [.int v]) hF hK hC.1 rfl rfl (sn_X9_lands hC _ _ _ _ e2) (xw_in 1099 (by decide +kernel) rfl) (xw_in 1096 (by decide +kernel) rfl) (xw_in 1097 (by decide +kernel) rfl) (xw_in 1098 (by decide +kernel) rfl) (xw_in 60 (by decide +kernel) rfl) ⟨by decide +kernel, by decide +kernel, by show _ = some 3; decide +kernel⟩ ⟨Nat.le_of_ble_eq_true rfl, Nat.le_of_ble_eq_true rfl⟩ hl.1 (Nat.le_of_ble_eq_true rfl) dl_828 hP hS hA ⟨(by show k ≤ 600000; omega), (by show n ≤ 7302250; omega)⟩ (fun H locs hP hS => ?_)
  refine lv_icmp_eq (tgt := 1395) hx hb dl_831 (by decide) (fun c9 => ?_) (fun c9 => absurd rfl c9)
  refine W.widen (k := k + 1) (n := n + 3) (by omega) (by omega) ?_
  exact kk H locs m2 hP hS hR2
set_option maxHeartbeats 4000000 in
theorem lc_20 (hX : xLw p s m meth c b L xs D E tys) (hi : 0 ≤ i ∧ i + 5 < L) (hl : lv_has ls 4 [(3, .int (zi i)), (2, .ref (E.1 15)), (1, .ref (E.1 0)), (0, .ref b)]) (hP : va_P D vwCl (xi_wld E xS0 m0) H) (hS : va_S (fun q => s.heap.size ≤ q) s.heap H locs) (hR : Rel m0) (hk : k + 1 ≤ 600000 ∧ n + 3 ≤ 7302250) (kk : ∀ (H1 : Heap) (locs1 : List Loc) (m2 : xi_M), va_P D vwCl (xi_wld E xS0 m2) H1 → va_S (fun q => s.heap.size ≤ q) s.heap H1 locs1 → Rel m2 → W p l e room_1 s m #[Value.ref b] below meth c H1 locs1 (k + 1) (n + 3) Q (F0 m 1395 ls [])) : W p l e room_1 s m #[Value.ref b] below meth c H locs k n Q (F0 m 836 ls []) := by
  have hX' := hX
  obtain ⟨hAt, hL, hC, hn, hK, hA⟩ := hX
  have hF := xT_of hAt
  have hx := hAt.1
  have hb := hAt.2.1
  obtain ⟨v, m1, m2, e1, e2, hR2⟩ := sq_in (xs (i + 1).toNat) (xs (i + 2).toNat) hR
  refine lv_aload_n hx hb dl_836 rfl (lv_at hl 2 rfl) ?_
  refine lw_arg hX' hl hi.1 (j := 1) (by omega) (by omega) hS dl_837 dl_838 dl_839 dl_840 dl_841 ?_
  refine lw_arg hX' hl hi.1 (j := 2) (by omega) (by omega) hS dl_842 dl_843 dl_844 dl_845 dl_846 ?_
  refine xl_callV (E := E) (S := xS0) (A := fun q => s.heap.size ≤ q) (b := 0) (ci := 7) (As := [.int (xs (i + 1).toNat), .int (xs (i + 2).toNat)]) (rest := []) hF hK hC.1 rfl rfl (sn_X8_in hC _ _ _ _ e1) (xw_in 590 (by decide +kernel) rfl) (xw_in 587 (by decide +kernel) rfl) (xw_in 588 (by decide +kernel) rfl) (xw_in 589 (by decide +kernel) rfl) (xw_in 53 (by decide +kernel) rfl) ⟨by decide +kernel, by decide +kernel, by show _ = some 2; decide +kernel⟩ ⟨Nat.le_of_ble_eq_true rfl, Nat.le_of_ble_eq_true rfl⟩ hl.1 (Nat.le_of_ble_eq_true rfl) dl_847 hP hS hA ⟨(by show k ≤ 600000; omega), (by show n ≤ 7302250; omega)⟩ (fun H locs hP hS => ?_)
  refine lv_aload_n hx hb dl_850 rfl (lv_at hl 1 rfl) ?_
  refine lw_arg hX' hl hi.1 (j := 1) (by omega) (by omega) hS dl_851 dl_852 dl_853 dl_854 dl_855 ?_
  refine lw_arg hX' hl hi.1 (j := 2) (by omega) (by omega) hS dl_856 dl_857 dl_858 dl_859 dl_860 ?_
  refine xl_callV (E := E) (S := xS0) (A := fun q => s.heap.size ≤ q) (b := 15) (ci := 8) (As := [.int (xs (i + 1).toNat), .int (xs (i + 2).toNat)]) (rest := [.int v]) hF hK hC.1 rfl rfl (sn_X9_in hC _ _ _ _ e2) (xw_in 1103 (by decide +kernel) rfl) (xw_in 1100 (by decide +kernel) rfl) (xw_in 1101 (by decide +kernel) rfl) (xw_in 1102 (by decide +kernel) rfl) (xw_in 60 (by decide +kernel) rfl) ⟨by decide +kernel, by decide +kernel, by show _ = some 2; decide +kernel⟩ ⟨Nat.le_of_ble_eq_true rfl, Nat.le_of_ble_eq_true rfl⟩ hl.1 (Nat.le_of_ble_eq_true rfl) dl_861 hP hS hA ⟨(by show k ≤ 600000; omega), (by show n ≤ 7302250; omega)⟩ (fun H locs hP hS => ?_)
  refine lv_icmp_eq (tgt := 1395) hx hb dl_864 (by decide) (fun c9 => ?_) (fun c9 => absurd rfl c9)
  refine W.widen (k := k + 1) (n := n + 3) (by omega) (by omega) ?_
  exact kk H locs m2 hP hS hR2
set_option maxHeartbeats 4000000 in
theorem lc_21 (hX : xLw p s m meth c b L xs D E tys) (hi : 0 ≤ i ∧ i + 5 < L) (hl : lv_has ls 4 [(3, .int (zi i)), (2, .ref (E.1 15)), (1, .ref (E.1 0)), (0, .ref b)]) (hP : va_P D vwCl (xi_wld E xS0 m0) H) (hS : va_S (fun q => s.heap.size ≤ q) s.heap H locs) (hR : Rel m0) (hk : k + 1 ≤ 600000 ∧ n + 3 ≤ 7302250) (kk : ∀ (H1 : Heap) (locs1 : List Loc) (m2 : xi_M), va_P D vwCl (xi_wld E xS0 m2) H1 → va_S (fun q => s.heap.size ≤ q) s.heap H1 locs1 → Rel m2 → W p l e room_1 s m #[Value.ref b] below meth c H1 locs1 (k + 1) (n + 3) Q (F0 m 1395 ls [])) : W p l e room_1 s m #[Value.ref b] below meth c H locs k n Q (F0 m 869 ls []) := by
  have hX' := hX
  obtain ⟨hAt, hL, hC, hn, hK, hA⟩ := hX
  have hF := xT_of hAt
  have hx := hAt.1
  have hb := hAt.2.1
  obtain ⟨v, m1, m2, e1, e2, hR2⟩ := sq_seen (xs (i + 1).toNat) hR
  refine lv_aload_n hx hb dl_869 rfl (lv_at hl 2 rfl) ?_
  refine lw_arg hX' hl hi.1 (j := 1) (by omega) (by omega) hS dl_870 dl_871 dl_872 dl_873 dl_874 ?_
  refine xl_callV (E := E) (S := xS0) (A := fun q => s.heap.size ≤ q) (b := 0) (ci := 7) (As := [.int (xs (i + 1).toNat)]) (rest := []) hF hK hC.1 rfl rfl (sn_X8_seen hC _ _ _ _ e1) (xw_in 595 (by decide +kernel) rfl) (xw_in 592 (by decide +kernel) rfl) (xw_in 593 (by decide +kernel) rfl) (xw_in 594 (by decide +kernel) rfl) (xw_in 53 (by decide +kernel) rfl) ⟨by decide +kernel, by decide +kernel, by show _ = some 1; decide +kernel⟩ ⟨Nat.le_of_ble_eq_true rfl, Nat.le_of_ble_eq_true rfl⟩ hl.1 (Nat.le_of_ble_eq_true rfl) dl_875 hP hS hA ⟨(by show k ≤ 600000; omega), (by show n ≤ 7302250; omega)⟩ (fun H locs hP hS => ?_)
  refine lv_aload_n hx hb dl_878 rfl (lv_at hl 1 rfl) ?_
  refine lw_arg hX' hl hi.1 (j := 1) (by omega) (by omega) hS dl_879 dl_880 dl_881 dl_882 dl_883 ?_
  refine xl_callV (E := E) (S := xS0) (A := fun q => s.heap.size ≤ q) (b := 15) (ci := 8) (As := [.int (xs (i + 1).toNat)]) (rest := [.int v]) hF hK hC.1 rfl rfl (sn_X9_seen hC _ _ _ _ e2) (xw_in 1107 (by decide +kernel) rfl) (xw_in 1104 (by decide +kernel) rfl) (xw_in 1105 (by decide +kernel) rfl) (xw_in 1106 (by decide +kernel) rfl) (xw_in 60 (by decide +kernel) rfl) ⟨by decide +kernel, by decide +kernel, by show _ = some 1; decide +kernel⟩ ⟨Nat.le_of_ble_eq_true rfl, Nat.le_of_ble_eq_true rfl⟩ hl.1 (Nat.le_of_ble_eq_true rfl) dl_884 hP hS hA ⟨(by show k ≤ 600000; omega), (by show n ≤ 7302250; omega)⟩ (fun H locs hP hS => ?_)
  refine lv_icmp_eq (tgt := 1395) hx hb dl_887 (by decide) (fun c9 => ?_) (fun c9 => absurd rfl c9)
  refine W.widen (k := k + 1) (n := n + 3) (by omega) (by omega) ?_
  exact kk H locs m2 hP hS hR2
set_option maxHeartbeats 4000000 in
theorem lc_22 (hX : xLw p s m meth c b L xs D E tys) (hi : 0 ≤ i ∧ i + 5 < L) (hl : lv_has ls 4 [(3, .int (zi i)), (2, .ref (E.1 15)), (1, .ref (E.1 0)), (0, .ref b)]) (hP : va_P D vwCl (xi_wld E xS0 m0) H) (hS : va_S (fun q => s.heap.size ≤ q) s.heap H locs) (hR : Rel m0) (hk : k + 1 ≤ 600000 ∧ n + 3 ≤ 7302250) (kk : ∀ (H1 : Heap) (locs1 : List Loc) (m2 : xi_M), va_P D vwCl (xi_wld E xS0 m2) H1 → va_S (fun q => s.heap.size ≤ q) s.heap H1 locs1 → Rel m2 → W p l e room_1 s m #[Value.ref b] below meth c H1 locs1 (k + 1) (n + 3) Q (F0 m 1395 ls [])) : W p l e room_1 s m #[Value.ref b] below meth c H locs k n Q (F0 m 892 ls []) := by
  have hX' := hX
  obtain ⟨hAt, hL, hC, hn, hK, hA⟩ := hX
  have hF := xT_of hAt
  have hx := hAt.1
  have hb := hAt.2.1
  obtain ⟨v, m1, m2, e1, e2, hR2⟩ := sq_lead (xs (i + 1).toNat) hR
  refine lv_aload_n hx hb dl_892 rfl (lv_at hl 2 rfl) ?_
  refine lw_arg hX' hl hi.1 (j := 1) (by omega) (by omega) hS dl_893 dl_894 dl_895 dl_896 dl_897 ?_
  refine xl_callV (E := E) (S := xS0) (A := fun q => s.heap.size ≤ q) (b := 0) (ci := 7) (As := [.int (xs (i + 1).toNat)]) (rest := []) hF hK hC.1 rfl rfl (sn_X8_lead hC _ _ _ _ e1) (xw_in 599 (by decide +kernel) rfl) (xw_in 596 (by decide +kernel) rfl) (xw_in 597 (by decide +kernel) rfl) (xw_in 598 (by decide +kernel) rfl) (xw_in 53 (by decide +kernel) rfl) ⟨by decide +kernel, by decide +kernel, by show _ = some 1; decide +kernel⟩ ⟨Nat.le_of_ble_eq_true rfl, Nat.le_of_ble_eq_true rfl⟩ hl.1 (Nat.le_of_ble_eq_true rfl) dl_898 hP hS hA ⟨(by show k ≤ 600000; omega), (by show n ≤ 7302250; omega)⟩ (fun H locs hP hS => ?_)
  refine lv_aload_n hx hb dl_901 rfl (lv_at hl 1 rfl) ?_
  refine lw_arg hX' hl hi.1 (j := 1) (by omega) (by omega) hS dl_902 dl_903 dl_904 dl_905 dl_906 ?_
  refine xl_callV (E := E) (S := xS0) (A := fun q => s.heap.size ≤ q) (b := 15) (ci := 8) (As := [.int (xs (i + 1).toNat)]) (rest := [.int v]) hF hK hC.1 rfl rfl (sn_X9_lead hC _ _ _ _ e2) (xw_in 1111 (by decide +kernel) rfl) (xw_in 1108 (by decide +kernel) rfl) (xw_in 1109 (by decide +kernel) rfl) (xw_in 1110 (by decide +kernel) rfl) (xw_in 60 (by decide +kernel) rfl) ⟨by decide +kernel, by decide +kernel, by show _ = some 1; decide +kernel⟩ ⟨Nat.le_of_ble_eq_true rfl, Nat.le_of_ble_eq_true rfl⟩ hl.1 (Nat.le_of_ble_eq_true rfl) dl_907 hP hS hA ⟨(by show k ≤ 600000; omega), (by show n ≤ 7302250; omega)⟩ (fun H locs hP hS => ?_)
  refine lv_icmp_eq (tgt := 1395) hx hb dl_910 (by decide) (fun c9 => ?_) (fun c9 => absurd rfl c9)
  refine W.widen (k := k + 1) (n := n + 3) (by omega) (by omega) ?_
  exact kk H locs m2 hP hS hR2
set_option maxHeartbeats 4000000 in
theorem lc_23 (hX : xLw p s m meth c b L xs D E tys) (hi : 0 ≤ i ∧ i + 5 < L) (hl : lv_has ls 4 [(3, .int (zi i)), (2, .ref (E.1 15)), (1, .ref (E.1 0)), (0, .ref b)]) (hP : va_P D vwCl (xi_wld E xS0 m0) H) (hS : va_S (fun q => s.heap.size ≤ q) s.heap H locs) (hR : Rel m0) (hk : k + 1 ≤ 600000 ∧ n + 3 ≤ 7302250) (kk : ∀ (H1 : Heap) (locs1 : List Loc) (m2 : xi_M), va_P D vwCl (xi_wld E xS0 m2) H1 → va_S (fun q => s.heap.size ≤ q) s.heap H1 locs1 → Rel m2 → W p l e room_1 s m #[Value.ref b] below meth c H1 locs1 (k + 1) (n + 3) Q (F0 m 1395 ls [])) : W p l e room_1 s m #[Value.ref b] below meth c H locs k n Q (F0 m 915 ls []) := by
  have hX' := hX
  obtain ⟨hAt, hL, hC, hn, hK, hA⟩ := hX
  have hF := xT_of hAt
  have hx := hAt.1
  have hb := hAt.2.1
  obtain ⟨v, m1, m2, e1, e2, hR2⟩ := sq_amend (xs (i + 1).toNat) (xs (i + 2).toNat) (xs (i + 3).toNat) hR
  refine lv_aload_n hx hb dl_915 rfl (lv_at hl 2 rfl) ?_
  refine lw_arg hX' hl hi.1 (j := 1) (by omega) (by omega) hS dl_916 dl_917 dl_918 dl_919 dl_920 ?_
  refine lw_arg hX' hl hi.1 (j := 2) (by omega) (by omega) hS dl_921 dl_922 dl_923 dl_924 dl_925 ?_
  refine lw_arg hX' hl hi.1 (j := 3) (by omega) (by omega) hS dl_926 dl_927 dl_928 dl_929 dl_930 ?_
  refine xl_callV (E := E) (S := xS0) (A := fun q => s.heap.size ≤ q) (b := 0) (ci := 7) (As := [.int (xs (i + 1).toNat), .int (xs (i + 2).toNat), .int (xs (i + 3).toNat)]) (rest := []) hF hK hC.1 rfl rfl (sn_X8_amend hC _ _ _ _ e1) (xw_in 608 (by decide +kernel) rfl) (xw_in 605 (by decide +kernel) rfl) (xw_in 606 (by decide +kernel) rfl) (xw_in 607 (by decide +kernel) rfl) (xw_in 53 (by decide +kernel) rfl) ⟨by decide +kernel, by decide +kernel, by show _ = some 3; decide +kernel⟩ ⟨Nat.le_of_ble_eq_true rfl, Nat.le_of_ble_eq_true rfl⟩ hl.1 (Nat.le_of_ble_eq_true rfl) dl_931 hP hS hA ⟨(by show k ≤ 600000; omega), (by show n ≤ 7302250; omega)⟩ (fun H locs hP hS => ?_)
  refine lv_aload_n hx hb dl_934 rfl (lv_at hl 1 rfl) ?_
  refine lw_arg hX' hl hi.1 (j := 1) (by omega) (by omega) hS dl_935 dl_936 dl_937 dl_938 dl_939 ?_
  refine lw_arg hX' hl hi.1 (j := 2) (by omega) (by omega) hS dl_940 dl_941 dl_942 dl_943 dl_944 ?_
  refine lw_arg hX' hl hi.1 (j := 3) (by omega) (by omega) hS dl_945 dl_946 dl_947 dl_948 dl_949 ?_
  refine xl_callV (E := E) (S := xS0) (A := fun q => s.heap.size ≤ q) (b := 15) (ci := 8) (As := [.int (xs (i + 1).toNat), .int (xs (i + 2).toNat), .int (xs (i + 3).toNat)]) (rest := [.int v]) hF hK hC.1 rfl rfl (sn_X9_amend hC _ _ _ _ e2) (xw_in 1118 (by decide +kernel) rfl) (xw_in 1115 (by decide +kernel) rfl) (xw_in 1116 (by decide +kernel) rfl) (xw_in 1117 (by decide +kernel) rfl) (xw_in 60 (by decide +kernel) rfl) ⟨by decide +kernel, by decide +kernel, by show _ = some 3; decide +kernel⟩ ⟨Nat.le_of_ble_eq_true rfl, Nat.le_of_ble_eq_true rfl⟩ hl.1 (Nat.le_of_ble_eq_true rfl) dl_950 hP hS hA ⟨(by show k ≤ 600000; omega), (by show n ≤ 7302250; omega)⟩ (fun H locs hP hS => ?_)
  refine lv_icmp_eq (tgt := 1395) hx hb dl_953 (by decide) (fun c9 => ?_) (fun c9 => absurd rfl c9)
  refine W.widen (k := k + 1) (n := n + 3) (by omega) (by omega) ?_
  exact kk H locs m2 hP hS hR2
set_option maxHeartbeats 4000000 in
theorem lc_24 (hX : xLw p s m meth c b L xs D E tys) (hi : 0 ≤ i ∧ i + 5 < L) (hl : lv_has ls 4 [(3, .int (zi i)), (2, .ref (E.1 15)), (1, .ref (E.1 0)), (0, .ref b)]) (hP : va_P D vwCl (xi_wld E xS0 m0) H) (hS : va_S (fun q => s.heap.size ≤ q) s.heap H locs) (hR : Rel m0) (hk : k + 1 ≤ 600000 ∧ n + 3 ≤ 7302250) (kk : ∀ (H1 : Heap) (locs1 : List Loc) (m2 : xi_M), va_P D vwCl (xi_wld E xS0 m2) H1 → va_S (fun q => s.heap.size ≤ q) s.heap H1 locs1 → Rel m2 → W p l e room_1 s m #[Value.ref b] below meth c H1 locs1 (k + 1) (n + 3) Q (F0 m 1395 ls [])) : W p l e room_1 s m #[Value.ref b] below meth c H locs k n Q (F0 m 958 ls []) := by
  have hX' := hX
  obtain ⟨hAt, hL, hC, hn, hK, hA⟩ := hX
  have hF := xT_of hAt
  have hx := hAt.1
  have hb := hAt.2.1
  obtain ⟨v, m1, m2, e1, e2, hR2⟩ := sq_coats (xs (i + 1).toNat) (xs (i + 2).toNat) hR
  refine lv_aload_n hx hb dl_958 rfl (lv_at hl 2 rfl) ?_
  refine lw_arg hX' hl hi.1 (j := 1) (by omega) (by omega) hS dl_959 dl_960 dl_961 dl_962 dl_963 ?_
  refine lw_arg hX' hl hi.1 (j := 2) (by omega) (by omega) hS dl_964 dl_965 dl_966 dl_967 dl_968 ?_
  refine xl_callV (E := E) (S := xS0) (A := fun q => s.heap.size ≤ q) (b := 0) (ci := 7) (As := [.int (xs (i + 1).toNat), .int (xs (i + 2).toNat)]) (rest := []) hF hK hC.1 rfl rfl (sn_X8_coats hC _ _ _ _ e1) (xw_in 653 (by decide +kernel) rfl) (xw_in 650 (by decide +kernel) rfl) (xw_in 651 (by decide +kernel) rfl) (xw_in 652 (by decide +kernel) rfl) (xw_in 53 (by decide +kernel) rfl) ⟨by decide +kernel, by decide +kernel, by show _ = some 2; decide +kernel⟩ ⟨Nat.le_of_ble_eq_true rfl, Nat.le_of_ble_eq_true rfl⟩ hl.1 (Nat.le_of_ble_eq_true rfl) dl_969 hP hS hA ⟨(by show k ≤ 600000; omega), (by show n ≤ 7302250; omega)⟩ (fun H locs hP hS => ?_)
  refine lv_aload_n hx hb dl_972 rfl (lv_at hl 1 rfl) ?_
  refine lw_arg hX' hl hi.1 (j := 1) (by omega) (by omega) hS dl_973 dl_974 dl_975 dl_976 dl_977 ?_
  refine lw_arg hX' hl hi.1 (j := 2) (by omega) (by omega) hS dl_978 dl_979 dl_980 dl_981 dl_982 ?_
  refine xl_callV (E := E) (S := xS0) (A := fun q => s.heap.size ≤ q) (b := 15) (ci := 8) (As := [.int (xs (i + 1).toNat), .int (xs (i + 2).toNat)]) (rest := [.int v]) hF hK hC.1 rfl rfl (sn_X9_coats hC _ _ _ _ e2) (xw_in 1129 (by decide +kernel) rfl) (xw_in 1126 (by decide +kernel) rfl) (xw_in 1127 (by decide +kernel) rfl) (xw_in 1128 (by decide +kernel) rfl) (xw_in 60 (by decide +kernel) rfl) ⟨by decide +kernel, by decide +kernel, by show _ = some 2; decide +kernel⟩ ⟨Nat.le_of_ble_eq_true rfl, Nat.le_of_ble_eq_true rfl⟩ hl.1 (Nat.le_of_ble_eq_true rfl) dl_983 hP hS hA ⟨(by show k ≤ 600000; omega), (by show n ≤ 7302250; omega)⟩ (fun H locs hP hS => ?_)
  refine lv_icmp_eq (tgt := 1395) hx hb dl_986 (by decide) (fun c9 => ?_) (fun c9 => absurd rfl c9)
  refine W.widen (k := k + 1) (n := n + 3) (by omega) (by omega) ?_
  exact kk H locs m2 hP hS hR2
set_option maxHeartbeats 4000000 in
theorem lc_25 (hX : xLw p s m meth c b L xs D E tys) (hi : 0 ≤ i ∧ i + 5 < L) (hl : lv_has ls 4 [(3, .int (zi i)), (2, .ref (E.1 15)), (1, .ref (E.1 0)), (0, .ref b)]) (hP : va_P D vwCl (xi_wld E xS0 m0) H) (hS : va_S (fun q => s.heap.size ≤ q) s.heap H locs) (hR : Rel m0) (hk : k + 1 ≤ 600000 ∧ n + 3 ≤ 7302250) (kk : ∀ (H1 : Heap) (locs1 : List Loc) (m2 : xi_M), va_P D vwCl (xi_wld E xS0 m2) H1 → va_S (fun q => s.heap.size ≤ q) s.heap H1 locs1 → Rel m2 → W p l e room_1 s m #[Value.ref b] below meth c H1 locs1 (k + 1) (n + 3) Q (F0 m 1395 ls [])) : W p l e room_1 s m #[Value.ref b] below meth c H locs k n Q (F0 m 991 ls []) := by
  have hX' := hX
  obtain ⟨hAt, hL, hC, hn, hK, hA⟩ := hX
  have hF := xT_of hAt
  have hx := hAt.1
  have hb := hAt.2.1
  obtain ⟨v, m1, m2, e1, e2, hR2⟩ := sq_sure (xs (i + 1).toNat) (xs (i + 2).toNat) hR
  refine lv_aload_n hx hb dl_991 rfl (lv_at hl 2 rfl) ?_
  refine lw_arg hX' hl hi.1 (j := 1) (by omega) (by omega) hS dl_992 dl_993 dl_994 dl_995 dl_996 ?_
  refine lw_arg hX' hl hi.1 (j := 2) (by omega) (by omega) hS dl_997 dl_998 dl_999 dl_1000 dl_1001 ?_
  refine xl_callV (E := E) (S := xS0) (A := fun q => s.heap.size ≤ q) (b := 0) (ci := 7) (As := [.int (xs (i + 1).toNat), .int (xs (i + 2).toNat)]) (rest := []) hF hK hC.1 rfl rfl (sn_X8_sure hC _ _ _ _ e1) (xw_in 684 (by decide +kernel) rfl) (xw_in 681 (by decide +kernel) rfl) (xw_in 682 (by decide +kernel) rfl) (xw_in 683 (by decide +kernel) rfl) (xw_in 53 (by decide +kernel) rfl) ⟨by decide +kernel, by decide +kernel, by show _ = some 2; decide +kernel⟩ ⟨Nat.le_of_ble_eq_true rfl, Nat.le_of_ble_eq_true rfl⟩ hl.1 (Nat.le_of_ble_eq_true rfl) dl_1002 hP hS hA ⟨(by show k ≤ 600000; omega), (by show n ≤ 7302250; omega)⟩ (fun H locs hP hS => ?_)
  refine lv_aload_n hx hb dl_1005 rfl (lv_at hl 1 rfl) ?_
  refine lw_arg hX' hl hi.1 (j := 1) (by omega) (by omega) hS dl_1006 dl_1007 dl_1008 dl_1009 dl_1010 ?_
  refine lw_arg hX' hl hi.1 (j := 2) (by omega) (by omega) hS dl_1011 dl_1012 dl_1013 dl_1014 dl_1015 ?_
  refine xl_callV (E := E) (S := xS0) (A := fun q => s.heap.size ≤ q) (b := 15) (ci := 8) (As := [.int (xs (i + 1).toNat), .int (xs (i + 2).toNat)]) (rest := [.int v]) hF hK hC.1 rfl rfl (sn_X9_sure hC _ _ _ _ e2) (xw_in 1141 (by decide +kernel) rfl) (xw_in 1138 (by decide +kernel) rfl) (xw_in 1139 (by decide +kernel) rfl) (xw_in 1140 (by decide +kernel) rfl) (xw_in 60 (by decide +kernel) rfl) ⟨by decide +kernel, by decide +kernel, by show _ = some 2; decide +kernel⟩ ⟨Nat.le_of_ble_eq_true rfl, Nat.le_of_ble_eq_true rfl⟩ hl.1 (Nat.le_of_ble_eq_true rfl) dl_1016 hP hS hA ⟨(by show k ≤ 600000; omega), (by show n ≤ 7302250; omega)⟩ (fun H locs hP hS => ?_)
  refine lv_icmp_eq (tgt := 1395) hx hb dl_1019 (by decide) (fun c9 => ?_) (fun c9 => absurd rfl c9)
  refine W.widen (k := k + 1) (n := n + 3) (by omega) (by omega) ?_
  exact kk H locs m2 hP hS hR2
set_option maxHeartbeats 4000000 in
theorem lc_26 (hX : xLw p s m meth c b L xs D E tys) (hi : 0 ≤ i ∧ i + 5 < L) (hl : lv_has ls 4 [(3, .int (zi i)), (2, .ref (E.1 15)), (1, .ref (E.1 0)), (0, .ref b)]) (hP : va_P D vwCl (xi_wld E xS0 m0) H) (hS : va_S (fun q => s.heap.size ≤ q) s.heap H locs) (hR : Rel m0) (hk : k + 1 ≤ 600000 ∧ n + 3 ≤ 7302250) (kk : ∀ (H1 : Heap) (locs1 : List Loc) (m2 : xi_M), va_P D vwCl (xi_wld E xS0 m2) H1 → va_S (fun q => s.heap.size ≤ q) s.heap H1 locs1 → Rel m2 → W p l e room_1 s m #[Value.ref b] below meth c H1 locs1 (k + 1) (n + 3) Q (F0 m 1395 ls [])) : W p l e room_1 s m #[Value.ref b] below meth c H locs k n Q (F0 m 1024 ls []) := by
  have hX' := hX
  obtain ⟨hAt, hL, hC, hn, hK, hA⟩ := hX
  have hF := xT_of hAt
  have hx := hAt.1
  have hb := hAt.2.1
  obtain ⟨v, m1, m2, e1, e2, hR2⟩ := sq_next (xs (i + 1).toNat) (xs (i + 2).toNat) hR
  refine lv_aload_n hx hb dl_1024 rfl (lv_at hl 2 rfl) ?_
  refine lw_arg hX' hl hi.1 (j := 1) (by omega) (by omega) hS dl_1025 dl_1026 dl_1027 dl_1028 dl_1029 ?_
  refine lw_arg hX' hl hi.1 (j := 2) (by omega) (by omega) hS dl_1030 dl_1031 dl_1032 dl_1033 dl_1034 ?_
  refine xl_callV (E := E) (S := xS0) (A := fun q => s.heap.size ≤ q) (b := 0) (ci := 7) (As := [.int (xs (i + 1).toNat), .int (xs (i + 2).toNat)]) (rest := []) hF hK hC.1 rfl rfl (sn_X8_next hC _ _ _ _ e1) (xw_in 692 (by decide +kernel) rfl) (xw_in 689 (by decide +kernel) rfl) (xw_in 690 (by decide +kernel) rfl) (xw_in 691 (by decide +kernel) rfl) (xw_in 53 (by decide +kernel) rfl) ⟨by decide +kernel, by decide +kernel, by show _ = some 2; decide +kernel⟩ ⟨Nat.le_of_ble_eq_true rfl, Nat.le_of_ble_eq_true rfl⟩ hl.1 (Nat.le_of_ble_eq_true rfl) dl_1035 hP hS hA ⟨(by show k ≤ 600000; omega), (by show n ≤ 7302250; omega)⟩ (fun H locs hP hS => ?_)
  refine lv_aload_n hx hb dl_1038 rfl (lv_at hl 1 rfl) ?_
  refine lw_arg hX' hl hi.1 (j := 1) (by omega) (by omega) hS dl_1039 dl_1040 dl_1041 dl_1042 dl_1043 ?_
  refine lw_arg hX' hl hi.1 (j := 2) (by omega) (by omega) hS dl_1044 dl_1045 dl_1046 dl_1047 dl_1048 ?_
  refine xl_callV (E := E) (S := xS0) (A := fun q => s.heap.size ≤ q) (b := 15) (ci := 8) (As := [.int (xs (i + 1).toNat), .int (xs (i + 2).toNat)]) (rest := [.int v]) hF hK hC.1 rfl rfl (sn_X9_next hC _ _ _ _ e2) (xw_in 1150 (by decide +kernel) rfl) (xw_in 1147 (by decide +kernel) rfl) (xw_in 1148 (by decide +kernel) rfl) (xw_in 1149 (by decide +kernel) rfl) (xw_in 60 (by decide +kernel) rfl) ⟨by decide +kernel, by decide +kernel, by show _ = some 2; decide +kernel⟩ ⟨Nat.le_of_ble_eq_true rfl, Nat.le_of_ble_eq_true rfl⟩ hl.1 (Nat.le_of_ble_eq_true rfl) dl_1049 hP hS hA ⟨(by show k ≤ 600000; omega), (by show n ≤ 7302250; omega)⟩ (fun H locs hP hS => ?_)
  refine lv_icmp_eq (tgt := 1395) hx hb dl_1052 (by decide) (fun c9 => ?_) (fun c9 => absurd rfl c9)
  refine W.widen (k := k + 1) (n := n + 3) (by omega) (by omega) ?_
  exact kk H locs m2 hP hS hR2
set_option maxHeartbeats 4000000 in
theorem lc_27 (hX : xLw p s m meth c b L xs D E tys) (hi : 0 ≤ i ∧ i + 5 < L) (hl : lv_has ls 4 [(3, .int (zi i)), (2, .ref (E.1 15)), (1, .ref (E.1 0)), (0, .ref b)]) (hP : va_P D vwCl (xi_wld E xS0 m0) H) (hS : va_S (fun q => s.heap.size ≤ q) s.heap H locs) (hR : Rel m0) (hk : k + 1 ≤ 600000 ∧ n + 3 ≤ 7302250) (kk : ∀ (H1 : Heap) (locs1 : List Loc) (m2 : xi_M), va_P D vwCl (xi_wld E xS0 m2) H1 → va_S (fun q => s.heap.size ≤ q) s.heap H1 locs1 → Rel m2 → W p l e room_1 s m #[Value.ref b] below meth c H1 locs1 (k + 1) (n + 3) Q (F0 m 1395 ls [])) : W p l e room_1 s m #[Value.ref b] below meth c H locs k n Q (F0 m 1057 ls []) := by
  have hX' := hX
  obtain ⟨hAt, hL, hC, hn, hK, hA⟩ := hX
  have hF := xT_of hAt
  have hx := hAt.1
  have hb := hAt.2.1
  obtain ⟨v, m1, m2, e1, e2, hR2⟩ := sq_stood (xs (i + 1).toNat) (xs (i + 2).toNat) hR
  refine lv_aload_n hx hb dl_1057 rfl (lv_at hl 2 rfl) ?_
  refine lw_arg hX' hl hi.1 (j := 1) (by omega) (by omega) hS dl_1058 dl_1059 dl_1060 dl_1061 dl_1062 ?_
  refine lw_arg hX' hl hi.1 (j := 2) (by omega) (by omega) hS dl_1063 dl_1064 dl_1065 dl_1066 dl_1067 ?_
  refine xl_callV (E := E) (S := xS0) (A := fun q => s.heap.size ≤ q) (b := 0) (ci := 7) (As := [.int (xs (i + 1).toNat), .int (xs (i + 2).toNat)]) (rest := []) hF hK hC.1 rfl rfl (sn_X8_stood hC _ _ _ _ e1) (xw_in 706 (by decide +kernel) rfl) (xw_in 703 (by decide +kernel) rfl) (xw_in 704 (by decide +kernel) rfl) (xw_in 705 (by decide +kernel) rfl) (xw_in 53 (by decide +kernel) rfl) ⟨by decide +kernel, by decide +kernel, by show _ = some 2; decide +kernel⟩ ⟨Nat.le_of_ble_eq_true rfl, Nat.le_of_ble_eq_true rfl⟩ hl.1 (Nat.le_of_ble_eq_true rfl) dl_1068 hP hS hA ⟨(by show k ≤ 600000; omega), (by show n ≤ 7302250; omega)⟩ (fun H locs hP hS => ?_)
  refine lv_aload_n hx hb dl_1071 rfl (lv_at hl 1 rfl) ?_
  refine lw_arg hX' hl hi.1 (j := 1) (by omega) (by omega) hS dl_1072 dl_1073 dl_1074 dl_1075 dl_1076 ?_
  refine lw_arg hX' hl hi.1 (j := 2) (by omega) (by omega) hS dl_1077 dl_1078 dl_1079 dl_1080 dl_1081 ?_
  refine xl_callV (E := E) (S := xS0) (A := fun q => s.heap.size ≤ q) (b := 15) (ci := 8) (As := [.int (xs (i + 1).toNat), .int (xs (i + 2).toNat)]) (rest := [.int v]) hF hK hC.1 rfl rfl (sn_X9_stood hC _ _ _ _ e2) (xw_in 1161 (by decide +kernel) rfl) (xw_in 1158 (by decide +kernel) rfl) (xw_in 1159 (by decide +kernel) rfl) (xw_in 1160 (by decide +kernel) rfl) (xw_in 60 (by decide +kernel) rfl) ⟨by decide +kernel, by decide +kernel, by show _ = some 2; decide +kernel⟩ ⟨Nat.le_of_ble_eq_true rfl, Nat.le_of_ble_eq_true rfl⟩ hl.1 (Nat.le_of_ble_eq_true rfl) dl_1082 hP hS hA ⟨(by show k ≤ 600000; omega), (by show n ≤ 7302250; omega)⟩ (fun H locs hP hS => ?_)
  refine lv_icmp_eq (tgt := 1395) hx hb dl_1085 (by decide) (fun c9 => ?_) (fun c9 => absurd rfl c9)
  refine W.widen (k := k + 1) (n := n + 3) (by omega) (by omega) ?_
  exact kk H locs m2 hP hS hR2
end
