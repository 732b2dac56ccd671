/-! the law's loop, and its start -/
section
variable {p : Program} {l : Launch} {e : Env} {s : State} {m : MethodId} {below : List Frame} {meth : Method} {c : Code} {b L : Nat} {xs : Nat → Int32} {D : va_G} {E : xi_E} {tys : List (ClassId × FieldType)}
theorem xnst8 {s : State} {args : Array Value} (hts : ∀ w ∈ lw_tbl, w.before args s = true) : ∀ q ∈ xN8, va_Nw (.methodLinkNest q.1 q.2.1 q.2.2.1 q.2.2.2) s := by
  have key : ∀ q ∈ xN8, (Cond.methodLinkNest q.1 q.2.1 q.2.2.1 q.2.2.2).before args s = true := List.forall_mem_cons.mpr ⟨hts _ (List.mem_of_getElem? (i := 79) (by decide +kernel)), List.forall_mem_cons.mpr ⟨hts _ (List.mem_of_getElem? (i := 152) (by decide +kernel)), List.forall_mem_cons.mpr ⟨hts _ (List.mem_of_getElem? (i := 174) (by decide +kernel)), List.forall_mem_cons.mpr ⟨hts _ (List.mem_of_getElem? (i := 190) (by decide +kernel)), List.forall_mem_cons.mpr ⟨hts _ (List.mem_of_getElem? (i := 200) (by decide +kernel)), fun _ h => absurd h List.not_mem_nil⟩⟩⟩⟩⟩
  exact fun q hq => va_tabs (c := .methodLinkNest q.1 q.2.1 q.2.2.1 q.2.2.2) rfl rfl (key q hq)
theorem xnst {s : State} {args : Array Value} (hts : ∀ w ∈ lw_tbl, w.before args s = true) : ∀ q ∈ xNs, va_Nw (.methodLinkNest q.1 q.2.1 q.2.2.1 q.2.2.2) s := by
  have key : ∀ q ∈ xNs, (Cond.methodLinkNest q.1 q.2.1 q.2.2.1 q.2.2.2).before args s = true := List.forall_mem_cons.mpr ⟨hts _ (List.mem_of_getElem? (i := 457) (by decide +kernel)), List.forall_mem_cons.mpr ⟨hts _ (List.mem_of_getElem? (i := 476) (by decide +kernel)), List.forall_mem_cons.mpr ⟨hts _ (List.mem_of_getElem? (i := 633) (by decide +kernel)), List.forall_mem_cons.mpr ⟨hts _ (List.mem_of_getElem? (i := 662) (by decide +kernel)), List.forall_mem_cons.mpr ⟨hts _ (List.mem_of_getElem? (i := 669) (by decide +kernel)), List.forall_mem_cons.mpr ⟨hts _ (List.mem_of_getElem? (i := 745) (by decide +kernel)), fun _ h => absurd h List.not_mem_nil⟩⟩⟩⟩⟩⟩
  exact fun q hq => va_tabs (c := .methodLinkNest q.1 q.2.1 q.2.2.1 q.2.2.2) rfl rfl (key q hq)
set_option maxHeartbeats 4000000 in
theorem lw_sw (hX : xLw p s m meth c b L xs D E tys) {H : Heap} {locs : List Loc} {k n : Nat} {Q : State → Prop} {ls : Array Slot} {m0 : xi_M} {i : Int} (x : Int32) (hi : 0 ≤ i ∧ i + 5 < L) (hl : lv_has ls 4 [(3, .int (zi i)), (2, .ref (E.1 15)), (1, .ref (E.1 0)), (0, .ref b)]) (hP : va_P D vwCl (xi_wld E xS0 m0) H) (hS : va_S (fun q => s.heap.size ≤ q) s.heap H locs) (hR : Rel m0) (hk : k + 1 ≤ 600000 ∧ n + 3 ≤ 7302250) (kk : ∀ (H1 : Heap) (locs1 : List Loc) (m2 : xi_M), va_P D vwCl (xi_wld E xS0 m2) H1 → va_S (fun q => s.heap.size ≤ q) s.heap H1 locs1 → Rel m2 → W p l e room_1 s m #[Value.ref b] below meth c H1 locs1 (k + 1) (n + 3) Q (F0 m 1395 ls [])) : W p l e room_1 s m #[Value.ref b] below meth c H locs k n Q (F0 m 33 ls [.int x]) := by
  have hx := hX.1.1
  have hb := hX.1.2.1
  by_cases h : 0 ≤ x.toInt ∧ x.toInt ≤ 41
  · generalize hz : x.toInt = z at h
    rcases (show z = 0 ∨ z = 1 ∨ z = 2 ∨ z = 3 ∨ z = 4 ∨ z = 5 ∨ z = 6 ∨ z = 7 ∨ z = 8 ∨ z = 9 ∨ z = 10 ∨ z = 11 ∨ z = 12 ∨ z = 13 ∨ z = 14 ∨ z = 15 ∨ z = 16 ∨ z = 17 ∨ z = 18 ∨ z = 19 ∨ z = 20 ∨ z = 21 ∨ z = 22 ∨ z = 23 ∨ z = 24 ∨ z = 25 ∨ z = 26 ∨ z = 27 ∨ z = 28 ∨ z = 29 ∨ z = 30 ∨ z = 31 ∨ z = 32 ∨ z = 33 ∨ z = 34 ∨ z = 35 ∨ z = 36 ∨ z = 37 ∨ z = 38 ∨ z = 39 ∨ z = 40 ∨ z = 41 by omega) with e9 | e9 | e9 | e9 | e9 | e9 | e9 | e9 | e9 | e9 | e9 | e9 | e9 | e9 | e9 | e9 | e9 | e9 | e9 | e9 | e9 | e9 | e9 | e9 | e9 | e9 | e9 | e9 | e9 | e9 | e9 | e9 | e9 | e9 | e9 | e9 | e9 | e9 | e9 | e9 | e9 | e9
    · subst e9
      exact lv_tableIn (off := 183) (tgt := 216) hx hb dl_33 (by omega) (by omega) (by rw [hz]; rfl) (by decide) (lc_0 hX hi hl hP hS hR hk kk)
    · subst e9
      exact lv_tableIn (off := 216) (tgt := 249) hx hb dl_33 (by omega) (by omega) (by rw [hz]; rfl) (by decide) (lc_1 hX hi hl hP hS hR hk kk)
    · subst e9
      exact lv_tableIn (off := 259) (tgt := 292) hx hb dl_33 (by omega) (by omega) (by rw [hz]; rfl) (by decide) (lc_2 hX hi hl hP hS hR hk kk)
    · subst e9
      exact lv_tableIn (off := 292) (tgt := 325) hx hb dl_33 (by omega) (by omega) (by rw [hz]; rfl) (by decide) (lc_3 hX hi hl hP hS hR hk kk)
    · subst e9
      exact lv_tableIn (off := 315) (tgt := 348) hx hb dl_33 (by omega) (by omega) (by rw [hz]; rfl) (by decide) (lc_4 hX hi hl hP hS hR hk kk)
    · subst e9
      exact lv_tableIn (off := 378) (tgt := 411) hx hb dl_33 (by omega) (by omega) (by rw [hz]; rfl) (by decide) (lc_5 hX hi hl hP hS hR hk kk)
    · subst e9
      exact lv_tableIn (off := 401) (tgt := 434) hx hb dl_33 (by omega) (by omega) (by rw [hz]; rfl) (by decide) (lc_6 hX hi hl hP hS hR hk kk)
    · subst e9
      exact lv_tableIn (off := 434) (tgt := 467) hx hb dl_33 (by omega) (by omega) (by rw [hz]; rfl) (by decide) (lc_7 hX hi hl hP hS hR hk kk)
    · subst e9
      exact lv_tableIn (off := 477) (tgt := 510) hx hb dl_33 (by omega) (by omega) (by rw [hz]; rfl) (by decide) (lc_8 hX hi hl hP hS hR hk kk)
    · subst e9
      exact lv_tableIn (off := 500) (tgt := 533) hx hb dl_33 (by omega) (by omega) (by rw [hz]; rfl) (by decide) (lc_9 hX hi hl hP hS hR hk kk)
    · subst e9
      exact lv_tableIn (off := 523) (tgt := 556) hx hb dl_33 (by omega) (by omega) (by rw [hz]; rfl) (by decide) (lc_10 hX hi hl hP hS hR hk kk)
    · subst e9
      exact lv_tableIn (off := 556) (tgt := 589) hx hb dl_33 (by omega) (by omega) (by rw [hz]; rfl) (by decide) (lc_11 hX hi hl hP hS hR hk kk)
    · subst e9
      exact lv_tableIn (off := 589) (tgt := 622) hx hb dl_33 (by omega) (by omega) (by rw [hz]; rfl) (by decide) (lc_12 hX hi hl hP hS hR hk kk)
    · subst e9
      exact lv_tableIn (off := 602) (tgt := 635) hx hb dl_33 (by omega) (by omega) (by rw [hz]; rfl) (by decide) (lc_13 hX hi hl hP hS hR hk kk)
    · subst e9
      exact lv_tableIn (off := 635) (tgt := 668) hx hb dl_33 (by omega) (by omega) (by rw [hz]; rfl) (by decide) (lc_14 hX hi hl hP hS hR hk kk)
    · subst e9
      exact lv_tableIn (off := 658) (tgt := 691) hx hb dl_33 (by omega) (by omega) (by rw [hz]; rfl) (by decide) (lc_15 hX hi hl hP hS hR hk kk)
    · subst e9
      exact lv_tableIn (off := 691) (tgt := 724) hx hb dl_33 (by omega) (by omega) (by rw [hz]; rfl) (by decide) (lc_16 hX hi hl hP hS hR hk kk)
    · subst e9
      exact lv_tableIn (off := 714) (tgt := 747) hx hb dl_33 (by omega) (by omega) (by rw [hz]; rfl) (by decide) (lc_17 hX hi hl hP hS hR hk kk)
    · subst e9
      exact lv_tableIn (off := 737) (tgt := 770) hx hb dl_33 (by omega) (by omega) (by rw [hz]; rfl) (by decide) (lc_18 hX hi hl hP hS hR hk kk)
    · subst e9
      exact lv_tableIn (off := 760) (tgt := 793) hx hb dl_33 (by omega) (by omega) (by rw [hz]; rfl) (by decide) (lc_19 hX hi hl hP hS hR hk kk)
    · subst e9
      exact lv_tableIn (off := 803) (tgt := 836) hx hb dl_33 (by omega) (by omega) (by rw [hz]; rfl) (by decide) (lc_20 hX hi hl hP hS hR hk kk)
    · subst e9
      exact lv_tableIn (off := 836) (tgt := 869) hx hb dl_33 (by omega) (by omega) (by rw [hz]; rfl) (by decide) (lc_21 hX hi hl hP hS hR hk kk)
    · subst e9
      exact lv_tableIn (off := 859) (tgt := 892) hx hb dl_33 (by omega) (by omega) (by rw [hz]; rfl) (by decide) (lc_22 hX hi hl hP hS hR hk kk)
    · subst e9
      exact lv_tableIn (off := 882) (tgt := 915) hx hb dl_33 (by omega) (by omega) (by rw [hz]; rfl) (by decide) (lc_23 hX hi hl hP hS hR hk kk)
    · subst e9
      exact lv_tableIn (off := 925) (tgt := 958) hx hb dl_33 (by omega) (by omega) (by rw [hz]; rfl) (by decide) (lc_24 hX hi hl hP hS hR hk kk)
    · subst e9
      exact lv_tableIn (off := 958) (tgt := 991) hx hb dl_33 (by omega) (by omega) (by rw [hz]; rfl) (by decide) (lc_25 hX hi hl hP hS hR hk kk)
    · subst e9
      exact lv_tableIn (off := 991) (tgt := 1024) hx hb dl_33 (by omega) (by omega) (by rw [hz]; rfl) (by decide) (lc_26 hX hi hl hP hS hR hk kk)
    · subst e9
      exact lv_tableIn (off := 1024) (tgt := 1057) hx hb dl_33 (by omega) (by omega) (by rw [hz]; rfl) (by decide) (lc_27 hX hi hl hP hS hR hk kk)
    · subst e9
      exact lv_tableIn (off := 1057) (tgt := 1090) hx hb dl_33 (by omega) (by omega) (by rw [hz]; rfl) (by decide) (lc_28 hX hi hl hP hS hR hk kk)
    · subst e9
      exact lv_tableIn (off := 1090) (tgt := 1123) hx hb dl_33 (by omega) (by omega) (by rw [hz]; rfl) (by decide) (lc_29 hX hi hl hP hS hR hk kk)
    · subst e9
      exact lv_tableIn (off := 1113) (tgt := 1146) hx hb dl_33 (by omega) (by omega) (by rw [hz]; rfl) (by decide) (lc_30 hX hi hl hP hS hR hk kk)
    · subst e9
      exact lv_tableIn (off := 1136) (tgt := 1169) hx hb dl_33 (by omega) (by omega) (by rw [hz]; rfl) (by decide) (lc_31 hX hi hl hP hS hR hk kk)
    · subst e9
      exact lv_tableIn (off := 1159) (tgt := 1192) hx hb dl_33 (by omega) (by omega) (by rw [hz]; rfl) (by decide) (lc_32 hX hi hl hP hS hR hk kk)
    · subst e9
      exact lv_tableIn (off := 1192) (tgt := 1225) hx hb dl_33 (by omega) (by omega) (by rw [hz]; rfl) (by decide) (lc_33 hX hi hl hP hS hR hk kk)
    · subst e9
      exact lv_tableIn (off := 1215) (tgt := 1248) hx hb dl_33 (by omega) (by omega) (by rw [hz]; rfl) (by decide) (lc_34 hX hi hl hP hS hR hk kk)
    · subst e9
      exact lv_tableIn (off := 1248) (tgt := 1281) hx hb dl_33 (by omega) (by omega) (by rw [hz]; rfl) (by decide) (lc_35 hX hi hl hP hS hR hk kk)
    · subst e9
      exact lv_tableIn (off := 1261) (tgt := 1294) hx hb dl_33 (by omega) (by omega) (by rw [hz]; rfl) (by decide) (lc_36 hX hi hl hP hS hR hk kk)
    · subst e9
      exact lv_tableIn (off := 1275) (tgt := 1308) hx hb dl_33 (by omega) (by omega) (by rw [hz]; rfl) (by decide) (lc_37 hX hi hl hP hS hR hk kk)
    · subst e9
      exact lv_tableIn (off := 1289) (tgt := 1322) hx hb dl_33 (by omega) (by omega) (by rw [hz]; rfl) (by decide) (lc_38 hX hi hl hP hS hR hk kk)
    · subst e9
      exact lv_tableIn (off := 1312) (tgt := 1345) hx hb dl_33 (by omega) (by omega) (by rw [hz]; rfl) (by decide) (lc_39 hX hi hl hP hS hR hk kk)
    · subst e9
      exact lv_tableIn (off := 1325) (tgt := 1358) hx hb dl_33 (by omega) (by omega) (by rw [hz]; rfl) (by decide) (lc_40 hX hi hl hP hS hR hk kk)
    · subst e9
      exact lv_tableIn (off := 1348) (tgt := 1381) hx hb dl_33 (by omega) (by omega) (by rw [hz]; rfl) (by decide) (lc_41 hX hi hl hP hS hR hk kk)
  · refine lv_tableOut (tgt := 1395) hx hb dl_33 (by omega) (by decide) ?_
    refine W.widen (k := k + 1) (n := n + 3) (by omega) (by omega) ?_
    exact kk H locs m0 hP hS hR
set_option maxHeartbeats 4000000 in
theorem lw_loop (hX : xLw p s m meth c b L xs D E tys) : ∀ (d j : Nat) (H : Heap) (locs : List Loc) (ls : Array Slot) (m0 : xi_M), L ≤ 6 * (j + d) → j ≤ 64 → lv_has ls 4 [(3, .int (zi (6 * (j : Int)))), (2, .ref (E.1 15)), (1, .ref (E.1 0)), (0, .ref b)] → va_P D vwCl (xi_wld E xS0 m0) H → va_S (fun q => s.heap.size ≤ q) s.heap H locs → Rel m0 → W p l e room_1 s m #[Value.ref b] below meth c H locs (100 + j) (14277 + 3 * j) (lw_Z below #[Value.ref b] s) (F0 m 18 ls []) := by
  obtain ⟨⟨hx, hb, hr, hml, hown, hts, hX0, hbl, hlocks, hgv⟩, hL, hC, hn, hK, hA⟩ := id hX
  have exit : ∀ (j : Nat) (H : Heap) (locs : List Loc) (ls : Array Slot), j ≤ 64 → va_S (fun q => s.heap.size ≤ q) s.heap H locs → W p l e room_1 s m #[Value.ref b] below meth c H locs (100 + j) (14277 + 3 * j) (lw_Z below #[Value.ref b] s) (F0 m 1401 ls []) := by
    intro j H locs ls hj hS
    refine lv_iconst (v := 1) hx hb dl_1401 (by decide) ?_
    refine va_forget (fun q hq => hS.2.2 q hq) ?_
    refine W.widen (k := 600000) (n := 7302250) (by omega) (by omega) ?_
    exact lw_ret hx hb hr hlocks dl_1402
  intro d
  induction d with
  | zero =>
    intro j H locs ls m0 hd hj hl hP hS hR
    refine lv_iload_n hx hb dl_18 rfl (lv_at hl 0 rfl) ?_
    refine lv_aload_n hx hb dl_19 rfl (lv_at hl 3 rfl) ?_
    refine va_slen hx hb hX0 hbl (xnb hbl) hS dl_20 ?_
    refine lv_bipush (v := zi 6) hx hb dl_21 (by decide) ?_
    refine lv_isub hx hb dl_23 ?_
    rw [zi_nat, zi_sub]
    refine lv_icmp_gt (tgt := 1401) hx hb dl_24 (by decide) (fun c9 => exit j H locs ls hj hS) (fun c9 => ?_)
    exfalso
    rw [zi_lt (by omega) (by omega) (by omega) (by omega)] at c9
    omega
  | succ d ih =>
    intro j H locs ls m0 hd hj hl hP hS hR
    refine lv_iload_n hx hb dl_18 rfl (lv_at hl 0 rfl) ?_
    refine lv_aload_n hx hb dl_19 rfl (lv_at hl 3 rfl) ?_
    refine va_slen hx hb hX0 hbl (xnb hbl) hS dl_20 ?_
    refine lv_bipush (v := zi 6) hx hb dl_21 (by decide) ?_
    refine lv_isub hx hb dl_23 ?_
    rw [zi_nat, zi_sub]
    refine lv_icmp_gt (tgt := 1401) hx hb dl_24 (by decide) (fun c9 => exit j H locs ls hj hS) (fun c9 => ?_)
    rw [zi_lt (by omega) (by omega) (by omega) (by omega)] at c9
    have hc : (zi (6 * (j : Int))).toNatClampNeg = (6 * (j : Int)).toNat := zi_n (by omega) (by omega)
    refine lv_aload_n hx hb dl_27 rfl (lv_at hl 3 rfl) ?_
    refine lv_iload_n hx hb dl_28 rfl (lv_at hl 0 rfl) ?_
    refine va_sld hx hb hX0 hbl (xnb hbl) hS ?_ dl_29 ?_
    · rintro (h | h)
      · rw [show (0 : Int32) = zi 0 from rfl, zi_lt (by omega) (by omega) (by omega) (by omega)] at h
        omega
      · rw [hc] at h
        omega
    · refine lv_bipush (v := 63) hx hb dl_30 (by decide) ?_
      refine lv_iand hx hb dl_32 ?_
      refine lw_sw hX _ (i := 6 * (j : Int)) ⟨by omega, by omega⟩ hl hP hS hR ⟨by omega, by omega⟩ (fun H locs m2 hP hS hR => ?_)
      refine lv_iinc (v := zi (6 * ((j + 1 : Nat) : Int))) (lv' := [(3, .int (zi (6 * ((j + 1 : Nat) : Int)))), (2, .ref (E.1 15)), (1, .ref (E.1 0)), (0, .ref b)]) hx hb dl_1395 hl (k := 0) rfl (by rw [show Int32.ofInt 6 = zi 6 from rfl, zi_add, show 6 * (j : Int) + 6 = 6 * ((j + 1 : Nat) : Int) by omega]) (by decide) rfl (fun ls hl => ?_)
      refine lv_goto (tgt := 18) hx hb dl_1398 (by decide) ?_
      exact ih (j + 1) H locs ls m2 (by omega) (by omega) hl hP hS hR
end
set_option maxHeartbeats 8000000 in
set_option maxRecDepth 100000 in
theorem whole_start {p : Program} {e : Env} {s : State} {m : MethodId} {below : List Frame} {meth : Method} {c : Code} (l : Launch) {b L : Nat} {xs : Nat → Int32} (hL : L ≤ 384) (C0 : lw_At p s m meth c b L xs) : W p l e room_1 s m #[Value.ref b] below meth c s.heap [] 0 0 (lw_Z below #[Value.ref b] s) (entryFrame m ([Value.ref b] : List Value).toArray 4) := by
  obtain ⟨hx, hb, hr, hml, hown, hts, hX, hbl, hlocks, hgv⟩ := id C0
  have hts' : ∀ w ∈ xTs, w.before #[Value.ref b] s = true := fun w hw => hts w (List.mem_filter.mp hw).1
  have hA : ∀ q : Nat, s.heap.size ≤ q → (fun q : Nat => s.heap.size ≤ q) q := fun _ h => h
  have hbA : ¬ (fun q : Nat => s.heap.size ≤ q) b := Nat.not_le.mpr hbl
  obtain ⟨c0, iS0, hKn0⟩ := u_known (C := RX0) (T := TX0) (N := 3) (n := 3) hts' xin_X0 (hts' _ (xw_in 173 (by decide +kernel) rfl))
  obtain ⟨c1, iS1, hKn1⟩ := u_known (C := RX1) (T := TX1) (N := 5) (n := 5) hts' xin_X1 (hts' _ (xw_in 151 (by decide +kernel) rfl))
  obtain ⟨c2, iS2, hKn2⟩ := u_known (C := RX2) (T := TX2) (N := 1) (n := 1) hts' xin_X2 (hts' _ (xw_in 189 (by decide +kernel) rfl))
  obtain ⟨c3, iS3, hKn3⟩ := u_known (C := RX3) (T := TX3) (N := 3) (n := 3) hts' xin_X3 (hts' _ (xw_in 199 (by decide +kernel) rfl))
  obtain ⟨c4, iS4, hKn4⟩ := u_known (C := RX5) (T := TX5) (N := 3) (n := 3) hts' xin_X5 (hts' _ (xw_in 355 (by decide +kernel) rfl))
  obtain ⟨c5, iS5, hKn5⟩ := u_known (C := RX6) (T := TX6) (N := 14) (n := 14) hts' xin_X6 (hts' _ (xw_in 78 (by decide +kernel) rfl))
  obtain ⟨c6, iS6, hKn6⟩ := u_known (C := RX7) (T := TX7) (N := 3) (n := 3) hts' xin_X7 (hts' _ (xw_in 216 (by decide +kernel) rfl))
  obtain ⟨c7, iS7, hKn7⟩ := u_known (C := RX8) (T := TX8) (N := 14) (n := 14) hts' xin_X8 (hts' _ (xw_in 68 (by decide +kernel) rfl))
  obtain ⟨c8, iS8, hKn8⟩ := u_known (C := RX9) (T := TX9) (N := 21) (n := 21) hts' xin_X9 (hts' _ (xw_in 823 (by decide +kernel) rfl))
  obtain ⟨D, hKc⟩ : ∃ D : va_G, ∀ (k : Nat) (q : vw_C), vwCl[k]? = some q → u_Kn s q.1 q.2.1 q.2.2 (D.1 k) (D.2 k) := by
    refine ⟨(fun k => if k = 0 then c0 else if k = 1 then c1 else if k = 2 then c2 else if k = 3 then c3 else if k = 4 then c4 else if k = 5 then c5 else if k = 6 then c6 else if k = 7 then c7 else c8, fun k => if k = 0 then iS0 else if k = 1 then iS1 else if k = 2 then iS2 else if k = 3 then iS3 else if k = 4 then iS4 else if k = 5 then iS5 else if k = 6 then iS6 else if k = 7 then iS7 else iS8), ?_⟩
    intro k q hq
    match k, hq with
    | 0, hq => cases hq; exact hKn0
    | 1, hq => cases hq; exact hKn1
    | 2, hq => cases hq; exact hKn2
    | 3, hq => cases hq; exact hKn3
    | 4, hq => cases hq; exact hKn4
    | 5, hq => cases hq; exact hKn5
    | 6, hq => cases hq; exact hKn6
    | 7, hq => cases hq; exact hKn7
    | 8, hq => cases hq; exact hKn8
    | k + 9, hq => simp [vwCl] at hq
  have hH : xH8 s := ⟨xnst8 hts, va_AO.of (hts _ (List.mem_of_getElem? (i := 76) (by decide +kernel))), va_AO.of (hts _ (List.mem_of_getElem? (i := 149) (by decide +kernel)))⟩
  have hS : va_S (fun q : Nat => s.heap.size ≤ q) s.heap s.heap [] := va_S.rf
  have hK : va_K D vwCl [] s := ⟨hKc, fun k q h => by simp at h⟩
  have hP : va_P D vwCl [] s.heap := fun k q h => by simp at h
  have hD : va_D (fun q : Nat => s.heap.size ≤ q) [] := ⟨fun i j p q h => by simp at h, fun k q h => by simp at h⟩
  have hl := lv_entry ([.ref b]) (n := 4) (Nat.le_of_ble_eq_true rfl)
  rw [lg_entry_eq]
  generalize (lg_sl ([.ref b]) ++ List.replicate (4 - (lg_sl ([.ref b])).length) Slot.unset).toArray = ls at hl ⊢
  have hl : lv_has ls 4 [(0, .ref b)] := hl
  refine va_new (ci := 7) (fs := [.null, .null, .null, .null, .null, .null, .null, .null, .null, .null, .int 0, .int 0, .long 0, .long 0]) (C := RX8) (T := TX8) (N := 14) hx hb hts' xin_X8 tyX8 tyX8_ok hown (hts' _ (xw_in 67 (by decide +kernel) rfl)) (hts' _ (xw_in 68 (by decide +kernel) rfl)) (hts' _ (xw_in 53 (by decide +kernel) rfl)) hK hP hD hS hA rfl df_X8 (Nat.le_of_ble_eq_true rfl) (Nat.le_of_ble_eq_true rfl) dl_0 (fun q8 H hP hD hS => ?_)
  refine W.widen (k := 1) (n := 14) (by omega) (by omega) ?_
  refine lv_dup hx hb dl_3 rfl ?_
  have hPc := xj_one (wr := []) hP
  have hDc := xj_oneD (wr := []) hD
  have hKc := hK.sub (tys' := []) [] rfl
  have hFc := xj_fr (wr := []) hD hS hA
  refine va_callv (va_runI (As := []) (rest := [.ref q8]) ⟨hx, hb, hml, hown, hts'⟩ (ci_X8 l D q8 H.size) (cwI 0 hts' (xi_good xw_good (xw_in 71 (by decide +kernel) rfl)) rfl rfl rfl (hts' _ (xw_in 53 (by decide +kernel) rfl)) (hts' _ (xw_in 69 (by decide +kernel) rfl)) (hts' _ (xw_in 70 (by decide +kernel) rfl)) rfl (by decide +kernel) ⟨Nat.le_of_ble_eq_true rfl, Nat.le_of_ble_eq_true rfl⟩) ⟨fun a U g mk q => by obtain ⟨q0, q1, qP, qK, qD, qH⟩ := q; exact ⟨q0, q1, qP, va_K.moved (u := U) (U := U.calling g mk a) (Vm.Alike.refl U.vm) qK, qD, fun z hz => va_Nw.same (u := U) (U := U.calling g mk a) rfl rfl (qH.1 z hz), va_AO.moved (u := U) (U := U.calling g mk a) (Vm.Alike.refl U.vm) qH.2.1, va_AO.moved (u := U) (U := U.calling g mk a) (Vm.Alike.refl U.vm) qH.2.2⟩, fun U hU hW => ⟨rfl, by rw [hU], by rw [hU]; exact hPc, va_K.moved hW.alike hKc, hDc.weaken (fun _ _ _ _ => trivial), fun z hz => va_Nw.warmM hW (hH.1 z hz), va_AO.moved hW.alike hH.2.1, va_AO.moved hW.alike hH.2.2⟩⟩ rfl rfl hl.1 rfl (lv_room (Nat.le_of_ble_eq_true rfl)) dl_4 ⟨Nat.le_of_ble_eq_true rfl, Nat.le_of_ble_eq_true rfl⟩) hS (fun q _ h => hFc q h) hFc (fun u8 t H1 locs ht hvm hw hB hz1 hk1 hS => ?_)
  obtain ⟨⟨cI, cS, cR⟩, g8⟩ := u8
  obtain ⟨hP1, hK1, hD1⟩ := hB
  rw [ht] at hP1
  have hK1 := va_K.moved hvm.symm hK1
  obtain ⟨hP, hD⟩ := xj_join (wr := []) hP hD hk1 hFc hP1 hD1
  have hK : va_K D vwCl [(cI, .int), (cS, .object "CoatGoals$Strip"), (cR, .object "CoatGoals$Republic")] s := hK1
  generalize H1 = H at hP hS ⊢
  have hP : va_P D vwCl (wX8 cI cS cR q8 g8) H := hP
  have hD : va_D (fun q : Nat => s.heap.size ≤ q) (wX8 cI cS cR q8 g8) := hD
  generalize hw8 : wX8 cI cS cR q8 g8 = w8 at hP hD
  refine W.widen (k := 85) (n := 1512) (by omega) (by omega) ?_
  refine lv_astore_n (lv' := [(1, .ref q8), (0, .ref b)]) hx hb dl_7 rfl hl (by decide) rfl (fun ls hl => ?_)
  refine va_new (ci := 8) (fs := [.null, .null, .null, .null, .null, .null, .null, .null, .null, .int 0, .null, .null, .null, .int 0, .null, .int 0, .long 0, .long 0, .int 0, .int 0, .null]) (C := RX9) (T := TX9) (N := 21) hx hb hts' xin_X9 tyX9 tyX9_ok hown (hts' _ (xw_in 822 (by decide +kernel) rfl)) (hts' _ (xw_in 823 (by decide +kernel) rfl)) (hts' _ (xw_in 60 (by decide +kernel) rfl)) hK hP hD hS hA rfl df_X9 (Nat.le_of_ble_eq_true rfl) (Nat.le_of_ble_eq_true rfl) dl_8 (fun q9 H hP hD hS => ?_)
  refine W.widen (k := 86) (n := 1533) (by omega) (by omega) ?_
  refine lv_dup hx hb dl_11 rfl ?_
  have hPc := xj_one hP
  have hDc := xj_oneD hD
  have hKc := hK.sub (tys' := []) [] rfl
  have hFc := xj_fr hD hS hA
  refine va_callv (va_runI (As := []) (rest := [.ref q9]) ⟨hx, hb, hml, hown, hts'⟩ (ci_X9 l D q9 H.size) (cwI 0 hts' (xi_good xw_good (xw_in 826 (by decide +kernel) rfl)) rfl rfl rfl (hts' _ (xw_in 60 (by decide +kernel) rfl)) (hts' _ (xw_in 824 (by decide +kernel) rfl)) (hts' _ (xw_in 825 (by decide +kernel) rfl)) rfl (by decide +kernel) ⟨Nat.le_of_ble_eq_true rfl, Nat.le_of_ble_eq_true rfl⟩) ⟨fun a U g mk q => by obtain ⟨q0, q1, qP, qK, qD⟩ := q; exact ⟨q0, q1, qP, va_K.moved (u := U) (U := U.calling g mk a) (Vm.Alike.refl U.vm) qK, qD⟩, fun U hU hW => ⟨rfl, by rw [hU], by rw [hU]; exact hPc, va_K.moved hW.alike hKc, hDc.weaken (fun _ _ _ _ => trivial)⟩⟩ rfl rfl hl.1 rfl (lv_room (Nat.le_of_ble_eq_true rfl)) dl_12 ⟨Nat.le_of_ble_eq_true rfl, Nat.le_of_ble_eq_true rfl⟩) hS (fun q _ h => hFc q h) hFc (fun u9 t H1 locs ht hvm hw hB hz1 hk1 hS => ?_)
  obtain ⟨cJ, g9⟩ := u9
  obtain ⟨hP1, hK1, hD1⟩ := hB
  rw [ht] at hP1
  have hK1 := va_K.moved hvm.symm hK1
  obtain ⟨hP, hD⟩ := xj_join hP hD hk1 hFc hP1 hD1
  have hKJ := hK.app hK1
  obtain rfl : cI = cJ := xk_int hKJ (i := 0) (j := 3) rfl rfl
  generalize H1 = H at hP hS ⊢
  subst hw8
  have hP : va_P D vwCl (wX8 cI cS cR q8 g8 ++ wX9 cI q9 g9) H := hP
  have hD : va_D (fun q : Nat => s.heap.size ≤ q) (wX8 cI cS cR q8 g8 ++ wX9 cI q9 g9) := hD
  have hPw := xP0 (h0 := q8) (h1 := q9) (q := g8) (r := g9) hP
  have hDw := xD0 (h0 := q8) (h1 := q9) (q := g8) (r := g9) hD
  have hCw := xEok0 (h0 := q8) (h1 := q9) (q := g8) (r := g9) hD
  clear hP hD hP1 hD1 hPc hDc hFc hk1 hKJ hK1
  refine W.widen (k := 100) (n := 14277) (by omega) (by omega) ?_
  refine lv_astore_n (lv' := [(2, .ref q9), (1, .ref q8), (0, .ref b)]) hx hb dl_15 rfl hl (by decide) rfl (fun ls hl => ?_)
  refine lv_iconst (v := 0) hx hb dl_16 (by decide) ?_
  refine lv_istore_n (lv' := [(3, .int 0), (2, .ref q9), (1, .ref q8), (0, .ref b)]) hx hb dl_17 rfl hl (by decide) rfl (fun ls hl => ?_)
  have hXX : xLw p s m meth c b L xs D (xE0 cI cS cR q8 q9 g8 g9) [(cI, .int), (cS, .object "CoatGoals$Strip"), (cR, .object "CoatGoals$Republic")] := ⟨C0, hL, hCw, rfl, ⟨hK, xnst hts⟩, fun a ha => hDw.2 a ha⟩
  exact lw_loop hXX 64 0 H locs ls xm0 (by omega) (by omega) hl hPw hS rel0
set_option maxHeartbeats 4000000 in
theorem lw_walk (l : Launch) (b : Addr) (xs : List Int32) : MetFree l x (headSpec (Jvm.Cond.code x code maxLocals ret :: tables_1) room_1) (lw_P b xs) (fun _ _ _ _ _ => True) lw_Q := by
  refine MetFree.of_bodyS (code := code) (maxLocals := maxLocals) (ret := ret) (by decide) ?_ ?_
  · intro args s m h hn
    obtain ⟨meth, c, h1, h2, h3, h4, h5, h6, -, -⟩ := Cond.code_spec hn (atoms_spec (ws := Jvm.Cond.code x code maxLocals ret :: tables_1) h _ List.mem_cons_self)
    exact ⟨meth, c, h1, h2, h3, h4, h5, h6⟩
  · intro p e s m args below meth c s₁ B hml0 hP _
    obtain ⟨rfl, hx, hbd, hgv⟩ := hP
    obtain ⟨scr, harrAt, hlist, hof, hsmall⟩ := hx
    obtain ⟨hcb, hkn, -, -⟩ := State.arrayAt?_spec harrAt
    have hown : s.vm.findClass R_law = some m.cls := findClass_of_methodNamed B.named
    have hts0 : ∀ c ∈ (Jvm.Cond.code x code maxLocals ret :: tables_1), c.before #[Value.ref b] s = true := atoms_spec (ws := Jvm.Cond.code x code maxLocals ret :: tables_1) B.pre
    have hts : ∀ w ∈ lw_tbl, w.before #[Value.ref b] s = true := k2_hts_sels lw_privs (fun w hw => hts0 w (List.mem_cons_of_mem _ hw)) lw_privs_ok
    have hml : c.maxLocals = 4 := B.maxLocals_eq (hts0 _ List.mem_cons_self)
    have X₀ : Stand p l e room_1 s m #[Value.ref b] below meth c s₁ [] 0 0 := Stand.of_body B
    have hh0 : s₁.heap = s.heap := by rw [B.state]; rfl
    have hsz : scr.slots.size = xs.length := by rw [← Array.length_toList, hlist, List.length_map]
    have hval : ∀ j : Nat, j < xs.length → scr.slots[j]? = some (.int (xs.getD j 0)) := fun j hj => by
      rw [← Array.getElem?_toList, hlist]
      simp [hj]
    have hbl : b < s.heap.size := (Array.getElem?_eq_some_iff.mp hcb).1
    have hX : va_X b xs.length (fun j => xs.getD j 0) s s.heap := ⟨scr, hcb, hof, hkn, hsz, hval⟩
    have K : W p l e room_1 s m #[Value.ref b] below meth c s₁.heap [] 0 0 (lw_Z below #[Value.ref b] s) (entryFrame m ([Value.ref b] : List Value).toArray 4) := by
      rw [hh0]
      exact whole_start l hbd ⟨B.exec, B.bytes, B.returns, hml, hown, hts, hX, hbl, B.notSynchronized, hgv⟩
    obtain ⟨t, a1, o, b1, b2, b3⟩ := K s₁ rfl X₀
    exact ⟨t, o, a1, b1, b2, b3⟩
theorem lw_pre_spec {args : Array Value} {s : State} (h : (Jvm.Cond.and given_1 narrow_1).before args s = true) (hr : rest_1_c.before args s = true) : ∃ (b : Addr) (xs : List Int32), lw_P b xs args s := by
  have hs := flat_of_before _ h
  have hq := flat_of_before _ hr
  have hc : (Cond.count 1).before args s = true := hs _ (by decide +kernel)
  have harr : (Cond.arrayOf (.arg 0) .int).before args s = true := hs _ (by decide +kernel)
  have hle : (Cond.le (.length (.arg 0)) (.int 384)).before args s = true := hs _ (by decide +kernel)
  have hlen : (Cond.isInt (.length (.arg 0))).before args s = true := hq _ (by decide +kernel)
  have hall : (Cond.all (.arg 0) (.isInt (.elem (.arg 0) (.index 0)))).before args s = true := hq _ (by decide +kernel)
  obtain ⟨b, xs, hb, hx⟩ := State.ints_of_pre rfl harr hlen hall
  have hsm : xs.length < 2 ^ 31 := hx.choose_spec.2.2.2
  have hev : (Term.length (.arg 0)).eval args s none [] s = some (.int xs.length.toInt32) := hx.length_eval hb
  have hv := Cond.le_ints hev (show (Term.int 384).eval args s none [] s = some (.int 384) from rfl)
  have hd : xs.length.toInt32 ≤ 384 := by
    simpa [Cond.before, Cond.holds, hv] using hle
  have hN : xs.length ≤ 384 := (Int32.ofNat_le_ofNat hsm (by decide)).mp (show Int32.ofNat xs.length ≤ Int32.ofNat 384 from hd)
  exact ⟨b, xs, Cond.one_arg hc (show args[0]? = some (.ref b) from hb), hx, hN, h⟩
theorem lw_comes (l : Launch) : Comes l x (Jvm.Cond.code x code maxLocals ret :: tables_1) room_1 (fun tb e args s => Calls_1 tb e args s ∧ rest_1 tb e args s ∧ Pre_1 tb e args s)
    (fun _ _ args s o t => lw_Q args s o t) := by
  intro p e ha hc hk s m args below hf hfit hheap happ hpre
  obtain ⟨b, xs, hP⟩ := lw_pre_spec hpre.2.2 hpre.2.1
  obtain ⟨k, o, h1, h2, h3, hQ⟩ := lw_walk l b xs p e ha hc hk s m args below hf ((Spec.applies_iff_loose hf).mp happ).1 hP trivial
  exact ⟨k, o, h1, h2, h3, hQ⟩
theorem lw_frame {s t : State} {o : Outcome} {args : Array Value} (h : Framed s o t [] 600000 7302250) :
    Framed s o t (fieldLocs frame_1_writes args s ++ arrayLocs frame_1_arrays args s ++ staticLocs frame_1_statics s) 600000 7302250 := h
theorem lw_limb (L : Cond) (hL : ∀ (args : Array Value) (s t : State), L.after args s (.returned (some (.int 1))) t = true) :
    ArmFor flags0 classFile x code maxLocals ret World_1 tables_1 room_1 Calls_1 rest_1 Pre_1
      (fun tb e a s o t => postC L tb e a s o t ∧ Framed s o t (fieldLocs frame_1_writes a s ++ arrayLocs frame_1_arrays a s ++ staticLocs frame_1_statics s) 600000 7302250) := by
  intro l _ _ _ p e ha hc hk s m args below hf hfit hheap happ hpre
  obtain ⟨k, o, h1, h2, h3, rfl, hF⟩ := lw_comes l p e ha hc hk s m args below hf hfit hheap happ hpre
  exact ⟨k, _, h1, h2, h3, hL args s _, lw_frame hF⟩
theorem i_vc : Claimed_1_1 ∧ Claimed_1_2 := ⟨lw_limb limb_1_1 (fun args s t => by simp [limb_1_1, Cond.after, Cond.holds, Cond.value]), lw_limb limb_1_2 (fun args s t => Cond.after_iff.mpr (by
  first | (rw [show limb_1_2 = Cond.eq .result (.int 1) from rfl, Cond.eq_ints (x := 1) (y := 1) rfl rfl]; simp; done) | (simp [limb_1_2, Cond.value, Term.eval]; done)))⟩

