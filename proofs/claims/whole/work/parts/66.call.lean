/-! calls and reads at the machine, over a world of cells, where cells have come since the start -/
section XL
variable {p : Program} {l : Launch} {e : Env} {R : Room} {s : State} {m : MethodId} {args : Array Value} {below : List Frame} {meth : Method} {c : Code} {H : Heap} {locs : List Loc} {k n : Nat} {Q : State → Prop}
variable {E : xi_E} {S : xi_S} {D : va_G} {tys : List (ClassId × FieldType)} {own : String} {cc : ByteArray} {nL : Nat} {pc : Nat} {ls : Array Slot} {rest st0 : List Value} {A A1 : Nat → Prop} {m1 m2 : xi_M} {r : Option Value} {As : List Value}
theorem xl_back {mc ms : Nat} {free : Addr → Prop} {Qa : State → Outcome → State → Prop} (hr : va_Run p l e R s m args below meth c H locs k n mc ms (F0 m pc ls st0) rest Qa free) (hq : ∀ st o t, Qa st o t → o = .returned (r.map (xi_cv E)) ∧ va_P D vwCl (xi_wld E S m2) t.heap ∧ va_F A1 st t) (hS : va_S A s.heap H locs) (h1 : ∀ q, q < H.size → A1 q → A q) (hf : ∀ q, free q → A q)
    (kk : ∀ (H1 : Heap) (locs1 : List Loc), H.size ≤ H1.size → va_P D vwCl (xi_wld E S m2) H1 → va_S A s.heap H1 locs1 → W p l e R s m args below meth c H1 locs1 (k + mc) (n + ms) Q (F0 m (pc + 3) ls ((r.map (xi_cv E)).toList ++ rest))) : W p l e R s m args below meth c H locs k n Q (F0 m pc ls st0) := by
  intro T hT X
  obtain ⟨v, st₀, t, T', L, h0, X', hL, e1, e2, hQ, st⟩ := hr T hT X
  obtain ⟨hv, hP2, hz, hk⟩ := hq _ _ _ hQ
  cases hv
  rw [h0] at hz hk
  obtain ⟨t2, a1, b1⟩ := kk T'.heap (locs ++ L) (by rw [e1]; exact hz) (by rw [e1]; exact hP2)
    ⟨Nat.le_trans hS.1 (by rw [e1]; exact hz), fun q g1 g2 => by rw [e1, hk q (Nat.lt_of_lt_of_le g1 hS.1) (fun g => g2 (h1 q (Nat.lt_of_lt_of_le g1 hS.1) g))]; exact hS.2.1 q g1 g2, fun q hq => by
      rcases List.mem_append.mp hq with h | h
      · exact hS.2.2 q h
      · exact hf _ (hL q h)⟩ T' rfl X'
  exact ⟨t2, st t2 a1, b1⟩
theorem xl_A (hA : ∀ a, a < E.2.1 → A (E.1 a)) : ∀ q, xi_A E q → A q := fun q h => by
  obtain ⟨a, h1, h2⟩ := h
  rw [← h2]
  exact hA a h1
theorem xl_callS {x d2 n2 : Nat} {y2 : MethodName} {c2 : ByteArray} {ret : Option FieldType} (hF : CallFix p m c cc nL s args xTs own) (hK : xi_Kn D vwCl tys xNs s) (hS2 : xi_Sound l E S D vwCl tys xNs xTs y2 c2 n2 ret d2 As m1 r m2) (hco : Cond.code y2 c2 n2 ret ∈ xTs) (hli : Cond.methodLink own x y2 ∈ xTs) (hst : Cond.static y2 ∈ xTs) (hin : Cond.initialized y2.cls ∈ xTs)
    (hd : y2.cls ≠ "java/lang/invoke/MethodHandle" ∧ y2.cls ≠ "java/lang/invoke/VarHandle" ∧ (parseMethodDescriptor y2.desc).map (fun q => q.parameters.length) = some As.length) (hR : d2 + 1 ≤ R.frames ∧ 8 + (n2 + 11) + 100 * d2 ≤ R.locals) (hls : ls.size = nL) (hcs : xi_cs rest ≤ 8) (hdg : decode cc pc = .ok (.invokestatic x, 3)) (hP : va_P D vwCl (xi_wld E S m1) H) (hS : va_S A s.heap H locs) (hA : ∀ a, a < E.2.1 → A (E.1 a)) (hcells : k ≤ R.cells ∧ n ≤ R.slots)
    (kk : ∀ (H1 : Heap) (locs1 : List Loc), va_P D vwCl (xi_wld E S m2) H1 → va_S A s.heap H1 locs1 → W p l e R s m args below meth c H1 locs1 k n Q (F0 m (pc + 3) ls ((r.map (xi_cv E)).toList ++ rest))) : W p l e R s m args below meth c H locs k n Q (F0 m pc ls ((As.map (xi_cv E)).reverse ++ rest)) := by
  have ht := hF.2.2.2.2
  exact xl_back (A1 := xi_A E) (m2 := m2) (va_runS (As := As.map (xi_cv E)) (n := As.length) hF hS2
    ⟨callB_of As.length ht (xi_good xw_good hco) rfl rfl rfl (ht _ hin) (ht _ hli) hd ⟨hR.1, hR.2⟩, ht _ hst⟩
    ⟨xi_blind, fun U hU hW => ⟨rfl, by rw [hU]; exact hP, xi_Kn.moved hW hK⟩⟩ rfl (List.length_map _) hls rfl (by show 2 * 0 + _ ≤ 8; rw [Nat.mul_zero, Nat.zero_add]; exact hcs) hdg ⟨hcells.1, hcells.2⟩) (fun st o t h => h) hS (fun q _ h => xl_A hA q h) (fun q h => xl_A hA q h) (fun H1 locs1 _ hP1 hS1 => kk H1 locs1 hP1 hS1)
theorem xl_callV {x d2 n2 b ci nf : Nat} {T : u_T} {y2 : MethodName} {c2 : ByteArray} {ret : Option FieldType} (hF : CallFix p m c cc nL s args xTs own) (hK : xi_Kn D vwCl tys xNs s) (hE : xi_Eok E S vwCl tys) (hb : S.1 b = ci + 3) (hc : vwCl[ci]? = some (y2.cls, T, nf)) (hS2 : xi_Sound l E S D vwCl tys xNs xTs y2 c2 n2 ret d2 (.ref b :: As) m1 r m2) (hco : Cond.code y2 c2 n2 ret ∈ xTs) (hli : Cond.methodLink own x y2 ∈ xTs) (hst : Cond.instanceMethod y2 ∈ xTs) (hse : Cond.selects y2.cls y2 y2 ∈ xTs) (hin : Cond.initialized y2.cls ∈ xTs)
    (hd : y2.cls ≠ "java/lang/invoke/MethodHandle" ∧ y2.cls ≠ "java/lang/invoke/VarHandle" ∧ (parseMethodDescriptor y2.desc).map (fun q => q.parameters.length) = some As.length) (hR : d2 + 1 ≤ R.frames ∧ 8 + (n2 + 11) + 100 * d2 ≤ R.locals) (hls : ls.size = nL) (hcs : xi_cs rest ≤ 8) (hdg : decode cc pc = .ok (.invokevirtual x, 3)) (hP : va_P D vwCl (xi_wld E S m1) H) (hS : va_S A s.heap H locs) (hA : ∀ a, a < E.2.1 → A (E.1 a)) (hcells : k ≤ R.cells ∧ n ≤ R.slots)
    (kk : ∀ (H1 : Heap) (locs1 : List Loc), va_P D vwCl (xi_wld E S m2) H1 → va_S A s.heap H1 locs1 → W p l e R s m args below meth c H1 locs1 k n Q (F0 m (pc + 3) ls ((r.map (xi_cv E)).toList ++ rest))) : W p l e R s m args below meth c H locs k n Q (F0 m pc ls ((As.map (xi_cv E)).reverse ++ .ref (E.1 b) :: rest)) := by
  have ht := hF.2.2.2.2
  have hci : ci < vwCl.length := (List.getElem?_eq_some_iff.mp hc).1
  have hg := xi_wld_get (E := E) (S := S) (m := m1) (hE.2.1 b (by omega))
  rw [xi_cel_obj hb] at hg
  exact xl_back (A1 := xi_A E) (m2 := m2) (va_runV (C := y2.cls) (b := E.1 b) (As := As.map (xi_cv E)) (n := As.length) hF hS2
    ⟨callB_of As.length ht (xi_good xw_good hco) rfl rfl rfl (ht _ hin) (ht _ hli) hd ⟨hR.1, hR.2⟩, ht _ hst, ht _ hse⟩
    ⟨xi_blind, va_recv hK.1 hP hc hg, fun U hU hW => ⟨rfl, by rw [hU]; exact hP, xi_Kn.moved hW hK⟩⟩ rfl (List.length_map _) hls rfl (by show 2 * 0 + _ ≤ 8; rw [Nat.mul_zero, Nat.zero_add]; exact hcs) hdg ⟨hcells.1, hcells.2⟩) (fun st o t h => h) hS (fun q _ h => xl_A hA q h) (fun q h => xl_A hA q h) (fun H1 locs1 _ hP1 hS1 => kk H1 locs1 hP1 hS1)
/-- a call that makes cells, and leaves them -/
theorem xl_callN {x d2 n2 b ci nf mc ms : Nat} {T : u_T} {y2 : MethodName} {c2 : ByteArray} {ret : Option FieldType} (hF : CallFix p m c cc nL s args xTs own) (hK : xi_Kn D vwCl tys xNs s) (hE : xi_Eok E S vwCl tys) (hb : S.1 b = ci + 3) (hc : vwCl[ci]? = some (y2.cls, T, nf)) (hS2 : Met l y2 (.code y2 c2 n2 ret :: xTs) { frames := d2, cells := mc, slots := ms, locals := 100 * d2 } (va_Pc ((Value.ref b :: As).map (xi_cv E)) (fun U => U.heap.size = H.size ∧ va_P D vwCl (xi_wld E S m1) U.heap ∧ xi_Kn D vwCl tys xNs U)) (fun _ st o t => o = .returned (r.map (xi_cv E)) ∧ va_P D vwCl (xi_wld E S m2) t.heap ∧ va_F (fun q => xi_A E q ∨ H.size ≤ q) st t) mc ms (fun q => xi_A E q ∨ H.size ≤ q)) (hco : Cond.code y2 c2 n2 ret ∈ xTs) (hli : Cond.methodLink own x y2 ∈ xTs) (hst : Cond.instanceMethod y2 ∈ xTs) (hse : Cond.selects y2.cls y2 y2 ∈ xTs) (hin : Cond.initialized y2.cls ∈ xTs)
    (hd : y2.cls ≠ "java/lang/invoke/MethodHandle" ∧ y2.cls ≠ "java/lang/invoke/VarHandle" ∧ (parseMethodDescriptor y2.desc).map (fun q => q.parameters.length) = some As.length) (hR : d2 + 1 ≤ R.frames ∧ 8 + (n2 + 11) + 100 * d2 ≤ R.locals) (hls : ls.size = nL) (hcs : xi_cs rest ≤ 8) (hdg : decode cc pc = .ok (.invokevirtual x, 3)) (hP : va_P D vwCl (xi_wld E S m1) H) (hS : va_S A s.heap H locs) (hA : ∀ a, a < E.2.1 → A (E.1 a)) (hA2 : ∀ q, s.heap.size ≤ q → A q) (hcells : k + mc ≤ R.cells ∧ n + ms ≤ R.slots)
    (kk : ∀ (H1 : Heap) (locs1 : List Loc), va_P D vwCl (xi_wld E S m2) H1 → va_S A s.heap H1 locs1 → W p l e R s m args below meth c H1 locs1 (k + mc) (n + ms) Q (F0 m (pc + 3) ls ((r.map (xi_cv E)).toList ++ rest))) : W p l e R s m args below meth c H locs k n Q (F0 m pc ls ((As.map (xi_cv E)).reverse ++ .ref (E.1 b) :: rest)) := by
  have ht := hF.2.2.2.2
  have hci : ci < vwCl.length := (List.getElem?_eq_some_iff.mp hc).1
  have hg := xi_wld_get (E := E) (S := S) (m := m1) (hE.2.1 b (by omega))
  rw [xi_cel_obj hb] at hg
  have hfr : ∀ q, (xi_A E q ∨ H.size ≤ q) → A q := fun q h => by
    rcases h with h | h
    · exact xl_A hA q h
    · exact hA2 q (Nat.le_trans hS.1 h)
  exact xl_back (A1 := fun q => xi_A E q ∨ H.size ≤ q) (m2 := m2) (va_runV (C := y2.cls) (b := E.1 b) (As := As.map (xi_cv E)) (n := As.length) hF hS2
    ⟨callB_of As.length ht (xi_good xw_good hco) rfl rfl rfl (ht _ hin) (ht _ hli) hd ⟨hR.1, hR.2⟩, ht _ hst, ht _ hse⟩
    ⟨fun a U g mk q => by obtain ⟨q0, q1, qP, qK⟩ := q; exact ⟨q0, q1, qP, va_K.moved (u := U) (U := U.calling g mk a) (Vm.Alike.refl U.vm) qK.1, fun z hz => va_Nw.same (u := U) (U := U.calling g mk a) rfl rfl (qK.2 z hz)⟩, va_recv hK.1 hP hc hg, fun U hU hW => ⟨rfl, by rw [hU], by rw [hU]; exact hP, xi_Kn.moved hW hK⟩⟩ rfl (List.length_map _) hls rfl (by show 2 * 0 + _ ≤ 8; rw [Nat.mul_zero, Nat.zero_add]; exact hcs) hdg ⟨hcells.1, hcells.2⟩) (fun st o t h => h) hS (fun q _ h => hfr q h) hfr (fun H1 locs1 _ hP1 hS1 => kk H1 locs1 hP1 hS1)
theorem xl_get {x ci j t a : Nat} {v : Value} (hx : p.tables.exec = Jvm.exec) (hb : c.code = cc) (hts : ∀ w ∈ xTs, w.before args s = true) (hown : s.vm.findClass own = some m.cls) (hft : E.2.2.1 = xft) (hfk : xi_Fok own xTs vwCl xft x ci j t) (hK : xi_Kn D vwCl tys xNs s) (hE : xi_Eok E S vwCl tys) (hP : va_P D vwCl (xi_wld E S m1) H) (ha : S.1 a = ci + 3) (hv : xi_fv E S m1 a j t = v) (hdg : decode cc pc = .ok (.getfield x, 3))
    (kk : W p l e R s m args below meth c H locs k n Q (F0 m (pc + 3) ls (v :: rest))) : W p l e R s m args below meth c H locs k n Q (F0 m pc ls (.ref (E.1 a) :: rest)) := by
  obtain ⟨C, T, nf, ty0, hc, hkn, hin, hlk, ht, hty, hnm, h0, h1, h2, hfin⟩ := hfk
  have hci : ci < vwCl.length := (List.getElem?_eq_some_iff.mp hc).1
  have ha2 : a < E.2.1 := hE.2.1 a (by rw [ha]; omega)
  have hg := xi_wld_get (E := E) (S := S) (m := m1) ha2
  rw [xi_cel_obj ha] at hg
  refine va_get (a := E.1 a) (fs := xi_fs E S m1 a ci) hx hb hts hin hown hK.1 hP a hg hc j hkn (hts _ hlk) (fun _ h9 => h9) (v := v) ?_ hdg kk
  rw [← hv]
  exact xi_fs_get (by rw [hft]; exact ht)
theorem xl_ald {a b : Nat} {i : Int32} (hx : p.tables.exec = Jvm.exec) (hb : c.code = cc) (hK : xi_Kn D vwCl tys xNs s) (hE : xi_Eok E S vwCl tys) (hP : va_P D vwCl (xi_wld E S m1) H) (ha : S.1 a = 1 ∨ S.1 a = 2) (hin : ¬ (i < 0 ∨ S.2.1 a ≤ i.toNatClampNeg)) (hb2 : S.2.2 a i.toNatClampNeg = some b) (hdg : decode cc pc = .ok (.aaload, 1))
    (kk : W p l e R s m args below meth c H locs k n Q (F0 m (pc + 1) ls (.ref (E.1 b) :: rest))) : W p l e R s m args below meth c H locs k n Q (F0 m pc ls (.int i :: .ref (E.1 a) :: rest)) := by
  obtain ⟨hinj, hshape, hty0, ⟨C1, hty1⟩, ⟨C2, hty2⟩⟩ := hE
  have hl9 : vwCl.length = 9 := rfl
  have ha2 : a < E.2.1 := hshape a (by omega)
  have hg := xi_wld_get (E := E) (S := S) (m := m1) ha2
  rcases ha with hk | hk
  · have e1 : xi_cel E S m1 a = .inl (E.2.2.2 1, S.2.1 a, .inr (.inr (.inr (.inr fun i => (S.2.2 a i).map E.1)))) := by
      unfold xi_cel
      rw [if_neg (by omega), if_pos hk]
    rw [e1] at hg
    refine va_aldq (a := E.1 a) hx hb hK.1 hP a 1 hg hty1 hin hdg ?_
    rw [hb2]
    exact kk
  · have e1 : xi_cel E S m1 a = .inl (E.2.2.2 2, S.2.1 a, .inr (.inr (.inr (.inr fun i => (S.2.2 a i).map E.1)))) := by
      unfold xi_cel
      rw [if_neg (by omega), if_neg (by omega), if_pos hk]
    rw [e1] at hg
    refine va_aldq (a := E.1 a) hx hb hK.1 hP a 2 hg hty2 hin hdg ?_
    rw [hb2]
    exact kk
end XL
