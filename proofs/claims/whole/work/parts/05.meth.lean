/-! Methods: what the interpreter says of a method is its contract at the machine. -/
def xi_le (L1 L : xi_L) : Prop := L1.length = L.length ∧ ∀ (i : Nat) (v : Value), xi_get L1 i = some v → xi_get L i = some v
/-- from state t the method answers res -/
def xi_X (S : xi_S) (P : xi_P) (t : xi_T) (res : xi_R) : Prop :=
  ∀ G : xi_T → Prop, (∀ K t, xi_run S P K t = some res → (∀ t', K t' = some res → G t') → G t) → (∀ pc L L1 st m, xi_le L1 L → G (pc, L1, st, m) → G (pc, L, st, m)) → G t
noncomputable def xi_K (S : xi_S) (P : xi_P) (res : xi_R) (t : xi_T) : Option xi_R := @ite _ (xi_X S P t res) (Classical.propDecidable _) (some res) none
theorem xi_K_of {S : xi_S} {P : xi_P} {res : xi_R} {t : xi_T} (h : xi_X S P t res) : xi_K S P res t = some res := if_pos h
theorem xi_K_to {S : xi_S} {P : xi_P} {res : xi_R} {t : xi_T} (h : xi_K S P res t = some res) : xi_X S P t res := by
  unfold xi_K at h
  by_cases hc : xi_X S P t res
  · exact hc
  · rw [if_neg hc] at h
    cases h
theorem xi_X_go {S : xi_S} {P : xi_P} {res : xi_R} (sp : Nat → Bool) : ∀ (n : Nat) {t : xi_T}, xi_go S P sp (xi_K S P res) n t = some res → xi_X S P t res := by
  intro n
  induction n with
  | zero => intro t h; exact xi_K_to h
  | succ n ih =>
    intro t h G hG hle
    refine hG _ _ h (fun t' ht' => ?_)
    cases hs : sp t'.1 with
    | true =>
      rw [hs] at ht'
      exact xi_K_to ht' G hG hle
    | false =>
      rw [hs] at ht'
      exact ih ht' G hG hle
theorem xi_X_le {S : xi_S} {P : xi_P} {res : xi_R} {pc : Nat} {L L1 : xi_L} {st : List Value} {m : xi_M} (hl : xi_le L1 L) (h : xi_X S P (pc, L1, st, m) res) : xi_X S P (pc, L, st, m) res :=
  fun G hG hle => hle _ _ _ _ _ hl (h G hG hle)
/-- the locals at the entry -/
def xi_el : List Value → xi_L
  | [] => []
  | v :: vs => bif Nat.beq v.category 2 then some v :: none :: xi_el vs else some v :: xi_el vs
def xi_ent (As : List Value) (nL : Nat) : xi_L := xi_el As ++ List.replicate (nL - (xi_el As).length) none
theorem xi_el_len (E : xi_E) : ∀ As : List Value, (xi_el As).length = (lg_sl (As.map (xi_cv E))).length := by
  intro As
  induction As with
  | nil => rfl
  | cons v vs ih =>
    rw [List.map_cons]
    unfold lg_sl at ih ⊢
    rw [List.flatMap_cons, List.length_append, ← ih, xi_cv_cat, show xi_el (v :: vs) = (bif Nat.beq v.category 2 then some v :: none :: xi_el vs else some v :: xi_el vs) from rfl]
    by_cases hc : v.category = 2
    · rw [if_pos hc, hc]
      simp only [Nat.beq_refl, cond_true, List.length_cons, List.length_nil]
      omega
    · rw [if_neg hc]
      have e : Nat.beq v.category 2 = false := by
        cases hb : Nat.beq v.category 2
        · rfl
        · exact absurd (Nat.eq_of_beq_eq_true hb) hc
      rw [e]
      simp only [cond_false, List.length_cons, List.length_nil]
      omega
theorem xi_rep : ∀ (k i : Nat), xi_get (List.replicate k none) i = none := by
  intro k
  induction k with
  | zero => intro i; rfl
  | succ k ih =>
    intro i
    rw [List.replicate_succ]
    cases i with
    | zero => rfl
    | succ j => exact ih j
theorem xi_el_mem (E : xi_E) : ∀ (As : List Value) (k off i : Nat) (v : Value), xi_get (xi_el As ++ List.replicate k none) i = some v → (off + i, xi_cv E v) ∈ lv_args off (As.map (xi_cv E)) := by
  intro As
  induction As with
  | nil =>
    intro k off i v h
    rw [show xi_el [] ++ List.replicate k none = List.replicate k none from rfl, xi_rep] at h
    cases h
  | cons w vs ih =>
    intro k off i v h
    rw [List.map_cons]
    unfold lv_args
    rw [xi_cv_cat]
    unfold xi_el at h
    by_cases hc : w.category = 2
    · rw [if_pos hc]
      rw [hc] at h
      simp only [Nat.beq_refl, cond_true] at h
      cases i with
      | zero =>
        cases (show some w = some v from h)
        exact List.mem_cons_self
      | succ j =>
        cases j with
        | zero => cases (show (none : Option Value) = some v from h)
        | succ j =>
          refine List.mem_cons_of_mem _ ?_
          have h2 := ih k (off + 2) j v h
          rw [show off + (j + 1 + 1) = off + 2 + j by omega]
          exact h2
    · rw [if_neg hc]
      have e : Nat.beq w.category 2 = false := by
        cases hb : Nat.beq w.category 2
        · rfl
        · exact absurd (Nat.eq_of_beq_eq_true hb) hc
      rw [e] at h
      simp only [cond_false] at h
      cases i with
      | zero =>
        cases (show some w = some v from h)
        exact List.mem_cons_self
      | succ j =>
        refine List.mem_cons_of_mem _ ?_
        have h2 := ih k (off + 1) j v h
        rw [show off + (j + 1) = off + 1 + j by omega]
        exact h2
theorem xi_ent_lv {E : xi_E} {ls : Array Slot} {nL : Nat} {As : List Value} (hn : (xi_el As).length ≤ nL) (h : lv_has ls nL (lv_args 0 (As.map (xi_cv E)))) : xi_lv E ls nL (xi_ent As nL) := by
  refine ⟨?_, h.1, h.2.1, fun i v hv => ?_⟩
  · unfold xi_ent
    rw [List.length_append, List.length_replicate]
    omega
  · have h2 := xi_el_mem E As _ 0 i v hv
    rw [Nat.zero_add] at h2
    exact h.2.2 _ h2
/-- a method's contract: from the world m1, with these arguments, to the answer r and the world m2 -/
def xi_Sound (l : Launch) (E : xi_E) (S : xi_S) (D : va_G) (cl : List vw_C) (tys : List (ClassId × FieldType)) (Ns : List (String × Nat × MethodName × String)) (Ts : List Cond) (y : MethodName) (cc : ByteArray) (nL : Nat) (ret : Option FieldType) (d : Nat) (As : List Value) (m1 : xi_M) (r : Option Value) (m2 : xi_M) : Prop :=
  Met l y (.code y cc nL ret :: Ts) { frames := d, cells := 0, slots := 0, locals := 100 * d } (va_Pc (As.map (xi_cv E)) (fun U => va_P D cl (xi_wld E S m1) U.heap ∧ xi_Kn D cl tys Ns U)) (xi_Q E S D cl (r, m2)) 0 0 (xi_A E)
section XM
variable {l : Launch} {E : xi_E} {S : xi_S} {D : va_G} {cl : List vw_C} {tys : List (ClassId × FieldType)} {Ns : List (String × Nat × MethodName × String)} {own : String} {Ts : List Cond} {cc : ByteArray} {nL d : Nat} {P : xi_P} {As : List Value} {m1 m2 : xi_M} {r : Option Value}
theorem xi_meth {y : MethodName} {ret : Option FieldType} (hy : plainName y.cls = true) (hE : xi_Eok E S cl tys) (hPo : xi_Pok l E S D cl tys Ns y.cls Ts cc nL d P) (hn : (xi_el As).length ≤ nL) (hret : ret = xi_rty P.2.2.2.2.2.2.2.2)
    (hX : xi_X S P (0, xi_ent As nL, [], m1) (r, m2)) : xi_Sound l E S D cl tys Ns Ts y cc nL ret d As m1 r m2 := by
  subst hret
  refine Met.ofW (cc := cc) (maxL := nL) hy rfl ?_
  intro p e s m args below meth c s₁ B hml hv
  obtain ⟨rfl, hP0, hK⟩ := hv
  have hts := atoms_spec B.pre
  have hown : s.vm.findClass y.cls = some m.cls := findClass_of_methodNamed B.named
  have hF : CallFix p m c cc nL s ((As.map (xi_cv E)).toArray) Ts y.cls := ⟨B.exec, B.bytes, hml, hown, fun w hw => hts w (List.mem_cons_of_mem _ hw)⟩
  have hG := hX (xi_G p l e (headSpec (.code y cc nL (xi_rty P.2.2.2.2.2.2.2.2) :: Ts) { frames := d, cells := 0, slots := 0, locals := 100 * d }).room s m ((As.map (xi_cv E)).toArray) below meth c E S D cl nL (MQ below (xi_Q E S D cl (r, m2)) ((As.map (xi_cv E)).toArray) s 0 0 (xi_A E)))
    (fun K t h ih => xi_walk hF hK B.notSynchronized B.returns (Nat.le_refl d) (Nat.le_refl (100 * d)) hE hPo h ih)
    (fun pc L L1 st mm hle hg H locs ls hP hS hl => hg H locs ls hP hS ⟨hle.1.trans hl.1, hl.2.1, hl.2.2.1, fun i v hv => hl.2.2.2 i v (hle.2 i v hv)⟩)
  have hl := lv_entry (As.map (xi_cv E)) (n := nL) (by rw [← xi_el_len]; exact hn)
  rw [lg_entry_eq]
  exact hG s.heap [] _ hP0 va_S.rf (xi_ent_lv hn hl)
theorem xi_blind : FrameBlind (va_Pc (As.map (xi_cv E)) (fun U => va_P D cl (xi_wld E S m1) U.heap ∧ xi_Kn D cl tys Ns U)) :=
  fun a U g mk q => by obtain ⟨q0, qP, qK⟩ := q; exact ⟨q0, qP, va_K.moved (u := U) (U := U.calling g mk a) (Vm.Alike.refl U.vm) qK.1, fun z hz => va_Nw.same (u := U) (U := U.calling g mk a) rfl rfl (qK.2 z hz)⟩
theorem xi_back {p : Program} {e : Env} {R : Room} {s : State} {m : MethodId} {args a : Array Value} {below : List Frame} {meth : Method} {c : Code} {H : Heap} {locs : List Loc} {Q : State → Prop} {pc : Nat} {ls : Array Slot} {st0 rest : List Value}
    (hr : va_Run p l e R s m args below meth c H locs 0 0 0 0 (F0 m pc ls st0) rest (xi_Q E S D cl (r, m2) a) (xi_A E)) (hS : va_S (xi_A E) s.heap H locs)
    (kk : ∀ (H1 : Heap) (locs1 : List Loc), va_P D cl (xi_wld E S m2) H1 → va_S (xi_A E) s.heap H1 locs1 → W p l e R s m args below meth c H1 locs1 0 0 Q (F0 m (pc + 3) ls ((r.map (xi_cv E)).toList ++ rest))) : W p l e R s m args below meth c H locs 0 0 Q (F0 m pc ls st0) := by
  intro T hT X
  obtain ⟨v, st₀, t, T', L, h0, X', hL, e1, e2, ⟨hv, hP2, hz, hk⟩, st⟩ := hr T hT X
  cases hv
  rw [h0] at hz hk
  obtain ⟨t2, a1, b1⟩ := kk T'.heap (locs ++ L) (by rw [e1]; exact hP2)
    ⟨Nat.le_trans hS.1 (by rw [e1]; exact hz), fun q h1 h2 => by rw [e1, hk q (Nat.lt_of_lt_of_le h1 hS.1) h2]; exact hS.2.1 q h1 h2, fun q hq => by
      rcases List.mem_append.mp hq with h | h
      · exact hS.2.2 q h
      · exact hL q h⟩ T' rfl X'
  exact ⟨t2, st t2 a1, b1⟩
theorem xi_good {y2 : MethodName} {c2 : ByteArray} {n2 : Nat} {ret : Option FieldType} (hG : ∀ w ∈ Ts, goodWord w = true) (hco : Cond.code y2 c2 n2 ret ∈ Ts) : GoodIn Ts (.code y2 c2 n2 ret :: Ts) := fun w hw => by
  rcases List.mem_cons.mp hw with rfl | h
  · exact ⟨hco, good_of_word (hG _ hco)⟩
  · exact ⟨h, good_of_word (hG _ h)⟩
theorem xi_callS {x d2 n2 : Nat} {y2 : MethodName} {c2 : ByteArray} {ret : Option FieldType} (hS2 : xi_Sound l E S D cl tys Ns Ts y2 c2 n2 ret d2 As m1 r m2) (hG : ∀ w ∈ Ts, goodWord w = true) (hco : Cond.code y2 c2 n2 ret ∈ Ts) (hli : Cond.methodLink own x y2 ∈ Ts) (hst : Cond.static y2 ∈ Ts) (hin : Cond.initialized y2.cls ∈ Ts)
    (hd : y2.cls ≠ "java/lang/invoke/MethodHandle" ∧ y2.cls ≠ "java/lang/invoke/VarHandle" ∧ (parseMethodDescriptor y2.desc).map (fun q => q.parameters.length) = some As.length) (hdd : d2 + 1 ≤ d) (hn2 : n2 ≤ 60) : xi_Cal l E S D cl tys Ns own Ts cc nL d (.invokestatic x) As m1 r m2 := by
  intro p e R s m args below meth c H locs Q pc ls rest hF hK hd1 hd2 hls hcs hdg hP hS kk
  have ht := hF.2.2.2.2
  refine xi_back (a := (As.map (xi_cv E)).toArray) (va_runS (As := As.map (xi_cv E)) (n := As.length) hF hS2
    ⟨callB_of As.length ht (xi_good hG hco) rfl rfl rfl (ht _ hin) (ht _ hli) hd ⟨by show d2 + 1 ≤ R.frames; omega, by show 8 + (n2 + 11) + 100 * d2 ≤ R.locals; omega⟩, ht _ hst⟩
    ⟨xi_blind, fun U hU hW => ⟨rfl, by rw [hU]; exact hP, xi_Kn.moved hW hK⟩⟩ rfl (List.length_map _) hls rfl (by show 2 * 0 + _ ≤ 8; rw [Nat.mul_zero, Nat.zero_add]; exact hcs) hdg ⟨Nat.zero_le _, Nat.zero_le _⟩) hS kk
theorem xi_callSN {x d2 n2 : Nat} {y2 : MethodName} {host : String} {c2 : ByteArray} {ret : Option FieldType} (hS2 : xi_Sound l E S D cl tys Ns Ts y2 c2 n2 ret d2 As m1 r m2) (hG : ∀ w ∈ Ts, goodWord w = true) (hco : Cond.code y2 c2 n2 ret ∈ Ts) (hli : (own, x, y2, host) ∈ Ns) (hst : Cond.static y2 ∈ Ts) (hin : Cond.initialized y2.cls ∈ Ts)
    (hd : y2.cls ≠ "java/lang/invoke/MethodHandle" ∧ y2.cls ≠ "java/lang/invoke/VarHandle" ∧ (parseMethodDescriptor y2.desc).map (fun q => q.parameters.length) = some As.length) (hdd : d2 + 1 ≤ d) (hn2 : n2 ≤ 60) : xi_Cal l E S D cl tys Ns own Ts cc nL d (.invokestatic x) As m1 r m2 := by
  intro p e R s m args below meth c H locs Q pc ls rest hF hK hd1 hd2 hls hcs hdg hP hS kk
  have ht := hF.2.2.2.2
  refine xi_back (a := (As.map (xi_cv E)).toArray) (va_runSN (host := host) (As := As.map (xi_cv E)) (n := As.length) hF hS2
    ⟨⟨⟨rfl, rfl, by show d2 + 1 ≤ R.frames; omega, by show 8 + (n2 + 11) + 100 * d2 ≤ R.locals; omega, pay_in ht (xi_good hG hco), List.mem_cons_self⟩, ht _ hco, ht _ hin, ⟨hd.1, hd.2.1⟩, fun sig h => by have h2 := hd.2.2; rw [h] at h2; exact (Option.some.inj h2).symm, va_Nw.use rfl (hK.2 _ hli)⟩, ht _ hst, trivial⟩
    ⟨xi_blind, fun U hU hW => ⟨rfl, by rw [hU]; exact hP, xi_Kn.moved hW hK⟩⟩ rfl (List.length_map _) hls rfl (by show 2 * 0 + _ ≤ 8; rw [Nat.mul_zero, Nat.zero_add]; exact hcs) hdg ⟨Nat.zero_le _, Nat.zero_le _⟩) hS kk
theorem xi_callV {x d2 n2 b ci nf : Nat} {T : u_T} {y2 : MethodName} {c2 : ByteArray} {ret : Option FieldType} (hE : xi_Eok E S cl tys) (hb : S.1 b = ci + 3) (hc : cl[ci]? = some (y2.cls, T, nf)) (hS2 : xi_Sound l E S D cl tys Ns Ts y2 c2 n2 ret d2 (.ref b :: As) m1 r m2) (hG : ∀ w ∈ Ts, goodWord w = true) (hco : Cond.code y2 c2 n2 ret ∈ Ts) (hli : Cond.methodLink own x y2 ∈ Ts) (hst : Cond.instanceMethod y2 ∈ Ts) (hse : Cond.selects y2.cls y2 y2 ∈ Ts) (hin : Cond.initialized y2.cls ∈ Ts)
    (hd : y2.cls ≠ "java/lang/invoke/MethodHandle" ∧ y2.cls ≠ "java/lang/invoke/VarHandle" ∧ (parseMethodDescriptor y2.desc).map (fun q => q.parameters.length) = some As.length) (hdd : d2 + 1 ≤ d) (hn2 : n2 ≤ 60) : xi_Cal l E S D cl tys Ns own Ts cc nL d (.invokevirtual x) (.ref b :: As) m1 r m2 := by
  intro p e R s m args below meth c H locs Q pc ls rest hF hK hd1 hd2 hls hcs hdg hP hS kk
  have ht := hF.2.2.2.2
  have hci : ci < cl.length := (List.getElem?_eq_some_iff.mp hc).1
  have hg := xi_wld_get (E := E) (S := S) (m := m1) (hE.2.1 b (by omega))
  rw [xi_cel_obj hb] at hg
  refine xi_back (a := ((Value.ref b :: As).map (xi_cv E)).toArray) (va_runV (C := y2.cls) (b := E.1 b) (As := As.map (xi_cv E)) (n := As.length) hF hS2
    ⟨callB_of As.length ht (xi_good hG hco) rfl rfl rfl (ht _ hin) (ht _ hli) hd ⟨by show d2 + 1 ≤ R.frames; omega, by show 8 + (n2 + 11) + 100 * d2 ≤ R.locals; omega⟩, ht _ hst, ht _ hse⟩
    ⟨xi_blind, va_recv hK.1 hP hc hg, fun U hU hW => ⟨rfl, by rw [hU]; exact hP, xi_Kn.moved hW hK⟩⟩ rfl (List.length_map _) hls (by show ((xi_cv E (.ref b) :: As.map (xi_cv E)).reverse ++ rest) = _; rw [List.reverse_cons, List.append_assoc]; rfl) (by show 2 * 0 + _ ≤ 8; rw [Nat.mul_zero, Nat.zero_add]; exact hcs) hdg ⟨Nat.zero_le _, Nat.zero_le _⟩) hS kk
theorem xi_callA {x a0 a1 : Nat} {sp dp n : Int32} (hE : xi_Eok E S cl tys) (h0 : S.1 a0 = 0) (h1 : S.1 a1 = 0) (hsp : ¬ sp < 0) (hdp : ¬ dp < 0) (hn : ¬ n < 0) (hl0 : sp.toNatClampNeg + n.toNatClampNeg ≤ S.2.1 a0) (hl1 : dp.toNatClampNeg + n.toNatClampNeg ≤ S.2.1 a1) (hli : Cond.methodLink own x arraycopyName ∈ Ts) (hna : Cond.native arraycopyName ∈ Ts) (hst : Cond.static arraycopyName ∈ Ts) (hin : Cond.initialized "java/lang/System" ∈ Ts) (hdd : 1 ≤ d) :
    xi_Cal l E S D cl tys Ns own Ts cc nL d (.invokestatic x) [.ref a0, .int sp, .ref a1, .int dp, .int n] m1 none (fun b => if b = a1 then va_cpy (m1.1 a0) (m1.1 a1) sp.toNatClampNeg dp.toNatClampNeg n.toNatClampNeg else m1.1 b, m1.2) := by
  intro p e R s m args below meth c H locs Q pc ls rest hF hK hd1 hd2 hls hcs hdg hP hS kk
  obtain ⟨hx, hb, hml, hown, ht⟩ := hF
  obtain ⟨hinj, hshape, hty0, -, -⟩ := hE
  have ha0 : a0 < E.2.1 := hshape a0 (by omega)
  have ha1 : a1 < E.2.1 := hshape a1 (by omega)
  have hg0 := xi_wld_get (E := E) (S := S) (m := m1) ha0
  rw [xi_cel_row h0] at hg0
  have hg1 := xi_wld_get (E := E) (S := S) (m := m1) ha1
  rw [xi_cel_row h1] at hg1
  unfold xi_cs at hcs
  refine va_copyi (rest := rest) (a := E.1 a1) (a0 := E.1 a0) hx hb (hml.trans hls.symm) hown (ht _ hli) (ht _ hna) (ht _ hst) (ht _ hin) hK.1 hP (xi_wld_D hinj) hS a0 a1 0 0 hg0 hg1 hty0 hty0 rfl hsp hdp hn hl0 hl1 (fun _ _ => rfl) (by omega) (by show _ + (7 + 11) ≤ R.locals; omega) hdg (fun H1 locs1 hP1 hD1 hS1 => ?_)
  refine kk H1 locs1 ?_ hS1
  rw [← xi_wld_set (m := m1) (e := .inl (E.2.2.2 0, S.2.1 a1, .inl (va_cpy (m1.1 a0) (m1.1 a1) sp.toNatClampNeg dp.toNatClampNeg n.toNatClampNeg))) ha1 ?_ ?_]
  · exact hP1
  · rw [xi_cel_row h1]
    dsimp only
    rw [if_pos rfl]
  · intro b hb
    exact xi_cel_ne (if_neg hb) rfl
end XM
