/-! One step of the interpreter is a walk of the machine: instruction by instruction. -/
section XV
variable {p : Program} {l : Launch} {e : Env} {R : Room} {s : State} {m : MethodId} {args : Array Value} {below : List Frame} {meth : Method} {c : Code}
variable {E : xi_E} {S : xi_S} {D : va_G} {cl : List vw_C} {tys : List (ClassId × FieldType)} {Ns : List (String × Nat × MethodName × String)} {own : String} {Ts : List Cond} {cc : ByteArray} {nL d : Nat} {P : xi_P} {res : xi_R}
theorem xi_jump {Q : State → Prop} {pc : Nat} {o : Int} {K : xi_T → Option xi_R} {L : xi_L} {st : List Value} {m0 : xi_M} (ih : ∀ t', K t' = some res → xi_G p l e R s m args below meth c E S D cl nL Q t') (h : xi_to pc o (fun t => K (t, L, st, m0)) = some res) : ∃ t : Nat, (pc : Int) + o = (t : Int) ∧ xi_G p l e R s m args below meth c E S D cl nL Q (t, L, st, m0) := by
  obtain ⟨t, h1, h2⟩ := xi_to_some h
  exact ⟨t, h1, ih _ h2⟩
theorem xi_sw_some {k : Int → Option xi_R} {x : Int32} {d0 : Int} : ∀ {os : List Int} {lo : Int}, xi_sw k x d0 lo os = some res → (∃ o, (¬ x.toInt < lo ∧ ¬ lo + os.length - 1 < x.toInt ∧ os[(x.toInt - lo).toNat]? = some o) ∧ k o = some res) ∨ ((x.toInt < lo ∨ lo + os.length - 1 < x.toInt) ∧ k d0 = some res) := by
  intro os
  induction os with
  | nil =>
    intro lo h
    refine Or.inr ⟨?_, h⟩
    simp only [List.length_nil]
    omega
  | cons o os ih =>
    intro lo h
    unfold xi_sw at h
    by_cases hx : x.toInt = lo
    · rw [if_pos hx] at h
      refine Or.inl ⟨o, ⟨by omega, by simp only [List.length_cons]; omega, ?_⟩, h⟩
      rw [hx, Int.sub_self]
      rfl
    · rw [if_neg hx] at h
      rcases ih h with ⟨o2, ⟨g1, g2, g3⟩, g4⟩ | ⟨g1, g2⟩
      · refine Or.inl ⟨o2, ⟨by omega, by simp only [List.length_cons]; omega, ?_⟩, g4⟩
        have e1 : (x.toInt - lo).toNat = (x.toInt - (lo + 1)).toNat + 1 := by omega
        rw [e1, List.getElem?_cons_succ]
        exact g3
      · refine Or.inr ⟨?_, g2⟩
        simp only [List.length_cons]
        omega
theorem xi_lk_some {k : Int → Option xi_R} {x : Int32} {d0 : Int} : ∀ {ps : List (Int × Int)}, xi_lk k x d0 ps = some res → k (Op.lookupswitch.offset ps d0 x.toInt) = some res := by
  intro ps
  induction ps with
  | nil => intro h; exact h
  | cons q ps ih =>
    intro h
    obtain ⟨a, o⟩ := q
    unfold xi_lk at h
    rw [Op.lookupswitch.offset_cons]
    by_cases hx : a = x.toInt
    · rw [if_pos hx] at h ⊢
      exact h
    · rw [if_neg hx] at h ⊢
      exact ih h
set_option maxHeartbeats 4000000 in
theorem xi_walk {K : xi_T → Option xi_R} {t : xi_T} (hF : CallFix p m c cc nL s args Ts own) (hKn : xi_Kn D cl tys Ns s) (hlocks : meth.locks = false) (hr : meth.sig.returnType = xi_rty P.2.2.2.2.2.2.2.2) (hd1 : d ≤ R.frames) (hd2 : 100 * d ≤ R.locals) (hE : xi_Eok E S cl tys) (hPo : xi_Pok l E S D cl tys Ns own Ts cc nL d P)
    (h : xi_run S P K t = some res) (ih : ∀ t', K t' = some res → xi_G p l e R s m args below meth c E S D cl nL (MQ below (xi_Q E S D cl res) args s 0 0 (xi_A E)) t') : xi_G p l e R s m args below meth c E S D cl nL (MQ below (xi_Q E S D cl res) args s 0 0 (xi_A E)) t := by
  obtain ⟨pc, L, st, m0⟩ := t
  have hK := hKn.1
  obtain ⟨hx, hb, hml, hown, hts⟩ := id hF
  obtain ⟨hinj, hshape, hty0, ⟨C1, hty1⟩, ⟨C2, hty2⟩⟩ := hE
  obtain ⟨hdec, hfd, hki, hkl, hcs, hcv⟩ := hPo
  have hD : ∀ mm : xi_M, va_D (xi_A E) (xi_wld E S mm) := fun mm => xi_wld_D hinj
  unfold xi_run at h
  cases hi : P.1 pc with
  | none => rw [hi] at h; cases h
  | some q =>
    obtain ⟨i, n⟩ := q
    rw [hi] at h
    obtain ⟨hdg, hn⟩ := hdec pc i n hi
    dsimp only at h
    intro H locs ls hP hS hl
    dsimp only at hP hl ⊢
    have go : ∀ {pc2 : Nat} {st2 : List Value}, K (pc2, L, st2, m0) = some res → W p l e R s m args below meth c H locs 0 0 (MQ below (xi_Q E S D cl res) args s 0 0 (xi_A E)) (F0 m pc2 ls (st2.map (xi_cv E))) := fun h => ih _ h H locs ls hP hS hl
    cases i
    case iconst k =>
      cases (show n = 1 from hn)
      exact lv_iconst hx hb hdg rfl (go h)
    case bipush k =>
      cases (show n = 2 from hn)
      exact lv_bipush hx hb hdg rfl (go h)
    case sipush k =>
      cases (show n = 3 from hn)
      exact lv_sipush hx hb hdg rfl (go h)
    case lconst k =>
      cases (show n = 1 from hn)
      exact lv_lconst hx hb hdg rfl (go h)
    case ldc x =>
      cases (show n = 2 from hn)
      obtain ⟨v, hv, h⟩ := xi_bind_some h
      exact lv_ldc hx hb hown (hts _ (hki _ _ hv)) hdg (go h)
    case ldc_w x =>
      cases (show n = 3 from hn)
      obtain ⟨v, hv, h⟩ := xi_bind_some h
      exact lv_ldcw hx hb hown (hts _ (hki _ _ hv)) hdg (go h)
    case ldc2_w x =>
      cases (show n = 3 from hn)
      obtain ⟨v, hv, h⟩ := xi_bind_some h
      exact lv_ldc2 hx hb hown (hts _ (hkl _ _ hv)) hdg (go h)
    case iload k =>
      cases (show n = 2 from hn)
      obtain ⟨x, hv, h⟩ := xi_lI_some h
      exact lv_iload hx hb hdg (hl.2.2.2 _ _ hv) (go h)
    case iload_n k =>
      cases (show n = 1 from hn)
      obtain ⟨x, hv, h⟩ := xi_lI_some h
      exact lv_iload_n hx hb hdg rfl (hl.2.2.2 _ _ hv) (go h)
    case lload k =>
      cases (show n = 2 from hn)
      obtain ⟨x, hv, h⟩ := xi_lJ_some h
      exact lv_lload hx hb hdg (hl.2.2.2 _ _ hv) (go h)
    case lload_n k =>
      cases (show n = 1 from hn)
      obtain ⟨x, hv, h⟩ := xi_lJ_some h
      exact lv_lload_n hx hb hdg rfl (hl.2.2.2 _ _ hv) (go h)
    case aload k =>
      cases (show n = 2 from hn)
      obtain ⟨x, hv, h⟩ := xi_lR_some h
      exact lv_aload hx hb hdg (hl.2.2.2 _ _ hv) (go h)
    case aload_n k =>
      cases (show n = 1 from hn)
      obtain ⟨x, hv, h⟩ := xi_lR_some h
      exact lv_aload_n hx hb hdg rfl (hl.2.2.2 _ _ hv) (go h)
    case istore k =>
      cases (show n = 2 from hn)
      obtain ⟨x, r, rfl, h⟩ := xi_sI_some h
      obtain ⟨hlt, h⟩ := xi_bif_some h
      have hlt : k < nL := by rw [← hl.1]; exact Nat.blt_eq.mp hlt
      exact lv_istore hx hb hdg hl.has hlt rfl (fun ls2 hl2 => ih _ h H locs ls2 hP hS (xi_lv_st1 (v := .int x) hl hl2))
    case istore_n k =>
      cases (show n = 1 from hn)
      obtain ⟨x, r, rfl, h⟩ := xi_sI_some h
      obtain ⟨hlt, h⟩ := xi_bif_some h
      have hlt : (k : Nat) < nL := by rw [← hl.1]; exact Nat.blt_eq.mp hlt
      exact lv_istore_n hx hb hdg rfl hl.has hlt rfl (fun ls2 hl2 => ih _ h H locs ls2 hP hS (xi_lv_st1 (v := .int x) hl hl2))
    case lstore k =>
      cases (show n = 2 from hn)
      obtain ⟨x, r, rfl, h⟩ := xi_sJ_some h
      obtain ⟨hlt, h⟩ := xi_bif_some h
      have hlt : k + 1 < nL := by rw [← hl.1]; exact Nat.blt_eq.mp hlt
      exact lv_lstore hx hb hdg hl.has hlt rfl (fun ls2 hl2 => ih _ h H locs ls2 hP hS (xi_lv_st2 (v := .long x) hl hl2))
    case lstore_n k =>
      cases (show n = 1 from hn)
      obtain ⟨x, r, rfl, h⟩ := xi_sJ_some h
      obtain ⟨hlt, h⟩ := xi_bif_some h
      have hlt : (k : Nat) + 1 < nL := by rw [← hl.1]; exact Nat.blt_eq.mp hlt
      exact lv_lstore_n hx hb hdg rfl hl.has hlt rfl (fun ls2 hl2 => ih _ h H locs ls2 hP hS (xi_lv_st2 (v := .long x) hl hl2))
    case iinc k w =>
      cases (show n = 3 from hn)
      obtain ⟨x, hv, h⟩ := xi_lI_some h
      obtain ⟨hlt, h⟩ := xi_bif_some h
      have hlt : k < nL := by rw [← hl.1]; exact Nat.blt_eq.mp hlt
      obtain ⟨j, hj⟩ := List.getElem?_of_mem (xi_lo_mem (E := E) (q := (k, .int x)).mpr ⟨_, hv, rfl⟩)
      exact lv_iinc hx hb hdg hl.has hj rfl hlt rfl (fun ls2 hl2 => ih _ h H locs ls2 hP hS (xi_lv_st1 (v := .int (x + Int32.ofInt w)) hl hl2))
    case iadd =>
      cases (show n = 1 from hn)
      obtain ⟨y, r, rfl, h⟩ := xi_sI_some h
      obtain ⟨x, r, rfl, h⟩ := xi_sI_some h
      exact lv_iadd hx hb hdg (go h)
    case isub =>
      cases (show n = 1 from hn)
      obtain ⟨y, r, rfl, h⟩ := xi_sI_some h
      obtain ⟨x, r, rfl, h⟩ := xi_sI_some h
      exact lv_isub hx hb hdg (go h)
    case imul =>
      cases (show n = 1 from hn)
      obtain ⟨y, r, rfl, h⟩ := xi_sI_some h
      obtain ⟨x, r, rfl, h⟩ := xi_sI_some h
      exact lv_imul hx hb hdg (go h)
    case iand =>
      cases (show n = 1 from hn)
      obtain ⟨y, r, rfl, h⟩ := xi_sI_some h
      obtain ⟨x, r, rfl, h⟩ := xi_sI_some h
      exact lv_iand hx hb hdg (go h)
    case ior =>
      cases (show n = 1 from hn)
      obtain ⟨y, r, rfl, h⟩ := xi_sI_some h
      obtain ⟨x, r, rfl, h⟩ := xi_sI_some h
      exact lv_ior hx hb hdg (go h)
    case ixor =>
      cases (show n = 1 from hn)
      obtain ⟨y, r, rfl, h⟩ := xi_sI_some h
      obtain ⟨x, r, rfl, h⟩ := xi_sI_some h
      exact lv_ixor hx hb hdg (go h)
    case ishl =>
      cases (show n = 1 from hn)
      obtain ⟨y, r, rfl, h⟩ := xi_sI_some h
      obtain ⟨x, r, rfl, h⟩ := xi_sI_some h
      exact lv_ishl hx hb hdg (go h)
    case ishr =>
      cases (show n = 1 from hn)
      obtain ⟨y, r, rfl, h⟩ := xi_sI_some h
      obtain ⟨x, r, rfl, h⟩ := xi_sI_some h
      exact lv_ishr hx hb hdg (go h)
    case iushr =>
      cases (show n = 1 from hn)
      obtain ⟨y, r, rfl, h⟩ := xi_sI_some h
      obtain ⟨x, r, rfl, h⟩ := xi_sI_some h
      exact lv_iushr hx hb hdg rfl (go h)
    case ineg =>
      cases (show n = 1 from hn)
      obtain ⟨x, r, rfl, h⟩ := xi_sI_some h
      exact lv_ineg hx hb hdg (go h)
    case idiv =>
      cases (show n = 1 from hn)
      obtain ⟨y, r, rfl, h⟩ := xi_sI_some h
      obtain ⟨x, r, rfl, h⟩ := xi_sI_some h
      obtain ⟨h0, h⟩ := xi_ifn_some h
      exact lv_idiv hx hb hdg h0 (go h)
    case irem =>
      cases (show n = 1 from hn)
      obtain ⟨y, r, rfl, h⟩ := xi_sI_some h
      obtain ⟨x, r, rfl, h⟩ := xi_sI_some h
      obtain ⟨h0, h⟩ := xi_ifn_some h
      exact lv_irem hx hb hdg h0 (go h)
    case i2l =>
      cases (show n = 1 from hn)
      obtain ⟨x, r, rfl, h⟩ := xi_sI_some h
      exact lv_i2l hx hb hdg rfl (go h)
    case i2b =>
      cases (show n = 1 from hn)
      obtain ⟨x, r, rfl, h⟩ := xi_sI_some h
      exact lv_i2b hx hb hdg rfl (go h)
    case l2i =>
      cases (show n = 1 from hn)
      obtain ⟨x, r, rfl, h⟩ := xi_sJ_some h
      exact lv_l2i hx hb hdg rfl (go h)
    case ladd =>
      cases (show n = 1 from hn)
      obtain ⟨y, r, rfl, h⟩ := xi_sJ_some h
      obtain ⟨x, r, rfl, h⟩ := xi_sJ_some h
      exact lv_ladd hx hb hdg (go h)
    case lsub =>
      cases (show n = 1 from hn)
      obtain ⟨y, r, rfl, h⟩ := xi_sJ_some h
      obtain ⟨x, r, rfl, h⟩ := xi_sJ_some h
      exact lv_lsub hx hb hdg (go h)
    case lmul =>
      cases (show n = 1 from hn)
      obtain ⟨y, r, rfl, h⟩ := xi_sJ_some h
      obtain ⟨x, r, rfl, h⟩ := xi_sJ_some h
      exact lv_lmul hx hb hdg (go h)
    case ldiv =>
      cases (show n = 1 from hn)
      obtain ⟨y, r, rfl, h⟩ := xi_sJ_some h
      obtain ⟨x, r, rfl, h⟩ := xi_sJ_some h
      obtain ⟨h0, h⟩ := xi_ifn_some h
      exact lv_ldiv hx hb hdg h0 (go h)
    case lrem =>
      cases (show n = 1 from hn)
      obtain ⟨y, r, rfl, h⟩ := xi_sJ_some h
      obtain ⟨x, r, rfl, h⟩ := xi_sJ_some h
      obtain ⟨h0, h⟩ := xi_ifn_some h
      exact lv_lrem hx hb hdg h0 (go h)
    case lcmp =>
      cases (show n = 1 from hn)
      obtain ⟨y, r, rfl, h⟩ := xi_sJ_some h
      obtain ⟨x, r, rfl, h⟩ := xi_sJ_some h
      exact W.lcmp hx hb hdg (go h)
    case dup =>
      cases (show n = 1 from hn)
      unfold xi_op at h
      dsimp only at h
      split at h
      · exact lv_dup hx hb hdg rfl (go h)
      · exact lv_dup hx hb hdg rfl (go h)
      · cases h
    case dup2 =>
      cases (show n = 1 from hn)
      obtain ⟨x, r, rfl, h⟩ := xi_sI_some h
      obtain ⟨a, r, rfl, h⟩ := xi_sR_some h
      exact lv_dup2_11 hx hb hdg rfl rfl (go h)
    case pop =>
      cases (show n = 1 from hn)
      obtain ⟨x, r, rfl, h⟩ := xi_sI_some h
      exact lv_pop hx hb hdg rfl (go h)
    case goto o =>
      cases (show n = 3 from hn)
      obtain ⟨t, ht, hg⟩ := xi_jump ih h
      exact lv_goto hx hb hdg ht (hg H locs ls hP hS hl)
    case ifCond cd o =>
      cases (show n = 3 from hn)
      cases cd
      case eq =>
        obtain ⟨x, r, rfl, h⟩ := xi_sI_some h
        obtain ⟨t, ht, h⟩ := xi_to_some h
        exact lv_if_eq hx hb hdg ht (fun hc => go ((if_pos hc).symm.trans h)) (fun hc => go ((if_neg hc).symm.trans h))
      case ne =>
        obtain ⟨x, r, rfl, h⟩ := xi_sI_some h
        obtain ⟨t, ht, h⟩ := xi_to_some h
        exact lv_if_ne hx hb hdg ht (fun hc => go ((if_neg hc).symm.trans h)) (fun hc => go ((if_pos hc).symm.trans h))
      case lt =>
        obtain ⟨x, r, rfl, h⟩ := xi_sI_some h
        obtain ⟨t, ht, h⟩ := xi_to_some h
        exact lv_if_lt hx hb hdg ht (fun hc => go ((if_pos hc).symm.trans h)) (fun hc => go ((if_neg hc).symm.trans h))
      case ge =>
        obtain ⟨x, r, rfl, h⟩ := xi_sI_some h
        obtain ⟨t, ht, h⟩ := xi_to_some h
        exact lv_if_ge hx hb hdg ht (fun hc => go ((if_pos hc).symm.trans h)) (fun hc => go ((if_neg hc).symm.trans h))
      case gt =>
        obtain ⟨x, r, rfl, h⟩ := xi_sI_some h
        obtain ⟨t, ht, h⟩ := xi_to_some h
        exact lv_if_gt hx hb hdg ht (fun hc => go ((if_pos hc).symm.trans h)) (fun hc => go ((if_neg hc).symm.trans h))
      case le =>
        obtain ⟨x, r, rfl, h⟩ := xi_sI_some h
        obtain ⟨t, ht, h⟩ := xi_to_some h
        exact lv_if_le hx hb hdg ht (fun hc => go ((if_pos hc).symm.trans h)) (fun hc => go ((if_neg hc).symm.trans h))
    case if_icmp cd o =>
      cases (show n = 3 from hn)
      cases cd
      case eq =>
        obtain ⟨y, r, rfl, h⟩ := xi_sI_some h
        obtain ⟨x, r, rfl, h⟩ := xi_sI_some h
        obtain ⟨t, ht, h⟩ := xi_to_some h
        exact lv_icmp_eq hx hb hdg ht (fun hc => go ((if_pos hc).symm.trans h)) (fun hc => go ((if_neg hc).symm.trans h))
      case ne =>
        obtain ⟨y, r, rfl, h⟩ := xi_sI_some h
        obtain ⟨x, r, rfl, h⟩ := xi_sI_some h
        obtain ⟨t, ht, h⟩ := xi_to_some h
        exact lv_icmp_ne hx hb hdg ht (fun hc => go ((if_neg hc).symm.trans h)) (fun hc => go ((if_pos hc).symm.trans h))
      case lt =>
        obtain ⟨y, r, rfl, h⟩ := xi_sI_some h
        obtain ⟨x, r, rfl, h⟩ := xi_sI_some h
        obtain ⟨t, ht, h⟩ := xi_to_some h
        exact lv_icmp_lt hx hb hdg ht (fun hc => go ((if_pos hc).symm.trans h)) (fun hc => go ((if_neg hc).symm.trans h))
      case ge =>
        obtain ⟨y, r, rfl, h⟩ := xi_sI_some h
        obtain ⟨x, r, rfl, h⟩ := xi_sI_some h
        obtain ⟨t, ht, h⟩ := xi_to_some h
        exact lv_icmp_ge hx hb hdg ht (fun hc => go ((if_pos hc).symm.trans h)) (fun hc => go ((if_neg hc).symm.trans h))
      case gt =>
        obtain ⟨y, r, rfl, h⟩ := xi_sI_some h
        obtain ⟨x, r, rfl, h⟩ := xi_sI_some h
        obtain ⟨t, ht, h⟩ := xi_to_some h
        exact lv_icmp_gt hx hb hdg ht (fun hc => go ((if_pos hc).symm.trans h)) (fun hc => go ((if_neg hc).symm.trans h))
      case le =>
        obtain ⟨y, r, rfl, h⟩ := xi_sI_some h
        obtain ⟨x, r, rfl, h⟩ := xi_sI_some h
        obtain ⟨t, ht, h⟩ := xi_to_some h
        exact lv_icmp_le hx hb hdg ht (fun hc => go ((if_pos hc).symm.trans h)) (fun hc => go ((if_neg hc).symm.trans h))
    case tableswitch d0 lo hi os =>
      obtain ⟨x, r, rfl, h⟩ := xi_sI_some h
      obtain ⟨hc, h⟩ := xi_bif_some h
      have hc := of_decide_eq_true hc
      rcases xi_sw_some h with ⟨o, ⟨g1, g2, g3⟩, h⟩ | ⟨g, h⟩
      · obtain ⟨t, ht, hg⟩ := xi_jump ih h
        exact lv_tableIn hx hb hdg g1 (by omega) (by rw [← Array.getElem?_toList]; exact g3) ht (hg H locs ls hP hS hl)
      · obtain ⟨t, ht, hg⟩ := xi_jump ih h
        exact lv_tableOut hx hb hdg (by omega) ht (hg H locs ls hP hS hl)
    case lookupswitch d0 ps =>
      obtain ⟨x, r, rfl, h⟩ := xi_sI_some h
      obtain ⟨hc, h⟩ := xi_bif_some h
      obtain ⟨t, ht, hg⟩ := xi_jump ih (xi_lk_some h)
      exact lv_lookup hx hb hdg hc rfl ht (hg H locs ls hP hS hl)
    case getfield x =>
      cases (show n = 3 from hn)
      obtain ⟨a, r, rfl, h⟩ := xi_sR_some h
      obtain ⟨⟨ci, k, t⟩, hq, h⟩ := xi_bind_some h
      obtain ⟨hk, h⟩ := xi_if_some h
      obtain ⟨C, T, nf, ty0, hc, hkn, hin, hlk, ht, hty, hnm, h0, h1, h2, hfin⟩ := hfd _ _ _ _ hq
      have hci : ci < cl.length := (List.getElem?_eq_some_iff.mp hc).1
      have ha : a < E.2.1 := hshape a (by rw [hk]; dsimp only; omega)
      have hg := xi_wld_get (E := E) (S := S) (m := m0) ha
      rw [xi_cel_obj hk] at hg
      refine va_get (a := E.1 a) (fs := xi_fs E S m0 a ci) hx hb hts hin hown hK hP a hg hc k hkn (hts _ hlk) (fun _ h9 => h9) (xi_fs_get ht) hdg ?_
      dsimp only at h
      split at h
      · exact go h
      · obtain ⟨b, hb2, h⟩ := xi_bind_some h
        have e1 : xi_fv E S m0 a k 3 = .ref (E.1 b) := by
          unfold xi_fv
          rw [if_neg (by decide), if_pos rfl, hb2]
          rfl
        rw [e1]
        exact go h
      · rename_i e2 e3
        have e1 : xi_fv E S m0 a k t = .int (m0.1 a k) := by
          unfold xi_fv
          rw [if_neg e2, if_neg e3]
        rw [e1]
        exact go h
    case putfield x =>
      cases (show n = 3 from hn)
      obtain ⟨⟨ci, k, t⟩, hq, h⟩ := xi_bind_some h
      dsimp only at h
      split at h
      · obtain ⟨v, r, rfl, h⟩ := xi_sI_some h
        obtain ⟨a, r, rfl, h⟩ := xi_sR_some h
        obtain ⟨hk, h⟩ := xi_if_some h
        obtain ⟨C, T, nf, ty0, hc, hkn, hin, hlk, ht, hty, hnm, h0, h1, h2, hfin⟩ := hfd _ _ _ _ hq
        have hci : ci < cl.length := (List.getElem?_eq_some_iff.mp hc).1
        have ha : a < E.2.1 := hshape a (by omega)
        have hg := xi_wld_get (E := E) (S := S) (m := m0) ha
        rw [xi_cel_obj hk] at hg
        have hfl : k < (xi_fs E S m0 a ci).length := (List.getElem?_eq_some_iff.mp (xi_fs_get ht)).1
        refine va_put (a := E.1 a) (v := .int v) (ty := .int) (fs := xi_fs E S m0 a ci) hx hb hts hin ty0 hty hnm hown hK hP (hD m0) hS a hg hc k hkn (hts _ hlk) (fun _ h9 => h9) (hfin (by decide)) (by rw [hty k hkn, h0 rfl]) rfl rfl hfl hdg (fun H1 locs1 hP1 hD1 hS1 => ?_)
        rw [xi_setI ha hk ht (by decide) (by decide)] at hP1
        exact ih _ h H1 locs1 ls hP1 hS1 hl
      · obtain ⟨v, r, rfl, h⟩ := xi_sI_some h
        obtain ⟨a, r, rfl, h⟩ := xi_sR_some h
        obtain ⟨hk, h⟩ := xi_if_some h
        obtain ⟨hk, hv⟩ := hk
        obtain ⟨C, T, nf, ty0, hc, hkn, hin, hlk, ht, hty, hnm, h0, h1, h2, hfin⟩ := hfd _ _ _ _ hq
        have hci : ci < cl.length := (List.getElem?_eq_some_iff.mp hc).1
        have ha : a < E.2.1 := hshape a (by omega)
        have hg := xi_wld_get (E := E) (S := S) (m := m0) ha
        rw [xi_cel_obj hk] at hg
        have hfl : k < (xi_fs E S m0 a ci).length := (List.getElem?_eq_some_iff.mp (xi_fs_get ht)).1
        refine va_put (a := E.1 a) (v := .int v) (ty := .boolean) (fs := xi_fs E S m0 a ci) hx hb hts hin ty0 hty hnm hown hK hP (hD m0) hS a hg hc k hkn (hts _ hlk) (fun _ h9 => h9) (hfin (by decide)) (by rw [hty k hkn, h1 rfl]) (congrArg Value.int (xi_01 hv)) (by rcases hv with rfl | rfl <;> rfl) hfl hdg (fun H1 locs1 hP1 hD1 hS1 => ?_)
        rw [xi_setI ha hk ht (by decide) (by decide)] at hP1
        exact ih _ h H1 locs1 ls hP1 hS1 hl
      · obtain ⟨v, r, rfl, h⟩ := xi_sJ_some h
        obtain ⟨a, r, rfl, h⟩ := xi_sR_some h
        obtain ⟨hk, h⟩ := xi_if_some h
        obtain ⟨C, T, nf, ty0, hc, hkn, hin, hlk, ht, hty, hnm, h0, h1, h2, hfin⟩ := hfd _ _ _ _ hq
        have hci : ci < cl.length := (List.getElem?_eq_some_iff.mp hc).1
        have ha : a < E.2.1 := hshape a (by omega)
        have hg := xi_wld_get (E := E) (S := S) (m := m0) ha
        rw [xi_cel_obj hk] at hg
        have hfl : k < (xi_fs E S m0 a ci).length := (List.getElem?_eq_some_iff.mp (xi_fs_get ht)).1
        refine va_put (a := E.1 a) (v := .long v) (ty := .long) (fs := xi_fs E S m0 a ci) hx hb hts hin ty0 hty hnm hown hK hP (hD m0) hS a hg hc k hkn (hts _ hlk) (fun _ h9 => h9) (hfin (by decide)) (by rw [hty k hkn, h2 rfl]) rfl rfl hfl hdg (fun H1 locs1 hP1 hD1 hS1 => ?_)
        rw [xi_setJ ha hk ht] at hP1
        exact ih _ h H1 locs1 ls hP1 hS1 hl
      · cases h
    case iaload =>
      cases (show n = 1 from hn)
      obtain ⟨i, r, rfl, h⟩ := xi_sI_some h
      obtain ⟨a, r, rfl, h⟩ := xi_sR_some h
      obtain ⟨⟨hk, hin⟩, h⟩ := xi_if_some h
      have ha : a < E.2.1 := hshape a (by rw [hk]; omega)
      have hg := xi_wld_get (E := E) (S := S) (m := m0) ha
      rw [xi_cel_row hk] at hg
      exact va_iald (a := E.1 a) hx hb hK hP a 0 hg hty0 hin hdg (go h)
    case iastore =>
      cases (show n = 1 from hn)
      obtain ⟨v, r, rfl, h⟩ := xi_sI_some h
      obtain ⟨i, r, rfl, h⟩ := xi_sI_some h
      obtain ⟨a, r, rfl, h⟩ := xi_sR_some h
      obtain ⟨⟨hk, hin⟩, h⟩ := xi_if_some h
      have ha : a < E.2.1 := hshape a (by rw [hk]; omega)
      have hg := xi_wld_get (E := E) (S := S) (m := m0) ha
      rw [xi_cel_row hk] at hg
      refine va_iast (a := E.1 a) hx hb hK hP (hD m0) hS a 0 hg hty0 hin hdg (fun H1 locs1 hP1 hD1 hS1 => ?_)
      rw [xi_setR ha hk] at hP1
      exact ih _ h H1 locs1 ls hP1 hS1 hl
    case aaload =>
      cases (show n = 1 from hn)
      obtain ⟨i, r, rfl, h⟩ := xi_sI_some h
      obtain ⟨a, r, rfl, h⟩ := xi_sR_some h
      obtain ⟨⟨hk, hin⟩, h⟩ := xi_if_some h
      obtain ⟨b, hb2, h⟩ := xi_bind_some h
      have ha : a < E.2.1 := hshape a (by omega)
      have hg := xi_wld_get (E := E) (S := S) (m := m0) ha
      rcases hk with hk | hk
      · have e1 : xi_cel E S m0 a = .inl (E.2.2.2 1, S.2.1 a, .inr (.inr (.inr (.inr fun i => (S.2.2 a i).map E.1)))) := by
          unfold xi_cel
          rw [if_neg (by omega), if_pos hk]
        rw [e1] at hg
        refine va_aldq (a := E.1 a) hx hb hK hP a 1 hg hty1 hin hdg ?_
        rw [hb2]
        exact go h
      · have e1 : xi_cel E S m0 a = .inl (E.2.2.2 2, S.2.1 a, .inr (.inr (.inr (.inr fun i => (S.2.2 a i).map E.1)))) := by
          unfold xi_cel
          rw [if_neg (by omega), if_neg (by omega), if_pos hk]
        rw [e1] at hg
        refine va_aldq (a := E.1 a) hx hb hK hP a 2 hg hty2 hin hdg ?_
        rw [hb2]
        exact go h
    case arraylength =>
      cases (show n = 1 from hn)
      obtain ⟨a, r, rfl, h⟩ := xi_sR_some h
      obtain ⟨hk, h⟩ := xi_if_some h
      have ha : a < E.2.1 := hshape a (by omega)
      have hg := xi_wld_get (E := E) (S := S) (m := m0) ha
      rcases hk with hk | hk | hk
      · rw [xi_cel_row hk] at hg
        exact va_alen (a := E.1 a) hx hb hK hP a 0 hg hty0 rfl hdg (go h)
      · have e1 : xi_cel E S m0 a = .inl (E.2.2.2 1, S.2.1 a, .inr (.inr (.inr (.inr fun i => (S.2.2 a i).map E.1)))) := by
          unfold xi_cel
          rw [if_neg (by omega), if_pos hk]
        rw [e1] at hg
        exact va_alen (a := E.1 a) hx hb hK hP a 1 hg hty1 rfl hdg (go h)
      · have e1 : xi_cel E S m0 a = .inl (E.2.2.2 2, S.2.1 a, .inr (.inr (.inr (.inr fun i => (S.2.2 a i).map E.1)))) := by
          unfold xi_cel
          rw [if_neg (by omega), if_neg (by omega), if_pos hk]
        rw [e1] at hg
        exact va_alen (a := E.1 a) hx hb hK hP a 2 hg hty2 rfl hdg (go h)
    case invokestatic x =>
      cases (show n = 3 from hn)
      obtain ⟨⟨na, rk⟩, hq, h⟩ := xi_bind_some h
      obtain ⟨hb3, h⟩ := xi_bif_some h
      rw [Bool.and_eq_true] at hb3
      obtain ⟨r, m1, hr1, h⟩ := xi_an_some h
      have hcal := hcs x _ _ _ _ hr1
      rw [xi_app (E := E) st na]
      refine hcal p e R s m args below meth c H locs _ pc ls _ hF hKn hd1 hd2 hl.2.1 (by rw [xi_cs_cv]; exact Nat.le_of_ble_eq_true hb3.2) hdg hP hS (fun H1 locs1 hP1 hS1 => ?_)
      rw [xi_toL]
      exact ih _ h H1 locs1 ls hP1 hS1 hl
    case invokevirtual x =>
      cases (show n = 3 from hn)
      obtain ⟨⟨na, rk⟩, hq, h⟩ := xi_bind_some h
      obtain ⟨hb3, h⟩ := xi_bif_some h
      rw [Bool.and_eq_true] at hb3
      obtain ⟨r, m1, hr1, h⟩ := xi_an_some h
      have hcal := hcv x _ _ _ _ hr1
      rw [xi_app (E := E) st na]
      refine hcal p e R s m args below meth c H locs _ pc ls _ hF hKn hd1 hd2 hl.2.1 (by rw [xi_cs_cv]; exact Nat.le_of_ble_eq_true hb3.2) hdg hP hS (fun H1 locs1 hP1 hS1 => ?_)
      rw [xi_toL]
      exact ih _ h H1 locs1 ls hP1 hS1 hl
    case ireturn =>
      cases (show n = 1 from hn)
      unfold xi_op at h
      dsimp only at h
      split at h
      · rename_i hrt
        cases h
        rw [hrt] at hr
        exact W.zret (ty := .int) hx hb hr rfl (fun t ht _ => ⟨rfl, by rw [ht]; exact hP, hS.F ht⟩) hS.2.2 hdg hlocks
      · rename_i hrt
        obtain ⟨hv, h⟩ := xi_if_some h
        cases h
        rw [hrt] at hr
        exact W.zret (ty := .boolean) hx hb hr (congrArg Value.int (xi_01 hv)) (fun t ht _ => ⟨rfl, by rw [ht]; exact hP, hS.F ht⟩) hS.2.2 hdg hlocks
      · cases h
    case lreturn =>
      cases (show n = 1 from hn)
      unfold xi_op at h
      dsimp only at h
      split at h
      · rename_i hrt
        cases h
        rw [hrt] at hr
        exact W.lret hx hb hr (fun t ht _ => ⟨rfl, by rw [ht]; exact hP, hS.F ht⟩) hS.2.2 hdg hlocks
      · cases h
    case return_ =>
      cases (show n = 1 from hn)
      unfold xi_op at h
      dsimp only at h
      split at h
      · rename_i hrt
        cases h
        rw [hrt] at hr
        exact W.vret hx hb hr (fun t ht _ => ⟨rfl, by rw [ht]; exact hP, hS.F ht⟩) hS.2.2 hdg hlocks
      · cases h
    all_goals cases h
end XV
