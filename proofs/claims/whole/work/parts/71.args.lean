/-! the law's calls: what holds in its loop, and how an argument comes -/
def xLw (p : Program) (s : State) (m : MethodId) (meth : Method) (c : Code) (b L : Nat) (xs : Nat → Int32) (D : va_G) (E : xi_E) (tys : List (ClassId × FieldType)) : Prop := lw_At p s m meth c b L xs ∧ L ≤ 384 ∧ xCx E xS0 tys ∧ E.2.1 = 100 ∧ xi_Kn D vwCl tys xNs s ∧ ∀ a, a < E.2.1 → s.heap.size ≤ E.1 a
theorem xT_of {p : Program} {s : State} {m : MethodId} {meth : Method} {c : Code} {b L : Nat} {xs : Nat → Int32} (h : lw_At p s m meth c b L xs) : CallFix p m c code 4 s #[Value.ref b] xTs R_law := ⟨h.1, h.2.1, h.2.2.2.1, h.2.2.2.2.1, fun w hw => h.2.2.2.2.2.1 w (List.mem_filter.mp hw).1⟩
theorem xnb {s : State} {b : Nat} (h : b < s.heap.size) : ¬ (fun q : Nat => s.heap.size ≤ q) b := Nat.not_le.mpr h
section
variable {p : Program} {l : Launch} {e : Env} {s : State} {m : MethodId} {below : List Frame} {meth : Method} {c : Code} {b L : Nat} {xs : Nat → Int32} {H : Heap} {locs : List Loc} {k n : Nat} {Q : State → Prop} {D : va_G} {E : xi_E} {tys : List (ClassId × FieldType)} {ls : Array Slot} {m0 : xi_M} {i : Int}
theorem lw_arg {rest : List Value} {pc : Nat} {j : Int} (hX : xLw p s m meth c b L xs D E tys) (hl : lv_has ls 4 [(3, .int (zi i)), (2, .ref (E.1 15)), (1, .ref (E.1 0)), (0, .ref b)]) (hi : 0 ≤ i) (hj : 0 ≤ j) (hij : i + j < L) (hS : va_S (fun q => s.heap.size ≤ q) s.heap H locs) (d0 : decode code pc = .ok (.aload_n 0, 1)) (d1 : decode code (pc + 1) = .ok (.iload_n 3, 1)) (d2 : decode code (pc + 2) = .ok (.iconst j, 1)) (d3 : decode code (pc + 3) = .ok (.iadd, 1)) (d4 : decode code (pc + 4) = .ok (.iaload, 1))
    (kk : W p l e room_1 s m #[Value.ref b] below meth c H locs k n Q (F0 m (pc + 5) ls (.int (xs (i + j).toNat) :: rest))) : W p l e room_1 s m #[Value.ref b] below meth c H locs k n Q (F0 m pc ls rest) := by
  obtain ⟨⟨hx, hb, hr, hml, hown, hts, hX0, hbl, hlocks, hgv⟩, hL, hC, hn, hK, hA⟩ := hX
  refine lv_aload_n hx hb d0 rfl (lv_at hl 3 rfl) ?_
  refine lv_iload_n hx hb d1 rfl (lv_at hl 0 rfl) ?_
  refine lv_iconst (v := zi j) hx hb d2 rfl ?_
  refine lv_iadd hx hb d3 ?_
  rw [zi_add]
  have hc : (zi (i + j)).toNatClampNeg = (i + j).toNat := zi_n (by omega) (by omega)
  refine va_sld hx hb hX0 hbl (xnb hbl) hS ?_ d4 ?_
  · rintro (h | h)
    · rw [show (0 : Int32) = zi 0 from rfl, zi_lt (by omega) (by omega) (by omega) (by omega)] at h
      omega
    · rw [hc] at h
      omega
  · rw [hc]
    exact kk
end
