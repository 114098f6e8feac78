theorem cm_far {N k M : Nat} {ps : List Nat} (h : cps N k ps = true) (hb : ps.all (fun x => Nat.blt x M) = true) (l' lu : List (Nat × va_E)) (g : Nat → va_E) : ∀ j, M ≤ j → j < N → cup (cmrg N k ps l' lu) g j = cup lu g j := by
  intro j h1 h2
  obtain ⟨a1, -, -⟩ := cps_spec h
  refine cmrg_out h l' lu g j h2 (fun i hi e => ?_)
  simp only [List.all_eq_true, nblt, decide_eq_true_eq] at hb
  have hm : ps[i]? = some (ps.getD i 0) := by
    rw [List.getD_eq_getElem?_getD, List.getElem?_eq_getElem (by omega)]
    rfl
  have := hb _ (List.mem_of_getElem? hm)
  omega
theorem law_end {p : Program} {e : Env} {s : State} {m : MethodId} {below : List Frame} {meth : Method} {c : Code} (l : Launch) {b : Nat} {D : va_G} {cy : Nat → ClassId} {N : Nat} {ad : Nat → Nat} {g : Nat → va_E} {H : Heap} {locs : List Loc} {cells slots : Nat} {ls : Array Slot} (hC : CallFix p m c code 4 s #[Value.ref b] lw_tbl RL) (hr : meth.sig.returnType = ret) (hlk : meth.locks = false) (hO : cO D cy (fun q : Nat => s.heap.size ≤ q) s.heap s N ad g H locs) (hce : cells ≤ 600000) (hsl : slots ≤ 7302250) : W p l e room_1 s m #[Value.ref b] below meth c H locs cells slots (lw_Z below #[Value.ref b] s) (F0 m 923 ls []) := by
  obtain ⟨hx, hb, hml, hown, hts⟩ := id hC
  refine lv_iconst (v := 1) hx hb dL_law_923 (by decide) ?_
  refine va_forget (fun q hq => hO.2.2.2.1.2.2 q hq) ?_
  refine W.widen (k := 600000) (n := 7302250) hce hsl ?_
  exact lw_ret hx hb hr hlk dL_law_924
theorem law_tail {p : Program} {e : Env} {s : State} {m : MethodId} {below : List Frame} {meth : Method} {c : Code} (l : Launch) {b : Nat} {xs : Nat → Int32} {D : va_G} {cy : Nat → ClassId} {N : Nat} {ad : Nat → Nat} {g : Nat → va_E} {H : Heap} {locs : List Loc} {cells slots : Nat} {ls : Array Slot} (hC : CallFix p m c code 4 s #[Value.ref b] lw_tbl RL) (hr : meth.sig.returnType = ret) (hlk : meth.locks = false) (hX : va_X b 6 xs s s.heap) (hbl : b < s.heap.size) (hO : cO D cy (fun q : Nat => s.heap.size ≤ q) s.heap s N ad g H locs) (hce : cells ≤ 600000) (hsl : slots ≤ 7302250) (hl : lv_has ls 4 [(0, .ref b), (3, .int 0)]) : W p l e room_1 s m #[Value.ref b] below meth c H locs cells slots (lw_Z below #[Value.ref b] s) (F0 m 917 ls []) := by
  obtain ⟨hx, hb, hml, hown, hts⟩ := id hC
  refine lv_iinc (v := 6) (lv' := [(3, .int 6), (0, .ref b)]) hx hb dL_law_917 hl (k := 1) rfl (by decide) (by decide) rfl (fun ls hl => ?_)
  refine lv_goto (tgt := 18) hx hb dL_law_920 (by decide) ?_
  refine lv_iload_n hx hb dL_law_18 rfl (lv_at hl 0 rfl) ?_
  refine lv_aload_n hx hb dL_law_19 rfl (lv_at hl 1 rfl) ?_
  refine va_slen hx hb hX hbl (Nat.not_le.mpr hbl) hO.2.2.2.1 dL_law_20 ?_
  refine lv_bipush (v := 6) hx hb dL_law_21 (by decide) ?_
  refine lv_isub hx hb dL_law_23 ?_
  refine cg_ev (v := 0) (by decide) ?_
  refine lv_icmp_gt (tgt := 923) hx hb dL_law_24 (by decide) (fun _ => ?_) (fun h => absurd (by decide) h)
  exact law_end l hC hr hlk hO hce hsl
