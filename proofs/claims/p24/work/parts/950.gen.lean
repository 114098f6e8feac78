theorem sc_in {v c : Int32} {L : Nat} (hv : 0 ≤ v.toInt ∧ v.toInt + 6 ≤ L) (hL : L ≤ 3072) (hc : 0 ≤ c.toInt ∧ c.toInt ≤ 5) : vp_in (v + c) L := by
  obtain ⟨z1, z2⟩ := zi_add (e := 0) (f := 3077) (x := v) (y := c) (a := 0) (b := 3072) (c := 0) (d := 5) ⟨hv.1, by omega⟩ hc (by decide)
  unfold vp_in
  rintro (h1 | h1)
  · have := zr_lt h1
    rw [zi_0] at this
    omega
  · have e : (v + c).toNatClampNeg = (v + c).toInt.toNat := rfl
    omega
theorem INV_obj11 {cy : Nat → ClassId} {ad : Nat → Nat} {g : Nat → va_E} (h : INV cy ad g) : ∃ fs, g 0 = .inr (11, fs) := by
  have c0 := cp_0 h
  obtain ⟨x0_1, x0_13, e0, -⟩ := c0
  exact ⟨_, e0⟩
theorem INV_obj12 {cy : Nat → ClassId} {ad : Nat → Nat} {g : Nat → va_E} (h : INV cy ad g) : ∃ fs, g 119 = .inr (12, fs) := by
  have c0 := cp_119 h
  obtain ⟨x119_2, x119_3, x119_4, x119_5, x119_6, x119_7, x119_8, x119_9, w119_10, x119_36, x119_37, x119_38, x119_39, x119_40, x119_56, x119_57, x119_59, x119_60, x119_62, x119_70, x119_71, e0, -⟩ := c0
  exact ⟨_, e0⟩
theorem INV_time {cy : Nat → ClassId} {ad : Nat → Nat} {g : Nat → va_E} (h : INV cy ad g) : ∃ t : Int32, fo (g 101) 8 = some (.int t) := by
  have c0 := cp_101 h
  obtain ⟨x101_7, x101_8, x101_11, x101_13, x101_14, x101_15, e0, -⟩ := c0
  exact ⟨_, by rw [e0]; rfl⟩
theorem law_end {p : Program} {e : Env} {s : State} {m : MethodId} {below : List Frame} {meth : Method} {c : Code} (l : Launch) {b L : Nat} {xs : Nat → Int32} {D : va_G} {cy : Nat → ClassId} {ad : Nat → Nat} {N : Nat} {g : Nat → va_E} {H : Heap} {locs : List Loc} {cells slots : Nat} {ls : Array Slot} (hC : CallFix p m c code 4 s #[Value.ref b] lw_tbl RL) (hr : meth.sig.returnType = ret) (hlk : meth.locks = false) (hO : cO D cy (fun q : Nat => s.heap.size ≤ q) s.heap s N ad g H locs) (hce : cells ≤ 600000) (hsl : slots ≤ 7302250) : W p l e room_1 s m #[Value.ref b] below meth c H locs cells slots (lw_Z below #[Value.ref b] s) (F0 m 923 ls []) := by
  obtain ⟨hx, hb, hml, hown, hts⟩ := id hC
  refine lv_iconst (v := 1) hx hb dL_law_923 (by decide) ?_
  refine va_forget (fun q hq => hO.2.2.2.1.2.2 q hq) ?_
  refine W.widen (k := 600000) (n := 7302250) hce hsl ?_
  exact lw_ret hx hb hr hlk dL_law_924
theorem len_I {L : Nat} (h : L ≤ 3072) : (Int32.ofNat L).toInt = L := zi_ofNat (n := L) (by show L % 2 ^ 32 = L; exact Nat.mod_eq_of_lt (by omega)) (by omega)
theorem len_6 {L : Nat} (h : L ≤ 3072) : (Int32.ofNat L - 6).toInt = L - 6 := by
  obtain ⟨z1, z2⟩ := zi_subk (e := -6) (f := 3066) (x := Int32.ofNat L) (y := 6) (n := 6) (a := 0) (b := 3072) ⟨by rw [len_I h]; omega, by rw [len_I h]; omega⟩ (by decide) (by decide)
  rw [z2, len_I h]
  omega
