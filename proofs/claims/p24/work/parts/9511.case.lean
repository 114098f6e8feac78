set_option maxHeartbeats 8000000 in
set_option maxRecDepth 100000 in
theorem lc_undo {p : Program} {e : Env} {s : State} {m : MethodId} {below : List Frame} {meth : Method} {c : Code} (l : Launch) {b L : Nat} {xs : Nat → Int32} {D : va_G} {cy : Nat → ClassId} {ad : Nat → Nat} {g : Nat → va_E} {H : Heap} {locs : List Loc} {cells slots : Nat} {ls : Array Slot} {v : Int32} (hC : CallFix p m c code 4 s #[Value.ref b] lw_tbl RL) (hX : va_X b L xs s s.heap) (hbl : b < s.heap.size) (hL : L ≤ 3072) (hv : 0 ≤ v.toInt ∧ v.toInt + 6 ≤ L) (hI : INV cy ad g) (hT : TE g) (hO : cO D cy (fun q : Nat => s.heap.size ≤ q) s.heap s 173 ad (cup [] g) H locs) (hce : cells + 0 ≤ 600000) (hsl : slots + 0 ≤ 7302250) (hl : lv_has ls 4 [(0, .ref b), (1, .ref (ad 0)), (2, .ref (ad 119)), (3, .int v)]) (K : ∀ (g1 : Nat → va_E) (H1 : Heap) (locs1 : List Loc), INV cy ad g1 → TE g1 → cO D cy (fun q : Nat => s.heap.size ≤ q) s.heap s 173 ad (cup [] g1) H1 locs1 → W p l e room_1 s m #[Value.ref b] below meth c H1 locs1 cells slots (lw_Z below #[Value.ref b] s) (F0 m 917 ls [])) : W p l e room_1 s m #[Value.ref b] below meth c H locs cells slots (lw_Z below #[Value.ref b] s) (F0 m 522 ls []) := by
  obtain ⟨hx, hb, hml, hown, hts⟩ := id hC
  refine lv_aload_n hx hb dL_law_522 rfl (lv_at hl 1 rfl) ?_
  obtain ⟨post0, hM0, hP0⟩ := sm_X11_undo (D := D) l  hI
  have hR0 : ∃ fs, g 0 = .inr (11, fs) := INV_obj11 hI
  obtain ⟨fs0, hE0⟩ := hR0
  refine cg_Vi (As := []) (rest := []) (mc := 0) (ms := 0) (rm := { frames := 4, cells := 0, slots := 0, locals := 106 }) hC hl.1 hO [0, 55, 38, 56, 57, 58, 41, 62, 21, 35, 59, 66, 24, 25, 28, 29, 30, 31, 36, 37, 39, 40, 60, 61, 67, 68, 69, 70, 71, 72, 73, 63, 64, 65] (by decide +kernel) hM0 gL_k_X11_undo rfl rfl rfl 0 (by decide +kernel) ⟨Nat.le_of_ble_eq_true rfl, Nat.le_of_ble_eq_true rfl⟩ rfl (by decide) hE0 rfl rfl (Nat.le_of_ble_eq_true rfl) dL_law_523 ⟨hce, hsl⟩ (fun r0 nw0 l0 H locs hw hO => ?_)
  obtain ⟨hI, hK0⟩ := hP0 _ _ _ hw
  have hT := hK0.te hT
  obtain ⟨g0, hg0⟩ : ∃ z : Nat → va_E, z = cup (cmrg 173 34 [0, 55, 38, 56, 57, 58, 41, 62, 21, 35, 59, 66, 24, 25, 28, 29, 30, 31, 36, 37, 39, 40, 60, 61, 67, 68, 69, 70, 71, 72, 73, 63, 64, 65] l0 []) g := ⟨_, rfl⟩
  rw [← hg0] at hI hO hT
  have hO : cO D cy (fun q : Nat => s.heap.size ≤ q) s.heap s 173 ad (cup [] g0) H locs := hO
  clear hg0 hK0 hw hP0 hM0 hE0
  refine lv_pop hx hb dL_law_526 rfl ?_
  refine lv_aload_n hx hb dL_law_527 rfl (lv_at hl 2 rfl) ?_
  obtain ⟨post1, hM1, hP1⟩ := sm_X12_undo (D := D) l  hI
  have hR1 : ∃ fs, g0 119 = .inr (12, fs) := INV_obj12 hI
  obtain ⟨fs1, hE1⟩ := hR1
  refine cg_Vi (As := []) (rest := []) (mc := 0) (ms := 0) (rm := { frames := 1, cells := 0, slots := 0, locals := 22 }) hC hl.1 hO [119, 147, 162] (by decide +kernel) hM1 gL_k_X12_undo rfl rfl rfl 0 (by decide +kernel) ⟨Nat.le_of_ble_eq_true rfl, Nat.le_of_ble_eq_true rfl⟩ rfl (by decide) hE1 rfl rfl (Nat.le_of_ble_eq_true rfl) dL_law_528 ⟨hce, hsl⟩ (fun r1 nw1 l1 H locs hw hO => ?_)
  obtain ⟨hI, hK1⟩ := hP1 _ _ _ hw
  have hT := hK1.te hT
  obtain ⟨g1, hg1⟩ : ∃ z : Nat → va_E, z = cup (cmrg 173 3 [119, 147, 162] l1 []) g0 := ⟨_, rfl⟩
  rw [← hg1] at hI hO hT
  have hO : cO D cy (fun q : Nat => s.heap.size ≤ q) s.heap s 173 ad (cup [] g1) H locs := hO
  refine lv_pop hx hb dL_law_531 rfl ?_
  refine lv_goto (tgt := 917) hx hb dL_law_532 (by decide) ?_
  exact K _ _ _ hI hT hO

set_option maxHeartbeats 8000000 in
set_option maxRecDepth 100000 in
theorem lc_redo {p : Program} {e : Env} {s : State} {m : MethodId} {below : List Frame} {meth : Method} {c : Code} (l : Launch) {b L : Nat} {xs : Nat → Int32} {D : va_G} {cy : Nat → ClassId} {ad : Nat → Nat} {g : Nat → va_E} {H : Heap} {locs : List Loc} {cells slots : Nat} {ls : Array Slot} {v : Int32} (hC : CallFix p m c code 4 s #[Value.ref b] lw_tbl RL) (hX : va_X b L xs s s.heap) (hbl : b < s.heap.size) (hL : L ≤ 3072) (hv : 0 ≤ v.toInt ∧ v.toInt + 6 ≤ L) (hI : INV cy ad g) (hT : TE g) (hO : cO D cy (fun q : Nat => s.heap.size ≤ q) s.heap s 173 ad (cup [] g) H locs) (hce : cells + 0 ≤ 600000) (hsl : slots + 0 ≤ 7302250) (hl : lv_has ls 4 [(0, .ref b), (1, .ref (ad 0)), (2, .ref (ad 119)), (3, .int v)]) (K : ∀ (g1 : Nat → va_E) (H1 : Heap) (locs1 : List Loc), INV cy ad g1 → TE g1 → cO D cy (fun q : Nat => s.heap.size ≤ q) s.heap s 173 ad (cup [] g1) H1 locs1 → W p l e room_1 s m #[Value.ref b] below meth c H1 locs1 cells slots (lw_Z below #[Value.ref b] s) (F0 m 917 ls [])) : W p l e room_1 s m #[Value.ref b] below meth c H locs cells slots (lw_Z below #[Value.ref b] s) (F0 m 535 ls []) := by
  obtain ⟨hx, hb, hml, hown, hts⟩ := id hC
  refine lv_aload_n hx hb dL_law_535 rfl (lv_at hl 1 rfl) ?_
  obtain ⟨post0, hM0, hP0⟩ := sm_X11_redo (D := D) l  hI
  have hR0 : ∃ fs, g 0 = .inr (11, fs) := INV_obj11 hI
  obtain ⟨fs0, hE0⟩ := hR0
  refine cg_Vi (As := []) (rest := []) (mc := 0) (ms := 0) (rm := { frames := 4, cells := 0, slots := 0, locals := 106 }) hC hl.1 hO [0, 55, 38, 56, 57, 58, 39, 40, 41, 62, 21, 35, 59, 66, 24, 25, 28, 29, 30, 31, 36, 37, 60, 61, 67, 68, 69, 70, 71, 72, 73, 63, 64, 65] (by decide +kernel) hM0 gL_k_X11_redo rfl rfl rfl 0 (by decide +kernel) ⟨Nat.le_of_ble_eq_true rfl, Nat.le_of_ble_eq_true rfl⟩ rfl (by decide) hE0 rfl rfl (Nat.le_of_ble_eq_true rfl) dL_law_536 ⟨hce, hsl⟩ (fun r0 nw0 l0 H locs hw hO => ?_)
  obtain ⟨hI, hK0⟩ := hP0 _ _ _ hw
  have hT := hK0.te hT
  obtain ⟨g0, hg0⟩ : ∃ z : Nat → va_E, z = cup (cmrg 173 34 [0, 55, 38, 56, 57, 58, 39, 40, 41, 62, 21, 35, 59, 66, 24, 25, 28, 29, 30, 31, 36, 37, 60, 61, 67, 68, 69, 70, 71, 72, 73, 63, 64, 65] l0 []) g := ⟨_, rfl⟩
  rw [← hg0] at hI hO hT
  have hO : cO D cy (fun q : Nat => s.heap.size ≤ q) s.heap s 173 ad (cup [] g0) H locs := hO
  clear hg0 hK0 hw hP0 hM0 hE0
  refine lv_pop hx hb dL_law_539 rfl ?_
  refine lv_aload_n hx hb dL_law_540 rfl (lv_at hl 2 rfl) ?_
  obtain ⟨post1, hM1, hP1⟩ := sm_X12_redo (D := D) l  hI
  have hR1 : ∃ fs, g0 119 = .inr (12, fs) := INV_obj12 hI
  obtain ⟨fs1, hE1⟩ := hR1
  refine cg_Vi (As := []) (rest := []) (mc := 0) (ms := 0) (rm := { frames := 1, cells := 0, slots := 0, locals := 22 }) hC hl.1 hO [119, 147, 162] (by decide +kernel) hM1 gL_k_X12_redo rfl rfl rfl 0 (by decide +kernel) ⟨Nat.le_of_ble_eq_true rfl, Nat.le_of_ble_eq_true rfl⟩ rfl (by decide) hE1 rfl rfl (Nat.le_of_ble_eq_true rfl) dL_law_541 ⟨hce, hsl⟩ (fun r1 nw1 l1 H locs hw hO => ?_)
  obtain ⟨hI, hK1⟩ := hP1 _ _ _ hw
  have hT := hK1.te hT
  obtain ⟨g1, hg1⟩ : ∃ z : Nat → va_E, z = cup (cmrg 173 3 [119, 147, 162] l1 []) g0 := ⟨_, rfl⟩
  rw [← hg1] at hI hO hT
  have hO : cO D cy (fun q : Nat => s.heap.size ≤ q) s.heap s 173 ad (cup [] g1) H locs := hO
  refine lv_pop hx hb dL_law_544 rfl ?_
  refine lv_goto (tgt := 917) hx hb dL_law_545 (by decide) ?_
  exact K _ _ _ hI hT hO

set_option maxHeartbeats 8000000 in
set_option maxRecDepth 100000 in
theorem lc_party {p : Program} {e : Env} {s : State} {m : MethodId} {below : List Frame} {meth : Method} {c : Code} (l : Launch) {b L : Nat} {xs : Nat → Int32} {D : va_G} {cy : Nat → ClassId} {ad : Nat → Nat} {g : Nat → va_E} {H : Heap} {locs : List Loc} {cells slots : Nat} {ls : Array Slot} {v : Int32} (hC : CallFix p m c code 4 s #[Value.ref b] lw_tbl RL) (hX : va_X b L xs s s.heap) (hbl : b < s.heap.size) (hL : L ≤ 3072) (hv : 0 ≤ v.toInt ∧ v.toInt + 6 ≤ L) (hI : INV cy ad g) (hT : TE g) (hO : cO D cy (fun q : Nat => s.heap.size ≤ q) s.heap s 173 ad (cup [] g) H locs) (hce : cells + 0 ≤ 600000) (hsl : slots + 0 ≤ 7302250) (hl : lv_has ls 4 [(0, .ref b), (1, .ref (ad 0)), (2, .ref (ad 119)), (3, .int v)]) (K : ∀ (g1 : Nat → va_E) (H1 : Heap) (locs1 : List Loc), INV cy ad g1 → TE g1 → cO D cy (fun q : Nat => s.heap.size ≤ q) s.heap s 173 ad (cup [] g1) H1 locs1 → W p l e room_1 s m #[Value.ref b] below meth c H1 locs1 cells slots (lw_Z below #[Value.ref b] s) (F0 m 917 ls [])) : W p l e room_1 s m #[Value.ref b] below meth c H locs cells slots (lw_Z below #[Value.ref b] s) (F0 m 548 ls []) := by
  obtain ⟨hx, hb, hml, hown, hts⟩ := id hC
  refine lv_aload_n hx hb dL_law_548 rfl (lv_at hl 1 rfl) ?_
  refine lv_aload_n hx hb dL_law_549 rfl (lv_at hl 0 rfl) ?_
  refine lv_iload_n hx hb dL_law_550 rfl (lv_at hl 3 rfl) ?_
  refine lv_iconst (v := 1) hx hb dL_law_551 (by decide) ?_
  refine lv_iadd hx hb dL_law_552 ?_
  refine va_sld hx hb hX hbl (Nat.not_le.mpr hbl) hO.2.2.2.1 (sc_in hv hL (c := 1) (by decide)) dL_law_553 ?_
  refine lv_topi (fun a553_1 ea553_1 => ?_)
  refine lv_aload_n hx hb dL_law_554 rfl (lv_at hl 0 rfl) ?_
  refine lv_iload_n hx hb dL_law_555 rfl (lv_at hl 3 rfl) ?_
  refine lv_iconst (v := 2) hx hb dL_law_556 (by decide) ?_
  refine lv_iadd hx hb dL_law_557 ?_
  refine va_sld hx hb hX hbl (Nat.not_le.mpr hbl) hO.2.2.2.1 (sc_in hv hL (c := 2) (by decide)) dL_law_558 ?_
  refine lv_topi (fun a558_2 ea558_2 => ?_)
  refine lv_aload_n hx hb dL_law_559 rfl (lv_at hl 0 rfl) ?_
  refine lv_iload_n hx hb dL_law_560 rfl (lv_at hl 3 rfl) ?_
  refine lv_iconst (v := 3) hx hb dL_law_561 (by decide) ?_
  refine lv_iadd hx hb dL_law_562 ?_
  refine va_sld hx hb hX hbl (Nat.not_le.mpr hbl) hO.2.2.2.1 (sc_in hv hL (c := 3) (by decide)) dL_law_563 ?_
  refine lv_topi (fun a563_3 ea563_3 => ?_)
  refine lv_aload_n hx hb dL_law_564 rfl (lv_at hl 0 rfl) ?_
  refine lv_iload_n hx hb dL_law_565 rfl (lv_at hl 3 rfl) ?_
  refine lv_iconst (v := 4) hx hb dL_law_566 (by decide) ?_
  refine lv_iadd hx hb dL_law_567 ?_
  refine va_sld hx hb hX hbl (Nat.not_le.mpr hbl) hO.2.2.2.1 (sc_in hv hL (c := 4) (by decide)) dL_law_568 ?_
  refine lv_topi (fun a568_4 ea568_4 => ?_)
  refine lv_aload_n hx hb dL_law_569 rfl (lv_at hl 0 rfl) ?_
  refine lv_iload_n hx hb dL_law_570 rfl (lv_at hl 3 rfl) ?_
  refine lv_iconst (v := 5) hx hb dL_law_571 (by decide) ?_
  refine lv_iadd hx hb dL_law_572 ?_
  refine va_sld hx hb hX hbl (Nat.not_le.mpr hbl) hO.2.2.2.1 (sc_in hv hL (c := 5) (by decide)) dL_law_573 ?_
  refine lv_topi (fun a573_5 ea573_5 => ?_)
  obtain ⟨post0, hM0, hP0⟩ := sm_X11_party (D := D) l a553_1 a558_2 a563_3 a568_4 a573_5 hI
  have hR0 : ∃ fs, g 0 = .inr (11, fs) := INV_obj11 hI
  obtain ⟨fs0, hE0⟩ := hR0
  refine cg_Vi (As := [.int a553_1, .int a558_2, .int a563_3, .int a568_4, .int a573_5]) (rest := []) (mc := 0) (ms := 0) (rm := { frames := 5, cells := 0, slots := 0, locals := 129 }) hC hl.1 hO [0, 38, 74, 21, 35, 59, 80, 24, 25, 28, 29, 30, 31, 36, 37, 39, 41, 60, 61, 81, 82, 83, 84, 85, 86, 87, 75, 78, 118] (by decide +kernel) hM0 gL_k_X11_party rfl rfl rfl 5 (by decide +kernel) ⟨Nat.le_of_ble_eq_true rfl, Nat.le_of_ble_eq_true rfl⟩ rfl (by decide) hE0 rfl rfl (Nat.le_of_ble_eq_true rfl) dL_law_574 ⟨hce, hsl⟩ (fun r0 nw0 l0 H locs hw hO => ?_)
  obtain ⟨hI, hK0⟩ := hP0 _ _ _ hw
  have hT := hK0.te hT
  obtain ⟨g0, hg0⟩ : ∃ z : Nat → va_E, z = cup (cmrg 173 29 [0, 38, 74, 21, 35, 59, 80, 24, 25, 28, 29, 30, 31, 36, 37, 39, 41, 60, 61, 81, 82, 83, 84, 85, 86, 87, 75, 78, 118] l0 []) g := ⟨_, rfl⟩
  rw [← hg0] at hI hO hT
  have hO : cO D cy (fun q : Nat => s.heap.size ≤ q) s.heap s 173 ad (cup [] g0) H locs := hO
  clear hg0 hK0 hw hP0 hM0 hE0
  refine lv_pop hx hb dL_law_577 rfl ?_
  refine lv_aload_n hx hb dL_law_578 rfl (lv_at hl 2 rfl) ?_
  refine lv_aload_n hx hb dL_law_579 rfl (lv_at hl 0 rfl) ?_
  refine lv_iload_n hx hb dL_law_580 rfl (lv_at hl 3 rfl) ?_
  refine lv_iconst (v := 1) hx hb dL_law_581 (by decide) ?_
  refine lv_iadd hx hb dL_law_582 ?_
  refine va_sld hx hb hX hbl (Nat.not_le.mpr hbl) hO.2.2.2.1 (sc_in hv hL (c := 1) (by decide)) dL_law_583 ?_
  refine lv_topi (fun a583_1 ea583_1 => ?_)
  refine lv_aload_n hx hb dL_law_584 rfl (lv_at hl 0 rfl) ?_
  refine lv_iload_n hx hb dL_law_585 rfl (lv_at hl 3 rfl) ?_
  refine lv_iconst (v := 2) hx hb dL_law_586 (by decide) ?_
  refine lv_iadd hx hb dL_law_587 ?_
  refine va_sld hx hb hX hbl (Nat.not_le.mpr hbl) hO.2.2.2.1 (sc_in hv hL (c := 2) (by decide)) dL_law_588 ?_
  refine lv_topi (fun a588_2 ea588_2 => ?_)
  refine lv_aload_n hx hb dL_law_589 rfl (lv_at hl 0 rfl) ?_
  refine lv_iload_n hx hb dL_law_590 rfl (lv_at hl 3 rfl) ?_
  refine lv_iconst (v := 3) hx hb dL_law_591 (by decide) ?_
  refine lv_iadd hx hb dL_law_592 ?_
  refine va_sld hx hb hX hbl (Nat.not_le.mpr hbl) hO.2.2.2.1 (sc_in hv hL (c := 3) (by decide)) dL_law_593 ?_
  refine lv_topi (fun a593_3 ea593_3 => ?_)
  refine lv_aload_n hx hb dL_law_594 rfl (lv_at hl 0 rfl) ?_
  refine lv_iload_n hx hb dL_law_595 rfl (lv_at hl 3 rfl) ?_
  refine lv_iconst (v := 4) hx hb dL_law_596 (by decide) ?_
  refine lv_iadd hx hb dL_law_597 ?_
  refine va_sld hx hb hX hbl (Nat.not_le.mpr hbl) hO.2.2.2.1 (sc_in hv hL (c := 4) (by decide)) dL_law_598 ?_
  refine lv_topi (fun a598_4 ea598_4 => ?_)
  refine lv_aload_n hx hb dL_law_599 rfl (lv_at hl 0 rfl) ?_
  refine lv_iload_n hx hb dL_law_600 rfl (lv_at hl 3 rfl) ?_
  refine lv_iconst (v := 5) hx hb dL_law_601 (by decide) ?_
  refine lv_iadd hx hb dL_law_602 ?_
  refine va_sld hx hb hX hbl (Nat.not_le.mpr hbl) hO.2.2.2.1 (sc_in hv hL (c := 5) (by decide)) dL_law_603 ?_
  refine lv_topi (fun a603_5 ea603_5 => ?_)
  obtain ⟨post1, hM1, hP1⟩ := sm_X12_party (D := D) l a583_1 a588_2 a593_3 a598_4 a603_5 hI
  have hR1 : ∃ fs, g0 119 = .inr (12, fs) := INV_obj12 hI
  obtain ⟨fs1, hE1⟩ := hR1
  refine cg_Vi (As := [.int a583_1, .int a588_2, .int a593_3, .int a598_4, .int a603_5]) (rest := []) (mc := 0) (ms := 0) (rm := { frames := 5, cells := 0, slots := 0, locals := 127 }) hC hl.1 hO [119, 147, 123, 127, 128, 130, 131, 132, 133, 136, 138, 142, 143, 146, 148, 149, 150, 151, 152, 153, 154, 155, 156, 157, 158, 159, 160, 161, 163] (by decide +kernel) hM1 gL_k_X12_party rfl rfl rfl 5 (by decide +kernel) ⟨Nat.le_of_ble_eq_true rfl, Nat.le_of_ble_eq_true rfl⟩ rfl (by decide) hE1 rfl rfl (Nat.le_of_ble_eq_true rfl) dL_law_604 ⟨hce, hsl⟩ (fun r1 nw1 l1 H locs hw hO => ?_)
  obtain ⟨hI, hK1⟩ := hP1 _ _ _ hw
  have hT := hK1.te hT
  obtain ⟨g1, hg1⟩ : ∃ z : Nat → va_E, z = cup (cmrg 173 29 [119, 147, 123, 127, 128, 130, 131, 132, 133, 136, 138, 142, 143, 146, 148, 149, 150, 151, 152, 153, 154, 155, 156, 157, 158, 159, 160, 161, 163] l1 []) g0 := ⟨_, rfl⟩
  rw [← hg1] at hI hO hT
  have hO : cO D cy (fun q : Nat => s.heap.size ≤ q) s.heap s 173 ad (cup [] g1) H locs := hO
  refine lv_pop hx hb dL_law_607 rfl ?_
  refine lv_goto (tgt := 917) hx hb dL_law_608 (by decide) ?_
  exact K _ _ _ hI hT hO

set_option maxHeartbeats 8000000 in
set_option maxRecDepth 100000 in
theorem lc_heaps {p : Program} {e : Env} {s : State} {m : MethodId} {below : List Frame} {meth : Method} {c : Code} (l : Launch) {b L : Nat} {xs : Nat → Int32} {D : va_G} {cy : Nat → ClassId} {ad : Nat → Nat} {g : Nat → va_E} {H : Heap} {locs : List Loc} {cells slots : Nat} {ls : Array Slot} {v : Int32} (hC : CallFix p m c code 4 s #[Value.ref b] lw_tbl RL) (hX : va_X b L xs s s.heap) (hbl : b < s.heap.size) (hL : L ≤ 3072) (hv : 0 ≤ v.toInt ∧ v.toInt + 6 ≤ L) (hI : INV cy ad g) (hT : TE g) (hO : cO D cy (fun q : Nat => s.heap.size ≤ q) s.heap s 173 ad (cup [] g) H locs) (hce : cells + 0 ≤ 600000) (hsl : slots + 0 ≤ 7302250) (hl : lv_has ls 4 [(0, .ref b), (1, .ref (ad 0)), (2, .ref (ad 119)), (3, .int v)]) (K : ∀ (g1 : Nat → va_E) (H1 : Heap) (locs1 : List Loc), INV cy ad g1 → TE g1 → cO D cy (fun q : Nat => s.heap.size ≤ q) s.heap s 173 ad (cup [] g1) H1 locs1 → W p l e room_1 s m #[Value.ref b] below meth c H1 locs1 cells slots (lw_Z below #[Value.ref b] s) (F0 m 917 ls [])) : W p l e room_1 s m #[Value.ref b] below meth c H locs cells slots (lw_Z below #[Value.ref b] s) (F0 m 611 ls []) := by
  obtain ⟨hx, hb, hml, hown, hts⟩ := id hC
  refine lv_aload_n hx hb dL_law_611 rfl (lv_at hl 1 rfl) ?_
  refine lv_aload_n hx hb dL_law_612 rfl (lv_at hl 0 rfl) ?_
  refine lv_iload_n hx hb dL_law_613 rfl (lv_at hl 3 rfl) ?_
  refine lv_iconst (v := 1) hx hb dL_law_614 (by decide) ?_
  refine lv_iadd hx hb dL_law_615 ?_
  refine va_sld hx hb hX hbl (Nat.not_le.mpr hbl) hO.2.2.2.1 (sc_in hv hL (c := 1) (by decide)) dL_law_616 ?_
  refine lv_topi (fun a616_1 ea616_1 => ?_)
  refine lv_aload_n hx hb dL_law_617 rfl (lv_at hl 0 rfl) ?_
  refine lv_iload_n hx hb dL_law_618 rfl (lv_at hl 3 rfl) ?_
  refine lv_iconst (v := 2) hx hb dL_law_619 (by decide) ?_
  refine lv_iadd hx hb dL_law_620 ?_
  refine va_sld hx hb hX hbl (Nat.not_le.mpr hbl) hO.2.2.2.1 (sc_in hv hL (c := 2) (by decide)) dL_law_621 ?_
  refine lv_topi (fun a621_2 ea621_2 => ?_)
  refine lv_aload_n hx hb dL_law_622 rfl (lv_at hl 0 rfl) ?_
  refine lv_iload_n hx hb dL_law_623 rfl (lv_at hl 3 rfl) ?_
  refine lv_iconst (v := 3) hx hb dL_law_624 (by decide) ?_
  refine lv_iadd hx hb dL_law_625 ?_
  refine va_sld hx hb hX hbl (Nat.not_le.mpr hbl) hO.2.2.2.1 (sc_in hv hL (c := 3) (by decide)) dL_law_626 ?_
  refine lv_topi (fun a626_3 ea626_3 => ?_)
  obtain ⟨post0, hM0, hP0⟩ := sm_X11_heaps (D := D) l a616_1 a621_2 a626_3 hI
  have hR0 : ∃ fs, g 0 = .inr (11, fs) := INV_obj11 hI
  obtain ⟨fs0, hE0⟩ := hR0
  refine cg_Vi (As := [.int a616_1, .int a621_2, .int a626_3]) (rest := []) (mc := 0) (ms := 0) (rm := { frames := 5, cells := 0, slots := 0, locals := 126 }) hC hl.1 hO [0, 38, 74, 21, 35, 59, 80, 24, 25, 28, 29, 30, 31, 36, 37, 39, 41, 60, 61, 81, 82, 83, 84, 85, 86, 87, 75] (by decide +kernel) hM0 gL_k_X11_heaps rfl rfl rfl 3 (by decide +kernel) ⟨Nat.le_of_ble_eq_true rfl, Nat.le_of_ble_eq_true rfl⟩ rfl (by decide) hE0 rfl rfl (Nat.le_of_ble_eq_true rfl) dL_law_627 ⟨hce, hsl⟩ (fun r0 nw0 l0 H locs hw hO => ?_)
  obtain ⟨hI, hK0⟩ := hP0 _ _ _ hw
  have hT := hK0.te hT
  obtain ⟨g0, hg0⟩ : ∃ z : Nat → va_E, z = cup (cmrg 173 27 [0, 38, 74, 21, 35, 59, 80, 24, 25, 28, 29, 30, 31, 36, 37, 39, 41, 60, 61, 81, 82, 83, 84, 85, 86, 87, 75] l0 []) g := ⟨_, rfl⟩
  rw [← hg0] at hI hO hT
  have hO : cO D cy (fun q : Nat => s.heap.size ≤ q) s.heap s 173 ad (cup [] g0) H locs := hO
  clear hg0 hK0 hw hP0 hM0 hE0
  refine lv_pop hx hb dL_law_630 rfl ?_
  refine lv_aload_n hx hb dL_law_631 rfl (lv_at hl 2 rfl) ?_
  refine lv_aload_n hx hb dL_law_632 rfl (lv_at hl 0 rfl) ?_
  refine lv_iload_n hx hb dL_law_633 rfl (lv_at hl 3 rfl) ?_
  refine lv_iconst (v := 1) hx hb dL_law_634 (by decide) ?_
  refine lv_iadd hx hb dL_law_635 ?_
  refine va_sld hx hb hX hbl (Nat.not_le.mpr hbl) hO.2.2.2.1 (sc_in hv hL (c := 1) (by decide)) dL_law_636 ?_
  refine lv_topi (fun a636_1 ea636_1 => ?_)
  refine lv_aload_n hx hb dL_law_637 rfl (lv_at hl 0 rfl) ?_
  refine lv_iload_n hx hb dL_law_638 rfl (lv_at hl 3 rfl) ?_
  refine lv_iconst (v := 2) hx hb dL_law_639 (by decide) ?_
  refine lv_iadd hx hb dL_law_640 ?_
  refine va_sld hx hb hX hbl (Nat.not_le.mpr hbl) hO.2.2.2.1 (sc_in hv hL (c := 2) (by decide)) dL_law_641 ?_
  refine lv_topi (fun a641_2 ea641_2 => ?_)
  refine lv_aload_n hx hb dL_law_642 rfl (lv_at hl 0 rfl) ?_
  refine lv_iload_n hx hb dL_law_643 rfl (lv_at hl 3 rfl) ?_
  refine lv_iconst (v := 3) hx hb dL_law_644 (by decide) ?_
  refine lv_iadd hx hb dL_law_645 ?_
  refine va_sld hx hb hX hbl (Nat.not_le.mpr hbl) hO.2.2.2.1 (sc_in hv hL (c := 3) (by decide)) dL_law_646 ?_
  refine lv_topi (fun a646_3 ea646_3 => ?_)
  obtain ⟨post1, hM1, hP1⟩ := sm_X12_heaps (D := D) l a636_1 a641_2 a646_3 hI
  have hR1 : ∃ fs, g0 119 = .inr (12, fs) := INV_obj12 hI
  obtain ⟨fs1, hE1⟩ := hR1
  refine cg_Vi (As := [.int a636_1, .int a641_2, .int a646_3]) (rest := []) (mc := 0) (ms := 0) (rm := { frames := 4, cells := 0, slots := 0, locals := 97 }) hC hl.1 hO [119, 147, 123, 132, 133, 148, 149, 150, 151, 152, 160, 127, 128, 130, 131, 136, 138, 142, 143, 146, 153, 154, 155, 156, 157, 158, 159, 161] (by decide +kernel) hM1 gL_k_X12_heaps rfl rfl rfl 3 (by decide +kernel) ⟨Nat.le_of_ble_eq_true rfl, Nat.le_of_ble_eq_true rfl⟩ rfl (by decide) hE1 rfl rfl (Nat.le_of_ble_eq_true rfl) dL_law_647 ⟨hce, hsl⟩ (fun r1 nw1 l1 H locs hw hO => ?_)
  obtain ⟨hI, hK1⟩ := hP1 _ _ _ hw
  have hT := hK1.te hT
  obtain ⟨g1, hg1⟩ : ∃ z : Nat → va_E, z = cup (cmrg 173 28 [119, 147, 123, 132, 133, 148, 149, 150, 151, 152, 160, 127, 128, 130, 131, 136, 138, 142, 143, 146, 153, 154, 155, 156, 157, 158, 159, 161] l1 []) g0 := ⟨_, rfl⟩
  rw [← hg1] at hI hO hT
  have hO : cO D cy (fun q : Nat => s.heap.size ≤ q) s.heap s 173 ad (cup [] g1) H locs := hO
  refine lv_pop hx hb dL_law_650 rfl ?_
  refine lv_goto (tgt := 917) hx hb dL_law_651 (by decide) ?_
  exact K _ _ _ hI hT hO

set_option maxHeartbeats 8000000 in
set_option maxRecDepth 100000 in
theorem lc_rest {p : Program} {e : Env} {s : State} {m : MethodId} {below : List Frame} {meth : Method} {c : Code} (l : Launch) {b L : Nat} {xs : Nat → Int32} {D : va_G} {cy : Nat → ClassId} {ad : Nat → Nat} {g : Nat → va_E} {H : Heap} {locs : List Loc} {cells slots : Nat} {ls : Array Slot} {v : Int32} (hC : CallFix p m c code 4 s #[Value.ref b] lw_tbl RL) (hX : va_X b L xs s s.heap) (hbl : b < s.heap.size) (hL : L ≤ 3072) (hv : 0 ≤ v.toInt ∧ v.toInt + 6 ≤ L) (hI : INV cy ad g) (hT : TE g) (hO : cO D cy (fun q : Nat => s.heap.size ≤ q) s.heap s 173 ad (cup [] g) H locs) (hce : cells + 0 ≤ 600000) (hsl : slots + 0 ≤ 7302250) (hl : lv_has ls 4 [(0, .ref b), (1, .ref (ad 0)), (2, .ref (ad 119)), (3, .int v)]) (K : ∀ (g1 : Nat → va_E) (H1 : Heap) (locs1 : List Loc), INV cy ad g1 → TE g1 → cO D cy (fun q : Nat => s.heap.size ≤ q) s.heap s 173 ad (cup [] g1) H1 locs1 → W p l e room_1 s m #[Value.ref b] below meth c H1 locs1 cells slots (lw_Z below #[Value.ref b] s) (F0 m 917 ls [])) : W p l e room_1 s m #[Value.ref b] below meth c H locs cells slots (lw_Z below #[Value.ref b] s) (F0 m 654 ls []) := by
  obtain ⟨hx, hb, hml, hown, hts⟩ := id hC
  refine lv_aload_n hx hb dL_law_654 rfl (lv_at hl 1 rfl) ?_
  obtain ⟨post0, hM0, hP0⟩ := sm_X11_rest (D := D) l  hI
  have hR0 : ∃ fs, g 0 = .inr (11, fs) := INV_obj11 hI
  obtain ⟨fs0, hE0⟩ := hR0
  refine cg_Vi (As := []) (rest := []) (mc := 0) (ms := 0) (rm := { frames := 7, cells := 0, slots := 0, locals := 168 }) hC hl.1 hO [0, 74, 21, 35, 38, 59, 80, 24, 25, 28, 29, 30, 31, 36, 37, 39, 40, 41, 60, 61, 81, 82, 83, 84, 85, 86, 87, 75, 76, 77, 79, 118] (by decide +kernel) hM0 gL_k_X11_rest rfl rfl rfl 0 (by decide +kernel) ⟨Nat.le_of_ble_eq_true rfl, Nat.le_of_ble_eq_true rfl⟩ rfl (by decide) hE0 rfl rfl (Nat.le_of_ble_eq_true rfl) dL_law_655 ⟨hce, hsl⟩ (fun r0 nw0 l0 H locs hw hO => ?_)
  obtain ⟨hI, hK0⟩ := hP0 _ _ _ hw
  have hT := hK0.te hT
  obtain ⟨g0, hg0⟩ : ∃ z : Nat → va_E, z = cup (cmrg 173 32 [0, 74, 21, 35, 38, 59, 80, 24, 25, 28, 29, 30, 31, 36, 37, 39, 40, 41, 60, 61, 81, 82, 83, 84, 85, 86, 87, 75, 76, 77, 79, 118] l0 []) g := ⟨_, rfl⟩
  rw [← hg0] at hI hO hT
  have hO : cO D cy (fun q : Nat => s.heap.size ≤ q) s.heap s 173 ad (cup [] g0) H locs := hO
  clear hg0 hK0 hw hP0 hM0 hE0
  refine lv_pop hx hb dL_law_658 rfl ?_
  refine lv_aload_n hx hb dL_law_659 rfl (lv_at hl 2 rfl) ?_
  obtain ⟨post1, hM1, hP1⟩ := sm_X12_rest (D := D) l  hI
  have hR1 : ∃ fs, g0 119 = .inr (12, fs) := INV_obj12 hI
  obtain ⟨fs1, hE1⟩ := hR1
  refine cg_Vi (As := []) (rest := []) (mc := 0) (ms := 0) (rm := { frames := 6, cells := 0, slots := 0, locals := 145 }) hC hl.1 hO [119, 147, 164, 123, 127, 128, 130, 131, 132, 133, 136, 138, 142, 143, 146, 148, 149, 150, 151, 152, 153, 154, 155, 156, 157, 158, 159, 160, 161, 163] (by decide +kernel) hM1 gL_k_X12_rest rfl rfl rfl 0 (by decide +kernel) ⟨Nat.le_of_ble_eq_true rfl, Nat.le_of_ble_eq_true rfl⟩ rfl (by decide) hE1 rfl rfl (Nat.le_of_ble_eq_true rfl) dL_law_660 ⟨hce, hsl⟩ (fun r1 nw1 l1 H locs hw hO => ?_)
  obtain ⟨hI, hK1⟩ := hP1 _ _ _ hw
  have hT := hK1.te hT
  obtain ⟨g1, hg1⟩ : ∃ z : Nat → va_E, z = cup (cmrg 173 30 [119, 147, 164, 123, 127, 128, 130, 131, 132, 133, 136, 138, 142, 143, 146, 148, 149, 150, 151, 152, 153, 154, 155, 156, 157, 158, 159, 160, 161, 163] l1 []) g0 := ⟨_, rfl⟩
  rw [← hg1] at hI hO hT
  have hO : cO D cy (fun q : Nat => s.heap.size ≤ q) s.heap s 173 ad (cup [] g1) H locs := hO
  refine lv_pop hx hb dL_law_663 rfl ?_
  refine lv_goto (tgt := 917) hx hb dL_law_664 (by decide) ?_
  exact K _ _ _ hI hT hO

set_option maxHeartbeats 8000000 in
set_option maxRecDepth 100000 in
theorem lc_teach {p : Program} {e : Env} {s : State} {m : MethodId} {below : List Frame} {meth : Method} {c : Code} (l : Launch) {b L : Nat} {xs : Nat → Int32} {D : va_G} {cy : Nat → ClassId} {ad : Nat → Nat} {g : Nat → va_E} {H : Heap} {locs : List Loc} {cells slots : Nat} {ls : Array Slot} {v : Int32} (hC : CallFix p m c code 4 s #[Value.ref b] lw_tbl RL) (hX : va_X b L xs s s.heap) (hbl : b < s.heap.size) (hL : L ≤ 3072) (hv : 0 ≤ v.toInt ∧ v.toInt + 6 ≤ L) (hI : INV cy ad g) (hT : TE g) (hO : cO D cy (fun q : Nat => s.heap.size ≤ q) s.heap s 173 ad (cup [] g) H locs) (hce : cells + 0 ≤ 600000) (hsl : slots + 0 ≤ 7302250) (hl : lv_has ls 4 [(0, .ref b), (1, .ref (ad 0)), (2, .ref (ad 119)), (3, .int v)]) (K : ∀ (g1 : Nat → va_E) (H1 : Heap) (locs1 : List Loc), INV cy ad g1 → TE g1 → cO D cy (fun q : Nat => s.heap.size ≤ q) s.heap s 173 ad (cup [] g1) H1 locs1 → W p l e room_1 s m #[Value.ref b] below meth c H1 locs1 cells slots (lw_Z below #[Value.ref b] s) (F0 m 917 ls [])) : W p l e room_1 s m #[Value.ref b] below meth c H locs cells slots (lw_Z below #[Value.ref b] s) (F0 m 667 ls []) := by
  obtain ⟨hx, hb, hml, hown, hts⟩ := id hC
  refine lv_aload_n hx hb dL_law_667 rfl (lv_at hl 1 rfl) ?_
  refine lv_aload_n hx hb dL_law_668 rfl (lv_at hl 0 rfl) ?_
  refine lv_iload_n hx hb dL_law_669 rfl (lv_at hl 3 rfl) ?_
  refine lv_iconst (v := 1) hx hb dL_law_670 (by decide) ?_
  refine lv_iadd hx hb dL_law_671 ?_
  refine va_sld hx hb hX hbl (Nat.not_le.mpr hbl) hO.2.2.2.1 (sc_in hv hL (c := 1) (by decide)) dL_law_672 ?_
  refine lv_topi (fun a672_1 ea672_1 => ?_)
  obtain ⟨post0, hM0, hP0⟩ := sm_X11_teach (D := D) l a672_1 hI
  have hR0 : ∃ fs, g 0 = .inr (11, fs) := INV_obj11 hI
  obtain ⟨fs0, hE0⟩ := hR0
  refine cg_Vi (As := [.int a672_1]) (rest := []) (mc := 0) (ms := 0) (rm := { frames := 6, cells := 0, slots := 0, locals := 143 }) hC hl.1 hO [0, 88, 21, 35, 38, 59, 93, 24, 25, 28, 29, 30, 31, 36, 37, 39, 40, 41, 60, 61, 94, 95, 96, 97, 98, 99, 100, 89, 90, 92, 118] (by decide +kernel) hM0 gL_k_X11_teach rfl rfl rfl 1 (by decide +kernel) ⟨Nat.le_of_ble_eq_true rfl, Nat.le_of_ble_eq_true rfl⟩ rfl (by decide) hE0 rfl rfl (Nat.le_of_ble_eq_true rfl) dL_law_673 ⟨hce, hsl⟩ (fun r0 nw0 l0 H locs hw hO => ?_)
  obtain ⟨hI, hK0⟩ := hP0 _ _ _ hw
  have hT := hK0.te hT
  obtain ⟨g0, hg0⟩ : ∃ z : Nat → va_E, z = cup (cmrg 173 31 [0, 88, 21, 35, 38, 59, 93, 24, 25, 28, 29, 30, 31, 36, 37, 39, 40, 41, 60, 61, 94, 95, 96, 97, 98, 99, 100, 89, 90, 92, 118] l0 []) g := ⟨_, rfl⟩
  rw [← hg0] at hI hO hT
  have hO : cO D cy (fun q : Nat => s.heap.size ≤ q) s.heap s 173 ad (cup [] g0) H locs := hO
  clear hg0 hK0 hw hP0 hM0 hE0
  refine lv_pop hx hb dL_law_676 rfl ?_
  refine lv_aload_n hx hb dL_law_677 rfl (lv_at hl 2 rfl) ?_
  refine lv_aload_n hx hb dL_law_678 rfl (lv_at hl 0 rfl) ?_
  refine lv_iload_n hx hb dL_law_679 rfl (lv_at hl 3 rfl) ?_
  refine lv_iconst (v := 1) hx hb dL_law_680 (by decide) ?_
  refine lv_iadd hx hb dL_law_681 ?_
  refine va_sld hx hb hX hbl (Nat.not_le.mpr hbl) hO.2.2.2.1 (sc_in hv hL (c := 1) (by decide)) dL_law_682 ?_
  refine lv_topi (fun a682_1 ea682_1 => ?_)
  obtain ⟨post1, hM1, hP1⟩ := sm_X12_teach (D := D) l a682_1 hI
  have hR1 : ∃ fs, g0 119 = .inr (12, fs) := INV_obj12 hI
  obtain ⟨fs1, hE1⟩ := hR1
  refine cg_Vi (As := [.int a682_1]) (rest := []) (mc := 0) (ms := 0) (rm := { frames := 4, cells := 0, slots := 0, locals := 97 }) hC hl.1 hO [119, 122, 165, 147, 123, 132, 133, 148, 149, 150, 151, 152, 160, 127, 128, 130, 131, 136, 138, 142, 143, 146, 153, 154, 155, 156, 157, 158, 159, 161, 163] (by decide +kernel) hM1 gL_k_X12_teach rfl rfl rfl 1 (by decide +kernel) ⟨Nat.le_of_ble_eq_true rfl, Nat.le_of_ble_eq_true rfl⟩ rfl (by decide) hE1 rfl rfl (Nat.le_of_ble_eq_true rfl) dL_law_683 ⟨hce, hsl⟩ (fun r1 nw1 l1 H locs hw hO => ?_)
  obtain ⟨hI, hK1⟩ := hP1 _ _ _ hw
  have hT := hK1.te hT
  obtain ⟨g1, hg1⟩ : ∃ z : Nat → va_E, z = cup (cmrg 173 31 [119, 122, 165, 147, 123, 132, 133, 148, 149, 150, 151, 152, 160, 127, 128, 130, 131, 136, 138, 142, 143, 146, 153, 154, 155, 156, 157, 158, 159, 161, 163] l1 []) g0 := ⟨_, rfl⟩
  rw [← hg1] at hI hO hT
  have hO : cO D cy (fun q : Nat => s.heap.size ≤ q) s.heap s 173 ad (cup [] g1) H locs := hO
  refine lv_pop hx hb dL_law_686 rfl ?_
  refine lv_goto (tgt := 917) hx hb dL_law_687 (by decide) ?_
  exact K _ _ _ hI hT hO

set_option maxHeartbeats 8000000 in
set_option maxRecDepth 100000 in
theorem lc_seats {p : Program} {e : Env} {s : State} {m : MethodId} {below : List Frame} {meth : Method} {c : Code} (l : Launch) {b L : Nat} {xs : Nat → Int32} {D : va_G} {cy : Nat → ClassId} {ad : Nat → Nat} {g : Nat → va_E} {H : Heap} {locs : List Loc} {cells slots : Nat} {ls : Array Slot} {v : Int32} (hC : CallFix p m c code 4 s #[Value.ref b] lw_tbl RL) (hX : va_X b L xs s s.heap) (hbl : b < s.heap.size) (hL : L ≤ 3072) (hv : 0 ≤ v.toInt ∧ v.toInt + 6 ≤ L) (hI : INV cy ad g) (hT : TE g) (hO : cO D cy (fun q : Nat => s.heap.size ≤ q) s.heap s 173 ad (cup [] g) H locs) (hce : cells + 0 ≤ 600000) (hsl : slots + 0 ≤ 7302250) (hl : lv_has ls 4 [(0, .ref b), (1, .ref (ad 0)), (2, .ref (ad 119)), (3, .int v)]) (K : ∀ (g1 : Nat → va_E) (H1 : Heap) (locs1 : List Loc), INV cy ad g1 → TE g1 → cO D cy (fun q : Nat => s.heap.size ≤ q) s.heap s 173 ad (cup [] g1) H1 locs1 → W p l e room_1 s m #[Value.ref b] below meth c H1 locs1 cells slots (lw_Z below #[Value.ref b] s) (F0 m 917 ls [])) : W p l e room_1 s m #[Value.ref b] below meth c H locs cells slots (lw_Z below #[Value.ref b] s) (F0 m 690 ls []) := by
  obtain ⟨hx, hb, hml, hown, hts⟩ := id hC
  refine lv_aload_n hx hb dL_law_690 rfl (lv_at hl 1 rfl) ?_
  obtain ⟨post0, hM0, hP0⟩ := sm_X11_seats (D := D) l  hI
  have hR0 : ∃ fs, g 0 = .inr (11, fs) := INV_obj11 hI
  obtain ⟨fs0, hE0⟩ := hR0
  refine cg_Vi (As := []) (rest := []) (mc := 0) (ms := 0) (rm := { frames := 5, cells := 0, slots := 0, locals := 125 }) hC hl.1 hO [0, 21, 88, 35, 38, 59, 93, 24, 25, 28, 29, 30, 31, 36, 37, 39, 40, 41, 60, 61, 94, 95, 96, 97, 98, 99, 100, 89, 90, 91, 92, 118] (by decide +kernel) hM0 gL_k_X11_seats rfl rfl rfl 0 (by decide +kernel) ⟨Nat.le_of_ble_eq_true rfl, Nat.le_of_ble_eq_true rfl⟩ rfl (by decide) hE0 rfl rfl (Nat.le_of_ble_eq_true rfl) dL_law_691 ⟨hce, hsl⟩ (fun r0 nw0 l0 H locs hw hO => ?_)
  obtain ⟨hI, hK0⟩ := hP0 _ _ _ hw
  have hT := hK0.te hT
  obtain ⟨g0, hg0⟩ : ∃ z : Nat → va_E, z = cup (cmrg 173 32 [0, 21, 88, 35, 38, 59, 93, 24, 25, 28, 29, 30, 31, 36, 37, 39, 40, 41, 60, 61, 94, 95, 96, 97, 98, 99, 100, 89, 90, 91, 92, 118] l0 []) g := ⟨_, rfl⟩
  rw [← hg0] at hI hO hT
  have hO : cO D cy (fun q : Nat => s.heap.size ≤ q) s.heap s 173 ad (cup [] g0) H locs := hO
  clear hg0 hK0 hw hP0 hM0 hE0
  refine lv_pop hx hb dL_law_694 rfl ?_
  refine lv_aload_n hx hb dL_law_695 rfl (lv_at hl 2 rfl) ?_
  obtain ⟨post1, hM1, hP1⟩ := sm_X12_seats (D := D) l  hI
  have hR1 : ∃ fs, g0 119 = .inr (12, fs) := INV_obj12 hI
  obtain ⟨fs1, hE1⟩ := hR1
  refine cg_Vi (As := []) (rest := []) (mc := 0) (ms := 0) (rm := { frames := 4, cells := 0, slots := 0, locals := 97 }) hC hl.1 hO [119, 123, 122, 165, 132, 133, 147, 148, 149, 150, 151, 152, 160, 127, 128, 130, 131, 136, 138, 142, 143, 146, 153, 154, 155, 156, 157, 158, 159, 161, 163] (by decide +kernel) hM1 gL_k_X12_seats rfl rfl rfl 0 (by decide +kernel) ⟨Nat.le_of_ble_eq_true rfl, Nat.le_of_ble_eq_true rfl⟩ rfl (by decide) hE1 rfl rfl (Nat.le_of_ble_eq_true rfl) dL_law_696 ⟨hce, hsl⟩ (fun r1 nw1 l1 H locs hw hO => ?_)
  obtain ⟨hI, hK1⟩ := hP1 _ _ _ hw
  have hT := hK1.te hT
  obtain ⟨g1, hg1⟩ : ∃ z : Nat → va_E, z = cup (cmrg 173 31 [119, 123, 122, 165, 132, 133, 147, 148, 149, 150, 151, 152, 160, 127, 128, 130, 131, 136, 138, 142, 143, 146, 153, 154, 155, 156, 157, 158, 159, 161, 163] l1 []) g0 := ⟨_, rfl⟩
  rw [← hg1] at hI hO hT
  have hO : cO D cy (fun q : Nat => s.heap.size ≤ q) s.heap s 173 ad (cup [] g1) H locs := hO
  refine lv_pop hx hb dL_law_699 rfl ?_
  refine lv_goto (tgt := 917) hx hb dL_law_700 (by decide) ?_
  exact K _ _ _ hI hT hO

set_option maxHeartbeats 8000000 in
set_option maxRecDepth 100000 in
theorem lc_lies {p : Program} {e : Env} {s : State} {m : MethodId} {below : List Frame} {meth : Method} {c : Code} (l : Launch) {b L : Nat} {xs : Nat → Int32} {D : va_G} {cy : Nat → ClassId} {ad : Nat → Nat} {g : Nat → va_E} {H : Heap} {locs : List Loc} {cells slots : Nat} {ls : Array Slot} {v : Int32} (hC : CallFix p m c code 4 s #[Value.ref b] lw_tbl RL) (hX : va_X b L xs s s.heap) (hbl : b < s.heap.size) (hL : L ≤ 3072) (hv : 0 ≤ v.toInt ∧ v.toInt + 6 ≤ L) (hI : INV cy ad g) (hT : TE g) (hO : cO D cy (fun q : Nat => s.heap.size ≤ q) s.heap s 173 ad (cup [] g) H locs) (hce : cells + 0 ≤ 600000) (hsl : slots + 0 ≤ 7302250) (hl : lv_has ls 4 [(0, .ref b), (1, .ref (ad 0)), (2, .ref (ad 119)), (3, .int v)]) (K : ∀ (g1 : Nat → va_E) (H1 : Heap) (locs1 : List Loc), INV cy ad g1 → TE g1 → cO D cy (fun q : Nat => s.heap.size ≤ q) s.heap s 173 ad (cup [] g1) H1 locs1 → W p l e room_1 s m #[Value.ref b] below meth c H1 locs1 cells slots (lw_Z below #[Value.ref b] s) (F0 m 917 ls [])) : W p l e room_1 s m #[Value.ref b] below meth c H locs cells slots (lw_Z below #[Value.ref b] s) (F0 m 703 ls []) := by
  obtain ⟨hx, hb, hml, hown, hts⟩ := id hC
  refine lv_aload_n hx hb dL_law_703 rfl (lv_at hl 1 rfl) ?_
  refine lv_aload_n hx hb dL_law_704 rfl (lv_at hl 0 rfl) ?_
  refine lv_iload_n hx hb dL_law_705 rfl (lv_at hl 3 rfl) ?_
  refine lv_iconst (v := 1) hx hb dL_law_706 (by decide) ?_
  refine lv_iadd hx hb dL_law_707 ?_
  refine va_sld hx hb hX hbl (Nat.not_le.mpr hbl) hO.2.2.2.1 (sc_in hv hL (c := 1) (by decide)) dL_law_708 ?_
  refine lv_topi (fun a708_1 ea708_1 => ?_)
  obtain ⟨post0, hM0, hP0⟩ := sm_X11_lies (D := D) l a708_1 hI
  have hR0 : ∃ fs, g 0 = .inr (11, fs) := INV_obj11 hI
  obtain ⟨fs0, hE0⟩ := hR0
  refine cg_Vi (As := [.int a708_1]) (rest := []) (mc := 0) (ms := 0) (rm := { frames := 1, cells := 0, slots := 0, locals := 22 }) hC hl.1 hO [0, 118] (by decide +kernel) hM0 gL_k_X11_lies rfl rfl rfl 1 (by decide +kernel) ⟨Nat.le_of_ble_eq_true rfl, Nat.le_of_ble_eq_true rfl⟩ rfl (by decide) hE0 rfl rfl (Nat.le_of_ble_eq_true rfl) dL_law_709 ⟨hce, hsl⟩ (fun r0 nw0 l0 H locs hw hO => ?_)
  obtain ⟨hI, hK0⟩ := hP0 _ _ _ hw
  have hT := hK0.te hT
  obtain ⟨g0, hg0⟩ : ∃ z : Nat → va_E, z = cup (cmrg 173 2 [0, 118] l0 []) g := ⟨_, rfl⟩
  rw [← hg0] at hI hO hT
  have hO : cO D cy (fun q : Nat => s.heap.size ≤ q) s.heap s 173 ad (cup [] g0) H locs := hO
  clear hg0 hK0 hw hP0 hM0 hE0
  refine lv_pop hx hb dL_law_712 rfl ?_
  refine lv_aload_n hx hb dL_law_713 rfl (lv_at hl 2 rfl) ?_
  refine lv_aload_n hx hb dL_law_714 rfl (lv_at hl 0 rfl) ?_
  refine lv_iload_n hx hb dL_law_715 rfl (lv_at hl 3 rfl) ?_
  refine lv_iconst (v := 1) hx hb dL_law_716 (by decide) ?_
  refine lv_iadd hx hb dL_law_717 ?_
  refine va_sld hx hb hX hbl (Nat.not_le.mpr hbl) hO.2.2.2.1 (sc_in hv hL (c := 1) (by decide)) dL_law_718 ?_
  refine lv_topi (fun a718_1 ea718_1 => ?_)
  obtain ⟨post1, hM1, hP1⟩ := sm_X12_lies (D := D) l a718_1 hI
  have hR1 : ∃ fs, g0 119 = .inr (12, fs) := INV_obj12 hI
  obtain ⟨fs1, hE1⟩ := hR1
  refine cg_Vi (As := [.int a718_1]) (rest := []) (mc := 0) (ms := 0) (rm := { frames := 1, cells := 0, slots := 0, locals := 22 }) hC hl.1 hO [119, 163] (by decide +kernel) hM1 gL_k_X12_lies rfl rfl rfl 1 (by decide +kernel) ⟨Nat.le_of_ble_eq_true rfl, Nat.le_of_ble_eq_true rfl⟩ rfl (by decide) hE1 rfl rfl (Nat.le_of_ble_eq_true rfl) dL_law_719 ⟨hce, hsl⟩ (fun r1 nw1 l1 H locs hw hO => ?_)
  obtain ⟨hI, hK1⟩ := hP1 _ _ _ hw
  have hT := hK1.te hT
  obtain ⟨g1, hg1⟩ : ∃ z : Nat → va_E, z = cup (cmrg 173 2 [119, 163] l1 []) g0 := ⟨_, rfl⟩
  rw [← hg1] at hI hO hT
  have hO : cO D cy (fun q : Nat => s.heap.size ≤ q) s.heap s 173 ad (cup [] g1) H locs := hO
  refine lv_pop hx hb dL_law_722 rfl ?_
  refine lv_goto (tgt := 917) hx hb dL_law_723 (by decide) ?_
  exact K _ _ _ hI hT hO

set_option maxHeartbeats 8000000 in
set_option maxRecDepth 100000 in
theorem lc_sight {p : Program} {e : Env} {s : State} {m : MethodId} {below : List Frame} {meth : Method} {c : Code} (l : Launch) {b L : Nat} {xs : Nat → Int32} {D : va_G} {cy : Nat → ClassId} {ad : Nat → Nat} {g : Nat → va_E} {H : Heap} {locs : List Loc} {cells slots : Nat} {ls : Array Slot} {v : Int32} (hC : CallFix p m c code 4 s #[Value.ref b] lw_tbl RL) (hX : va_X b L xs s s.heap) (hbl : b < s.heap.size) (hL : L ≤ 3072) (hv : 0 ≤ v.toInt ∧ v.toInt + 6 ≤ L) (hI : INV cy ad g) (hT : TE g) (hO : cO D cy (fun q : Nat => s.heap.size ≤ q) s.heap s 173 ad (cup [] g) H locs) (hce : cells + 0 ≤ 600000) (hsl : slots + 0 ≤ 7302250) (hl : lv_has ls 4 [(0, .ref b), (1, .ref (ad 0)), (2, .ref (ad 119)), (3, .int v)]) (K : ∀ (g1 : Nat → va_E) (H1 : Heap) (locs1 : List Loc), INV cy ad g1 → TE g1 → cO D cy (fun q : Nat => s.heap.size ≤ q) s.heap s 173 ad (cup [] g1) H1 locs1 → W p l e room_1 s m #[Value.ref b] below meth c H1 locs1 cells slots (lw_Z below #[Value.ref b] s) (F0 m 917 ls [])) : W p l e room_1 s m #[Value.ref b] below meth c H locs cells slots (lw_Z below #[Value.ref b] s) (F0 m 726 ls []) := by
  obtain ⟨hx, hb, hml, hown, hts⟩ := id hC
  refine lv_aload_n hx hb dL_law_726 rfl (lv_at hl 1 rfl) ?_
  refine lv_aload_n hx hb dL_law_727 rfl (lv_at hl 0 rfl) ?_
  refine lv_iload_n hx hb dL_law_728 rfl (lv_at hl 3 rfl) ?_
  refine lv_iconst (v := 1) hx hb dL_law_729 (by decide) ?_
  refine lv_iadd hx hb dL_law_730 ?_
  refine va_sld hx hb hX hbl (Nat.not_le.mpr hbl) hO.2.2.2.1 (sc_in hv hL (c := 1) (by decide)) dL_law_731 ?_
  refine lv_topi (fun a731_1 ea731_1 => ?_)
  refine lv_aload_n hx hb dL_law_732 rfl (lv_at hl 0 rfl) ?_
  refine lv_iload_n hx hb dL_law_733 rfl (lv_at hl 3 rfl) ?_
  refine lv_iconst (v := 2) hx hb dL_law_734 (by decide) ?_
  refine lv_iadd hx hb dL_law_735 ?_
  refine va_sld hx hb hX hbl (Nat.not_le.mpr hbl) hO.2.2.2.1 (sc_in hv hL (c := 2) (by decide)) dL_law_736 ?_
  refine lv_topi (fun a736_2 ea736_2 => ?_)
  refine lv_aload_n hx hb dL_law_737 rfl (lv_at hl 0 rfl) ?_
  refine lv_iload_n hx hb dL_law_738 rfl (lv_at hl 3 rfl) ?_
  refine lv_iconst (v := 3) hx hb dL_law_739 (by decide) ?_
  refine lv_iadd hx hb dL_law_740 ?_
  refine va_sld hx hb hX hbl (Nat.not_le.mpr hbl) hO.2.2.2.1 (sc_in hv hL (c := 3) (by decide)) dL_law_741 ?_
  refine lv_topi (fun a741_3 ea741_3 => ?_)
  obtain ⟨post0, hM0, hP0⟩ := sm_X11_sight (D := D) l a731_1 a736_2 a741_3 hI
  have hR0 : ∃ fs, g 0 = .inr (11, fs) := INV_obj11 hI
  obtain ⟨fs0, hE0⟩ := hR0
  refine cg_Vi (As := [.int a731_1, .int a736_2, .int a741_3]) (rest := []) (mc := 0) (ms := 0) (rm := { frames := 2, cells := 0, slots := 0, locals := 43 }) hC hl.1 hO [0, 21, 101, 102, 103, 104, 105, 106] (by decide +kernel) hM0 gL_k_X11_sight rfl rfl rfl 3 (by decide +kernel) ⟨Nat.le_of_ble_eq_true rfl, Nat.le_of_ble_eq_true rfl⟩ rfl (by decide) hE0 rfl rfl (Nat.le_of_ble_eq_true rfl) dL_law_742 ⟨hce, hsl⟩ (fun r0 nw0 l0 H locs hw hO => ?_)
  obtain ⟨hI, hK0⟩ := hP0 _ _ _ hw
  have hT := hK0.te hT
  obtain ⟨g0, hg0⟩ : ∃ z : Nat → va_E, z = cup (cmrg 173 8 [0, 21, 101, 102, 103, 104, 105, 106] l0 []) g := ⟨_, rfl⟩
  rw [← hg0] at hI hO hT
  have hO : cO D cy (fun q : Nat => s.heap.size ≤ q) s.heap s 173 ad (cup [] g0) H locs := hO
  clear hg0 hK0 hw hP0 hM0 hE0
  refine lv_pop hx hb dL_law_745 rfl ?_
  refine lv_aload_n hx hb dL_law_746 rfl (lv_at hl 2 rfl) ?_
  refine lv_aload_n hx hb dL_law_747 rfl (lv_at hl 0 rfl) ?_
  refine lv_iload_n hx hb dL_law_748 rfl (lv_at hl 3 rfl) ?_
  refine lv_iconst (v := 1) hx hb dL_law_749 (by decide) ?_
  refine lv_iadd hx hb dL_law_750 ?_
  refine va_sld hx hb hX hbl (Nat.not_le.mpr hbl) hO.2.2.2.1 (sc_in hv hL (c := 1) (by decide)) dL_law_751 ?_
  refine lv_topi (fun a751_1 ea751_1 => ?_)
  refine lv_aload_n hx hb dL_law_752 rfl (lv_at hl 0 rfl) ?_
  refine lv_iload_n hx hb dL_law_753 rfl (lv_at hl 3 rfl) ?_
  refine lv_iconst (v := 2) hx hb dL_law_754 (by decide) ?_
  refine lv_iadd hx hb dL_law_755 ?_
  refine va_sld hx hb hX hbl (Nat.not_le.mpr hbl) hO.2.2.2.1 (sc_in hv hL (c := 2) (by decide)) dL_law_756 ?_
  refine lv_topi (fun a756_2 ea756_2 => ?_)
  refine lv_aload_n hx hb dL_law_757 rfl (lv_at hl 0 rfl) ?_
  refine lv_iload_n hx hb dL_law_758 rfl (lv_at hl 3 rfl) ?_
  refine lv_iconst (v := 3) hx hb dL_law_759 (by decide) ?_
  refine lv_iadd hx hb dL_law_760 ?_
  refine va_sld hx hb hX hbl (Nat.not_le.mpr hbl) hO.2.2.2.1 (sc_in hv hL (c := 3) (by decide)) dL_law_761 ?_
  refine lv_topi (fun a761_3 ea761_3 => ?_)
  obtain ⟨post1, hM1, hP1⟩ := sm_X12_sight (D := D) l a751_1 a756_2 a761_3 hI
  have hR1 : ∃ fs, g0 119 = .inr (12, fs) := INV_obj12 hI
  obtain ⟨fs1, hE1⟩ := hR1
  refine cg_Vi (As := [.int a751_1, .int a756_2, .int a761_3]) (rest := []) (mc := 0) (ms := 0) (rm := { frames := 2, cells := 0, slots := 0, locals := 43 }) hC hl.1 hO [119, 122, 166, 167, 168, 169, 170] (by decide +kernel) hM1 gL_k_X12_sight rfl rfl rfl 3 (by decide +kernel) ⟨Nat.le_of_ble_eq_true rfl, Nat.le_of_ble_eq_true rfl⟩ rfl (by decide) hE1 rfl rfl (Nat.le_of_ble_eq_true rfl) dL_law_762 ⟨hce, hsl⟩ (fun r1 nw1 l1 H locs hw hO => ?_)
  obtain ⟨hI, hK1⟩ := hP1 _ _ _ hw
  have hT := hK1.te hT
  obtain ⟨g1, hg1⟩ : ∃ z : Nat → va_E, z = cup (cmrg 173 7 [119, 122, 166, 167, 168, 169, 170] l1 []) g0 := ⟨_, rfl⟩
  rw [← hg1] at hI hO hT
  have hO : cO D cy (fun q : Nat => s.heap.size ≤ q) s.heap s 173 ad (cup [] g1) H locs := hO
  refine lv_pop hx hb dL_law_765 rfl ?_
  refine lv_goto (tgt := 917) hx hb dL_law_766 (by decide) ?_
  exact K _ _ _ hI hT hO

set_option maxHeartbeats 8000000 in
set_option maxRecDepth 100000 in
theorem lc_untell {p : Program} {e : Env} {s : State} {m : MethodId} {below : List Frame} {meth : Method} {c : Code} (l : Launch) {b L : Nat} {xs : Nat → Int32} {D : va_G} {cy : Nat → ClassId} {ad : Nat → Nat} {g : Nat → va_E} {H : Heap} {locs : List Loc} {cells slots : Nat} {ls : Array Slot} {v : Int32} (hC : CallFix p m c code 4 s #[Value.ref b] lw_tbl RL) (hX : va_X b L xs s s.heap) (hbl : b < s.heap.size) (hL : L ≤ 3072) (hv : 0 ≤ v.toInt ∧ v.toInt + 6 ≤ L) (hI : INV cy ad g) (hT : TE g) (hO : cO D cy (fun q : Nat => s.heap.size ≤ q) s.heap s 173 ad (cup [] g) H locs) (hce : cells + 0 ≤ 600000) (hsl : slots + 0 ≤ 7302250) (hl : lv_has ls 4 [(0, .ref b), (1, .ref (ad 0)), (2, .ref (ad 119)), (3, .int v)]) (K : ∀ (g1 : Nat → va_E) (H1 : Heap) (locs1 : List Loc), INV cy ad g1 → TE g1 → cO D cy (fun q : Nat => s.heap.size ≤ q) s.heap s 173 ad (cup [] g1) H1 locs1 → W p l e room_1 s m #[Value.ref b] below meth c H1 locs1 cells slots (lw_Z below #[Value.ref b] s) (F0 m 917 ls [])) : W p l e room_1 s m #[Value.ref b] below meth c H locs cells slots (lw_Z below #[Value.ref b] s) (F0 m 769 ls []) := by
  obtain ⟨hx, hb, hml, hown, hts⟩ := id hC
  refine lv_aload_n hx hb dL_law_769 rfl (lv_at hl 1 rfl) ?_
  refine lv_aload_n hx hb dL_law_770 rfl (lv_at hl 0 rfl) ?_
  refine lv_iload_n hx hb dL_law_771 rfl (lv_at hl 3 rfl) ?_
  refine lv_iconst (v := 1) hx hb dL_law_772 (by decide) ?_
  refine lv_iadd hx hb dL_law_773 ?_
  refine va_sld hx hb hX hbl (Nat.not_le.mpr hbl) hO.2.2.2.1 (sc_in hv hL (c := 1) (by decide)) dL_law_774 ?_
  refine lv_topi (fun a774_1 ea774_1 => ?_)
  obtain ⟨post0, hM0, hP0⟩ := sm_X11_untell (D := D) l a774_1 hI
  have hR0 : ∃ fs, g 0 = .inr (11, fs) := INV_obj11 hI
  obtain ⟨fs0, hE0⟩ := hR0
  refine cg_Vi (As := [.int a774_1]) (rest := []) (mc := 0) (ms := 0) (rm := { frames := 2, cells := 0, slots := 0, locals := 43 }) hC hl.1 hO [0, 101, 106] (by decide +kernel) hM0 gL_k_X11_untell rfl rfl rfl 1 (by decide +kernel) ⟨Nat.le_of_ble_eq_true rfl, Nat.le_of_ble_eq_true rfl⟩ rfl (by decide) hE0 rfl rfl (Nat.le_of_ble_eq_true rfl) dL_law_775 ⟨hce, hsl⟩ (fun r0 nw0 l0 H locs hw hO => ?_)
  obtain ⟨hI, hK0⟩ := hP0 _ _ _ hw
  have hT := hK0.te hT
  obtain ⟨g0, hg0⟩ : ∃ z : Nat → va_E, z = cup (cmrg 173 3 [0, 101, 106] l0 []) g := ⟨_, rfl⟩
  rw [← hg0] at hI hO hT
  have hO : cO D cy (fun q : Nat => s.heap.size ≤ q) s.heap s 173 ad (cup [] g0) H locs := hO
  clear hg0 hK0 hw hP0 hM0 hE0
  refine lv_pop hx hb dL_law_778 rfl ?_
  refine lv_aload_n hx hb dL_law_779 rfl (lv_at hl 2 rfl) ?_
  refine lv_aload_n hx hb dL_law_780 rfl (lv_at hl 0 rfl) ?_
  refine lv_iload_n hx hb dL_law_781 rfl (lv_at hl 3 rfl) ?_
  refine lv_iconst (v := 1) hx hb dL_law_782 (by decide) ?_
  refine lv_iadd hx hb dL_law_783 ?_
  refine va_sld hx hb hX hbl (Nat.not_le.mpr hbl) hO.2.2.2.1 (sc_in hv hL (c := 1) (by decide)) dL_law_784 ?_
  refine lv_topi (fun a784_1 ea784_1 => ?_)
  obtain ⟨post1, hM1, hP1⟩ := sm_X12_untell (D := D) l a784_1 hI
  have hR1 : ∃ fs, g0 119 = .inr (12, fs) := INV_obj12 hI
  obtain ⟨fs1, hE1⟩ := hR1
  refine cg_Vi (As := [.int a784_1]) (rest := []) (mc := 0) (ms := 0) (rm := { frames := 1, cells := 0, slots := 0, locals := 22 }) hC hl.1 hO [119, 170] (by decide +kernel) hM1 gL_k_X12_untell rfl rfl rfl 1 (by decide +kernel) ⟨Nat.le_of_ble_eq_true rfl, Nat.le_of_ble_eq_true rfl⟩ rfl (by decide) hE1 rfl rfl (Nat.le_of_ble_eq_true rfl) dL_law_785 ⟨hce, hsl⟩ (fun r1 nw1 l1 H locs hw hO => ?_)
  obtain ⟨hI, hK1⟩ := hP1 _ _ _ hw
  have hT := hK1.te hT
  obtain ⟨g1, hg1⟩ : ∃ z : Nat → va_E, z = cup (cmrg 173 2 [119, 170] l1 []) g0 := ⟨_, rfl⟩
  rw [← hg1] at hI hO hT
  have hO : cO D cy (fun q : Nat => s.heap.size ≤ q) s.heap s 173 ad (cup [] g1) H locs := hO
  refine lv_pop hx hb dL_law_788 rfl ?_
  refine lv_goto (tgt := 917) hx hb dL_law_789 (by decide) ?_
  exact K _ _ _ hI hT hO

set_option maxHeartbeats 8000000 in
set_option maxRecDepth 100000 in
theorem lc_later {p : Program} {e : Env} {s : State} {m : MethodId} {below : List Frame} {meth : Method} {c : Code} (l : Launch) {b L : Nat} {xs : Nat → Int32} {D : va_G} {cy : Nat → ClassId} {ad : Nat → Nat} {g : Nat → va_E} {H : Heap} {locs : List Loc} {cells slots : Nat} {ls : Array Slot} {v : Int32} (hC : CallFix p m c code 4 s #[Value.ref b] lw_tbl RL) (hX : va_X b L xs s s.heap) (hbl : b < s.heap.size) (hL : L ≤ 3072) (hv : 0 ≤ v.toInt ∧ v.toInt + 6 ≤ L) (hI : INV cy ad g) (hT : TE g) (hO : cO D cy (fun q : Nat => s.heap.size ≤ q) s.heap s 173 ad (cup [] g) H locs) (hce : cells + 0 ≤ 600000) (hsl : slots + 0 ≤ 7302250) (hl : lv_has ls 4 [(0, .ref b), (1, .ref (ad 0)), (2, .ref (ad 119)), (3, .int v)]) (K : ∀ (g1 : Nat → va_E) (H1 : Heap) (locs1 : List Loc), INV cy ad g1 → TE g1 → cO D cy (fun q : Nat => s.heap.size ≤ q) s.heap s 173 ad (cup [] g1) H1 locs1 → W p l e room_1 s m #[Value.ref b] below meth c H1 locs1 cells slots (lw_Z below #[Value.ref b] s) (F0 m 917 ls [])) : W p l e room_1 s m #[Value.ref b] below meth c H locs cells slots (lw_Z below #[Value.ref b] s) (F0 m 792 ls []) := by
  obtain ⟨hx, hb, hml, hown, hts⟩ := id hC
  have hIg := hI
  refine lv_aload_n hx hb dL_law_792 rfl (lv_at hl 1 rfl) ?_
  refine lv_aload_n hx hb dL_law_793 rfl (lv_at hl 0 rfl) ?_
  refine lv_iload_n hx hb dL_law_794 rfl (lv_at hl 3 rfl) ?_
  refine lv_iconst (v := 1) hx hb dL_law_795 (by decide) ?_
  refine lv_iadd hx hb dL_law_796 ?_
  refine va_sld hx hb hX hbl (Nat.not_le.mpr hbl) hO.2.2.2.1 (sc_in hv hL (c := 1) (by decide)) dL_law_797 ?_
  refine lv_topi (fun a797_1 ea797_1 => ?_)
  obtain ⟨post0, hM0, hP0⟩ := sm_X11_later (D := D) l a797_1 hI
  have hR0 : ∃ fs, g 0 = .inr (11, fs) := INV_obj11 hI
  obtain ⟨fs0, hE0⟩ := hR0
  refine cg_Vi (As := [.int a797_1]) (rest := []) (mc := 0) (ms := 0) (rm := { frames := 1, cells := 0, slots := 0, locals := 22 }) hC hl.1 hO [0, 101] (by decide +kernel) hM0 gL_k_X11_later2 rfl rfl rfl 1 (by decide +kernel) ⟨Nat.le_of_ble_eq_true rfl, Nat.le_of_ble_eq_true rfl⟩ rfl (by decide) hE0 rfl rfl (Nat.le_of_ble_eq_true rfl) dL_law_798 ⟨hce, hsl⟩ (fun r0 nw0 l0 H locs hw hO => ?_)
  obtain ⟨hI, hB0, hC0⟩ := hP0 _ _ _ hw
  obtain ⟨g0, hg0⟩ : ∃ z : Nat → va_E, z = cup (cmrg 173 2 [0, 101] l0 []) g := ⟨_, rfl⟩
  rw [← hg0] at hI hO hB0 hC0
  have hO : cO D cy (fun q : Nat => s.heap.size ≤ q) s.heap s 173 ad (cup [] g0) H locs := hO
  refine lv_aload_n hx hb dL_law_801 rfl (lv_at hl 2 rfl) ?_
  refine lv_aload_n hx hb dL_law_802 rfl (lv_at hl 0 rfl) ?_
  refine lv_iload_n hx hb dL_law_803 rfl (lv_at hl 3 rfl) ?_
  refine lv_iconst (v := 1) hx hb dL_law_804 (by decide) ?_
  refine lv_iadd hx hb dL_law_805 ?_
  refine va_sld hx hb hX hbl (Nat.not_le.mpr hbl) hO.2.2.2.1 (sc_in hv hL (c := 1) (by decide)) dL_law_806 ?_
  refine lv_topi (fun a806_1 ea806_1 => ?_)
  obtain ⟨post1, hM1, hP1⟩ := sm_X12_later (D := D) l a806_1 hI
  have hR1 : ∃ fs, g0 119 = .inr (12, fs) := INV_obj12 hI
  obtain ⟨fs1, hE1⟩ := hR1
  refine cg_Vi (As := [.int a806_1]) (rest := [.int r0]) (mc := 0) (ms := 0) (rm := { frames := 1, cells := 0, slots := 0, locals := 22 }) hC hl.1 hO [119] (by decide +kernel) hM1 gL_k_X12_later2 rfl rfl rfl 1 (by decide +kernel) ⟨Nat.le_of_ble_eq_true rfl, Nat.le_of_ble_eq_true rfl⟩ rfl (by decide) hE1 rfl rfl (Nat.le_of_ble_eq_true rfl) dL_law_807 ⟨hce, hsl⟩ (fun r1 nw1 l1 H locs hw hO => ?_)
  obtain ⟨hI, hB1, hC1⟩ := hP1 _ _ _ hw
  obtain ⟨g1, hg1⟩ : ∃ z : Nat → va_E, z = cup (cmrg 173 1 [119] l1 []) g0 := ⟨_, rfl⟩
  rw [← hg1] at hI hO hB1 hC1
  have hO : cO D cy (fun q : Nat => s.heap.size ≤ q) s.heap s 173 ad (cup [] g1) H locs := hO
  have ha : a806_1 = a797_1 := ea806_1.trans ea797_1.symm
  obtain ⟨t, ht⟩ := INV_time hIg
  obtain ⟨t1, ht1, hl1⟩ := hC0 t ht
  have ht2 : fo (g0 119) 71 = some (.int t) := by rw [hB0, ← hT]; exact ht
  obtain ⟨t2, ht3, hl2⟩ := hC1 t ht2
  rw [ha] at hl2
  obtain ⟨er, et⟩ := LTm_one hl1 hl2
  refine lv_icmp_eq (tgt := 917) hx hb dL_law_810 (by decide) (fun _ => ?_) (fun h => absurd er h)
  exact K _ _ _ hI (by show fo (g1 101) 8 = fo (g1 119) 71; rw [hB1, ht1, ht3, et]) hO

set_option maxHeartbeats 8000000 in
set_option maxRecDepth 100000 in
theorem lc_came {p : Program} {e : Env} {s : State} {m : MethodId} {below : List Frame} {meth : Method} {c : Code} (l : Launch) {b L : Nat} {xs : Nat → Int32} {D : va_G} {cy : Nat → ClassId} {ad : Nat → Nat} {g : Nat → va_E} {H : Heap} {locs : List Loc} {cells slots : Nat} {ls : Array Slot} {v : Int32} (hC : CallFix p m c code 4 s #[Value.ref b] lw_tbl RL) (hX : va_X b L xs s s.heap) (hbl : b < s.heap.size) (hL : L ≤ 3072) (hv : 0 ≤ v.toInt ∧ v.toInt + 6 ≤ L) (hI : INV cy ad g) (hT : TE g) (hO : cO D cy (fun q : Nat => s.heap.size ≤ q) s.heap s 173 ad (cup [] g) H locs) (hce : cells + 0 ≤ 600000) (hsl : slots + 0 ≤ 7302250) (hl : lv_has ls 4 [(0, .ref b), (1, .ref (ad 0)), (2, .ref (ad 119)), (3, .int v)]) (K : ∀ (g1 : Nat → va_E) (H1 : Heap) (locs1 : List Loc), INV cy ad g1 → TE g1 → cO D cy (fun q : Nat => s.heap.size ≤ q) s.heap s 173 ad (cup [] g1) H1 locs1 → W p l e room_1 s m #[Value.ref b] below meth c H1 locs1 cells slots (lw_Z below #[Value.ref b] s) (F0 m 917 ls [])) : W p l e room_1 s m #[Value.ref b] below meth c H locs cells slots (lw_Z below #[Value.ref b] s) (F0 m 815 ls []) := by
  obtain ⟨hx, hb, hml, hown, hts⟩ := id hC
  refine lv_aload_n hx hb dL_law_815 rfl (lv_at hl 1 rfl) ?_
  refine lv_aload_n hx hb dL_law_816 rfl (lv_at hl 0 rfl) ?_
  refine lv_iload_n hx hb dL_law_817 rfl (lv_at hl 3 rfl) ?_
  refine lv_iconst (v := 1) hx hb dL_law_818 (by decide) ?_
  refine lv_iadd hx hb dL_law_819 ?_
  refine va_sld hx hb hX hbl (Nat.not_le.mpr hbl) hO.2.2.2.1 (sc_in hv hL (c := 1) (by decide)) dL_law_820 ?_
  refine lv_topi (fun a820_1 ea820_1 => ?_)
  refine lv_aload_n hx hb dL_law_821 rfl (lv_at hl 0 rfl) ?_
  refine lv_iload_n hx hb dL_law_822 rfl (lv_at hl 3 rfl) ?_
  refine lv_iconst (v := 2) hx hb dL_law_823 (by decide) ?_
  refine lv_iadd hx hb dL_law_824 ?_
  refine va_sld hx hb hX hbl (Nat.not_le.mpr hbl) hO.2.2.2.1 (sc_in hv hL (c := 2) (by decide)) dL_law_825 ?_
  refine lv_topi (fun a825_2 ea825_2 => ?_)
  obtain ⟨post0, hM0, hP0⟩ := sm_X11_came (D := D) l a820_1 a825_2 hI
  have hR0 : ∃ fs, g 0 = .inr (11, fs) := INV_obj11 hI
  obtain ⟨fs0, hE0⟩ := hR0
  refine cg_Vi (As := [.int a820_1, .int a825_2]) (rest := []) (mc := 0) (ms := 0) (rm := { frames := 15, cells := 0, slots := 0, locals := 382 }) hC hl.1 hO [0, 101, 21, 110, 23, 24, 25, 26, 28, 30, 31, 33, 111, 112, 113, 114, 115, 116, 117, 102, 103, 104, 105, 106, 107, 108, 109] (by decide +kernel) hM0 gL_k_X11_came rfl rfl rfl 2 (by decide +kernel) ⟨Nat.le_of_ble_eq_true rfl, Nat.le_of_ble_eq_true rfl⟩ rfl (by decide) hE0 rfl rfl (Nat.le_of_ble_eq_true rfl) dL_law_826 ⟨hce, hsl⟩ (fun r0 nw0 l0 H locs hw hO => ?_)
  obtain ⟨hI, hK0⟩ := hP0 _ _ _ hw
  have hT := hK0.te hT
  obtain ⟨g0, hg0⟩ : ∃ z : Nat → va_E, z = cup (cmrg 173 27 [0, 101, 21, 110, 23, 24, 25, 26, 28, 30, 31, 33, 111, 112, 113, 114, 115, 116, 117, 102, 103, 104, 105, 106, 107, 108, 109] l0 []) g := ⟨_, rfl⟩
  rw [← hg0] at hI hO hT
  have hO : cO D cy (fun q : Nat => s.heap.size ≤ q) s.heap s 173 ad (cup [] g0) H locs := hO
  clear hg0 hK0 hw hP0 hM0 hE0
  refine lv_pop hx hb dL_law_829 rfl ?_
  refine lv_aload_n hx hb dL_law_830 rfl (lv_at hl 2 rfl) ?_
  refine lv_aload_n hx hb dL_law_831 rfl (lv_at hl 0 rfl) ?_
  refine lv_iload_n hx hb dL_law_832 rfl (lv_at hl 3 rfl) ?_
  refine lv_iconst (v := 1) hx hb dL_law_833 (by decide) ?_
  refine lv_iadd hx hb dL_law_834 ?_
  refine va_sld hx hb hX hbl (Nat.not_le.mpr hbl) hO.2.2.2.1 (sc_in hv hL (c := 1) (by decide)) dL_law_835 ?_
  refine lv_topi (fun a835_1 ea835_1 => ?_)
  refine lv_aload_n hx hb dL_law_836 rfl (lv_at hl 0 rfl) ?_
  refine lv_iload_n hx hb dL_law_837 rfl (lv_at hl 3 rfl) ?_
  refine lv_iconst (v := 2) hx hb dL_law_838 (by decide) ?_
  refine lv_iadd hx hb dL_law_839 ?_
  refine va_sld hx hb hX hbl (Nat.not_le.mpr hbl) hO.2.2.2.1 (sc_in hv hL (c := 2) (by decide)) dL_law_840 ?_
  refine lv_topi (fun a840_2 ea840_2 => ?_)
  obtain ⟨post1, hM1, hP1⟩ := sm_X12_came (D := D) l a835_1 a840_2 hI
  have hR1 : ∃ fs, g0 119 = .inr (12, fs) := INV_obj12 hI
  obtain ⟨fs1, hE1⟩ := hR1
  refine cg_Vi (As := [.int a835_1, .int a840_2]) (rest := []) (mc := 0) (ms := 0) (rm := { frames := 5, cells := 0, slots := 0, locals := 120 }) hC hl.1 hO [119, 124, 137, 122, 123, 126, 127, 128, 130, 131, 132, 133, 134, 135, 136, 138, 142, 143, 146, 148, 149, 150, 151, 152, 153, 154, 155, 156, 157, 158, 159, 160, 161, 166, 167, 168, 169, 170] (by decide +kernel) hM1 gL_k_X12_came rfl rfl rfl 2 (by decide +kernel) ⟨Nat.le_of_ble_eq_true rfl, Nat.le_of_ble_eq_true rfl⟩ rfl (by decide) hE1 rfl rfl (Nat.le_of_ble_eq_true rfl) dL_law_841 ⟨hce, hsl⟩ (fun r1 nw1 l1 H locs hw hO => ?_)
  obtain ⟨hI, hK1⟩ := hP1 _ _ _ hw
  have hT := hK1.te hT
  obtain ⟨g1, hg1⟩ : ∃ z : Nat → va_E, z = cup (cmrg 173 38 [119, 124, 137, 122, 123, 126, 127, 128, 130, 131, 132, 133, 134, 135, 136, 138, 142, 143, 146, 148, 149, 150, 151, 152, 153, 154, 155, 156, 157, 158, 159, 160, 161, 166, 167, 168, 169, 170] l1 []) g0 := ⟨_, rfl⟩
  rw [← hg1] at hI hO hT
  have hO : cO D cy (fun q : Nat => s.heap.size ≤ q) s.heap s 173 ad (cup [] g1) H locs := hO
  refine lv_pop hx hb dL_law_844 rfl ?_
  refine lv_goto (tgt := 917) hx hb dL_law_845 (by decide) ?_
  exact K _ _ _ hI hT hO

set_option maxHeartbeats 8000000 in
set_option maxRecDepth 100000 in
theorem lc_image {p : Program} {e : Env} {s : State} {m : MethodId} {below : List Frame} {meth : Method} {c : Code} (l : Launch) {b L : Nat} {xs : Nat → Int32} {D : va_G} {cy : Nat → ClassId} {ad : Nat → Nat} {g : Nat → va_E} {H : Heap} {locs : List Loc} {cells slots : Nat} {ls : Array Slot} {v : Int32} (hC : CallFix p m c code 4 s #[Value.ref b] lw_tbl RL) (hX : va_X b L xs s s.heap) (hbl : b < s.heap.size) (hL : L ≤ 3072) (hv : 0 ≤ v.toInt ∧ v.toInt + 6 ≤ L) (hI : INV cy ad g) (hT : TE g) (hO : cO D cy (fun q : Nat => s.heap.size ≤ q) s.heap s 173 ad (cup [] g) H locs) (hce : cells + 0 ≤ 600000) (hsl : slots + 0 ≤ 7302250) (hl : lv_has ls 4 [(0, .ref b), (1, .ref (ad 0)), (2, .ref (ad 119)), (3, .int v)]) (K : ∀ (g1 : Nat → va_E) (H1 : Heap) (locs1 : List Loc), INV cy ad g1 → TE g1 → cO D cy (fun q : Nat => s.heap.size ≤ q) s.heap s 173 ad (cup [] g1) H1 locs1 → W p l e room_1 s m #[Value.ref b] below meth c H1 locs1 cells slots (lw_Z below #[Value.ref b] s) (F0 m 917 ls [])) : W p l e room_1 s m #[Value.ref b] below meth c H locs cells slots (lw_Z below #[Value.ref b] s) (F0 m 848 ls []) := by
  obtain ⟨hx, hb, hml, hown, hts⟩ := id hC
  refine lv_aload_n hx hb dL_law_848 rfl (lv_at hl 1 rfl) ?_
  refine lv_aload_n hx hb dL_law_849 rfl (lv_at hl 0 rfl) ?_
  refine lv_iload_n hx hb dL_law_850 rfl (lv_at hl 3 rfl) ?_
  refine lv_iconst (v := 1) hx hb dL_law_851 (by decide) ?_
  refine lv_iadd hx hb dL_law_852 ?_
  refine va_sld hx hb hX hbl (Nat.not_le.mpr hbl) hO.2.2.2.1 (sc_in hv hL (c := 1) (by decide)) dL_law_853 ?_
  refine lv_topi (fun a853_1 ea853_1 => ?_)
  obtain ⟨post0, hM0, hP0⟩ := sm_X11_image (D := D) l a853_1 hI
  have hR0 : ∃ fs, g 0 = .inr (11, fs) := INV_obj11 hI
  obtain ⟨fs0, hE0⟩ := hR0
  refine cg_Vi (As := [.int a853_1]) (rest := []) (mc := 0) (ms := 0) (rm := { frames := 2, cells := 0, slots := 0, locals := 81 }) hC hl.1 hO [0, 42, 43, 38, 44, 45, 46, 39, 40, 41, 47, 48, 49, 50, 51, 52, 53, 54] (by decide +kernel) hM0 gL_k_X11_image rfl rfl rfl 1 (by decide +kernel) ⟨Nat.le_of_ble_eq_true rfl, Nat.le_of_ble_eq_true rfl⟩ rfl (by decide) hE0 rfl rfl (Nat.le_of_ble_eq_true rfl) dL_law_854 ⟨hce, hsl⟩ (fun r0 nw0 l0 H locs hw hO => ?_)
  obtain ⟨hI, hK0⟩ := hP0 _ _ _ hw
  have hT := hK0.te hT
  obtain ⟨g0, hg0⟩ : ∃ z : Nat → va_E, z = cup (cmrg 173 18 [0, 42, 43, 38, 44, 45, 46, 39, 40, 41, 47, 48, 49, 50, 51, 52, 53, 54] l0 []) g := ⟨_, rfl⟩
  rw [← hg0] at hI hO hT
  have hO : cO D cy (fun q : Nat => s.heap.size ≤ q) s.heap s 173 ad (cup [] g0) H locs := hO
  clear hg0 hK0 hw hP0 hM0 hE0
  refine lv_pop hx hb dL_law_857 rfl ?_
  refine lv_aload_n hx hb dL_law_858 rfl (lv_at hl 2 rfl) ?_
  refine lv_aload_n hx hb dL_law_859 rfl (lv_at hl 0 rfl) ?_
  refine lv_iload_n hx hb dL_law_860 rfl (lv_at hl 3 rfl) ?_
  refine lv_iconst (v := 1) hx hb dL_law_861 (by decide) ?_
  refine lv_iadd hx hb dL_law_862 ?_
  refine va_sld hx hb hX hbl (Nat.not_le.mpr hbl) hO.2.2.2.1 (sc_in hv hL (c := 1) (by decide)) dL_law_863 ?_
  refine lv_topi (fun a863_1 ea863_1 => ?_)
  obtain ⟨post1, hM1, hP1⟩ := sm_X12_image (D := D) l a863_1 hI
  have hR1 : ∃ fs, g0 119 = .inr (12, fs) := INV_obj12 hI
  obtain ⟨fs1, hE1⟩ := hR1
  refine cg_Vi (As := [.int a863_1]) (rest := []) (mc := 0) (ms := 0) (rm := { frames := 1, cells := 0, slots := 0, locals := 22 }) hC hl.1 hO [119, 147, 171, 172] (by decide +kernel) hM1 gL_k_X12_image rfl rfl rfl 1 (by decide +kernel) ⟨Nat.le_of_ble_eq_true rfl, Nat.le_of_ble_eq_true rfl⟩ rfl (by decide) hE1 rfl rfl (Nat.le_of_ble_eq_true rfl) dL_law_864 ⟨hce, hsl⟩ (fun r1 nw1 l1 H locs hw hO => ?_)
  obtain ⟨hI, hK1⟩ := hP1 _ _ _ hw
  have hT := hK1.te hT
  obtain ⟨g1, hg1⟩ : ∃ z : Nat → va_E, z = cup (cmrg 173 4 [119, 147, 171, 172] l1 []) g0 := ⟨_, rfl⟩
  rw [← hg1] at hI hO hT
  have hO : cO D cy (fun q : Nat => s.heap.size ≤ q) s.heap s 173 ad (cup [] g1) H locs := hO
  refine lv_pop hx hb dL_law_867 rfl ?_
  refine lv_goto (tgt := 917) hx hb dL_law_868 (by decide) ?_
  exact K _ _ _ hI hT hO

