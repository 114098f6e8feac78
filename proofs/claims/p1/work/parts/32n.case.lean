set_option maxHeartbeats 8000000 in
set_option maxRecDepth 100000 in
theorem lc_learn {p : Program} {e : Env} {s : State} {m : MethodId} {below : List Frame} {meth : Method} {c : Code} (l : Launch) {b : Nat} {xs : Nat → Int32} {D : va_G} {cy : Nat → ClassId} {ad : Nat → Nat} {g : Nat → va_E} {H : Heap} {locs : List Loc} {cells slots : Nat} {ls : Array Slot} {f0 : List Value} {f21 : List Value} {f119 : List Value} (hC : CallFix p m c code 4 s #[Value.ref b] lw_tbl RL) (hr : meth.sig.returnType = ret) (hlk : meth.locks = false) (hX : va_X b 6 xs s s.heap) (hbl : b < s.heap.size) (o0 : g 0 = .inr (11, f0)) (f0_3 : f0[3]? = some (.ref (ad 21))) (o21 : g 21 = .inr (7, f21)) (f21_5 : f21[5]? = some (.int 0)) (o119 : g 119 = .inr (12, f119)) (f119_11 : f119[11]? = some (.ref (ad 122))) (f119_36 : f119[36]? = some (.int 0)) (a122 : g 122 = .inl (cy 0, 2, .inl (fun _ => 0))) (hO : cO D cy (fun q : Nat => s.heap.size ≤ q) s.heap s 173 ad (cup [] g) H locs) (hce : cells + 0 ≤ 600000) (hsl : slots + 0 ≤ 7302250) (hl : lv_has ls 4 [(0, .ref b), (1, .ref (ad 0)), (2, .ref (ad 119)), (3, .int 0)]) : W p l e room_1 s m #[Value.ref b] below meth c H locs cells slots (lw_Z below #[Value.ref b] s) (F0 m 489 ls []) := by
  obtain ⟨hx, hb, hml, hown, hts⟩ := id hC
  refine lv_aload_n hx hb dL_law_489 rfl (lv_at hl 1 rfl) ?_
  refine lv_aload_n hx hb dL_law_490 rfl (lv_at hl 0 rfl) ?_
  refine lv_iload_n hx hb dL_law_491 rfl (lv_at hl 3 rfl) ?_
  refine lv_iconst (v := 1) hx hb dL_law_492 (by decide) ?_
  refine lv_iadd hx hb dL_law_493 ?_
  refine cg_ev (v := 1) (by decide) ?_
  refine va_sld hx hb hX hbl (Nat.not_le.mpr hbl) hO.2.2.2.1 (cin (by decide)) dL_law_494 ?_
  refine cg_ev (v := xs 1) rfl ?_
  refine lv_aload_n hx hb dL_law_495 rfl (lv_at hl 0 rfl) ?_
  refine lv_iload_n hx hb dL_law_496 rfl (lv_at hl 3 rfl) ?_
  refine lv_iconst (v := 2) hx hb dL_law_497 (by decide) ?_
  refine lv_iadd hx hb dL_law_498 ?_
  refine cg_ev (v := 2) (by decide) ?_
  refine va_sld hx hb hX hbl (Nat.not_le.mpr hbl) hO.2.2.2.1 (cin (by decide)) dL_law_499 ?_
  refine cg_ev (v := xs 2) rfl ?_
  refine cg_Vi (As := [.int (xs 1), .int (xs 2)]) (rest := []) (mc := 0) (ms := 0) (rm := { frames := 2, cells := 0, slots := 0, locals := 43 }) hC hl.1 hO [0, 21] (by decide +kernel) (c_X11_learn l D cy _ _ (f0 := f0) (f1 := f21) (n := (xs 1)) (q := (xs 2)) o0 f0_3 o21 f21_5) gL_c_X11_learn rfl rfl rfl 2 (by decide +kernel) ⟨Nat.le_of_ble_eq_true rfl, Nat.le_of_ble_eq_true rfl⟩ rfl (by decide) o0 rfl rfl (Nat.le_of_ble_eq_true rfl) dL_law_500 ⟨hce, hsl⟩ (fun r0 nw0 l0 H locs hw hO => ?_)
  obtain rfl := hw
  have hm := cm_far (N := 173) (k := 2) (M := 119) (ps := [0, 21]) (by decide +kernel) (by decide +kernel) l0 [] g
  refine lv_aload_n hx hb dL_law_503 rfl (lv_at hl 2 rfl) ?_
  refine lv_aload_n hx hb dL_law_504 rfl (lv_at hl 0 rfl) ?_
  refine lv_iload_n hx hb dL_law_505 rfl (lv_at hl 3 rfl) ?_
  refine lv_iconst (v := 1) hx hb dL_law_506 (by decide) ?_
  refine lv_iadd hx hb dL_law_507 ?_
  refine cg_ev (v := 1) (by decide) ?_
  refine va_sld hx hb hX hbl (Nat.not_le.mpr hbl) hO.2.2.2.1 (cin (by decide)) dL_law_508 ?_
  refine cg_ev (v := xs 1) rfl ?_
  refine lv_aload_n hx hb dL_law_509 rfl (lv_at hl 0 rfl) ?_
  refine lv_iload_n hx hb dL_law_510 rfl (lv_at hl 3 rfl) ?_
  refine lv_iconst (v := 2) hx hb dL_law_511 (by decide) ?_
  refine lv_iadd hx hb dL_law_512 ?_
  refine cg_ev (v := 2) (by decide) ?_
  refine va_sld hx hb hX hbl (Nat.not_le.mpr hbl) hO.2.2.2.1 (cin (by decide)) dL_law_513 ?_
  refine cg_ev (v := xs 2) rfl ?_
  refine cg_Vi (As := [.int (xs 1), .int (xs 2)]) (rest := [.int (-1)]) (mc := 0) (ms := 0) (rm := { frames := 2, cells := 0, slots := 0, locals := 43 }) hC hl.1 hO [119, 122] (by decide +kernel) (c_X12_learn l D cy _ _ (f0 := f119) (n := (xs 1)) (q := (xs 2)) ((hm 119 (by decide) (by decide)).trans o119) f119_11 f119_36 ((hm 122 (by decide) (by decide)).trans a122)) gL_c_X12_learn rfl rfl rfl 2 (by decide +kernel) ⟨Nat.le_of_ble_eq_true rfl, Nat.le_of_ble_eq_true rfl⟩ rfl (by decide) ((hm 119 (by decide) (by decide)).trans o119) rfl rfl (Nat.le_of_ble_eq_true rfl) dL_law_514 ⟨hce, hsl⟩ (fun r1 nw1 l1 H locs hw hO => ?_)
  obtain rfl := hw
  refine lv_icmp_eq (tgt := 917) hx hb dL_law_517 (by decide) (fun _ => ?_) (fun h => absurd rfl h)
  exact law_tail l hC hr hlk hX hbl hO hce hsl (lv_sub hl [0, 3] rfl)

set_option maxHeartbeats 8000000 in
set_option maxRecDepth 100000 in
theorem lc_undo {p : Program} {e : Env} {s : State} {m : MethodId} {below : List Frame} {meth : Method} {c : Code} (l : Launch) {b : Nat} {xs : Nat → Int32} {D : va_G} {cy : Nat → ClassId} {ad : Nat → Nat} {g : Nat → va_E} {H : Heap} {locs : List Loc} {cells slots : Nat} {ls : Array Slot} {f0 : List Value} {f38 : List Value} {f55 : List Value} {f119 : List Value} (hC : CallFix p m c code 4 s #[Value.ref b] lw_tbl RL) (hr : meth.sig.returnType = ret) (hlk : meth.locks = false) (hX : va_X b 6 xs s s.heap) (hbl : b < s.heap.size) (o0 : g 0 = .inr (11, f0)) (f0_4 : f0[4]? = some (.ref (ad 38))) (f0_6 : f0[6]? = some (.ref (ad 55))) (o38 : g 38 = .inr (9, f38)) (o55 : g 55 = .inr (0, f55)) (f55_3 : f55[3]? = some (.int 0)) (o119 : g 119 = .inr (12, f119)) (f119_59 : f119[59]? = some (.int 0)) (hO : cO D cy (fun q : Nat => s.heap.size ≤ q) s.heap s 173 ad (cup [] g) H locs) (hce : cells + 0 ≤ 600000) (hsl : slots + 0 ≤ 7302250) (hl : lv_has ls 4 [(0, .ref b), (1, .ref (ad 0)), (2, .ref (ad 119)), (3, .int 0)]) : W p l e room_1 s m #[Value.ref b] below meth c H locs cells slots (lw_Z below #[Value.ref b] s) (F0 m 522 ls []) := by
  obtain ⟨hx, hb, hml, hown, hts⟩ := id hC
  refine lv_aload_n hx hb dL_law_522 rfl (lv_at hl 1 rfl) ?_
  refine cg_Vi (As := []) (rest := []) (mc := 0) (ms := 0) (rm := { frames := 1, cells := 0, slots := 0, locals := 21 }) hC hl.1 hO [0, 55, 38] (by decide +kernel) (c_X11_undo l D cy _ _ (f0 := f0) (f2 := f38) (f1 := f55) o0 f0_4 f0_6 o55 f55_3 o38) gL_c_X11_undo rfl rfl rfl 0 (by decide +kernel) ⟨Nat.le_of_ble_eq_true rfl, Nat.le_of_ble_eq_true rfl⟩ rfl (by decide) o0 rfl rfl (Nat.le_of_ble_eq_true rfl) dL_law_523 ⟨hce, hsl⟩ (fun r0 nw0 l0 H locs hw hO => ?_)
  obtain rfl := hw
  have hm := cm_far (N := 173) (k := 3) (M := 119) (ps := [0, 55, 38]) (by decide +kernel) (by decide +kernel) l0 [] g
  refine lv_aload_n hx hb dL_law_526 rfl (lv_at hl 2 rfl) ?_
  refine cg_Vi (As := []) (rest := [.int 0]) (mc := 0) (ms := 0) (rm := { frames := 0, cells := 0, slots := 0, locals := 0 }) hC hl.1 hO [119] (by decide +kernel) (c_X12_undo l D cy _ _ (f0 := f119) ((hm 119 (by decide) (by decide)).trans o119) f119_59) gL_c_X12_undo rfl rfl rfl 0 (by decide +kernel) ⟨Nat.le_of_ble_eq_true rfl, Nat.le_of_ble_eq_true rfl⟩ rfl (by decide) ((hm 119 (by decide) (by decide)).trans o119) rfl rfl (Nat.le_of_ble_eq_true rfl) dL_law_527 ⟨hce, hsl⟩ (fun r1 nw1 l1 H locs hw hO => ?_)
  obtain rfl := hw
  refine lv_icmp_eq (tgt := 917) hx hb dL_law_530 (by decide) (fun _ => ?_) (fun h => absurd rfl h)
  exact law_tail l hC hr hlk hX hbl hO hce hsl (lv_sub hl [0, 3] rfl)

set_option maxHeartbeats 8000000 in
set_option maxRecDepth 100000 in
theorem lc_redo {p : Program} {e : Env} {s : State} {m : MethodId} {below : List Frame} {meth : Method} {c : Code} (l : Launch) {b : Nat} {xs : Nat → Int32} {D : va_G} {cy : Nat → ClassId} {ad : Nat → Nat} {g : Nat → va_E} {H : Heap} {locs : List Loc} {cells slots : Nat} {ls : Array Slot} {f0 : List Value} {f38 : List Value} {f55 : List Value} {f119 : List Value} (hC : CallFix p m c code 4 s #[Value.ref b] lw_tbl RL) (hr : meth.sig.returnType = ret) (hlk : meth.locks = false) (hX : va_X b 6 xs s s.heap) (hbl : b < s.heap.size) (o0 : g 0 = .inr (11, f0)) (f0_4 : f0[4]? = some (.ref (ad 38))) (f0_6 : f0[6]? = some (.ref (ad 55))) (o38 : g 38 = .inr (9, f38)) (o55 : g 55 = .inr (0, f55)) (f55_3 : f55[3]? = some (.int 0)) (f55_4 : f55[4]? = some (.int 0)) (o119 : g 119 = .inr (12, f119)) (f119_60 : f119[60]? = some (.int 0)) (hO : cO D cy (fun q : Nat => s.heap.size ≤ q) s.heap s 173 ad (cup [] g) H locs) (hce : cells + 0 ≤ 600000) (hsl : slots + 0 ≤ 7302250) (hl : lv_has ls 4 [(0, .ref b), (1, .ref (ad 0)), (2, .ref (ad 119)), (3, .int 0)]) : W p l e room_1 s m #[Value.ref b] below meth c H locs cells slots (lw_Z below #[Value.ref b] s) (F0 m 535 ls []) := by
  obtain ⟨hx, hb, hml, hown, hts⟩ := id hC
  refine lv_aload_n hx hb dL_law_535 rfl (lv_at hl 1 rfl) ?_
  refine cg_Vi (As := []) (rest := []) (mc := 0) (ms := 0) (rm := { frames := 1, cells := 0, slots := 0, locals := 21 }) hC hl.1 hO [0, 55, 38] (by decide +kernel) (c_X11_redo l D cy _ _ (f0 := f0) (f2 := f38) (f1 := f55) o0 f0_4 f0_6 o55 f55_3 f55_4 o38) gL_c_X11_redo rfl rfl rfl 0 (by decide +kernel) ⟨Nat.le_of_ble_eq_true rfl, Nat.le_of_ble_eq_true rfl⟩ rfl (by decide) o0 rfl rfl (Nat.le_of_ble_eq_true rfl) dL_law_536 ⟨hce, hsl⟩ (fun r0 nw0 l0 H locs hw hO => ?_)
  obtain rfl := hw
  have hm := cm_far (N := 173) (k := 3) (M := 119) (ps := [0, 55, 38]) (by decide +kernel) (by decide +kernel) l0 [] g
  refine lv_aload_n hx hb dL_law_539 rfl (lv_at hl 2 rfl) ?_
  refine cg_Vi (As := []) (rest := [.int 0]) (mc := 0) (ms := 0) (rm := { frames := 0, cells := 0, slots := 0, locals := 0 }) hC hl.1 hO [119] (by decide +kernel) (c_X12_redo l D cy _ _ (f0 := f119) ((hm 119 (by decide) (by decide)).trans o119) f119_60) gL_c_X12_redo rfl rfl rfl 0 (by decide +kernel) ⟨Nat.le_of_ble_eq_true rfl, Nat.le_of_ble_eq_true rfl⟩ rfl (by decide) ((hm 119 (by decide) (by decide)).trans o119) rfl rfl (Nat.le_of_ble_eq_true rfl) dL_law_540 ⟨hce, hsl⟩ (fun r1 nw1 l1 H locs hw hO => ?_)
  obtain rfl := hw
  refine lv_icmp_eq (tgt := 917) hx hb dL_law_543 (by decide) (fun _ => ?_) (fun h => absurd rfl h)
  exact law_tail l hC hr hlk hX hbl hO hce hsl (lv_sub hl [0, 3] rfl)

