set_option maxHeartbeats 8000000 in
set_option maxRecDepth 100000 in
theorem lc_income {p : Program} {e : Env} {s : State} {m : MethodId} {below : List Frame} {meth : Method} {c : Code} (l : Launch) {b : Nat} {xs : Nat → Int32} {D : va_G} {cy : Nat → ClassId} {ad : Nat → Nat} {g : Nat → va_E} {H : Heap} {locs : List Loc} {cells slots : Nat} {ls : Array Slot} {f0 : List Value} {f21 : List Value} {f62 : List Value} {f119 : List Value} {c148 : Nat → Int32} {c153 : Nat → Int32} {c155 : Nat → Int32} {c160 : Nat → Int32} (hC : CallFix p m c code 4 s #[Value.ref b] lw_tbl RL) (hr : meth.sig.returnType = ret) (hlk : meth.locks = false) (hX : va_X b 6 xs s s.heap) (hbl : b < s.heap.size) (o0 : g 0 = .inr (11, f0)) (f0_3 : f0[3]? = some (.ref (ad 21))) (f0_8 : f0[8]? = some (.ref (ad 62))) (o21 : g 21 = .inr (7, f21)) (f21_11 : f21[11]? = some (.int 0)) (o62 : g 62 = .inr (1, f62)) (f62_0 : f62[0]? = some (.ref (ad 21))) (o119 : g 119 = .inr (12, f119)) (f119_12 : f119[12]? = some (.ref (ad 123))) (f119_36 : f119[36]? = some (.int 0)) (f119_41 : f119[41]? = some (.ref (ad 147))) (f119_42 : f119[42]? = some (.ref (ad 148))) (f119_44 : f119[44]? = some (.ref (ad 150))) (f119_47 : f119[47]? = some (.ref (ad 153))) (f119_48 : f119[48]? = some (.ref (ad 154))) (f119_49 : f119[49]? = some (.ref (ad 155))) (f119_50 : f119[50]? = some (.ref (ad 156))) (f119_53 : f119[53]? = some (.ref (ad 159))) (f119_54 : f119[54]? = some (.ref (ad 160))) (f119_55 : f119[55]? = some (.ref (ad 161))) (f119_56 : f119[56]? = some (.int 0)) (f119_57 : f119[57]? = some (.int 0)) (a123 : g 123 = .inl (cy 0, 2, .inl (fun _ => 0))) (a147 : g 147 = .inl (cy 0, 80, .inl (fun _ => 0))) (a148 : g 148 = .inl (cy 0, 30, .inl c148)) (a150 : g 150 = .inl (cy 0, 5, .inl (fun _ => 0))) (a153 : g 153 = .inl (cy 0, 30, .inl c153)) (a154 : g 154 = .inl (cy 0, 120, .inl (fun _ => 0))) (a155 : g 155 = .inl (cy 0, 120, .inl c155)) (a156 : g 156 = .inl (cy 0, 5, .inl (fun _ => 0))) (a159 : g 159 = .inl (cy 0, 5, .inl (fun _ => 0))) (a160 : g 160 = .inl (cy 2, 30, .inl c160)) (a161 : g 161 = .inl (cy 2, 5, .inl (fun _ => 0))) (hO : cO D cy (fun q : Nat => s.heap.size ≤ q) s.heap s 173 ad (cup [] g) H locs) (hce : cells + 0 ≤ 600000) (hsl : slots + 0 ≤ 7302250) (hl : lv_has ls 4 [(0, .ref b), (1, .ref (ad 0)), (2, .ref (ad 119)), (3, .int 0)]) : W p l e room_1 s m #[Value.ref b] below meth c H locs cells slots (lw_Z below #[Value.ref b] s) (F0 m 410 ls []) := by
  obtain ⟨hx, hb, hml, hown, hts⟩ := id hC
  refine lv_aload_n hx hb dL_law_410 rfl (lv_at hl 1 rfl) ?_
  refine lv_aload_n hx hb dL_law_411 rfl (lv_at hl 0 rfl) ?_
  refine lv_iload_n hx hb dL_law_412 rfl (lv_at hl 3 rfl) ?_
  refine lv_iconst (v := 1) hx hb dL_law_413 (by decide) ?_
  refine lv_iadd hx hb dL_law_414 ?_
  refine cg_ev (v := 1) (by decide) ?_
  refine va_sld hx hb hX hbl (Nat.not_le.mpr hbl) hO.2.2.2.1 (cin (by decide)) dL_law_415 ?_
  refine cg_ev (v := xs 1) rfl ?_
  refine cg_Vi (As := [.int (xs 1)]) (rest := []) (mc := 0) (ms := 0) (rm := { frames := 2, cells := 0, slots := 0, locals := 43 }) hC hl.1 hO [0, 21, 62] (by decide +kernel) (c_X11_income l D cy _ _ (f0 := f0) (f1 := f21) (f2 := f62) (n := (xs 1)) o0 f0_3 f0_8 o21 f21_11 o62 f62_0) gL_c_X11_income rfl rfl rfl 1 (by decide +kernel) ⟨Nat.le_of_ble_eq_true rfl, Nat.le_of_ble_eq_true rfl⟩ rfl (by decide) o0 rfl rfl (Nat.le_of_ble_eq_true rfl) dL_law_416 ⟨hce, hsl⟩ (fun r0 nw0 l0 H locs hw hO => ?_)
  obtain rfl := hw
  have hm := cm_far (N := 173) (k := 3) (M := 119) (ps := [0, 21, 62]) (by decide +kernel) (by decide +kernel) l0 [] g
  refine lv_aload_n hx hb dL_law_419 rfl (lv_at hl 2 rfl) ?_
  refine lv_aload_n hx hb dL_law_420 rfl (lv_at hl 0 rfl) ?_
  refine lv_iload_n hx hb dL_law_421 rfl (lv_at hl 3 rfl) ?_
  refine lv_iconst (v := 1) hx hb dL_law_422 (by decide) ?_
  refine lv_iadd hx hb dL_law_423 ?_
  refine cg_ev (v := 1) (by decide) ?_
  refine va_sld hx hb hX hbl (Nat.not_le.mpr hbl) hO.2.2.2.1 (cin (by decide)) dL_law_424 ?_
  refine cg_ev (v := xs 1) rfl ?_
  refine cg_Vi (As := [.int (xs 1)]) (rest := [.int (ans_income (xs 1))]) (mc := 0) (ms := 0) (rm := { frames := 4, cells := 0, slots := 0, locals := 83 }) hC hl.1 hO [119, 123, 147, 148, 150, 153, 154, 155, 156, 159, 160, 161] (by decide +kernel) (c_X12_income l D cy _ _ (f0 := f119) (n := (xs 1)) ((hm 119 (by decide) (by decide)).trans o119) f119_12 f119_36 f119_41 f119_42 f119_44 f119_47 f119_48 f119_49 f119_50 f119_53 f119_54 f119_55 f119_56 f119_57 ((hm 123 (by decide) (by decide)).trans a123) ((hm 147 (by decide) (by decide)).trans a147) ((hm 148 (by decide) (by decide)).trans a148) ((hm 150 (by decide) (by decide)).trans a150) ((hm 153 (by decide) (by decide)).trans a153) ((hm 154 (by decide) (by decide)).trans a154) ((hm 155 (by decide) (by decide)).trans a155) ((hm 156 (by decide) (by decide)).trans a156) ((hm 159 (by decide) (by decide)).trans a159) ((hm 160 (by decide) (by decide)).trans a160) ((hm 161 (by decide) (by decide)).trans a161)) gL_c_X12_income rfl rfl rfl 1 (by decide +kernel) ⟨Nat.le_of_ble_eq_true rfl, Nat.le_of_ble_eq_true rfl⟩ rfl (by decide) ((hm 119 (by decide) (by decide)).trans o119) rfl rfl (Nat.le_of_ble_eq_true rfl) dL_law_425 ⟨hce, hsl⟩ (fun r1 nw1 l1 H locs hw hO => ?_)
  obtain rfl := hw
  refine lv_icmp_eq (tgt := 917) hx hb dL_law_428 (by decide) (fun _ => ?_) (fun h => absurd rfl h)
  exact law_tail l hC hr hlk hX hbl hO hce hsl (lv_sub hl [0, 3] rfl)

set_option maxHeartbeats 8000000 in
set_option maxRecDepth 100000 in
theorem lc_come {p : Program} {e : Env} {s : State} {m : MethodId} {below : List Frame} {meth : Method} {c : Code} (l : Launch) {b : Nat} {xs : Nat → Int32} {D : va_G} {cy : Nat → ClassId} {ad : Nat → Nat} {g : Nat → va_E} {H : Heap} {locs : List Loc} {cells slots : Nat} {ls : Array Slot} {f0 : List Value} {f21 : List Value} {c30 : Nat → Int32} {c31 : Nat → Int32} {f38 : List Value} {c39 : Nat → Int32} {c40 : Nat → Int32} {c41 : Nat → Int32} {f55 : List Value} {c56 : Nat → Int32} {c57 : Nat → Int32} {c58 : Nat → Int32} {f62 : List Value} {c63 : Nat → Int32} {c64 : Nat → Int32} {c65 : Nat → Int32} {f66 : List Value} {c67 : Nat → Int32} {c68 : Nat → Int32} {c69 : Nat → Int32} {c70 : Nat → Int32} {c71 : Nat → Int32} {c72 : Nat → Int32} {c73 : Nat → Int32} {f119 : List Value} {c162 : Nat → Int32} (hC : CallFix p m c code 4 s #[Value.ref b] lw_tbl RL) (hr : meth.sig.returnType = ret) (hlk : meth.locks = false) (hX : va_X b 6 xs s s.heap) (hbl : b < s.heap.size) (o0 : g 0 = .inr (11, f0)) (f0_4 : f0[4]? = some (.ref (ad 38))) (f0_6 : f0[6]? = some (.ref (ad 55))) (f0_8 : f0[8]? = some (.ref (ad 62))) (o21 : g 21 = .inr (7, f21)) (f21_9 : f21[9]? = some (.ref (ad 30))) (f21_10 : f21[10]? = some (.ref (ad 31))) (f21_11 : f21[11]? = some (.int 0)) (a30 : g 30 = .inl (cy 0, 20, .inl c30)) (a31 : g 31 = .inl (cy 0, 4, .inl c31)) (o38 : g 38 = .inr (9, f38)) (f38_0 : f38[0]? = some (.ref (ad 39))) (f38_1 : f38[1]? = some (.ref (ad 40))) (f38_2 : f38[2]? = some (.int (-1))) (f38_3 : f38[3]? = some (.ref (ad 41))) (f38_4 : f38[4]? = some (.int 0)) (a39 : g 39 = .inl (cy 0, 24, .inl c39)) (a40 : g 40 = .inl (cy 0, 24, .inl c40)) (a41 : g 41 = .inl (cy 0, 5, .inl c41)) (o55 : g 55 = .inr (0, f55)) (f55_0 : f55[0]? = some (.ref (ad 56))) (f55_1 : f55[1]? = some (.ref (ad 57))) (f55_2 : f55[2]? = some (.ref (ad 58))) (f55_3 : f55[3]? = some (.int 0)) (f55_4 : f55[4]? = some (.int 0)) (a56 : g 56 = .inl (cy 0, 40, .inl c56)) (a57 : g 57 = .inl (cy 0, 40, .inl c57)) (a58 : g 58 = .inl (cy 0, 40, .inl c58)) (o62 : g 62 = .inr (1, f62)) (f62_0 : f62[0]? = some (.ref (ad 21))) (f62_1 : f62[1]? = some (.ref (ad 38))) (f62_3 : f62[3]? = some (.ref (ad 66))) (f62_4 : f62[4]? = some (.ref (ad 63))) (f62_5 : f62[5]? = some (.ref (ad 64))) (f62_6 : f62[6]? = some (.ref (ad 65))) (a63 : g 63 = .inl (cy 0, 96, .inl c63)) (a64 : g 64 = .inl (cy 0, 96, .inl c64)) (a65 : g 65 = .inl (cy 0, 24, .inl c65)) (o66 : g 66 = .inr (10, f66)) (f66_0 : f66[0]? = some (.ref (ad 21))) (f66_1 : f66[1]? = some (.ref (ad 67))) (f66_2 : f66[2]? = some (.ref (ad 68))) (f66_3 : f66[3]? = some (.ref (ad 69))) (f66_4 : f66[4]? = some (.ref (ad 70))) (f66_5 : f66[5]? = some (.ref (ad 71))) (f66_6 : f66[6]? = some (.ref (ad 72))) (f66_7 : f66[7]? = some (.ref (ad 73))) (a67 : g 67 = .inl (cy 0, 5, .inl c67)) (a68 : g 68 = .inl (cy 0, 20, .inl c68)) (a69 : g 69 = .inl (cy 0, 4, .inl c69)) (a70 : g 70 = .inl (cy 0, 5, .inl c70)) (a71 : g 71 = .inl (cy 0, 5, .inl c71)) (a72 : g 72 = .inl (cy 0, 5, .inl c72)) (a73 : g 73 = .inl (cy 0, 5, .inl c73)) (o119 : g 119 = .inr (12, f119)) (f119_41 : f119[41]? = some (.ref (ad 147))) (f119_58 : f119[58]? = some (.ref (ad 162))) (f119_59 : f119[59]? = some (.int 0)) (f119_60 : f119[60]? = some (.int 0)) (a147 : g 147 = .inl (cy 0, 80, .inl (fun _ => 0))) (a162 : g 162 = .inl (cy 0, 3280, .inl c162)) (hO : cO D cy (fun q : Nat => s.heap.size ≤ q) s.heap s 173 ad (cup [] g) H locs) (hce : cells + 0 ≤ 600000) (hsl : slots + 0 ≤ 7302250) (hl : lv_has ls 4 [(0, .ref b), (1, .ref (ad 0)), (2, .ref (ad 119)), (3, .int 0)]) : W p l e room_1 s m #[Value.ref b] below meth c H locs cells slots (lw_Z below #[Value.ref b] s) (F0 m 433 ls []) := by
  obtain ⟨hx, hb, hml, hown, hts⟩ := id hC
  refine lv_aload_n hx hb dL_law_433 rfl (lv_at hl 1 rfl) ?_
  refine lv_aload_n hx hb dL_law_434 rfl (lv_at hl 0 rfl) ?_
  refine lv_iload_n hx hb dL_law_435 rfl (lv_at hl 3 rfl) ?_
  refine lv_iconst (v := 1) hx hb dL_law_436 (by decide) ?_
  refine lv_iadd hx hb dL_law_437 ?_
  refine cg_ev (v := 1) (by decide) ?_
  refine va_sld hx hb hX hbl (Nat.not_le.mpr hbl) hO.2.2.2.1 (cin (by decide)) dL_law_438 ?_
  refine cg_ev (v := xs 1) rfl ?_
  refine lv_aload_n hx hb dL_law_439 rfl (lv_at hl 0 rfl) ?_
  refine lv_iload_n hx hb dL_law_440 rfl (lv_at hl 3 rfl) ?_
  refine lv_iconst (v := 2) hx hb dL_law_441 (by decide) ?_
  refine lv_iadd hx hb dL_law_442 ?_
  refine cg_ev (v := 2) (by decide) ?_
  refine va_sld hx hb hX hbl (Nat.not_le.mpr hbl) hO.2.2.2.1 (cin (by decide)) dL_law_443 ?_
  refine cg_ev (v := xs 2) rfl ?_
  refine cg_Vi (As := [.int (xs 1), .int (xs 2)]) (rest := []) (mc := 0) (ms := 0) (rm := { frames := 5, cells := 0, slots := 0, locals := 129 }) hC hl.1 hO [0, 38, 39, 40, 41, 55, 56, 57, 58, 62, 21, 30, 31, 66, 67, 68, 69, 70, 71, 72, 73, 63, 64, 65] (by decide +kernel) (c_X11_come l D cy _ _ (f0 := f0) (f1 := f38) (f5 := f55) (f9 := f62) (f10 := f21) (f13 := f66) (x1 := (xs 1)) (x2 := (xs 2)) o0 f0_4 f0_6 f0_8 o38 f38_0 f38_1 f38_2 f38_3 f38_4 a39 a40 a41 o55 f55_0 f55_1 f55_2 f55_3 f55_4 a56 a57 a58 o62 f62_0 f62_1 f62_3 f62_4 f62_5 f62_6 o21 f21_9 f21_10 f21_11 a30 a31 o66 f66_0 f66_1 f66_2 f66_3 f66_4 f66_5 f66_6 f66_7 a67 a68 a69 a70 a71 a72 a73 a63 a64 a65) gL_c_X11_come rfl rfl rfl 2 (by decide +kernel) ⟨Nat.le_of_ble_eq_true rfl, Nat.le_of_ble_eq_true rfl⟩ rfl (by decide) o0 rfl rfl (Nat.le_of_ble_eq_true rfl) dL_law_444 ⟨hce, hsl⟩ (fun r0 nw0 l0 H locs hw hO => ?_)
  obtain rfl := hw
  have hm := cm_far (N := 173) (k := 24) (M := 119) (ps := [0, 38, 39, 40, 41, 55, 56, 57, 58, 62, 21, 30, 31, 66, 67, 68, 69, 70, 71, 72, 73, 63, 64, 65]) (by decide +kernel) (by decide +kernel) l0 [] g
  refine lv_aload_n hx hb dL_law_447 rfl (lv_at hl 2 rfl) ?_
  refine lv_aload_n hx hb dL_law_448 rfl (lv_at hl 0 rfl) ?_
  refine lv_iload_n hx hb dL_law_449 rfl (lv_at hl 3 rfl) ?_
  refine lv_iconst (v := 1) hx hb dL_law_450 (by decide) ?_
  refine lv_iadd hx hb dL_law_451 ?_
  refine cg_ev (v := 1) (by decide) ?_
  refine va_sld hx hb hX hbl (Nat.not_le.mpr hbl) hO.2.2.2.1 (cin (by decide)) dL_law_452 ?_
  refine cg_ev (v := xs 1) rfl ?_
  refine lv_aload_n hx hb dL_law_453 rfl (lv_at hl 0 rfl) ?_
  refine lv_iload_n hx hb dL_law_454 rfl (lv_at hl 3 rfl) ?_
  refine lv_iconst (v := 2) hx hb dL_law_455 (by decide) ?_
  refine lv_iadd hx hb dL_law_456 ?_
  refine cg_ev (v := 2) (by decide) ?_
  refine va_sld hx hb hX hbl (Nat.not_le.mpr hbl) hO.2.2.2.1 (cin (by decide)) dL_law_457 ?_
  refine cg_ev (v := xs 2) rfl ?_
  refine cg_Vi (As := [.int (xs 1), .int (xs 2)]) (rest := [.int (ans_come (xs 1) (xs 2))]) (mc := 0) (ms := 0) (rm := { frames := 1, cells := 0, slots := 0, locals := 22 }) hC hl.1 hO [119, 147, 162] (by decide +kernel) (c_X12_come l D cy _ _ (f0 := f119) (x1 := (xs 1)) (x2 := (xs 2)) ((hm 119 (by decide) (by decide)).trans o119) f119_41 f119_58 f119_59 f119_60 ((hm 147 (by decide) (by decide)).trans a147) ((hm 162 (by decide) (by decide)).trans a162)) gL_c_X12_come rfl rfl rfl 2 (by decide +kernel) ⟨Nat.le_of_ble_eq_true rfl, Nat.le_of_ble_eq_true rfl⟩ rfl (by decide) ((hm 119 (by decide) (by decide)).trans o119) rfl rfl (Nat.le_of_ble_eq_true rfl) dL_law_458 ⟨hce, hsl⟩ (fun r1 nw1 l1 H locs hw hO => ?_)
  obtain rfl := hw
  refine lv_icmp_eq (tgt := 917) hx hb dL_law_461 (by decide) (fun _ => ?_) (fun h => absurd rfl h)
  exact law_tail l hC hr hlk hX hbl hO hce hsl (lv_sub hl [0, 3] rfl)

set_option maxHeartbeats 8000000 in
set_option maxRecDepth 100000 in
theorem lc_doubt {p : Program} {e : Env} {s : State} {m : MethodId} {below : List Frame} {meth : Method} {c : Code} (l : Launch) {b : Nat} {xs : Nat → Int32} {D : va_G} {cy : Nat → ClassId} {ad : Nat → Nat} {g : Nat → va_E} {H : Heap} {locs : List Loc} {cells slots : Nat} {ls : Array Slot} {f0 : List Value} {f38 : List Value} {f119 : List Value} (hC : CallFix p m c code 4 s #[Value.ref b] lw_tbl RL) (hr : meth.sig.returnType = ret) (hlk : meth.locks = false) (hX : va_X b 6 xs s s.heap) (hbl : b < s.heap.size) (o0 : g 0 = .inr (11, f0)) (f0_4 : f0[4]? = some (.ref (ad 38))) (o38 : g 38 = .inr (9, f38)) (f38_4 : f38[4]? = some (.int 0)) (o119 : g 119 = .inr (12, f119)) (f119_41 : f119[41]? = some (.ref (ad 147))) (a147 : g 147 = .inl (cy 0, 80, .inl (fun _ => 0))) (hO : cO D cy (fun q : Nat => s.heap.size ≤ q) s.heap s 173 ad (cup [] g) H locs) (hce : cells + 0 ≤ 600000) (hsl : slots + 0 ≤ 7302250) (hl : lv_has ls 4 [(0, .ref b), (1, .ref (ad 0)), (2, .ref (ad 119)), (3, .int 0)]) : W p l e room_1 s m #[Value.ref b] below meth c H locs cells slots (lw_Z below #[Value.ref b] s) (F0 m 466 ls []) := by
  obtain ⟨hx, hb, hml, hown, hts⟩ := id hC
  refine lv_aload_n hx hb dL_law_466 rfl (lv_at hl 1 rfl) ?_
  refine lv_aload_n hx hb dL_law_467 rfl (lv_at hl 0 rfl) ?_
  refine lv_iload_n hx hb dL_law_468 rfl (lv_at hl 3 rfl) ?_
  refine lv_iconst (v := 1) hx hb dL_law_469 (by decide) ?_
  refine lv_iadd hx hb dL_law_470 ?_
  refine cg_ev (v := 1) (by decide) ?_
  refine va_sld hx hb hX hbl (Nat.not_le.mpr hbl) hO.2.2.2.1 (cin (by decide)) dL_law_471 ?_
  refine cg_ev (v := xs 1) rfl ?_
  refine cg_Vi (As := [.int (xs 1)]) (rest := []) (mc := 0) (ms := 0) (rm := { frames := 2, cells := 0, slots := 0, locals := 43 }) hC hl.1 hO [0, 38] (by decide +kernel) (c_X11_doubt l D cy _ _ (f0 := f0) (f1 := f38) (n := (xs 1)) o0 f0_4 o38 f38_4) gL_c_X11_doubt rfl rfl rfl 1 (by decide +kernel) ⟨Nat.le_of_ble_eq_true rfl, Nat.le_of_ble_eq_true rfl⟩ rfl (by decide) o0 rfl rfl (Nat.le_of_ble_eq_true rfl) dL_law_472 ⟨hce, hsl⟩ (fun r0 nw0 l0 H locs hw hO => ?_)
  obtain rfl := hw
  have hm := cm_far (N := 173) (k := 2) (M := 119) (ps := [0, 38]) (by decide +kernel) (by decide +kernel) l0 [] g
  refine lv_aload_n hx hb dL_law_475 rfl (lv_at hl 2 rfl) ?_
  refine lv_aload_n hx hb dL_law_476 rfl (lv_at hl 0 rfl) ?_
  refine lv_iload_n hx hb dL_law_477 rfl (lv_at hl 3 rfl) ?_
  refine lv_iconst (v := 1) hx hb dL_law_478 (by decide) ?_
  refine lv_iadd hx hb dL_law_479 ?_
  refine cg_ev (v := 1) (by decide) ?_
  refine va_sld hx hb hX hbl (Nat.not_le.mpr hbl) hO.2.2.2.1 (cin (by decide)) dL_law_480 ?_
  refine cg_ev (v := xs 1) rfl ?_
  refine cg_Vi (As := [.int (xs 1)]) (rest := [.int (-1)]) (mc := 0) (ms := 0) (rm := { frames := 2, cells := 0, slots := 0, locals := 43 }) hC hl.1 hO [119, 147] (by decide +kernel) (c_X12_doubt l D cy _ _ (f0 := f119) (n := (xs 1)) ((hm 119 (by decide) (by decide)).trans o119) f119_41 ((hm 147 (by decide) (by decide)).trans a147)) gL_c_X12_doubt rfl rfl rfl 1 (by decide +kernel) ⟨Nat.le_of_ble_eq_true rfl, Nat.le_of_ble_eq_true rfl⟩ rfl (by decide) ((hm 119 (by decide) (by decide)).trans o119) rfl rfl (Nat.le_of_ble_eq_true rfl) dL_law_481 ⟨hce, hsl⟩ (fun r1 nw1 l1 H locs hw hO => ?_)
  obtain rfl := hw
  refine lv_icmp_eq (tgt := 917) hx hb dL_law_484 (by decide) (fun _ => ?_) (fun h => absurd rfl h)
  exact law_tail l hC hr hlk hX hbl hO hce hsl (lv_sub hl [0, 3] rfl)

