set_option maxHeartbeats 8000000 in
set_option maxRecDepth 100000 in
theorem lc_heaps {p : Program} {e : Env} {s : State} {m : MethodId} {below : List Frame} {meth : Method} {c : Code} (l : Launch) {b : Nat} {xs : Nat → Int32} {D : va_G} {cy : Nat → ClassId} {ad : Nat → Nat} {g : Nat → va_E} {H : Heap} {locs : List Loc} {cells slots : Nat} {ls : Array Slot} {f0 : List Value} {f21 : List Value} {c30 : Nat → Int32} {c31 : Nat → Int32} {f38 : List Value} {c39 : Nat → Int32} {c41 : Nat → Int32} {f74 : List Value} {c75 : Nat → Int32} {f80 : List Value} {c81 : Nat → Int32} {c82 : Nat → Int32} {c83 : Nat → Int32} {c84 : Nat → Int32} {c85 : Nat → Int32} {c86 : Nat → Int32} {c87 : Nat → Int32} {f119 : List Value} {c148 : Nat → Int32} {c149 : Nat → Int32} {c153 : Nat → Int32} {c155 : Nat → Int32} {c160 : Nat → Int32} (hC : CallFix p m c code 4 s #[Value.ref b] lw_tbl RL) (hr : meth.sig.returnType = ret) (hlk : meth.locks = false) (hX : va_X b 6 xs s s.heap) (hbl : b < s.heap.size) (o0 : g 0 = .inr (11, f0)) (f0_4 : f0[4]? = some (.ref (ad 38))) (f0_9 : f0[9]? = some (.ref (ad 74))) (o21 : g 21 = .inr (7, f21)) (f21_9 : f21[9]? = some (.ref (ad 30))) (f21_10 : f21[10]? = some (.ref (ad 31))) (f21_11 : f21[11]? = some (.int 0)) (a30 : g 30 = .inl (cy 0, 20, .inl c30)) (a31 : g 31 = .inl (cy 0, 4, .inl c31)) (o38 : g 38 = .inr (9, f38)) (f38_0 : f38[0]? = some (.ref (ad 39))) (f38_3 : f38[3]? = some (.ref (ad 41))) (f38_4 : f38[4]? = some (.int 0)) (a39 : g 39 = .inl (cy 0, 24, .inl c39)) (a41 : g 41 = .inl (cy 0, 5, .inl c41)) (o74 : g 74 = .inr (2, f74)) (f74_0 : f74[0]? = some (.ref (ad 21))) (f74_1 : f74[1]? = some (.ref (ad 38))) (f74_3 : f74[3]? = some (.ref (ad 80))) (f74_4 : f74[4]? = some (.ref (ad 75))) (f74_5 : f74[5]? = some (.int 0)) (f74_10 : f74[10]? = some (.int 0)) (a75 : g 75 = .inl (cy 0, 24, .inl c75)) (o80 : g 80 = .inr (10, f80)) (f80_0 : f80[0]? = some (.ref (ad 21))) (f80_1 : f80[1]? = some (.ref (ad 81))) (f80_2 : f80[2]? = some (.ref (ad 82))) (f80_3 : f80[3]? = some (.ref (ad 83))) (f80_4 : f80[4]? = some (.ref (ad 84))) (f80_5 : f80[5]? = some (.ref (ad 85))) (f80_6 : f80[6]? = some (.ref (ad 86))) (f80_7 : f80[7]? = some (.ref (ad 87))) (a81 : g 81 = .inl (cy 0, 5, .inl c81)) (a82 : g 82 = .inl (cy 0, 20, .inl c82)) (a83 : g 83 = .inl (cy 0, 4, .inl c83)) (a84 : g 84 = .inl (cy 0, 5, .inl c84)) (a85 : g 85 = .inl (cy 0, 5, .inl c85)) (a86 : g 86 = .inl (cy 0, 5, .inl c86)) (a87 : g 87 = .inl (cy 0, 5, .inl c87)) (o119 : g 119 = .inr (12, f119)) (f119_12 : f119[12]? = some (.ref (ad 123))) (f119_36 : f119[36]? = some (.int 0)) (f119_41 : f119[41]? = some (.ref (ad 147))) (f119_42 : f119[42]? = some (.ref (ad 148))) (f119_43 : f119[43]? = some (.ref (ad 149))) (f119_44 : f119[44]? = some (.ref (ad 150))) (f119_47 : f119[47]? = some (.ref (ad 153))) (f119_48 : f119[48]? = some (.ref (ad 154))) (f119_49 : f119[49]? = some (.ref (ad 155))) (f119_50 : f119[50]? = some (.ref (ad 156))) (f119_53 : f119[53]? = some (.ref (ad 159))) (f119_54 : f119[54]? = some (.ref (ad 160))) (f119_55 : f119[55]? = some (.ref (ad 161))) (f119_56 : f119[56]? = some (.int 0)) (f119_57 : f119[57]? = some (.int 0)) (a123 : g 123 = .inl (cy 0, 2, .inl (fun _ => 0))) (a147 : g 147 = .inl (cy 0, 80, .inl (fun _ => 0))) (a148 : g 148 = .inl (cy 0, 30, .inl c148)) (a149 : g 149 = .inl (cy 0, 30, .inl c149)) (a150 : g 150 = .inl (cy 0, 5, .inl (fun _ => 0))) (a153 : g 153 = .inl (cy 0, 30, .inl c153)) (a154 : g 154 = .inl (cy 0, 120, .inl (fun _ => 0))) (a155 : g 155 = .inl (cy 0, 120, .inl c155)) (a156 : g 156 = .inl (cy 0, 5, .inl (fun _ => 0))) (a159 : g 159 = .inl (cy 0, 5, .inl (fun _ => 0))) (a160 : g 160 = .inl (cy 2, 30, .inl c160)) (a161 : g 161 = .inl (cy 2, 5, .inl (fun _ => 0))) (hO : cO D cy (fun q : Nat => s.heap.size ≤ q) s.heap s 173 ad (cup [] g) H locs) (hce : cells + 0 ≤ 600000) (hsl : slots + 0 ≤ 7302250) (hl : lv_has ls 4 [(0, .ref b), (1, .ref (ad 0)), (2, .ref (ad 119)), (3, .int 0)]) : W p l e room_1 s m #[Value.ref b] below meth c H locs cells slots (lw_Z below #[Value.ref b] s) (F0 m 611 ls []) := by
  obtain ⟨hx, hb, hml, hown, hts⟩ := id hC
  refine lv_aload_n hx hb dL_law_611 rfl (lv_at hl 1 rfl) ?_
  refine lv_aload_n hx hb dL_law_612 rfl (lv_at hl 0 rfl) ?_
  refine lv_iload_n hx hb dL_law_613 rfl (lv_at hl 3 rfl) ?_
  refine lv_iconst (v := 1) hx hb dL_law_614 (by decide) ?_
  refine lv_iadd hx hb dL_law_615 ?_
  refine cg_ev (v := 1) (by decide) ?_
  refine va_sld hx hb hX hbl (Nat.not_le.mpr hbl) hO.2.2.2.1 (cin (by decide)) dL_law_616 ?_
  refine cg_ev (v := xs 1) rfl ?_
  refine lv_aload_n hx hb dL_law_617 rfl (lv_at hl 0 rfl) ?_
  refine lv_iload_n hx hb dL_law_618 rfl (lv_at hl 3 rfl) ?_
  refine lv_iconst (v := 2) hx hb dL_law_619 (by decide) ?_
  refine lv_iadd hx hb dL_law_620 ?_
  refine cg_ev (v := 2) (by decide) ?_
  refine va_sld hx hb hX hbl (Nat.not_le.mpr hbl) hO.2.2.2.1 (cin (by decide)) dL_law_621 ?_
  refine cg_ev (v := xs 2) rfl ?_
  refine lv_aload_n hx hb dL_law_622 rfl (lv_at hl 0 rfl) ?_
  refine lv_iload_n hx hb dL_law_623 rfl (lv_at hl 3 rfl) ?_
  refine lv_iconst (v := 3) hx hb dL_law_624 (by decide) ?_
  refine lv_iadd hx hb dL_law_625 ?_
  refine cg_ev (v := 3) (by decide) ?_
  refine va_sld hx hb hX hbl (Nat.not_le.mpr hbl) hO.2.2.2.1 (cin (by decide)) dL_law_626 ?_
  refine cg_ev (v := xs 3) rfl ?_
  refine cg_Vi (As := [.int (xs 1), .int (xs 2), .int (xs 3)]) (rest := []) (mc := 0) (ms := 0) (rm := { frames := 5, cells := 0, slots := 0, locals := 126 }) hC hl.1 hO [0, 38, 74, 21, 30, 31, 39, 41, 80, 81, 82, 83, 84, 85, 86, 87, 75] (by decide +kernel) (c_X11_heaps l D cy _ _ (f0 := f0) (f1 := f38) (f2 := f74) (f3 := f21) (f8 := f80) (x1 := (xs 1)) (x2 := (xs 2)) (x3 := (xs 3)) o0 f0_4 f0_9 o38 f38_0 f38_3 f38_4 o74 f74_0 f74_1 f74_3 f74_4 f74_5 f74_10 o21 f21_9 f21_10 f21_11 a30 a31 a39 a41 o80 f80_0 f80_1 f80_2 f80_3 f80_4 f80_5 f80_6 f80_7 a81 a82 a83 a84 a85 a86 a87 a75) gL_c_X11_heaps rfl rfl rfl 3 (by decide +kernel) ⟨Nat.le_of_ble_eq_true rfl, Nat.le_of_ble_eq_true rfl⟩ rfl (by decide) o0 rfl rfl (Nat.le_of_ble_eq_true rfl) dL_law_627 ⟨hce, hsl⟩ (fun r0 nw0 l0 H locs hw hO => ?_)
  obtain rfl := hw
  have hm := cm_far (N := 173) (k := 17) (M := 119) (ps := [0, 38, 74, 21, 30, 31, 39, 41, 80, 81, 82, 83, 84, 85, 86, 87, 75]) (by decide +kernel) (by decide +kernel) l0 [] g
  refine lv_aload_n hx hb dL_law_630 rfl (lv_at hl 2 rfl) ?_
  refine lv_aload_n hx hb dL_law_631 rfl (lv_at hl 0 rfl) ?_
  refine lv_iload_n hx hb dL_law_632 rfl (lv_at hl 3 rfl) ?_
  refine lv_iconst (v := 1) hx hb dL_law_633 (by decide) ?_
  refine lv_iadd hx hb dL_law_634 ?_
  refine cg_ev (v := 1) (by decide) ?_
  refine va_sld hx hb hX hbl (Nat.not_le.mpr hbl) hO.2.2.2.1 (cin (by decide)) dL_law_635 ?_
  refine cg_ev (v := xs 1) rfl ?_
  refine lv_aload_n hx hb dL_law_636 rfl (lv_at hl 0 rfl) ?_
  refine lv_iload_n hx hb dL_law_637 rfl (lv_at hl 3 rfl) ?_
  refine lv_iconst (v := 2) hx hb dL_law_638 (by decide) ?_
  refine lv_iadd hx hb dL_law_639 ?_
  refine cg_ev (v := 2) (by decide) ?_
  refine va_sld hx hb hX hbl (Nat.not_le.mpr hbl) hO.2.2.2.1 (cin (by decide)) dL_law_640 ?_
  refine cg_ev (v := xs 2) rfl ?_
  refine lv_aload_n hx hb dL_law_641 rfl (lv_at hl 0 rfl) ?_
  refine lv_iload_n hx hb dL_law_642 rfl (lv_at hl 3 rfl) ?_
  refine lv_iconst (v := 3) hx hb dL_law_643 (by decide) ?_
  refine lv_iadd hx hb dL_law_644 ?_
  refine cg_ev (v := 3) (by decide) ?_
  refine va_sld hx hb hX hbl (Nat.not_le.mpr hbl) hO.2.2.2.1 (cin (by decide)) dL_law_645 ?_
  refine cg_ev (v := xs 3) rfl ?_
  refine cg_Vi (As := [.int (xs 1), .int (xs 2), .int (xs 3)]) (rest := [.int (ans_heaps (xs 1) (xs 2) (xs 3))]) (mc := 0) (ms := 0) (rm := { frames := 3, cells := 0, slots := 0, locals := 63 }) hC hl.1 hO [119, 147, 123, 150, 148, 149, 160, 153, 154, 155, 156, 159, 161] (by decide +kernel) (c_X12_heaps l D cy _ _ (f0 := f119) (x1 := (xs 1)) (x2 := (xs 2)) (x3 := (xs 3)) ((hm 119 (by decide) (by decide)).trans o119) f119_12 f119_36 f119_41 f119_42 f119_43 f119_44 f119_47 f119_48 f119_49 f119_50 f119_53 f119_54 f119_55 f119_56 f119_57 ((hm 147 (by decide) (by decide)).trans a147) ((hm 123 (by decide) (by decide)).trans a123) ((hm 150 (by decide) (by decide)).trans a150) ((hm 148 (by decide) (by decide)).trans a148) ((hm 149 (by decide) (by decide)).trans a149) ((hm 160 (by decide) (by decide)).trans a160) ((hm 153 (by decide) (by decide)).trans a153) ((hm 154 (by decide) (by decide)).trans a154) ((hm 155 (by decide) (by decide)).trans a155) ((hm 156 (by decide) (by decide)).trans a156) ((hm 159 (by decide) (by decide)).trans a159) ((hm 161 (by decide) (by decide)).trans a161)) gL_c_X12_heaps rfl rfl rfl 3 (by decide +kernel) ⟨Nat.le_of_ble_eq_true rfl, Nat.le_of_ble_eq_true rfl⟩ rfl (by decide) ((hm 119 (by decide) (by decide)).trans o119) rfl rfl (Nat.le_of_ble_eq_true rfl) dL_law_646 ⟨hce, hsl⟩ (fun r1 nw1 l1 H locs hw hO => ?_)
  obtain rfl := hw
  refine lv_icmp_eq (tgt := 917) hx hb dL_law_649 (by decide) (fun _ => ?_) (fun h => absurd rfl h)
  exact law_tail l hC hr hlk hX hbl hO hce hsl (lv_sub hl [0, 3] rfl)

