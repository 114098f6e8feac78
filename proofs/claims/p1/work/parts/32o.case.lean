set_option maxHeartbeats 8000000 in
set_option maxRecDepth 100000 in
theorem lc_fault {p : Program} {e : Env} {s : State} {m : MethodId} {below : List Frame} {meth : Method} {c : Code} (l : Launch) {b : Nat} {xs : Nat → Int32} {D : va_G} {cy : Nat → ClassId} {ad : Nat → Nat} {g : Nat → va_E} {H : Heap} {locs : List Loc} {cells slots : Nat} {ls : Array Slot} {f0 : List Value} {f2 : List Value} {f119 : List Value} (hC : CallFix p m c code 4 s #[Value.ref b] lw_tbl RL) (hr : meth.sig.returnType = ret) (hlk : meth.locks = false) (hX : va_X b 6 xs s s.heap) (hbl : b < s.heap.size) (o0 : g 0 = .inr (11, f0)) (f0_2 : f0[2]? = some (.ref (ad 2))) (o2 : g 2 = .inr (6, f2)) (f2_1 : f2[1]? = some (.int 0)) (f2_2 : f2[2]? = some (.int (-1))) (o119 : g 119 = .inr (12, f119)) (f119_4 : f119[4]? = some (.int 0)) (f119_5 : f119[5]? = some (.int (-1))) (hO : cO D cy (fun q : Nat => s.heap.size ≤ q) s.heap s 173 ad (cup [] g) H locs) (hce : cells + 0 ≤ 600000) (hsl : slots + 0 ≤ 7302250) (hl : lv_has ls 4 [(0, .ref b), (1, .ref (ad 0)), (2, .ref (ad 119)), (3, .int 0)]) : W p l e room_1 s m #[Value.ref b] below meth c H locs cells slots (lw_Z below #[Value.ref b] s) (F0 m 255 ls []) := by
  obtain ⟨hx, hb, hml, hown, hts⟩ := id hC
  refine lv_aload_n hx hb dL_law_255 rfl (lv_at hl 1 rfl) ?_
  refine lv_aload_n hx hb dL_law_256 rfl (lv_at hl 0 rfl) ?_
  refine lv_iload_n hx hb dL_law_257 rfl (lv_at hl 3 rfl) ?_
  refine lv_iconst (v := 1) hx hb dL_law_258 (by decide) ?_
  refine lv_iadd hx hb dL_law_259 ?_
  refine cg_ev (v := 1) (by decide) ?_
  refine va_sld hx hb hX hbl (Nat.not_le.mpr hbl) hO.2.2.2.1 (cin (by decide)) dL_law_260 ?_
  refine cg_ev (v := xs 1) rfl ?_
  refine cg_Vi (As := [.int (xs 1)]) (rest := []) (mc := 0) (ms := 0) (rm := { frames := 0, cells := 0, slots := 0, locals := 0 }) hC hl.1 hO [0, 2] (by decide +kernel) (c_X11_fault l D cy _ _ (f0 := f0) (f1 := f2) (n := (xs 1)) o0 f0_2 o2 f2_1 f2_2) gL_c_X11_fault rfl rfl rfl 1 (by decide +kernel) ⟨Nat.le_of_ble_eq_true rfl, Nat.le_of_ble_eq_true rfl⟩ rfl (by decide) o0 rfl rfl (Nat.le_of_ble_eq_true rfl) dL_law_261 ⟨hce, hsl⟩ (fun r0 nw0 l0 H locs hw hO => ?_)
  obtain rfl := hw
  have hm := cm_far (N := 173) (k := 2) (M := 119) (ps := [0, 2]) (by decide +kernel) (by decide +kernel) l0 [] g
  refine lv_aload_n hx hb dL_law_264 rfl (lv_at hl 2 rfl) ?_
  refine lv_aload_n hx hb dL_law_265 rfl (lv_at hl 0 rfl) ?_
  refine lv_iload_n hx hb dL_law_266 rfl (lv_at hl 3 rfl) ?_
  refine lv_iconst (v := 1) hx hb dL_law_267 (by decide) ?_
  refine lv_iadd hx hb dL_law_268 ?_
  refine cg_ev (v := 1) (by decide) ?_
  refine va_sld hx hb hX hbl (Nat.not_le.mpr hbl) hO.2.2.2.1 (cin (by decide)) dL_law_269 ?_
  refine cg_ev (v := xs 1) rfl ?_
  refine cg_Vi (As := [.int (xs 1)]) (rest := [.int (ans_fault (xs 1))]) (mc := 0) (ms := 0) (rm := { frames := 0, cells := 0, slots := 0, locals := 0 }) hC hl.1 hO [119] (by decide +kernel) (c_X12_fault l D cy _ _ (f0 := f119) (n := (xs 1)) ((hm 119 (by decide) (by decide)).trans o119) f119_4 f119_5) gL_c_X12_fault rfl rfl rfl 1 (by decide +kernel) ⟨Nat.le_of_ble_eq_true rfl, Nat.le_of_ble_eq_true rfl⟩ rfl (by decide) ((hm 119 (by decide) (by decide)).trans o119) rfl rfl (Nat.le_of_ble_eq_true rfl) dL_law_270 ⟨hce, hsl⟩ (fun r1 nw1 l1 H locs hw hO => ?_)
  obtain rfl := hw
  refine lv_icmp_eq (tgt := 917) hx hb dL_law_273 (by decide) (fun _ => ?_) (fun h => absurd rfl h)
  exact law_tail l hC hr hlk hX hbl hO hce hsl (lv_sub hl [0, 3] rfl)

set_option maxHeartbeats 8000000 in
set_option maxRecDepth 100000 in
theorem lc_image {p : Program} {e : Env} {s : State} {m : MethodId} {below : List Frame} {meth : Method} {c : Code} (l : Launch) {b : Nat} {xs : Nat → Int32} {D : va_G} {cy : Nat → ClassId} {ad : Nat → Nat} {g : Nat → va_E} {H : Heap} {locs : List Loc} {cells slots : Nat} {ls : Array Slot} {f0 : List Value} {f38 : List Value} {c39 : Nat → Int32} {c40 : Nat → Int32} {c41 : Nat → Int32} {f43 : List Value} {c44 : Nat → Int32} {c45 : Nat → Int32} {c46 : Nat → Int32} {f47 : List Value} {c48 : Nat → Int32} {c49 : Nat → Int32} {c50 : Nat → Int32} {f51 : List Value} {c52 : Nat → Int32} {c53 : Nat → Int32} {c54 : Nat → Int32} {f119 : List Value} {c171 : Nat → Int32} {c172 : Nat → Int32} (hC : CallFix p m c code 4 s #[Value.ref b] lw_tbl RL) (hr : meth.sig.returnType = ret) (hlk : meth.locks = false) (hX : va_X b 6 xs s s.heap) (hbl : b < s.heap.size) (o0 : g 0 = .inr (11, f0)) (f0_4 : f0[4]? = some (.ref (ad 38))) (f0_5 : f0[5]? = some (.ref (ad 42))) (o38 : g 38 = .inr (9, f38)) (f38_0 : f38[0]? = some (.ref (ad 39))) (f38_1 : f38[1]? = some (.ref (ad 40))) (f38_2 : f38[2]? = some (.int (-1))) (f38_3 : f38[3]? = some (.ref (ad 41))) (f38_4 : f38[4]? = some (.int 0)) (a39 : g 39 = .inl (cy 0, 24, .inl c39)) (a40 : g 40 = .inl (cy 0, 24, .inl c40)) (a41 : g 41 = .inl (cy 0, 5, .inl c41)) (a42 : g 42 = .inl (cy 4, 3, .inr (.inr (.inr (.inr (va_up (va_up (va_up (fun _ => none) (0 : Int32).toNatClampNeg (some (ad 43))) (1 : Int32).toNatClampNeg (some (ad 47))) (2 : Int32).toNatClampNeg (some (ad 51)))))))) (o43 : g 43 = .inr (9, f43)) (f43_0 : f43[0]? = some (.ref (ad 44))) (f43_1 : f43[1]? = some (.ref (ad 45))) (f43_2 : f43[2]? = some (.int 0)) (f43_3 : f43[3]? = some (.ref (ad 46))) (f43_4 : f43[4]? = some (.int (-1))) (a44 : g 44 = .inl (cy 0, 24, .inl c44)) (a45 : g 45 = .inl (cy 0, 24, .inl c45)) (a46 : g 46 = .inl (cy 0, 5, .inl c46)) (o47 : g 47 = .inr (9, f47)) (f47_0 : f47[0]? = some (.ref (ad 48))) (f47_1 : f47[1]? = some (.ref (ad 49))) (f47_2 : f47[2]? = some (.int 0)) (f47_3 : f47[3]? = some (.ref (ad 50))) (f47_4 : f47[4]? = some (.int (-1))) (a48 : g 48 = .inl (cy 0, 24, .inl c48)) (a49 : g 49 = .inl (cy 0, 24, .inl c49)) (a50 : g 50 = .inl (cy 0, 5, .inl c50)) (o51 : g 51 = .inr (9, f51)) (f51_0 : f51[0]? = some (.ref (ad 52))) (f51_1 : f51[1]? = some (.ref (ad 53))) (f51_2 : f51[2]? = some (.int 0)) (f51_3 : f51[3]? = some (.ref (ad 54))) (f51_4 : f51[4]? = some (.int (-1))) (a52 : g 52 = .inl (cy 0, 24, .inl c52)) (a53 : g 53 = .inl (cy 0, 24, .inl c53)) (a54 : g 54 = .inl (cy 0, 5, .inl c54)) (o119 : g 119 = .inr (12, f119)) (f119_41 : f119[41]? = some (.ref (ad 147))) (f119_72 : f119[72]? = some (.ref (ad 171))) (f119_73 : f119[73]? = some (.ref (ad 172))) (a147 : g 147 = .inl (cy 0, 80, .inl (fun _ => 0))) (a171 : g 171 = .inl (cy 0, 240, .inl c171)) (a172 : g 172 = .inl (cy 2, 3, .inl c172)) (hO : cO D cy (fun q : Nat => s.heap.size ≤ q) s.heap s 173 ad (cup [] g) H locs) (hce : cells + 0 ≤ 600000) (hsl : slots + 0 ≤ 7302250) (hl : lv_has ls 4 [(0, .ref b), (1, .ref (ad 0)), (2, .ref (ad 119)), (3, .int 0)]) : W p l e room_1 s m #[Value.ref b] below meth c H locs cells slots (lw_Z below #[Value.ref b] s) (F0 m 848 ls []) := by
  obtain ⟨hx, hb, hml, hown, hts⟩ := id hC
  refine lv_aload_n hx hb dL_law_848 rfl (lv_at hl 1 rfl) ?_
  refine lv_aload_n hx hb dL_law_849 rfl (lv_at hl 0 rfl) ?_
  refine lv_iload_n hx hb dL_law_850 rfl (lv_at hl 3 rfl) ?_
  refine lv_iconst (v := 1) hx hb dL_law_851 (by decide) ?_
  refine lv_iadd hx hb dL_law_852 ?_
  refine cg_ev (v := 1) (by decide) ?_
  refine va_sld hx hb hX hbl (Nat.not_le.mpr hbl) hO.2.2.2.1 (cin (by decide)) dL_law_853 ?_
  refine cg_ev (v := xs 1) rfl ?_
  refine cg_Vi (As := [.int (xs 1)]) (rest := []) (mc := 0) (ms := 0) (rm := { frames := 2, cells := 0, slots := 0, locals := 81 }) hC hl.1 hO [0, 42, 43, 44, 45, 46, 38, 39, 40, 41, 47, 48, 49, 50, 51, 52, 53, 54] (by decide +kernel) (c_X11_image l D cy _ _ (f0 := f0) (f6 := f38) (f2 := f43) (f10 := f47) (f14 := f51) (n := (xs 1)) o0 f0_4 f0_5 a42 o43 f43_0 f43_1 f43_2 f43_3 f43_4 a44 a45 a46 o38 f38_0 f38_1 f38_2 f38_3 f38_4 a39 a40 a41 o47 f47_0 f47_1 f47_2 f47_3 f47_4 a48 a49 a50 o51 f51_0 f51_1 f51_2 f51_3 f51_4 a52 a53 a54) gL_c_X11_image rfl rfl rfl 1 (by decide +kernel) ⟨Nat.le_of_ble_eq_true rfl, Nat.le_of_ble_eq_true rfl⟩ rfl (by decide) o0 rfl rfl (Nat.le_of_ble_eq_true rfl) dL_law_854 ⟨hce, hsl⟩ (fun r0 nw0 l0 H locs hw hO => ?_)
  obtain rfl := hw
  have hm := cm_far (N := 173) (k := 18) (M := 119) (ps := [0, 42, 43, 44, 45, 46, 38, 39, 40, 41, 47, 48, 49, 50, 51, 52, 53, 54]) (by decide +kernel) (by decide +kernel) l0 [] g
  refine lv_aload_n hx hb dL_law_857 rfl (lv_at hl 2 rfl) ?_
  refine lv_aload_n hx hb dL_law_858 rfl (lv_at hl 0 rfl) ?_
  refine lv_iload_n hx hb dL_law_859 rfl (lv_at hl 3 rfl) ?_
  refine lv_iconst (v := 1) hx hb dL_law_860 (by decide) ?_
  refine lv_iadd hx hb dL_law_861 ?_
  refine cg_ev (v := 1) (by decide) ?_
  refine va_sld hx hb hX hbl (Nat.not_le.mpr hbl) hO.2.2.2.1 (cin (by decide)) dL_law_862 ?_
  refine cg_ev (v := xs 1) rfl ?_
  refine cg_Vi (As := [.int (xs 1)]) (rest := [.int (ans_image (xs 1))]) (mc := 0) (ms := 0) (rm := { frames := 1, cells := 0, slots := 0, locals := 22 }) hC hl.1 hO [119, 171, 172, 147] (by decide +kernel) (c_X12_image l D cy _ _ (f0 := f119) (n := (xs 1)) ((hm 119 (by decide) (by decide)).trans o119) f119_41 f119_72 f119_73 ((hm 171 (by decide) (by decide)).trans a171) ((hm 172 (by decide) (by decide)).trans a172) ((hm 147 (by decide) (by decide)).trans a147)) gL_c_X12_image rfl rfl rfl 1 (by decide +kernel) ⟨Nat.le_of_ble_eq_true rfl, Nat.le_of_ble_eq_true rfl⟩ rfl (by decide) ((hm 119 (by decide) (by decide)).trans o119) rfl rfl (Nat.le_of_ble_eq_true rfl) dL_law_863 ⟨hce, hsl⟩ (fun r1 nw1 l1 H locs hw hO => ?_)
  obtain rfl := hw
  refine lv_icmp_eq (tgt := 917) hx hb dL_law_866 (by decide) (fun _ => ?_) (fun h => absurd rfl h)
  exact law_tail l hC hr hlk hX hbl hO hce hsl (lv_sub hl [0, 3] rfl)

set_option maxHeartbeats 8000000 in
set_option maxRecDepth 100000 in
theorem lc_back {p : Program} {e : Env} {s : State} {m : MethodId} {below : List Frame} {meth : Method} {c : Code} (l : Launch) {b : Nat} {xs : Nat → Int32} {D : va_G} {cy : Nat → ClassId} {ad : Nat → Nat} {g : Nat → va_E} {H : Heap} {locs : List Loc} {cells slots : Nat} {ls : Array Slot} {f0 : List Value} {f43 : List Value} {f47 : List Value} {f51 : List Value} {f119 : List Value} (hC : CallFix p m c code 4 s #[Value.ref b] lw_tbl RL) (hr : meth.sig.returnType = ret) (hlk : meth.locks = false) (hX : va_X b 6 xs s s.heap) (hbl : b < s.heap.size) (o0 : g 0 = .inr (11, f0)) (f0_5 : f0[5]? = some (.ref (ad 42))) (a42 : g 42 = .inl (cy 4, 3, .inr (.inr (.inr (.inr (va_up (va_up (va_up (fun _ => none) (0 : Int32).toNatClampNeg (some (ad 43))) (1 : Int32).toNatClampNeg (some (ad 47))) (2 : Int32).toNatClampNeg (some (ad 51)))))))) (o43 : g 43 = .inr (9, f43)) (f43_4 : f43[4]? = some (.int (-1))) (o47 : g 47 = .inr (9, f47)) (f47_4 : f47[4]? = some (.int (-1))) (o51 : g 51 = .inr (9, f51)) (f51_4 : f51[4]? = some (.int (-1))) (o119 : g 119 = .inr (12, f119)) (f119_73 : f119[73]? = some (.ref (ad 172))) (a172 : g 172 = .inl (cy 2, 3, .inl (fun _ => 0))) (hO : cO D cy (fun q : Nat => s.heap.size ≤ q) s.heap s 173 ad (cup [] g) H locs) (hce : cells + 0 ≤ 600000) (hsl : slots + 0 ≤ 7302250) (hl : lv_has ls 4 [(0, .ref b), (1, .ref (ad 0)), (2, .ref (ad 119)), (3, .int 0)]) : W p l e room_1 s m #[Value.ref b] below meth c H locs cells slots (lw_Z below #[Value.ref b] s) (F0 m 871 ls []) := by
  obtain ⟨hx, hb, hml, hown, hts⟩ := id hC
  refine lv_aload_n hx hb dL_law_871 rfl (lv_at hl 1 rfl) ?_
  refine lv_aload_n hx hb dL_law_872 rfl (lv_at hl 0 rfl) ?_
  refine lv_iload_n hx hb dL_law_873 rfl (lv_at hl 3 rfl) ?_
  refine lv_iconst (v := 1) hx hb dL_law_874 (by decide) ?_
  refine lv_iadd hx hb dL_law_875 ?_
  refine cg_ev (v := 1) (by decide) ?_
  refine va_sld hx hb hX hbl (Nat.not_le.mpr hbl) hO.2.2.2.1 (cin (by decide)) dL_law_876 ?_
  refine cg_ev (v := xs 1) rfl ?_
  refine cg_Vi (As := [.int (xs 1)]) (rest := []) (mc := 0) (ms := 0) (rm := { frames := 1, cells := 0, slots := 0, locals := 22 }) hC hl.1 hO [0, 42, 43, 47, 51] (by decide +kernel) (c_X11_back l D cy _ _ (f0 := f0) (f2 := f43) (f3 := f47) (f4 := f51) (n := (xs 1)) o0 f0_5 a42 o43 f43_4 o47 f47_4 o51 f51_4) gL_c_X11_back rfl rfl rfl 1 (by decide +kernel) ⟨Nat.le_of_ble_eq_true rfl, Nat.le_of_ble_eq_true rfl⟩ rfl (by decide) o0 rfl rfl (Nat.le_of_ble_eq_true rfl) dL_law_877 ⟨hce, hsl⟩ (fun r0 nw0 l0 H locs hw hO => ?_)
  obtain rfl := hw
  have hm := cm_far (N := 173) (k := 5) (M := 119) (ps := [0, 42, 43, 47, 51]) (by decide +kernel) (by decide +kernel) l0 [] g
  refine lv_aload_n hx hb dL_law_880 rfl (lv_at hl 2 rfl) ?_
  refine lv_aload_n hx hb dL_law_881 rfl (lv_at hl 0 rfl) ?_
  refine lv_iload_n hx hb dL_law_882 rfl (lv_at hl 3 rfl) ?_
  refine lv_iconst (v := 1) hx hb dL_law_883 (by decide) ?_
  refine lv_iadd hx hb dL_law_884 ?_
  refine cg_ev (v := 1) (by decide) ?_
  refine va_sld hx hb hX hbl (Nat.not_le.mpr hbl) hO.2.2.2.1 (cin (by decide)) dL_law_885 ?_
  refine cg_ev (v := xs 1) rfl ?_
  refine cg_Vi (As := [.int (xs 1)]) (rest := [.int (-1)]) (mc := 0) (ms := 0) (rm := { frames := 1, cells := 0, slots := 0, locals := 22 }) hC hl.1 hO [119, 172] (by decide +kernel) (c_X12_back l D cy _ _ (f0 := f119) (n := (xs 1)) ((hm 119 (by decide) (by decide)).trans o119) f119_73 ((hm 172 (by decide) (by decide)).trans a172)) gL_c_X12_back rfl rfl rfl 1 (by decide +kernel) ⟨Nat.le_of_ble_eq_true rfl, Nat.le_of_ble_eq_true rfl⟩ rfl (by decide) ((hm 119 (by decide) (by decide)).trans o119) rfl rfl (Nat.le_of_ble_eq_true rfl) dL_law_886 ⟨hce, hsl⟩ (fun r1 nw1 l1 H locs hw hO => ?_)
  obtain rfl := hw
  refine lv_icmp_eq (tgt := 917) hx hb dL_law_889 (by decide) (fun _ => ?_) (fun h => absurd rfl h)
  exact law_tail l hC hr hlk hX hbl hO hce hsl (lv_sub hl [0, 3] rfl)

set_option maxHeartbeats 8000000 in
set_option maxRecDepth 100000 in
theorem lc_about {p : Program} {e : Env} {s : State} {m : MethodId} {below : List Frame} {meth : Method} {c : Code} (l : Launch) {b : Nat} {xs : Nat → Int32} {D : va_G} {cy : Nat → ClassId} {ad : Nat → Nat} {g : Nat → va_E} {H : Heap} {locs : List Loc} {cells slots : Nat} {ls : Array Slot} {f0 : List Value} {f21 : List Value} {f35 : List Value} {f38 : List Value} {f55 : List Value} {f101 : List Value} {f119 : List Value} (hC : CallFix p m c code 4 s #[Value.ref b] lw_tbl RL) (hr : meth.sig.returnType = ret) (hlk : meth.locks = false) (hX : va_X b 6 xs s s.heap) (hbl : b < s.heap.size) (o0 : g 0 = .inr (11, f0)) (f0_1 : f0[1]? = some (.int 0)) (f0_3 : f0[3]? = some (.ref (ad 21))) (f0_4 : f0[4]? = some (.ref (ad 38))) (f0_6 : f0[6]? = some (.ref (ad 55))) (f0_11 : f0[11]? = some (.ref (ad 101))) (f0_13 : f0[13]? = some (.int 0)) (o21 : g 21 = .inr (7, f21)) (f21_5 : f21[5]? = some (.int 0)) (f21_11 : f21[11]? = some (.int 0)) (f21_17 : f21[17]? = some (.ref (ad 35))) (o35 : g 35 = .inr (4, f35)) (f35_2 : f35[2]? = some (.int 0)) (o38 : g 38 = .inr (9, f38)) (f38_4 : f38[4]? = some (.int 0)) (o55 : g 55 = .inr (0, f55)) (f55_3 : f55[3]? = some (.int 0)) (f55_4 : f55[4]? = some (.int 0)) (o101 : g 101 = .inr (8, f101)) (f101_7 : f101[7]? = some (.int 0)) (f101_8 : f101[8]? = some (.int 0)) (o119 : g 119 = .inr (12, f119)) (f119_2 : f119[2]? = some (.int 0)) (f119_11 : f119[11]? = some (.ref (ad 122))) (f119_12 : f119[12]? = some (.ref (ad 123))) (f119_14 : f119[14]? = some (.ref (ad 125))) (f119_36 : f119[36]? = some (.int 0)) (f119_41 : f119[41]? = some (.ref (ad 147))) (f119_59 : f119[59]? = some (.int 0)) (f119_60 : f119[60]? = some (.int 0)) (f119_62 : f119[62]? = some (.int 0)) (f119_70 : f119[70]? = some (.int 0)) (f119_71 : f119[71]? = some (.int 0)) (a122 : g 122 = .inl (cy 0, 2, .inl (fun _ => 0))) (a123 : g 123 = .inl (cy 0, 2, .inl (fun _ => 0))) (a125 : g 125 = .inl (cy 0, 2, .inl (fun _ => 0))) (a147 : g 147 = .inl (cy 0, 80, .inl (fun _ => 0))) (hO : cO D cy (fun q : Nat => s.heap.size ≤ q) s.heap s 173 ad (cup [] g) H locs) (hce : cells + 0 ≤ 600000) (hsl : slots + 0 ≤ 7302250) (hl : lv_has ls 4 [(0, .ref b), (1, .ref (ad 0)), (2, .ref (ad 119)), (3, .int 0)]) : W p l e room_1 s m #[Value.ref b] below meth c H locs cells slots (lw_Z below #[Value.ref b] s) (F0 m 894 ls []) := by
  obtain ⟨hx, hb, hml, hown, hts⟩ := id hC
  refine lv_aload_n hx hb dL_law_894 rfl (lv_at hl 1 rfl) ?_
  refine lv_aload_n hx hb dL_law_895 rfl (lv_at hl 0 rfl) ?_
  refine lv_iload_n hx hb dL_law_896 rfl (lv_at hl 3 rfl) ?_
  refine lv_iconst (v := 1) hx hb dL_law_897 (by decide) ?_
  refine lv_iadd hx hb dL_law_898 ?_
  refine cg_ev (v := 1) (by decide) ?_
  refine va_sld hx hb hX hbl (Nat.not_le.mpr hbl) hO.2.2.2.1 (cin (by decide)) dL_law_899 ?_
  refine cg_ev (v := xs 1) rfl ?_
  refine cg_Vi (As := [.int (xs 1)]) (rest := []) (mc := 0) (ms := 0) (rm := { frames := 0, cells := 0, slots := 0, locals := 0 }) hC hl.1 hO [0, 21, 38, 55, 101, 35] (by decide +kernel) (c_X11_about l D cy _ _ (f0 := f0) (f1 := f21) (f5 := f35) (f2 := f38) (f3 := f55) (f4 := f101) (n := (xs 1)) o0 f0_1 f0_3 f0_4 f0_6 f0_11 f0_13 o21 f21_5 f21_11 f21_17 o38 f38_4 o55 f55_3 f55_4 o101 f101_7 f101_8 o35 f35_2) gL_c_X11_about rfl rfl rfl 1 (by decide +kernel) ⟨Nat.le_of_ble_eq_true rfl, Nat.le_of_ble_eq_true rfl⟩ rfl (by decide) o0 rfl rfl (Nat.le_of_ble_eq_true rfl) dL_law_900 ⟨hce, hsl⟩ (fun r0 nw0 l0 H locs hw hO => ?_)
  obtain rfl := hw
  have hm := cm_far (N := 173) (k := 6) (M := 119) (ps := [0, 21, 38, 55, 101, 35]) (by decide +kernel) (by decide +kernel) l0 [] g
  refine lv_aload_n hx hb dL_law_903 rfl (lv_at hl 2 rfl) ?_
  refine lv_aload_n hx hb dL_law_904 rfl (lv_at hl 0 rfl) ?_
  refine lv_iload_n hx hb dL_law_905 rfl (lv_at hl 3 rfl) ?_
  refine lv_iconst (v := 1) hx hb dL_law_906 (by decide) ?_
  refine lv_iadd hx hb dL_law_907 ?_
  refine cg_ev (v := 1) (by decide) ?_
  refine va_sld hx hb hX hbl (Nat.not_le.mpr hbl) hO.2.2.2.1 (cin (by decide)) dL_law_908 ?_
  refine cg_ev (v := xs 1) rfl ?_
  refine cg_Vi (As := [.int (xs 1)]) (rest := [.int (ans_about (xs 1))]) (mc := 0) (ms := 0) (rm := { frames := 1, cells := 0, slots := 0, locals := 20 }) hC hl.1 hO [119, 122, 123, 147, 125] (by decide +kernel) (c_X12_about l D cy _ _ (f0 := f119) (n := (xs 1)) ((hm 119 (by decide) (by decide)).trans o119) f119_2 f119_11 f119_12 f119_14 f119_36 f119_41 f119_59 f119_60 f119_62 f119_70 f119_71 ((hm 122 (by decide) (by decide)).trans a122) ((hm 123 (by decide) (by decide)).trans a123) ((hm 147 (by decide) (by decide)).trans a147) ((hm 125 (by decide) (by decide)).trans a125)) gL_c_X12_about rfl rfl rfl 1 (by decide +kernel) ⟨Nat.le_of_ble_eq_true rfl, Nat.le_of_ble_eq_true rfl⟩ rfl (by decide) ((hm 119 (by decide) (by decide)).trans o119) rfl rfl (Nat.le_of_ble_eq_true rfl) dL_law_909 ⟨hce, hsl⟩ (fun r1 nw1 l1 H locs hw hO => ?_)
  obtain rfl := hw
  refine lv_icmp_eq (tgt := 917) hx hb dL_law_912 (by decide) (fun _ => ?_) (fun h => absurd rfl h)
  exact law_tail l hC hr hlk hX hbl hO hce hsl (lv_sub hl [0, 3] rfl)

