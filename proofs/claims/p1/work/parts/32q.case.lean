set_option maxHeartbeats 8000000 in
set_option maxRecDepth 100000 in
theorem lc_rest {p : Program} {e : Env} {s : State} {m : MethodId} {below : List Frame} {meth : Method} {c : Code} (l : Launch) {b : Nat} {xs : Nat → Int32} {D : va_G} {cy : Nat → ClassId} {ad : Nat → Nat} {g : Nat → va_E} {H : Heap} {locs : List Loc} {cells slots : Nat} {ls : Array Slot} {f0 : List Value} {f21 : List Value} {c30 : Nat → Int32} {c31 : Nat → Int32} {f38 : List Value} {c39 : Nat → Int32} {c41 : Nat → Int32} {f74 : List Value} {c76 : Nat → Int32} {c77 : Nat → Int32} {c79 : Nat → Int32} {f80 : List Value} {c81 : Nat → Int32} {c82 : Nat → Int32} {c83 : Nat → Int32} {c84 : Nat → Int32} {c85 : Nat → Int32} {c86 : Nat → Int32} {c87 : Nat → Int32} {c118 : Nat → Int32} {f119 : List Value} (hC : CallFix p m c code 4 s #[Value.ref b] lw_tbl RL) (hr : meth.sig.returnType = ret) (hlk : meth.locks = false) (hX : va_X b 6 xs s s.heap) (hbl : b < s.heap.size) (o0 : g 0 = .inr (11, f0)) (f0_4 : f0[4]? = some (.ref (ad 38))) (f0_9 : f0[9]? = some (.ref (ad 74))) (f0_12 : f0[12]? = some (.ref (ad 118))) (f0_13 : f0[13]? = some (.int 0)) (o21 : g 21 = .inr (7, f21)) (f21_9 : f21[9]? = some (.ref (ad 30))) (f21_10 : f21[10]? = some (.ref (ad 31))) (a30 : g 30 = .inl (cy 0, 20, .inl c30)) (a31 : g 31 = .inl (cy 0, 4, .inl c31)) (o38 : g 38 = .inr (9, f38)) (f38_0 : f38[0]? = some (.ref (ad 39))) (f38_3 : f38[3]? = some (.ref (ad 41))) (f38_4 : f38[4]? = some (.int 0)) (a39 : g 39 = .inl (cy 0, 24, .inl c39)) (a41 : g 41 = .inl (cy 0, 5, .inl c41)) (o74 : g 74 = .inr (2, f74)) (f74_1 : f74[1]? = some (.ref (ad 38))) (f74_3 : f74[3]? = some (.ref (ad 80))) (f74_5 : f74[5]? = some (.int 0)) (f74_6 : f74[6]? = some (.ref (ad 76))) (f74_7 : f74[7]? = some (.ref (ad 77))) (f74_9 : f74[9]? = some (.ref (ad 79))) (a76 : g 76 = .inl (cy 0, 24, .inl c76)) (a77 : g 77 = .inl (cy 0, 24, .inl c77)) (a79 : g 79 = .inl (cy 0, 24, .inl c79)) (o80 : g 80 = .inr (10, f80)) (f80_0 : f80[0]? = some (.ref (ad 21))) (f80_1 : f80[1]? = some (.ref (ad 81))) (f80_2 : f80[2]? = some (.ref (ad 82))) (f80_3 : f80[3]? = some (.ref (ad 83))) (f80_4 : f80[4]? = some (.ref (ad 84))) (f80_5 : f80[5]? = some (.ref (ad 85))) (f80_6 : f80[6]? = some (.ref (ad 86))) (f80_7 : f80[7]? = some (.ref (ad 87))) (a81 : g 81 = .inl (cy 0, 5, .inl c81)) (a82 : g 82 = .inl (cy 0, 20, .inl c82)) (a83 : g 83 = .inl (cy 0, 4, .inl c83)) (a84 : g 84 = .inl (cy 0, 5, .inl c84)) (a85 : g 85 = .inl (cy 0, 5, .inl c85)) (a86 : g 86 = .inl (cy 0, 5, .inl c86)) (a87 : g 87 = .inl (cy 0, 5, .inl c87)) (a118 : g 118 = .inl (cy 0, 24, .inl c118)) (o119 : g 119 = .inr (12, f119)) (f119_41 : f119[41]? = some (.ref (ad 147))) (f119_62 : f119[62]? = some (.int 0)) (a147 : g 147 = .inl (cy 0, 80, .inl (fun _ => 0))) (hO : cO D cy (fun q : Nat => s.heap.size ≤ q) s.heap s 173 ad (cup [] g) H locs) (hce : cells + 0 ≤ 600000) (hsl : slots + 0 ≤ 7302250) (hl : lv_has ls 4 [(0, .ref b), (1, .ref (ad 0)), (2, .ref (ad 119)), (3, .int 0)]) : W p l e room_1 s m #[Value.ref b] below meth c H locs cells slots (lw_Z below #[Value.ref b] s) (F0 m 654 ls []) := by
  obtain ⟨hx, hb, hml, hown, hts⟩ := id hC
  refine lv_aload_n hx hb dL_law_654 rfl (lv_at hl 1 rfl) ?_
  refine cg_Vi (As := []) (rest := []) (mc := 0) (ms := 0) (rm := { frames := 4, cells := 0, slots := 0, locals := 102 }) hC hl.1 hO [0, 74, 38, 39, 41, 80, 21, 30, 31, 81, 82, 83, 84, 85, 86, 87, 76, 77, 79, 118] (by decide +kernel) (c_X11_rest l D cy _ _ (f0 := f0) (f2 := f38) (f1 := f74) (f5 := f80) (f6 := f21) o0 f0_4 f0_9 f0_12 f0_13 o74 f74_1 f74_3 f74_5 f74_6 f74_7 f74_9 o38 f38_0 f38_3 f38_4 a39 a41 o80 f80_0 f80_1 f80_2 f80_3 f80_4 f80_5 f80_6 f80_7 o21 f21_9 f21_10 a30 a31 a81 a82 a83 a84 a85 a86 a87 a76 a77 a79 a118) gL_c_X11_rest rfl rfl rfl 0 (by decide +kernel) ⟨Nat.le_of_ble_eq_true rfl, Nat.le_of_ble_eq_true rfl⟩ rfl (by decide) o0 rfl rfl (Nat.le_of_ble_eq_true rfl) dL_law_655 ⟨hce, hsl⟩ (fun r0 nw0 l0 H locs hw hO => ?_)
  obtain rfl := hw
  have hm := cm_far (N := 173) (k := 20) (M := 119) (ps := [0, 74, 38, 39, 41, 80, 21, 30, 31, 81, 82, 83, 84, 85, 86, 87, 76, 77, 79, 118]) (by decide +kernel) (by decide +kernel) l0 [] g
  refine lv_aload_n hx hb dL_law_658 rfl (lv_at hl 2 rfl) ?_
  refine cg_Vi (As := []) (rest := [.int 1]) (mc := 0) (ms := 0) (rm := { frames := 0, cells := 0, slots := 0, locals := 0 }) hC hl.1 hO [119, 147] (by decide +kernel) (c_X12_rest l D cy _ _ (f0 := f119) ((hm 119 (by decide) (by decide)).trans o119) f119_41 f119_62 ((hm 147 (by decide) (by decide)).trans a147)) gL_c_X12_rest rfl rfl rfl 0 (by decide +kernel) ⟨Nat.le_of_ble_eq_true rfl, Nat.le_of_ble_eq_true rfl⟩ rfl (by decide) ((hm 119 (by decide) (by decide)).trans o119) rfl rfl (Nat.le_of_ble_eq_true rfl) dL_law_659 ⟨hce, hsl⟩ (fun r1 nw1 l1 H locs hw hO => ?_)
  obtain rfl := hw
  refine lv_icmp_eq (tgt := 917) hx hb dL_law_662 (by decide) (fun _ => ?_) (fun h => absurd rfl h)
  exact law_tail l hC hr hlk hX hbl hO hce hsl (lv_sub hl [0, 3] rfl)

set_option maxHeartbeats 8000000 in
set_option maxRecDepth 100000 in
theorem lc_later {p : Program} {e : Env} {s : State} {m : MethodId} {below : List Frame} {meth : Method} {c : Code} (l : Launch) {b : Nat} {xs : Nat → Int32} {D : va_G} {cy : Nat → ClassId} {ad : Nat → Nat} {g : Nat → va_E} {H : Heap} {locs : List Loc} {cells slots : Nat} {ls : Array Slot} {f0 : List Value} {f101 : List Value} {f119 : List Value} (hC : CallFix p m c code 4 s #[Value.ref b] lw_tbl RL) (hr : meth.sig.returnType = ret) (hlk : meth.locks = false) (hX : va_X b 6 xs s s.heap) (hbl : b < s.heap.size) (o0 : g 0 = .inr (11, f0)) (f0_11 : f0[11]? = some (.ref (ad 101))) (o101 : g 101 = .inr (8, f101)) (f101_8 : f101[8]? = some (.int 0)) (o119 : g 119 = .inr (12, f119)) (f119_71 : f119[71]? = some (.int 0)) (hO : cO D cy (fun q : Nat => s.heap.size ≤ q) s.heap s 173 ad (cup [] g) H locs) (hce : cells + 0 ≤ 600000) (hsl : slots + 0 ≤ 7302250) (hl : lv_has ls 4 [(0, .ref b), (1, .ref (ad 0)), (2, .ref (ad 119)), (3, .int 0)]) : W p l e room_1 s m #[Value.ref b] below meth c H locs cells slots (lw_Z below #[Value.ref b] s) (F0 m 792 ls []) := by
  obtain ⟨hx, hb, hml, hown, hts⟩ := id hC
  refine lv_aload_n hx hb dL_law_792 rfl (lv_at hl 1 rfl) ?_
  refine lv_aload_n hx hb dL_law_793 rfl (lv_at hl 0 rfl) ?_
  refine lv_iload_n hx hb dL_law_794 rfl (lv_at hl 3 rfl) ?_
  refine lv_iconst (v := 1) hx hb dL_law_795 (by decide) ?_
  refine lv_iadd hx hb dL_law_796 ?_
  refine cg_ev (v := 1) (by decide) ?_
  refine va_sld hx hb hX hbl (Nat.not_le.mpr hbl) hO.2.2.2.1 (cin (by decide)) dL_law_797 ?_
  refine cg_ev (v := xs 1) rfl ?_
  refine cg_Vi (As := [.int (xs 1)]) (rest := []) (mc := 0) (ms := 0) (rm := { frames := 1, cells := 0, slots := 0, locals := 22 }) hC hl.1 hO [0, 101] (by decide +kernel) (c_X11_later l D cy _ _ (f0 := f0) (f1 := f101) (n := (xs 1)) o0 f0_11 o101 f101_8) gL_c_X11_later rfl rfl rfl 1 (by decide +kernel) ⟨Nat.le_of_ble_eq_true rfl, Nat.le_of_ble_eq_true rfl⟩ rfl (by decide) o0 rfl rfl (Nat.le_of_ble_eq_true rfl) dL_law_798 ⟨hce, hsl⟩ (fun r0 nw0 l0 H locs hw hO => ?_)
  obtain rfl := hw
  have hm := cm_far (N := 173) (k := 2) (M := 119) (ps := [0, 101]) (by decide +kernel) (by decide +kernel) l0 [] g
  refine lv_aload_n hx hb dL_law_801 rfl (lv_at hl 2 rfl) ?_
  refine lv_aload_n hx hb dL_law_802 rfl (lv_at hl 0 rfl) ?_
  refine lv_iload_n hx hb dL_law_803 rfl (lv_at hl 3 rfl) ?_
  refine lv_iconst (v := 1) hx hb dL_law_804 (by decide) ?_
  refine lv_iadd hx hb dL_law_805 ?_
  refine cg_ev (v := 1) (by decide) ?_
  refine va_sld hx hb hX hbl (Nat.not_le.mpr hbl) hO.2.2.2.1 (cin (by decide)) dL_law_806 ?_
  refine cg_ev (v := xs 1) rfl ?_
  refine cg_Vi (As := [.int (xs 1)]) (rest := [.int (ans_later (xs 1))]) (mc := 0) (ms := 0) (rm := { frames := 1, cells := 0, slots := 0, locals := 22 }) hC hl.1 hO [119] (by decide +kernel) (c_X12_later l D cy _ _ (f0 := f119) (n := (xs 1)) ((hm 119 (by decide) (by decide)).trans o119) f119_71) gL_c_X12_later rfl rfl rfl 1 (by decide +kernel) ⟨Nat.le_of_ble_eq_true rfl, Nat.le_of_ble_eq_true rfl⟩ rfl (by decide) ((hm 119 (by decide) (by decide)).trans o119) rfl rfl (Nat.le_of_ble_eq_true rfl) dL_law_807 ⟨hce, hsl⟩ (fun r1 nw1 l1 H locs hw hO => ?_)
  obtain rfl := hw
  refine lv_icmp_eq (tgt := 917) hx hb dL_law_810 (by decide) (fun _ => ?_) (fun h => absurd rfl h)
  exact law_tail l hC hr hlk hX hbl hO hce hsl (lv_sub hl [0, 3] rfl)

set_option maxHeartbeats 8000000 in
set_option maxRecDepth 100000 in
theorem lc_came {p : Program} {e : Env} {s : State} {m : MethodId} {below : List Frame} {meth : Method} {c : Code} (l : Launch) {b : Nat} {xs : Nat → Int32} {D : va_G} {cy : Nat → ClassId} {ad : Nat → Nat} {g : Nat → va_E} {H : Heap} {locs : List Loc} {cells slots : Nat} {ls : Array Slot} {f0 : List Value} {f21 : List Value} {c23 : Nat → Int32} {c30 : Nat → Int32} {c31 : Nat → Int32} {c33 : Nat → Int32} {f101 : List Value} {c107 : Nat → Int32} {f110 : List Value} {c111 : Nat → Int32} {c112 : Nat → Int32} {c113 : Nat → Int32} {c114 : Nat → Int32} {c115 : Nat → Int32} {c116 : Nat → Int32} {c117 : Nat → Int32} {f119 : List Value} (hC : CallFix p m c code 4 s #[Value.ref b] lw_tbl RL) (hr : meth.sig.returnType = ret) (hlk : meth.locks = false) (hX : va_X b 6 xs s s.heap) (hbl : b < s.heap.size) (o0 : g 0 = .inr (11, f0)) (f0_11 : f0[11]? = some (.ref (ad 101))) (o21 : g 21 = .inr (7, f21)) (f21_1 : f21[1]? = some (.ref (ad 23))) (f21_9 : f21[9]? = some (.ref (ad 30))) (f21_10 : f21[10]? = some (.ref (ad 31))) (f21_13 : f21[13]? = some (.ref (ad 33))) (f21_15 : f21[15]? = some (.int 0)) (f21_16 : f21[16]? = some (.int 0)) (a23 : g 23 = .inl (cy 0, 5, .inl c23)) (a30 : g 30 = .inl (cy 0, 20, .inl c30)) (a31 : g 31 = .inl (cy 0, 4, .inl c31)) (a33 : g 33 = .inl (cy 0, 12, .inl c33)) (o101 : g 101 = .inr (8, f101)) (f101_0 : f101[0]? = some (.ref (ad 21))) (f101_1 : f101[1]? = some (.ref (ad 110))) (f101_7 : f101[7]? = some (.int 0)) (f101_9 : f101[9]? = some (.ref (ad 107))) (f101_11 : f101[11]? = some (.int 0)) (f101_13 : f101[13]? = some (.int 0)) (f101_14 : f101[14]? = some (.int 0)) (f101_15 : f101[15]? = some (.int 0)) (a107 : g 107 = .inl (cy 0, 12, .inl c107)) (o110 : g 110 = .inr (10, f110)) (f110_0 : f110[0]? = some (.ref (ad 21))) (f110_1 : f110[1]? = some (.ref (ad 111))) (f110_2 : f110[2]? = some (.ref (ad 112))) (f110_3 : f110[3]? = some (.ref (ad 113))) (f110_4 : f110[4]? = some (.ref (ad 114))) (f110_5 : f110[5]? = some (.ref (ad 115))) (f110_6 : f110[6]? = some (.ref (ad 116))) (f110_7 : f110[7]? = some (.ref (ad 117))) (a111 : g 111 = .inl (cy 0, 5, .inl c111)) (a112 : g 112 = .inl (cy 0, 20, .inl c112)) (a113 : g 113 = .inl (cy 0, 4, .inl c113)) (a114 : g 114 = .inl (cy 0, 5, .inl c114)) (a115 : g 115 = .inl (cy 0, 5, .inl c115)) (a116 : g 116 = .inl (cy 0, 5, .inl c116)) (a117 : g 117 = .inl (cy 0, 5, .inl c117)) (o119 : g 119 = .inr (12, f119)) (f119_11 : f119[11]? = some (.ref (ad 122))) (f119_12 : f119[12]? = some (.ref (ad 123))) (f119_13 : f119[13]? = some (.ref (ad 124))) (f119_36 : f119[36]? = some (.int 0)) (f119_56 : f119[56]? = some (.int 0)) (f119_70 : f119[70]? = some (.int 0)) (a122 : g 122 = .inl (cy 0, 2, .inl (fun _ => 0))) (a123 : g 123 = .inl (cy 0, 2, .inl (fun _ => 0))) (a124 : g 124 = .inl (cy 0, 2, .inl (fun _ => 0))) (hO : cO D cy (fun q : Nat => s.heap.size ≤ q) s.heap s 173 ad (cup [] g) H locs) (hce : cells + 0 ≤ 600000) (hsl : slots + 0 ≤ 7302250) (hl : lv_has ls 4 [(0, .ref b), (1, .ref (ad 0)), (2, .ref (ad 119)), (3, .int 0)]) : W p l e room_1 s m #[Value.ref b] below meth c H locs cells slots (lw_Z below #[Value.ref b] s) (F0 m 815 ls []) := by
  obtain ⟨hx, hb, hml, hown, hts⟩ := id hC
  refine lv_aload_n hx hb dL_law_815 rfl (lv_at hl 1 rfl) ?_
  refine lv_aload_n hx hb dL_law_816 rfl (lv_at hl 0 rfl) ?_
  refine lv_iload_n hx hb dL_law_817 rfl (lv_at hl 3 rfl) ?_
  refine lv_iconst (v := 1) hx hb dL_law_818 (by decide) ?_
  refine lv_iadd hx hb dL_law_819 ?_
  refine cg_ev (v := 1) (by decide) ?_
  refine va_sld hx hb hX hbl (Nat.not_le.mpr hbl) hO.2.2.2.1 (cin (by decide)) dL_law_820 ?_
  refine cg_ev (v := xs 1) rfl ?_
  refine lv_aload_n hx hb dL_law_821 rfl (lv_at hl 0 rfl) ?_
  refine lv_iload_n hx hb dL_law_822 rfl (lv_at hl 3 rfl) ?_
  refine lv_iconst (v := 2) hx hb dL_law_823 (by decide) ?_
  refine lv_iadd hx hb dL_law_824 ?_
  refine cg_ev (v := 2) (by decide) ?_
  refine va_sld hx hb hX hbl (Nat.not_le.mpr hbl) hO.2.2.2.1 (cin (by decide)) dL_law_825 ?_
  refine cg_ev (v := xs 2) rfl ?_
  refine cg_Vi (As := [.int (xs 1), .int (xs 2)]) (rest := []) (mc := 0) (ms := 0) (rm := { frames := 4, cells := 0, slots := 0, locals := 104 }) hC hl.1 hO [0, 101, 21, 23, 30, 31, 33, 110, 111, 112, 113, 114, 115, 116, 117, 107] (by decide +kernel) (c_X11_came l D cy _ _ (f0 := f0) (f1 := f101) (f2 := f21) (f7 := f110) (n := (xs 1)) (k1 := (xs 2)) o0 f0_11 o101 f101_0 f101_1 f101_7 f101_9 f101_11 f101_13 f101_14 f101_15 o21 f21_1 f21_9 f21_10 f21_13 f21_15 f21_16 a23 a30 a31 a33 o110 f110_0 f110_1 f110_2 f110_3 f110_4 f110_5 f110_6 f110_7 a111 a112 a113 a114 a115 a116 a117 a107) gL_c_X11_came rfl rfl rfl 2 (by decide +kernel) ⟨Nat.le_of_ble_eq_true rfl, Nat.le_of_ble_eq_true rfl⟩ rfl (by decide) o0 rfl rfl (Nat.le_of_ble_eq_true rfl) dL_law_826 ⟨hce, hsl⟩ (fun r0 nw0 l0 H locs hw hO => ?_)
  obtain rfl := hw
  have hm := cm_far (N := 173) (k := 16) (M := 119) (ps := [0, 101, 21, 23, 30, 31, 33, 110, 111, 112, 113, 114, 115, 116, 117, 107]) (by decide +kernel) (by decide +kernel) l0 [] g
  refine lv_aload_n hx hb dL_law_829 rfl (lv_at hl 2 rfl) ?_
  refine lv_aload_n hx hb dL_law_830 rfl (lv_at hl 0 rfl) ?_
  refine lv_iload_n hx hb dL_law_831 rfl (lv_at hl 3 rfl) ?_
  refine lv_iconst (v := 1) hx hb dL_law_832 (by decide) ?_
  refine lv_iadd hx hb dL_law_833 ?_
  refine cg_ev (v := 1) (by decide) ?_
  refine va_sld hx hb hX hbl (Nat.not_le.mpr hbl) hO.2.2.2.1 (cin (by decide)) dL_law_834 ?_
  refine cg_ev (v := xs 1) rfl ?_
  refine lv_aload_n hx hb dL_law_835 rfl (lv_at hl 0 rfl) ?_
  refine lv_iload_n hx hb dL_law_836 rfl (lv_at hl 3 rfl) ?_
  refine lv_iconst (v := 2) hx hb dL_law_837 (by decide) ?_
  refine lv_iadd hx hb dL_law_838 ?_
  refine cg_ev (v := 2) (by decide) ?_
  refine va_sld hx hb hX hbl (Nat.not_le.mpr hbl) hO.2.2.2.1 (cin (by decide)) dL_law_839 ?_
  refine cg_ev (v := xs 2) rfl ?_
  refine cg_Vi (As := [.int (xs 1), .int (xs 2)]) (rest := [.int (ans_came (xs 1))]) (mc := 0) (ms := 0) (rm := { frames := 3, cells := 0, slots := 0, locals := 65 }) hC hl.1 hO [119, 124, 122, 123] (by decide +kernel) (c_X12_came l D cy _ _ (f0 := f119) (n := (xs 1)) (k1 := (xs 2)) ((hm 119 (by decide) (by decide)).trans o119) f119_11 f119_12 f119_13 f119_36 f119_56 f119_70 ((hm 124 (by decide) (by decide)).trans a124) ((hm 122 (by decide) (by decide)).trans a122) ((hm 123 (by decide) (by decide)).trans a123)) gL_c_X12_came rfl rfl rfl 2 (by decide +kernel) ⟨Nat.le_of_ble_eq_true rfl, Nat.le_of_ble_eq_true rfl⟩ rfl (by decide) ((hm 119 (by decide) (by decide)).trans o119) rfl rfl (Nat.le_of_ble_eq_true rfl) dL_law_840 ⟨hce, hsl⟩ (fun r1 nw1 l1 H locs hw hO => ?_)
  obtain rfl := hw
  refine lv_icmp_eq (tgt := 917) hx hb dL_law_843 (by decide) (fun _ => ?_) (fun h => absurd rfl h)
  exact law_tail l hC hr hlk hX hbl hO hce hsl (lv_sub hl [0, 3] rfl)

