set_option maxHeartbeats 8000000 in
set_option maxRecDepth 100000 in
theorem lc_end {p : Program} {e : Env} {s : State} {m : MethodId} {below : List Frame} {meth : Method} {c : Code} (l : Launch) {b : Nat} {xs : Nat → Int32} {D : va_G} {cy : Nat → ClassId} {ad : Nat → Nat} {g : Nat → va_E} {H : Heap} {locs : List Loc} {cells slots : Nat} {ls : Array Slot} {f0 : List Value} {f119 : List Value} (hC : CallFix p m c code 4 s #[Value.ref b] lw_tbl RL) (hr : meth.sig.returnType = ret) (hlk : meth.locks = false) (hX : va_X b 6 xs s s.heap) (hbl : b < s.heap.size) (o0 : g 0 = .inr (11, f0)) (f0_1 : f0[1]? = some (.int 0)) (o119 : g 119 = .inr (12, f119)) (f119_2 : f119[2]? = some (.int 0)) (hO : cO D cy (fun q : Nat => s.heap.size ≤ q) s.heap s 173 ad (cup [] g) H locs) (hce : cells + 0 ≤ 600000) (hsl : slots + 0 ≤ 7302250) (hl : lv_has ls 4 [(0, .ref b), (1, .ref (ad 0)), (2, .ref (ad 119)), (3, .int 0)]) : W p l e room_1 s m #[Value.ref b] below meth c H locs cells slots (lw_Z below #[Value.ref b] s) (F0 m 219 ls []) := by
  obtain ⟨hx, hb, hml, hown, hts⟩ := id hC
  refine lv_aload_n hx hb dL_law_219 rfl (lv_at hl 1 rfl) ?_
  refine lv_aload_n hx hb dL_law_220 rfl (lv_at hl 0 rfl) ?_
  refine lv_iload_n hx hb dL_law_221 rfl (lv_at hl 3 rfl) ?_
  refine lv_iconst (v := 1) hx hb dL_law_222 (by decide) ?_
  refine lv_iadd hx hb dL_law_223 ?_
  refine cg_ev (v := 1) (by decide) ?_
  refine va_sld hx hb hX hbl (Nat.not_le.mpr hbl) hO.2.2.2.1 (cin (by decide)) dL_law_224 ?_
  refine cg_ev (v := xs 1) rfl ?_
  refine cg_Vi (As := [.int (xs 1)]) (rest := []) (mc := 0) (ms := 0) (rm := { frames := 1, cells := 0, slots := 0, locals := 22 }) hC hl.1 hO [0] (by decide +kernel) (c_X11_end l D cy _ _ (f0 := f0) (n := (xs 1)) o0 f0_1) gL_c_X11_end rfl rfl rfl 1 (by decide +kernel) ⟨Nat.le_of_ble_eq_true rfl, Nat.le_of_ble_eq_true rfl⟩ rfl (by decide) o0 rfl rfl (Nat.le_of_ble_eq_true rfl) dL_law_225 ⟨hce, hsl⟩ (fun r0 nw0 l0 H locs hw hO => ?_)
  obtain rfl := hw
  have hm := cm_far (N := 173) (k := 1) (M := 119) (ps := [0]) (by decide +kernel) (by decide +kernel) l0 [] g
  refine lv_aload_n hx hb dL_law_228 rfl (lv_at hl 2 rfl) ?_
  refine lv_aload_n hx hb dL_law_229 rfl (lv_at hl 0 rfl) ?_
  refine lv_iload_n hx hb dL_law_230 rfl (lv_at hl 3 rfl) ?_
  refine lv_iconst (v := 1) hx hb dL_law_231 (by decide) ?_
  refine lv_iadd hx hb dL_law_232 ?_
  refine cg_ev (v := 1) (by decide) ?_
  refine va_sld hx hb hX hbl (Nat.not_le.mpr hbl) hO.2.2.2.1 (cin (by decide)) dL_law_233 ?_
  refine cg_ev (v := xs 1) rfl ?_
  refine cg_Vi (As := [.int (xs 1)]) (rest := [.int (ans_end (xs 1))]) (mc := 0) (ms := 0) (rm := { frames := 0, cells := 0, slots := 0, locals := 0 }) hC hl.1 hO [119] (by decide +kernel) (c_X12_end l D cy _ _ (f0 := f119) (n := (xs 1)) ((hm 119 (by decide) (by decide)).trans o119) f119_2) gL_c_X12_end rfl rfl rfl 1 (by decide +kernel) ⟨Nat.le_of_ble_eq_true rfl, Nat.le_of_ble_eq_true rfl⟩ rfl (by decide) ((hm 119 (by decide) (by decide)).trans o119) rfl rfl (Nat.le_of_ble_eq_true rfl) dL_law_234 ⟨hce, hsl⟩ (fun r1 nw1 l1 H locs hw hO => ?_)
  obtain rfl := hw
  refine lv_icmp_eq (tgt := 917) hx hb dL_law_237 (by decide) (fun _ => ?_) (fun h => absurd rfl h)
  exact law_tail l hC hr hlk hX hbl hO hce hsl (lv_sub hl [0, 3] rfl)

set_option maxHeartbeats 8000000 in
set_option maxRecDepth 100000 in
theorem lc_cart {p : Program} {e : Env} {s : State} {m : MethodId} {below : List Frame} {meth : Method} {c : Code} (l : Launch) {b : Nat} {xs : Nat → Int32} {D : va_G} {cy : Nat → ClassId} {ad : Nat → Nat} {g : Nat → va_E} {H : Heap} {locs : List Loc} {cells slots : Nat} {ls : Array Slot} {f0 : List Value} {f38 : List Value} {f119 : List Value} (hC : CallFix p m c code 4 s #[Value.ref b] lw_tbl RL) (hr : meth.sig.returnType = ret) (hlk : meth.locks = false) (hX : va_X b 6 xs s s.heap) (hbl : b < s.heap.size) (o0 : g 0 = .inr (11, f0)) (f0_4 : f0[4]? = some (.ref (ad 38))) (o38 : g 38 = .inr (9, f38)) (f38_4 : f38[4]? = some (.int 0)) (o119 : g 119 = .inr (12, f119)) (f119_41 : f119[41]? = some (.ref (ad 147))) (a147 : g 147 = .inl (cy 0, 80, .inl (fun _ => 0))) (hO : cO D cy (fun q : Nat => s.heap.size ≤ q) s.heap s 173 ad (cup [] g) H locs) (hce : cells + 0 ≤ 600000) (hsl : slots + 0 ≤ 7302250) (hl : lv_has ls 4 [(0, .ref b), (1, .ref (ad 0)), (2, .ref (ad 119)), (3, .int 0)]) : W p l e room_1 s m #[Value.ref b] below meth c H locs cells slots (lw_Z below #[Value.ref b] s) (F0 m 278 ls []) := by
  obtain ⟨hx, hb, hml, hown, hts⟩ := id hC
  refine lv_aload_n hx hb dL_law_278 rfl (lv_at hl 1 rfl) ?_
  refine lv_aload_n hx hb dL_law_279 rfl (lv_at hl 0 rfl) ?_
  refine lv_iload_n hx hb dL_law_280 rfl (lv_at hl 3 rfl) ?_
  refine lv_iconst (v := 1) hx hb dL_law_281 (by decide) ?_
  refine lv_iadd hx hb dL_law_282 ?_
  refine cg_ev (v := 1) (by decide) ?_
  refine va_sld hx hb hX hbl (Nat.not_le.mpr hbl) hO.2.2.2.1 (cin (by decide)) dL_law_283 ?_
  refine cg_ev (v := xs 1) rfl ?_
  refine lv_aload_n hx hb dL_law_284 rfl (lv_at hl 0 rfl) ?_
  refine lv_iload_n hx hb dL_law_285 rfl (lv_at hl 3 rfl) ?_
  refine lv_iconst (v := 2) hx hb dL_law_286 (by decide) ?_
  refine lv_iadd hx hb dL_law_287 ?_
  refine cg_ev (v := 2) (by decide) ?_
  refine va_sld hx hb hX hbl (Nat.not_le.mpr hbl) hO.2.2.2.1 (cin (by decide)) dL_law_288 ?_
  refine cg_ev (v := xs 2) rfl ?_
  refine cg_Vi (As := [.int (xs 1), .int (xs 2)]) (rest := []) (mc := 0) (ms := 0) (rm := { frames := 2, cells := 0, slots := 0, locals := 43 }) hC hl.1 hO [0, 38] (by decide +kernel) (c_X11_cart l D cy _ _ (f0 := f0) (f1 := f38) (n := (xs 1)) (q := (xs 2)) o0 f0_4 o38 f38_4) gL_c_X11_cart rfl rfl rfl 2 (by decide +kernel) ⟨Nat.le_of_ble_eq_true rfl, Nat.le_of_ble_eq_true rfl⟩ rfl (by decide) o0 rfl rfl (Nat.le_of_ble_eq_true rfl) dL_law_289 ⟨hce, hsl⟩ (fun r0 nw0 l0 H locs hw hO => ?_)
  obtain rfl := hw
  have hm := cm_far (N := 173) (k := 2) (M := 119) (ps := [0, 38]) (by decide +kernel) (by decide +kernel) l0 [] g
  refine lv_aload_n hx hb dL_law_292 rfl (lv_at hl 2 rfl) ?_
  refine lv_aload_n hx hb dL_law_293 rfl (lv_at hl 0 rfl) ?_
  refine lv_iload_n hx hb dL_law_294 rfl (lv_at hl 3 rfl) ?_
  refine lv_iconst (v := 1) hx hb dL_law_295 (by decide) ?_
  refine lv_iadd hx hb dL_law_296 ?_
  refine cg_ev (v := 1) (by decide) ?_
  refine va_sld hx hb hX hbl (Nat.not_le.mpr hbl) hO.2.2.2.1 (cin (by decide)) dL_law_297 ?_
  refine cg_ev (v := xs 1) rfl ?_
  refine lv_aload_n hx hb dL_law_298 rfl (lv_at hl 0 rfl) ?_
  refine lv_iload_n hx hb dL_law_299 rfl (lv_at hl 3 rfl) ?_
  refine lv_iconst (v := 2) hx hb dL_law_300 (by decide) ?_
  refine lv_iadd hx hb dL_law_301 ?_
  refine cg_ev (v := 2) (by decide) ?_
  refine va_sld hx hb hX hbl (Nat.not_le.mpr hbl) hO.2.2.2.1 (cin (by decide)) dL_law_302 ?_
  refine cg_ev (v := xs 2) rfl ?_
  refine cg_Vi (As := [.int (xs 1), .int (xs 2)]) (rest := [.int (-1)]) (mc := 0) (ms := 0) (rm := { frames := 2, cells := 0, slots := 0, locals := 43 }) hC hl.1 hO [119, 147] (by decide +kernel) (c_X12_cart l D cy _ _ (f0 := f119) (n := (xs 1)) (q := (xs 2)) ((hm 119 (by decide) (by decide)).trans o119) f119_41 ((hm 147 (by decide) (by decide)).trans a147)) gL_c_X12_cart rfl rfl rfl 2 (by decide +kernel) ⟨Nat.le_of_ble_eq_true rfl, Nat.le_of_ble_eq_true rfl⟩ rfl (by decide) ((hm 119 (by decide) (by decide)).trans o119) rfl rfl (Nat.le_of_ble_eq_true rfl) dL_law_303 ⟨hce, hsl⟩ (fun r1 nw1 l1 H locs hw hO => ?_)
  obtain rfl := hw
  refine lv_icmp_eq (tgt := 917) hx hb dL_law_306 (by decide) (fun _ => ?_) (fun h => absurd rfl h)
  exact law_tail l hC hr hlk hX hbl hO hce hsl (lv_sub hl [0, 3] rfl)

