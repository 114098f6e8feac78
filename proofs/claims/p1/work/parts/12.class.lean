theorem dX11_has_0 : decode cX11_has 0 = .ok (.iload_n 0, 1) := by decide +kernel
theorem dX11_has_1 : decode cX11_has 1 = .ok (.iload_n 1, 1) := by decide +kernel
theorem dX11_has_2 : decode cX11_has 2 = .ok (.ishr, 1) := by decide +kernel
theorem dX11_has_3 : decode cX11_has 3 = .ok (.iconst 1, 1) := by decide +kernel
theorem dX11_has_4 : decode cX11_has 4 = .ok (.iand, 1) := by decide +kernel
theorem dX11_has_5 : decode cX11_has 5 = .ok (.ifCond .eq 7, 3) := by decide +kernel
theorem dX11_has_8 : decode cX11_has 8 = .ok (.iconst 1, 1) := by decide +kernel
theorem dX11_has_9 : decode cX11_has 9 = .ok (.goto 4, 3) := by decide +kernel
theorem dX11_has_13 : decode cX11_has 13 = .ok (.ireturn, 1) := by decide +kernel
def wq_c_has_a : List Cond := Cond.code yX11_has cX11_has 2 (some .boolean) :: (([] : List Cond))
set_option maxHeartbeats 8000000 in
set_option maxRecDepth 100000 in
theorem c_has_a (l : Launch) (D : va_G) (cy : Nat → ClassId) (ad : Nat → Nat) (g : Nat → va_E)   : cMi l yX11_has wq_c_has_a { frames := 0, cells := 0, slots := 0, locals := 0 } 0 0 0 0 D cy ad g [.int (-1), .int 0] (fun r nw lu => (r = 1) ∧ (lu = [])) := by
  refine cM_of (Qc := fun A => cQi (fun r nw lu => (r = 1) ∧ (lu = [])) D 0 0 ad g A) (cc := cX11_has) (maxL := 2) (ret := (some .boolean)) (by decide) rfl (Nat.le_of_ble_eq_true rfl) ?_
  intro p e s m below meth c A hC hr hlk hnm hO ls hl
  have hC : CallFix p m c cX11_has 2 s [.int (-1), .int 0].toArray wq_c_has_a RX11 := hC
  obtain ⟨hx, hb, hml, hown, hts⟩ := id hC
  have hl : lv_has ls 2 [(0, .int (-1)), (1, .int 0)] := hl
  refine lv_iload_n hx hb dX11_has_0 rfl (lv_at hl 0 rfl) ?_
  refine lv_iload_n hx hb dX11_has_1 rfl (lv_at hl 1 rfl) ?_
  refine lv_ishr hx hb dX11_has_2 ?_
  refine cg_ev (v := (-1)) (by decide) ?_
  refine lv_iconst (v := 1) hx hb dX11_has_3 (by decide) ?_
  refine lv_iand hx hb dX11_has_4 ?_
  refine cg_ev (v := 1) (by decide) ?_
  refine lv_if_eq (tgt := 12) hx hb dX11_has_5 (by decide) (fun h => absurd h (by decide)) (fun _ => ?_)
  refine lv_iconst (v := 1) hx hb dX11_has_8 (by decide) ?_
  refine lv_goto (tgt := 13) hx hb dX11_has_9 (by decide) ?_
  exact cg_iret (nw := fun _ => 0) hC hr hlk hO.same rfl (Nat.le_of_ble_eq_true rfl) (Nat.le_of_ble_eq_true rfl) (⟨rfl, rfl⟩) dX11_has_13

theorem dX11_putByMinutes_0 : decode cX11_putByMinutes 0 = .ok (.iconst 1, 1) := by decide +kernel
theorem dX11_putByMinutes_1 : decode cX11_putByMinutes 1 = .ok (.istore_n 3, 1) := by decide +kernel
theorem dX11_putByMinutes_2 : decode cX11_putByMinutes 2 = .ok (.iload_n 3, 1) := by decide +kernel
theorem dX11_putByMinutes_3 : decode cX11_putByMinutes 3 = .ok (.iload_n 1, 1) := by decide +kernel
theorem dX11_putByMinutes_4 : decode cX11_putByMinutes 4 = .ok (.if_icmp .ge 59, 3) := by decide +kernel
theorem dX11_putByMinutes_63 : decode cX11_putByMinutes 63 = .ok (.return_, 1) := by decide +kernel
def wq_c_pbm0 : List Cond := Cond.code yX11_putByMinutes cX11_putByMinutes 6 none :: (([] : List Cond))
set_option maxHeartbeats 8000000 in
set_option maxRecDepth 100000 in
theorem c_pbm0 (l : Launch) (D : va_G) (cy : Nat → ClassId) (ad : Nat → Nat) (g : Nat → va_E) {n0 : Nat} {c0 : Nat → Int32} {n1 : Nat} {c1 : Nat → Int32} (a0 : g 0 = .inl (cy 0, n0, .inl c0)) (a1 : g 1 = .inl (cy 0, n1, .inl c1)) : cMv l yX11_putByMinutes wq_c_pbm0 { frames := 0, cells := 0, slots := 0, locals := 0 } 2 0 0 0 D cy ad g [.ref (ad 0), .int 0, .ref (ad 1)] (fun nw lu => lu = []) := by
  refine cM_of (Qc := fun A => cQv (fun nw lu => lu = []) D 2 0 ad g A) (cc := cX11_putByMinutes) (maxL := 6) (ret := none) (by decide) rfl (Nat.le_of_ble_eq_true rfl) ?_
  intro p e s m below meth c A hC hr hlk hnm hO ls hl
  have hC : CallFix p m c cX11_putByMinutes 6 s [.ref (ad 0), .int 0, .ref (ad 1)].toArray wq_c_pbm0 RX11 := hC
  obtain ⟨hx, hb, hml, hown, hts⟩ := id hC
  have hl : lv_has ls 6 [(0, .ref (ad 0)), (1, .int 0), (2, .ref (ad 1))] := hl
  refine lv_iconst (v := 1) hx hb dX11_putByMinutes_0 (by decide) ?_
  refine lv_istore_n (lv' := [(3, .int 1), (0, .ref (ad 0)), (1, .int 0), (2, .ref (ad 1))]) hx hb dX11_putByMinutes_1 rfl hl (by decide) rfl (fun ls hl => ?_)
  refine lv_iload_n hx hb dX11_putByMinutes_2 rfl (lv_at hl 0 rfl) ?_
  refine lv_iload_n hx hb dX11_putByMinutes_3 rfl (lv_at hl 2 rfl) ?_
  refine lv_icmp_ge (tgt := 63) hx hb dX11_putByMinutes_4 (by decide) (fun _ => ?_) (fun h => absurd h (by decide))
  exact cg_vret (nw := fun _ => 0) hC hr hlk hO.same (Nat.le_of_ble_eq_true rfl) (Nat.le_of_ble_eq_true rfl) rfl dX11_putByMinutes_63

def wq_c_pbm1 : List Cond := Cond.code yX11_putByMinutes cX11_putByMinutes 6 none :: (([] : List Cond))
set_option maxHeartbeats 8000000 in
set_option maxRecDepth 100000 in
theorem c_pbm1 (l : Launch) (D : va_G) (cy : Nat → ClassId) (ad : Nat → Nat) (g : Nat → va_E) {n0 : Nat} {c0 : Nat → Int32} {n1 : Nat} {c1 : Nat → Int32} (a0 : g 0 = .inl (cy 0, n0, .inl c0)) (a1 : g 1 = .inl (cy 0, n1, .inl c1)) : cMv l yX11_putByMinutes wq_c_pbm1 { frames := 0, cells := 0, slots := 0, locals := 0 } 2 0 0 0 D cy ad g [.ref (ad 0), .int 1, .ref (ad 1)] (fun nw lu => lu = []) := by
  refine cM_of (Qc := fun A => cQv (fun nw lu => lu = []) D 2 0 ad g A) (cc := cX11_putByMinutes) (maxL := 6) (ret := none) (by decide) rfl (Nat.le_of_ble_eq_true rfl) ?_
  intro p e s m below meth c A hC hr hlk hnm hO ls hl
  have hC : CallFix p m c cX11_putByMinutes 6 s [.ref (ad 0), .int 1, .ref (ad 1)].toArray wq_c_pbm1 RX11 := hC
  obtain ⟨hx, hb, hml, hown, hts⟩ := id hC
  have hl : lv_has ls 6 [(0, .ref (ad 0)), (1, .int 1), (2, .ref (ad 1))] := hl
  refine lv_iconst (v := 1) hx hb dX11_putByMinutes_0 (by decide) ?_
  refine lv_istore_n (lv' := [(3, .int 1), (0, .ref (ad 0)), (1, .int 1), (2, .ref (ad 1))]) hx hb dX11_putByMinutes_1 rfl hl (by decide) rfl (fun ls hl => ?_)
  refine lv_iload_n hx hb dX11_putByMinutes_2 rfl (lv_at hl 0 rfl) ?_
  refine lv_iload_n hx hb dX11_putByMinutes_3 rfl (lv_at hl 2 rfl) ?_
  refine lv_icmp_ge (tgt := 63) hx hb dX11_putByMinutes_4 (by decide) (fun _ => ?_) (fun h => absurd h (by decide))
  exact cg_vret (nw := fun _ => 0) hC hr hlk hO.same (Nat.le_of_ble_eq_true rfl) (Nat.le_of_ble_eq_true rfl) rfl dX11_putByMinutes_63

theorem dX9_coming_0 : decode cX9_coming 0 = .ok (.iconst 0, 1) := by decide +kernel
theorem dX9_coming_1 : decode cX9_coming 1 = .ok (.istore_n 2, 1) := by decide +kernel
theorem dX9_coming_2 : decode cX9_coming 2 = .ok (.iconst 0, 1) := by decide +kernel
theorem dX9_coming_3 : decode cX9_coming 3 = .ok (.istore_n 3, 1) := by decide +kernel
theorem dX9_coming_4 : decode cX9_coming 4 = .ok (.iload_n 3, 1) := by decide +kernel
theorem dX9_coming_5 : decode cX9_coming 5 = .ok (.aload_n 0, 1) := by decide +kernel
theorem dX9_coming_6 : decode cX9_coming 6 = .ok (.getfield 21, 3) := by decide +kernel
theorem dX9_coming_9 : decode cX9_coming 9 = .ok (.if_icmp .ge 27, 3) := by decide +kernel
theorem dX9_coming_36 : decode cX9_coming 36 = .ok (.iload_n 2, 1) := by decide +kernel
theorem dX9_coming_37 : decode cX9_coming 37 = .ok (.ireturn, 1) := by decide +kernel
def wq_c_coming0 : List Cond := Cond.code yX9_coming cX9_coming 4 (some .int) :: (([Cond.fieldLink RX9 21 "CrowToll$Stand" "carts" "I"] : List Cond) ++ wsX90)
set_option maxHeartbeats 8000000 in
set_option maxRecDepth 100000 in
theorem c_coming0 (l : Launch) (D : va_G) (cy : Nat → ClassId) (ad : Nat → Nat) (g : Nat → va_E) {f0 : List Value} {c1 : Nat → Int32} (o0 : g 0 = .inr (9, f0)) (f0_4 : f0[4]? = some (.int 0)) (a1 : g 1 = .inl (cy 0, 24, .inl c1)) : cMi l yX9_coming wq_c_coming0 { frames := 0, cells := 0, slots := 0, locals := 0 } 2 0 0 0 D cy ad g [.ref (ad 0), .ref (ad 1)] (fun r nw lu => (r = 0) ∧ (lu = [])) := by
  refine cM_of (Qc := fun A => cQi (fun r nw lu => (r = 0) ∧ (lu = [])) D 2 0 ad g A) (cc := cX9_coming) (maxL := 4) (ret := (some .int)) (by decide) rfl (Nat.le_of_ble_eq_true rfl) ?_
  intro p e s m below meth c A hC hr hlk hnm hO ls hl
  have hC : CallFix p m c cX9_coming 4 s [.ref (ad 0), .ref (ad 1)].toArray wq_c_coming0 RX9 := hC
  obtain ⟨hx, hb, hml, hown, hts⟩ := id hC
  have hl : lv_has ls 4 [(0, .ref (ad 0)), (1, .ref (ad 1))] := hl
  have i_X9 : ∀ w ∈ wsX90, w ∈ wq_c_coming0 := fun w h => List.mem_cons_of_mem _ (List.mem_append_right _ h)
  refine lv_iconst (v := 0) hx hb dX9_coming_0 (by decide) ?_
  refine lv_istore_n (lv' := [(2, .int 0), (0, .ref (ad 0)), (1, .ref (ad 1))]) hx hb dX9_coming_1 rfl hl (by decide) rfl (fun ls hl => ?_)
  refine lv_iconst (v := 0) hx hb dX9_coming_2 (by decide) ?_
  refine lv_istore_n (lv' := [(3, .int 0), (2, .int 0), (0, .ref (ad 0)), (1, .ref (ad 1))]) hx hb dX9_coming_3 rfl hl (by decide) rfl (fun ls hl => ?_)
  refine lv_iload_n hx hb dX9_coming_4 rfl (lv_at hl 0 rfl) ?_
  refine lv_aload_n hx hb dX9_coming_5 rfl (lv_at hl 2 rfl) ?_
  refine cg_get hC hO 0 (by decide) o0 rfl i_X9 4 (by decide) (List.mem_of_getElem? (i := 1) rfl) f0_4 dX9_coming_6 ?_
  refine lv_icmp_ge (tgt := 36) hx hb dX9_coming_9 (by decide) (fun _ => ?_) (fun h => absurd h (by decide))
  refine lv_iload_n hx hb dX9_coming_36 rfl (lv_at hl 1 rfl) ?_
  exact cg_iret (nw := fun _ => 0) hC hr hlk hO.same rfl (Nat.le_of_ble_eq_true rfl) (Nat.le_of_ble_eq_true rfl) (⟨rfl, rfl⟩) dX9_coming_37

theorem dX9_coming_12 : decode cX9_coming 12 = .ok (.aload_n 0, 1) := by decide +kernel
theorem dX9_coming_13 : decode cX9_coming 13 = .ok (.getfield 37, 3) := by decide +kernel
theorem dX9_coming_16 : decode cX9_coming 16 = .ok (.iload_n 3, 1) := by decide +kernel
theorem dX9_coming_17 : decode cX9_coming 17 = .ok (.invokestatic 47, 3) := by decide +kernel
theorem dX9_coming_20 : decode cX9_coming 20 = .ok (.ifCond .eq 10, 3) := by decide +kernel
theorem dX9_coming_23 : decode cX9_coming 23 = .ok (.aload_n 1, 1) := by decide +kernel
theorem dX9_coming_24 : decode cX9_coming 24 = .ok (.iload_n 2, 1) := by decide +kernel
theorem dX9_coming_25 : decode cX9_coming 25 = .ok (.iload_n 3, 1) := by decide +kernel
theorem dX9_coming_26 : decode cX9_coming 26 = .ok (.iastore, 1) := by decide +kernel
theorem dX9_coming_27 : decode cX9_coming 27 = .ok (.iinc 2 1, 3) := by decide +kernel
theorem dX9_coming_30 : decode cX9_coming 30 = .ok (.iinc 3 1, 3) := by decide +kernel
theorem dX9_coming_33 : decode cX9_coming 33 = .ok (.goto (-29), 3) := by decide +kernel
def wq_c_coming1 : List Cond := Cond.code yX9_coming cX9_coming 4 (some .int) :: (([Cond.fieldLink RX9 21 "CrowToll$Stand" "carts" "I", Cond.fieldLink RX9 37 "CrowToll$Stand" "comes" "I", Cond.code yX11_has cX11_has 2 (some .boolean), Cond.static yX11_has, Cond.initialized RX11] : List Cond) ++ wsX90)
set_option maxRecDepth 20000 in
theorem gr_c_coming1_c_has_a : GoodIn wq_c_coming1 wq_c_has_a := List.forall_mem_cons.mpr ⟨⟨(List.mem_of_getElem? (i := 3) rfl), good_of_word rfl⟩, (fun _ h => absurd h List.not_mem_nil)⟩
theorem gq_c_coming1_c_has_a : GoodIn wq_c_coming1 wq_c_has_a := gr_c_coming1_c_has_a
set_option maxHeartbeats 8000000 in
set_option maxRecDepth 100000 in
theorem c_coming1 (l : Launch) (D : va_G) (cy : Nat → ClassId) (ad : Nat → Nat) (g : Nat → va_E) {f0 : List Value} {c1 : Nat → Int32} (o0 : g 0 = .inr (9, f0)) (f0_2 : f0[2]? = some (.int (-1))) (f0_4 : f0[4]? = some (.int 1)) (a1 : g 1 = .inl (cy 0, 24, .inl c1)) : cMi l yX9_coming wq_c_coming1 { frames := 1, cells := 0, slots := 0, locals := 21 } 2 0 0 0 D cy ad g [.ref (ad 0), .ref (ad 1)] (fun r nw lu => (r = 1) ∧ (lu = [(1, .inl (cy 0, 24, .inl (upd c1 (0 : Int32).toNatClampNeg 0)))])) := by
  refine cM_of (Qc := fun A => cQi (fun r nw lu => (r = 1) ∧ (lu = [(1, .inl (cy 0, 24, .inl (upd c1 (0 : Int32).toNatClampNeg 0)))])) D 2 0 ad g A) (cc := cX9_coming) (maxL := 4) (ret := (some .int)) (by decide) rfl (Nat.le_of_ble_eq_true rfl) ?_
  intro p e s m below meth c A hC hr hlk hnm hO ls hl
  have hC : CallFix p m c cX9_coming 4 s [.ref (ad 0), .ref (ad 1)].toArray wq_c_coming1 RX9 := hC
  obtain ⟨hx, hb, hml, hown, hts⟩ := id hC
  have hl : lv_has ls 4 [(0, .ref (ad 0)), (1, .ref (ad 1))] := hl
  have i_X9 : ∀ w ∈ wsX90, w ∈ wq_c_coming1 := fun w h => List.mem_cons_of_mem _ (List.mem_append_right _ h)
  refine lv_iconst (v := 0) hx hb dX9_coming_0 (by decide) ?_
  refine lv_istore_n (lv' := [(2, .int 0), (0, .ref (ad 0)), (1, .ref (ad 1))]) hx hb dX9_coming_1 rfl hl (by decide) rfl (fun ls hl => ?_)
  refine lv_iconst (v := 0) hx hb dX9_coming_2 (by decide) ?_
  refine lv_istore_n (lv' := [(3, .int 0), (2, .int 0), (0, .ref (ad 0)), (1, .ref (ad 1))]) hx hb dX9_coming_3 rfl hl (by decide) rfl (fun ls hl => ?_)
  refine lv_iload_n hx hb dX9_coming_4 rfl (lv_at hl 0 rfl) ?_
  refine lv_aload_n hx hb dX9_coming_5 rfl (lv_at hl 2 rfl) ?_
  refine cg_get hC hO 0 (by decide) o0 rfl i_X9 4 (by decide) (List.mem_of_getElem? (i := 1) rfl) f0_4 dX9_coming_6 ?_
  refine lv_icmp_ge (tgt := 36) hx hb dX9_coming_9 (by decide) (fun h => absurd h (by decide)) (fun _ => ?_)
  refine lv_aload_n hx hb dX9_coming_12 rfl (lv_at hl 2 rfl) ?_
  refine cg_get hC hO 0 (by decide) o0 rfl i_X9 2 (by decide) (List.mem_of_getElem? (i := 2) rfl) f0_2 dX9_coming_13 ?_
  refine lv_iload_n hx hb dX9_coming_16 rfl (lv_at hl 0 rfl) ?_
  refine cg_Ni (As := [.int (-1), .int 0]) (rest := []) (mc := 0) (ms := 0) (rm := { frames := 0, cells := 0, slots := 0, locals := 0 }) hC hl.1 hO [] rfl (c_has_a l D cy _ _  ) gq_c_coming1_c_has_a rfl rfl rfl (host := "CrowToll") (nestL_mem_7) (List.mem_of_getElem? (i := 4) rfl) (List.mem_of_getElem? (i := 5) rfl) 2 (by decide +kernel) ⟨Nat.le_of_ble_eq_true rfl, Nat.le_of_ble_eq_true rfl⟩ rfl rfl (Nat.le_of_ble_eq_true rfl) dX9_coming_17 ⟨Nat.le_of_ble_eq_true rfl, Nat.le_of_ble_eq_true rfl⟩ (fun r_17_3 nw_17_1 l_17_2 H locs hw hO => ?_)
  obtain ⟨rfl, rfl⟩ := hw
  have hO : cO D cy A s.heap s 2 ad (cup [] g) _ _ := hO
  refine lv_if_eq (tgt := 30) hx hb dX9_coming_20 (by decide) (fun h => absurd h (by decide)) (fun _ => ?_)
  refine lv_aload_n hx hb dX9_coming_23 rfl (lv_at hl 3 rfl) ?_
  refine lv_iload_n hx hb dX9_coming_24 rfl (lv_at hl 1 rfl) ?_
  refine lv_iload_n hx hb dX9_coming_25 rfl (lv_at hl 0 rfl) ?_
  refine cg_iast hC hO 1 (by decide) a1 (cin (by decide)) dX9_coming_26 (fun H locs hO => ?_)
  have hO : cO D cy A s.heap s 2 ad (cup [(1, .inl (cy 0, 24, .inl (upd c1 (0 : Int32).toNatClampNeg 0)))] g) _ _ := hO
  refine lv_iinc (v := 1) (lv' := [(2, .int 1), (3, .int 0), (0, .ref (ad 0)), (1, .ref (ad 1))]) hx hb dX9_coming_27 hl (k := 1) rfl (by decide) (by decide) rfl (fun ls hl => ?_)
  refine lv_iinc (v := 1) (lv' := [(3, .int 1), (2, .int 1), (0, .ref (ad 0)), (1, .ref (ad 1))]) hx hb dX9_coming_30 hl (k := 1) rfl (by decide) (by decide) rfl (fun ls hl => ?_)
  refine lv_goto (tgt := 4) hx hb dX9_coming_33 (by decide) ?_
  refine lv_iload_n hx hb dX9_coming_4 rfl (lv_at hl 0 rfl) ?_
  refine lv_aload_n hx hb dX9_coming_5 rfl (lv_at hl 2 rfl) ?_
  refine cg_get hC hO 0 (by decide) o0 rfl i_X9 4 (by decide) (List.mem_of_getElem? (i := 1) rfl) f0_4 dX9_coming_6 ?_
  refine lv_icmp_ge (tgt := 36) hx hb dX9_coming_9 (by decide) (fun _ => ?_) (fun h => absurd h (by decide))
  refine lv_iload_n hx hb dX9_coming_36 rfl (lv_at hl 1 rfl) ?_
  exact cg_iret (nw := fun _ => 0) hC hr hlk hO.same rfl (Nat.le_of_ble_eq_true rfl) (Nat.le_of_ble_eq_true rfl) (⟨rfl, rfl⟩) dX9_coming_37

theorem dX10_begin_0 : decode cX10_begin 0 = .ok (.aload_n 0, 1) := by decide +kernel
theorem dX10_begin_1 : decode cX10_begin 1 = .ok (.getfield 21, 3) := by decide +kernel
theorem dX10_begin_4 : decode cX10_begin 4 = .ok (.iconst 0, 1) := by decide +kernel
theorem dX10_begin_5 : decode cX10_begin 5 = .ok (.invokestatic 54, 3) := by decide +kernel
theorem dX10_begin_8 : decode cX10_begin 8 = .ok (.aload_n 0, 1) := by decide +kernel
theorem dX10_begin_9 : decode cX10_begin 9 = .ok (.getfield 24, 3) := by decide +kernel
theorem dX10_begin_12 : decode cX10_begin 12 = .ok (.iconst 0, 1) := by decide +kernel
theorem dX10_begin_13 : decode cX10_begin 13 = .ok (.invokestatic 54, 3) := by decide +kernel
theorem dX10_begin_16 : decode cX10_begin 16 = .ok (.aload_n 0, 1) := by decide +kernel
theorem dX10_begin_17 : decode cX10_begin 17 = .ok (.getfield 27, 3) := by decide +kernel
theorem dX10_begin_20 : decode cX10_begin 20 = .ok (.iconst 0, 1) := by decide +kernel
theorem dX10_begin_21 : decode cX10_begin 21 = .ok (.invokestatic 54, 3) := by decide +kernel
theorem dX10_begin_24 : decode cX10_begin 24 = .ok (.aload_n 0, 1) := by decide +kernel
theorem dX10_begin_25 : decode cX10_begin 25 = .ok (.getfield 30, 3) := by decide +kernel
theorem dX10_begin_28 : decode cX10_begin 28 = .ok (.iconst (-1), 1) := by decide +kernel
theorem dX10_begin_29 : decode cX10_begin 29 = .ok (.invokestatic 54, 3) := by decide +kernel
theorem dX10_begin_32 : decode cX10_begin 32 = .ok (.return_, 1) := by decide +kernel
def wq_c_X10_begin : List Cond := Cond.code yX10_begin cX10_begin 1 none :: (([Cond.fieldLink RX10 21 "CrowToll$Watch" "count" "[I", Cond.methodLink RX10 54 yJ7_fill_53178, Cond.static yJ7_fill_53178, Cond.initialized RJ7, Cond.code yJ7_fill_53178 cJ7_fill_53178 4 none, Cond.fieldLink RX10 24 "CrowToll$Watch" "total" "[I", Cond.fieldLink RX10 27 "CrowToll$Watch" "lookedAt" "[I", Cond.fieldLink RX10 30 "CrowToll$Watch" "countedAt" "[I"] : List Cond) ++ wsX100)
set_option maxRecDepth 20000 in
theorem gr_c_X10_begin_c_J7_fill_53178 : GoodIn wq_c_X10_begin wq_c_J7_fill_53178 := List.forall_mem_cons.mpr ⟨⟨(List.mem_of_getElem? (i := 5) rfl), good_of_word rfl⟩, (fun _ h => absurd h List.not_mem_nil)⟩
set_option maxRecDepth 20000 in
theorem gq_c_X10_begin_c_J7_fill_53178_54 : GoodIn wq_c_X10_begin (va_wsS RX10 54 yJ7_fill_53178 wq_c_J7_fill_53178) := goodIn_app (List.forall_mem_cons.mpr ⟨⟨(List.mem_of_getElem? (i := 2) rfl), good_of_word rfl⟩, List.forall_mem_cons.mpr ⟨⟨(List.mem_of_getElem? (i := 3) rfl), good_of_word rfl⟩, List.forall_mem_cons.mpr ⟨⟨(List.mem_of_getElem? (i := 4) rfl), good_of_word rfl⟩, (fun _ h => absurd h List.not_mem_nil)⟩⟩⟩) gr_c_X10_begin_c_J7_fill_53178
set_option maxHeartbeats 8000000 in
set_option maxRecDepth 100000 in
theorem c_X10_begin (l : Launch) (D : va_G) (cy : Nat → ClassId) (ad : Nat → Nat) (g : Nat → va_E) {f0 : List Value} {c1 : Nat → Int32} {c2 : Nat → Int32} {c3 : Nat → Int32} {c4 : Nat → Int32} (o0 : g 0 = .inr (10, f0)) (f0_4 : f0[4]? = some (.ref (ad 1))) (f0_5 : f0[5]? = some (.ref (ad 2))) (f0_6 : f0[6]? = some (.ref (ad 3))) (f0_7 : f0[7]? = some (.ref (ad 4))) (a1 : g 1 = .inl (cy 0, 5, .inl c1)) (a2 : g 2 = .inl (cy 0, 5, .inl c2)) (a3 : g 3 = .inl (cy 0, 5, .inl c3)) (a4 : g 4 = .inl (cy 0, 5, .inl c4)) : cMv l yX10_begin wq_c_X10_begin { frames := 1, cells := 0, slots := 0, locals := 23 } 5 0 0 0 D cy ad g [.ref (ad 0)] (fun nw lu => ∃ (cz_5_4 : Nat → Int32) (cz_13_8 : Nat → Int32) (cz_21_12 : Nat → Int32) (cz_29_16 : Nat → Int32), lu = [(1, .inl (cy 0, 5, .inl cz_5_4)), (2, .inl (cy 0, 5, .inl cz_13_8)), (3, .inl (cy 0, 5, .inl cz_21_12)), (4, .inl (cy 0, 5, .inl cz_29_16))]) := by
  refine cM_of (Qc := fun A => cQv (fun nw lu => ∃ (cz_5_4 : Nat → Int32) (cz_13_8 : Nat → Int32) (cz_21_12 : Nat → Int32) (cz_29_16 : Nat → Int32), lu = [(1, .inl (cy 0, 5, .inl cz_5_4)), (2, .inl (cy 0, 5, .inl cz_13_8)), (3, .inl (cy 0, 5, .inl cz_21_12)), (4, .inl (cy 0, 5, .inl cz_29_16))]) D 5 0 ad g A) (cc := cX10_begin) (maxL := 1) (ret := none) (by decide) rfl (Nat.le_of_ble_eq_true rfl) ?_
  intro p e s m below meth c A hC hr hlk hnm hO ls hl
  have hC : CallFix p m c cX10_begin 1 s [.ref (ad 0)].toArray wq_c_X10_begin RX10 := hC
  obtain ⟨hx, hb, hml, hown, hts⟩ := id hC
  have hl : lv_has ls 1 [(0, .ref (ad 0))] := hl
  have i_X10 : ∀ w ∈ wsX100, w ∈ wq_c_X10_begin := fun w h => List.mem_cons_of_mem _ (List.mem_append_right _ h)
  refine lv_aload_n hx hb dX10_begin_0 rfl (lv_at hl 0 rfl) ?_
  refine cg_get hC hO 0 (by decide) o0 rfl i_X10 4 (by decide) (List.mem_of_getElem? (i := 1) rfl) f0_4 dX10_begin_1 ?_
  refine lv_iconst (v := 0) hx hb dX10_begin_4 (by decide) ?_
  refine cg_Sv (As := [.ref (ad 1), .int 0]) (rest := []) (mc := 0) (ms := 0) (rm := { frames := 0, cells := 0, slots := 0, locals := 0 }) hC hl.1 hO [1] rfl (c_J7_fill_53178 l D cy _ _ (n := 5) (c0 := c1) (x := 0) a1 (by decide)) gq_c_X10_begin_c_J7_fill_53178_54 rfl rfl rfl 2 (by decide +kernel) ⟨Nat.le_of_ble_eq_true rfl, Nat.le_of_ble_eq_true rfl⟩ rfl rfl (Nat.le_of_ble_eq_true rfl) dX10_begin_5 ⟨Nat.le_of_ble_eq_true rfl, Nat.le_of_ble_eq_true rfl⟩ (fun nw_5_1 l_5_2 H locs hw hO => ?_)
  obtain ⟨cz_5_4, rfl⟩ := hw
  have hO : cO D cy A s.heap s 5 ad (cup [(1, .inl (cy 0, 5, .inl cz_5_4))] g) _ _ := hO
  refine lv_aload_n hx hb dX10_begin_8 rfl (lv_at hl 0 rfl) ?_
  refine cg_get hC hO 0 (by decide) o0 rfl i_X10 5 (by decide) (List.mem_of_getElem? (i := 6) rfl) f0_5 dX10_begin_9 ?_
  refine lv_iconst (v := 0) hx hb dX10_begin_12 (by decide) ?_
  refine cg_Sv (As := [.ref (ad 2), .int 0]) (rest := []) (mc := 0) (ms := 0) (rm := { frames := 0, cells := 0, slots := 0, locals := 0 }) hC hl.1 hO [2] rfl (c_J7_fill_53178 l D cy _ _ (n := 5) (c0 := c2) (x := 0) a2 (by decide)) gq_c_X10_begin_c_J7_fill_53178_54 rfl rfl rfl 2 (by decide +kernel) ⟨Nat.le_of_ble_eq_true rfl, Nat.le_of_ble_eq_true rfl⟩ rfl rfl (Nat.le_of_ble_eq_true rfl) dX10_begin_13 ⟨Nat.le_of_ble_eq_true rfl, Nat.le_of_ble_eq_true rfl⟩ (fun nw_13_5 l_13_6 H locs hw hO => ?_)
  obtain ⟨cz_13_8, rfl⟩ := hw
  have hO : cO D cy A s.heap s 5 ad (cup [(1, .inl (cy 0, 5, .inl cz_5_4)), (2, .inl (cy 0, 5, .inl cz_13_8))] g) _ _ := hO
  refine lv_aload_n hx hb dX10_begin_16 rfl (lv_at hl 0 rfl) ?_
  refine cg_get hC hO 0 (by decide) o0 rfl i_X10 6 (by decide) (List.mem_of_getElem? (i := 7) rfl) f0_6 dX10_begin_17 ?_
  refine lv_iconst (v := 0) hx hb dX10_begin_20 (by decide) ?_
  refine cg_Sv (As := [.ref (ad 3), .int 0]) (rest := []) (mc := 0) (ms := 0) (rm := { frames := 0, cells := 0, slots := 0, locals := 0 }) hC hl.1 hO [3] rfl (c_J7_fill_53178 l D cy _ _ (n := 5) (c0 := c3) (x := 0) a3 (by decide)) gq_c_X10_begin_c_J7_fill_53178_54 rfl rfl rfl 2 (by decide +kernel) ⟨Nat.le_of_ble_eq_true rfl, Nat.le_of_ble_eq_true rfl⟩ rfl rfl (Nat.le_of_ble_eq_true rfl) dX10_begin_21 ⟨Nat.le_of_ble_eq_true rfl, Nat.le_of_ble_eq_true rfl⟩ (fun nw_21_9 l_21_10 H locs hw hO => ?_)
  obtain ⟨cz_21_12, rfl⟩ := hw
  have hO : cO D cy A s.heap s 5 ad (cup [(1, .inl (cy 0, 5, .inl cz_5_4)), (2, .inl (cy 0, 5, .inl cz_13_8)), (3, .inl (cy 0, 5, .inl cz_21_12))] g) _ _ := hO
  refine lv_aload_n hx hb dX10_begin_24 rfl (lv_at hl 0 rfl) ?_
  refine cg_get hC hO 0 (by decide) o0 rfl i_X10 7 (by decide) (List.mem_of_getElem? (i := 8) rfl) f0_7 dX10_begin_25 ?_
  refine lv_iconst (v := (-1)) hx hb dX10_begin_28 (by decide) ?_
  refine cg_Sv (As := [.ref (ad 4), .int (-1)]) (rest := []) (mc := 0) (ms := 0) (rm := { frames := 0, cells := 0, slots := 0, locals := 0 }) hC hl.1 hO [4] rfl (c_J7_fill_53178 l D cy _ _ (n := 5) (c0 := c4) (x := (-1)) a4 (by decide)) gq_c_X10_begin_c_J7_fill_53178_54 rfl rfl rfl 2 (by decide +kernel) ⟨Nat.le_of_ble_eq_true rfl, Nat.le_of_ble_eq_true rfl⟩ rfl rfl (Nat.le_of_ble_eq_true rfl) dX10_begin_29 ⟨Nat.le_of_ble_eq_true rfl, Nat.le_of_ble_eq_true rfl⟩ (fun nw_29_13 l_29_14 H locs hw hO => ?_)
  obtain ⟨cz_29_16, rfl⟩ := hw
  have hO : cO D cy A s.heap s 5 ad (cup [(1, .inl (cy 0, 5, .inl cz_5_4)), (2, .inl (cy 0, 5, .inl cz_13_8)), (3, .inl (cy 0, 5, .inl cz_21_12)), (4, .inl (cy 0, 5, .inl cz_29_16))] g) _ _ := hO
  exact cg_vret (nw := fun _ => 0) hC hr hlk hO.same (Nat.le_of_ble_eq_true rfl) (Nat.le_of_ble_eq_true rfl) (⟨cz_5_4, cz_13_8, cz_21_12, cz_29_16, rfl⟩) dX10_begin_32

theorem dX10_sit_0 : decode cX10_sit 0 = .ok (.aload_n 1, 1) := by decide +kernel
theorem dX10_sit_1 : decode cX10_sit 1 = .ok (.iconst 0, 1) := by decide +kernel
theorem dX10_sit_2 : decode cX10_sit 2 = .ok (.aload_n 0, 1) := by decide +kernel
theorem dX10_sit_3 : decode cX10_sit 3 = .ok (.getfield 9, 3) := by decide +kernel
theorem dX10_sit_6 : decode cX10_sit 6 = .ok (.iconst 0, 1) := by decide +kernel
theorem dX10_sit_7 : decode cX10_sit 7 = .ok (.iconst 5, 1) := by decide +kernel
theorem dX10_sit_8 : decode cX10_sit 8 = .ok (.invokestatic 37, 3) := by decide +kernel
theorem dX10_sit_11 : decode cX10_sit 11 = .ok (.aload_n 0, 1) := by decide +kernel
theorem dX10_sit_12 : decode cX10_sit 12 = .ok (.getfield 33, 3) := by decide +kernel
theorem dX10_sit_15 : decode cX10_sit 15 = .ok (.getfield 43, 3) := by decide +kernel
theorem dX10_sit_18 : decode cX10_sit 18 = .ok (.iconst 0, 1) := by decide +kernel
theorem dX10_sit_19 : decode cX10_sit 19 = .ok (.aload_n 0, 1) := by decide +kernel
theorem dX10_sit_20 : decode cX10_sit 20 = .ok (.getfield 15, 3) := by decide +kernel
theorem dX10_sit_23 : decode cX10_sit 23 = .ok (.iconst 0, 1) := by decide +kernel
theorem dX10_sit_24 : decode cX10_sit 24 = .ok (.bipush 20, 2) := by decide +kernel
theorem dX10_sit_26 : decode cX10_sit 26 = .ok (.invokestatic 37, 3) := by decide +kernel
theorem dX10_sit_29 : decode cX10_sit 29 = .ok (.aload_n 0, 1) := by decide +kernel
theorem dX10_sit_30 : decode cX10_sit 30 = .ok (.getfield 33, 3) := by decide +kernel
theorem dX10_sit_33 : decode cX10_sit 33 = .ok (.getfield 46, 3) := by decide +kernel
theorem dX10_sit_36 : decode cX10_sit 36 = .ok (.iconst 0, 1) := by decide +kernel
theorem dX10_sit_37 : decode cX10_sit 37 = .ok (.aload_n 0, 1) := by decide +kernel
theorem dX10_sit_38 : decode cX10_sit 38 = .ok (.getfield 18, 3) := by decide +kernel
theorem dX10_sit_41 : decode cX10_sit 41 = .ok (.iconst 0, 1) := by decide +kernel
theorem dX10_sit_42 : decode cX10_sit 42 = .ok (.iconst 4, 1) := by decide +kernel
theorem dX10_sit_43 : decode cX10_sit 43 = .ok (.invokestatic 37, 3) := by decide +kernel
theorem dX10_sit_46 : decode cX10_sit 46 = .ok (.aload_n 0, 1) := by decide +kernel
theorem dX10_sit_47 : decode cX10_sit 47 = .ok (.invokevirtual 47, 3) := by decide +kernel
theorem dX10_sit_50 : decode cX10_sit 50 = .ok (.return_, 1) := by decide +kernel
def wq_c_X10_sit : List Cond := Cond.code yX10_sit cX10_sit 2 none :: (([Cond.fieldLink RX10 9 "CrowToll$Watch" "limit" "[I", Cond.methodLink RX10 37 arraycopyName, Cond.native arraycopyName, Cond.static arraycopyName, Cond.initialized "java/lang/System", Cond.fieldLink RX10 33 "CrowToll$Watch" "road" "LCrowToll$Road;", Cond.fieldLink RX10 43 "CrowToll$Road" "seat" "[I", Cond.fieldLink RX10 15 "CrowToll$Watch" "seat" "[I", Cond.fieldLink RX10 46 "CrowToll$Road" "seated" "[I", Cond.fieldLink RX10 18 "CrowToll$Watch" "seated" "[I", Cond.methodLink RX10 47 yX10_begin, Cond.instanceMethod yX10_begin, Cond.selects RX10 yX10_begin yX10_begin, Cond.initialized RX10, Cond.code yX10_begin cX10_begin 1 none, Cond.fieldLink RX10 21 "CrowToll$Watch" "count" "[I", Cond.methodLink RX10 54 yJ7_fill_53178, Cond.static yJ7_fill_53178, Cond.initialized RJ7, Cond.code yJ7_fill_53178 cJ7_fill_53178 4 none, Cond.fieldLink RX10 24 "CrowToll$Watch" "total" "[I", Cond.fieldLink RX10 27 "CrowToll$Watch" "lookedAt" "[I", Cond.fieldLink RX10 30 "CrowToll$Watch" "countedAt" "[I"] : List Cond) ++ wsX70 ++ wsX100)
set_option maxRecDepth 20000 in
theorem gr_c_X10_sit_c_X10_begin : GoodIn wq_c_X10_sit wq_c_X10_begin := List.forall_mem_cons.mpr ⟨⟨(List.mem_of_getElem? (i := 15) rfl), good_of_word rfl⟩, List.forall_mem_append.mpr ⟨List.forall_mem_cons.mpr ⟨⟨(List.mem_of_getElem? (i := 16) rfl), good_of_word rfl⟩, List.forall_mem_cons.mpr ⟨⟨(List.mem_of_getElem? (i := 17) rfl), good_of_word rfl⟩, List.forall_mem_cons.mpr ⟨⟨(List.mem_of_getElem? (i := 18) rfl), good_of_word rfl⟩, List.forall_mem_cons.mpr ⟨⟨(List.mem_of_getElem? (i := 19) rfl), good_of_word rfl⟩, List.forall_mem_cons.mpr ⟨⟨(List.mem_of_getElem? (i := 20) rfl), good_of_word rfl⟩, List.forall_mem_cons.mpr ⟨⟨(List.mem_of_getElem? (i := 21) rfl), good_of_word rfl⟩, List.forall_mem_cons.mpr ⟨⟨(List.mem_of_getElem? (i := 22) rfl), good_of_word rfl⟩, List.forall_mem_cons.mpr ⟨⟨(List.mem_of_getElem? (i := 23) rfl), good_of_word rfl⟩, (fun _ h => absurd h List.not_mem_nil)⟩⟩⟩⟩⟩⟩⟩⟩, fun w h => ⟨(fun w h => List.mem_cons_of_mem _ (List.mem_append_right _ h)) w h, good_of_word (List.all_eq_true.mp gw_X10 w h)⟩⟩⟩
set_option maxRecDepth 20000 in
theorem gq_c_X10_sit_c_X10_begin_47 : GoodIn wq_c_X10_sit (wsV RX10 47 RX10 yX10_begin wq_c_X10_begin) := goodIn_app (List.forall_mem_cons.mpr ⟨⟨(List.mem_of_getElem? (i := 11) rfl), good_of_word rfl⟩, List.forall_mem_cons.mpr ⟨⟨(List.mem_of_getElem? (i := 12) rfl), good_of_word rfl⟩, List.forall_mem_cons.mpr ⟨⟨(List.mem_of_getElem? (i := 13) rfl), good_of_word rfl⟩, List.forall_mem_cons.mpr ⟨⟨(List.mem_of_getElem? (i := 14) rfl), good_of_word rfl⟩, (fun _ h => absurd h List.not_mem_nil)⟩⟩⟩⟩) gr_c_X10_sit_c_X10_begin
set_option maxHeartbeats 8000000 in
set_option maxRecDepth 100000 in
theorem c_X10_sit (l : Launch) (D : va_G) (cy : Nat → ClassId) (ad : Nat → Nat) (g : Nat → va_E) {f0 : List Value} {c1 : Nat → Int32} {c2 : Nat → Int32} {f3 : List Value} {c4 : Nat → Int32} {c5 : Nat → Int32} {c6 : Nat → Int32} {c7 : Nat → Int32} {c8 : Nat → Int32} {c9 : Nat → Int32} {c10 : Nat → Int32} {c11 : Nat → Int32} (o0 : g 0 = .inr (10, f0)) (f0_0 : f0[0]? = some (.ref (ad 3))) (f0_1 : f0[1]? = some (.ref (ad 2))) (f0_2 : f0[2]? = some (.ref (ad 5))) (f0_3 : f0[3]? = some (.ref (ad 7))) (f0_4 : f0[4]? = some (.ref (ad 8))) (f0_5 : f0[5]? = some (.ref (ad 9))) (f0_6 : f0[6]? = some (.ref (ad 10))) (f0_7 : f0[7]? = some (.ref (ad 11))) (a1 : g 1 = .inl (cy 0, 5, .inl c1)) (a2 : g 2 = .inl (cy 0, 5, .inl c2)) (o3 : g 3 = .inr (7, f3)) (f3_9 : f3[9]? = some (.ref (ad 4))) (f3_10 : f3[10]? = some (.ref (ad 6))) (a4 : g 4 = .inl (cy 0, 20, .inl c4)) (a5 : g 5 = .inl (cy 0, 20, .inl c5)) (a6 : g 6 = .inl (cy 0, 4, .inl c6)) (a7 : g 7 = .inl (cy 0, 4, .inl c7)) (a8 : g 8 = .inl (cy 0, 5, .inl c8)) (a9 : g 9 = .inl (cy 0, 5, .inl c9)) (a10 : g 10 = .inl (cy 0, 5, .inl c10)) (a11 : g 11 = .inl (cy 0, 5, .inl c11)) : cMv l yX10_sit wq_c_X10_sit { frames := 2, cells := 0, slots := 0, locals := 60 } 12 0 0 0 D cy ad g [.ref (ad 0), .ref (ad 1)] (fun nw lu => ∃ (c2_8_1 : Nat → Int32) (c5_26_2 : Nat → Int32) (c7_43_3 : Nat → Int32) (cz_47_7 : Nat → Int32) (cz_47_8 : Nat → Int32) (cz_47_9 : Nat → Int32) (cz_47_10 : Nat → Int32), lu = [(2, .inl (cy 0, 5, .inl c2_8_1)), (5, .inl (cy 0, 20, .inl c5_26_2)), (7, .inl (cy 0, 4, .inl c7_43_3)), (11, .inl (cy 0, 5, .inl cz_47_10)), (10, .inl (cy 0, 5, .inl cz_47_9)), (9, .inl (cy 0, 5, .inl cz_47_8)), (8, .inl (cy 0, 5, .inl cz_47_7))]) := by
  refine cM_of (Qc := fun A => cQv (fun nw lu => ∃ (c2_8_1 : Nat → Int32) (c5_26_2 : Nat → Int32) (c7_43_3 : Nat → Int32) (cz_47_7 : Nat → Int32) (cz_47_8 : Nat → Int32) (cz_47_9 : Nat → Int32) (cz_47_10 : Nat → Int32), lu = [(2, .inl (cy 0, 5, .inl c2_8_1)), (5, .inl (cy 0, 20, .inl c5_26_2)), (7, .inl (cy 0, 4, .inl c7_43_3)), (11, .inl (cy 0, 5, .inl cz_47_10)), (10, .inl (cy 0, 5, .inl cz_47_9)), (9, .inl (cy 0, 5, .inl cz_47_8)), (8, .inl (cy 0, 5, .inl cz_47_7))]) D 12 0 ad g A) (cc := cX10_sit) (maxL := 2) (ret := none) (by decide) rfl (Nat.le_of_ble_eq_true rfl) ?_
  intro p e s m below meth c A hC hr hlk hnm hO ls hl
  have hC : CallFix p m c cX10_sit 2 s [.ref (ad 0), .ref (ad 1)].toArray wq_c_X10_sit RX10 := hC
  obtain ⟨hx, hb, hml, hown, hts⟩ := id hC
  have hl : lv_has ls 2 [(0, .ref (ad 0)), (1, .ref (ad 1))] := hl
  have i_X10 : ∀ w ∈ wsX100, w ∈ wq_c_X10_sit := fun w h => List.mem_cons_of_mem _ (List.mem_append_right _ h)
  have i_X7 : ∀ w ∈ wsX70, w ∈ wq_c_X10_sit := fun w h => List.mem_cons_of_mem _ (List.mem_append_left _ (List.mem_append_right _ h))
  refine lv_aload_n hx hb dX10_sit_0 rfl (lv_at hl 1 rfl) ?_
  refine lv_iconst (v := 0) hx hb dX10_sit_1 (by decide) ?_
  refine lv_aload_n hx hb dX10_sit_2 rfl (lv_at hl 0 rfl) ?_
  refine cg_get hC hO 0 (by decide) o0 rfl i_X10 1 (by decide) (List.mem_of_getElem? (i := 1) rfl) f0_1 dX10_sit_3 ?_
  refine lv_iconst (v := 0) hx hb dX10_sit_6 (by decide) ?_
  refine lv_iconst (v := 5) hx hb dX10_sit_7 (by decide) ?_
  refine cg_copy hC hl.1 hO (List.mem_of_getElem? (i := 2) rfl) (List.mem_of_getElem? (i := 3) rfl) (List.mem_of_getElem? (i := 4) rfl) (List.mem_of_getElem? (i := 5) rfl) 1 2 (by decide) (by decide) a1 a2 (by decide) (by decide) (by decide) (by decide) (by decide) (Nat.le_of_ble_eq_true rfl) (Nat.le_of_ble_eq_true rfl) dX10_sit_8 (fun H locs hO => ?_)
  have hO : cO D cy A s.heap s 12 ad (cup [(2, .inl (cy 0, 5, .inl (va_cpy c1 c2 (0 : Int32).toNatClampNeg (0 : Int32).toNatClampNeg (5 : Int32).toNatClampNeg)))] g) _ _ := hO
  obtain ⟨c2_8_1, ec2_8_1⟩ : ∃ z, z = (va_cpy c1 c2 (0 : Int32).toNatClampNeg (0 : Int32).toNatClampNeg (5 : Int32).toNatClampNeg) := ⟨_, rfl⟩
  rw [← ec2_8_1] at hO
  have hO : cO D cy A s.heap s 12 ad (cup [(2, .inl (cy 0, 5, .inl c2_8_1))] g) _ _ := hO
  refine lv_aload_n hx hb dX10_sit_11 rfl (lv_at hl 0 rfl) ?_
  refine cg_get hC hO 0 (by decide) o0 rfl i_X10 0 (by decide) (List.mem_of_getElem? (i := 6) rfl) f0_0 dX10_sit_12 ?_
  refine cg_get hC hO 3 (by decide) o3 rfl i_X7 9 (by decide) (List.mem_of_getElem? (i := 7) rfl) f3_9 dX10_sit_15 ?_
  refine lv_iconst (v := 0) hx hb dX10_sit_18 (by decide) ?_
  refine lv_aload_n hx hb dX10_sit_19 rfl (lv_at hl 0 rfl) ?_
  refine cg_get hC hO 0 (by decide) o0 rfl i_X10 2 (by decide) (List.mem_of_getElem? (i := 8) rfl) f0_2 dX10_sit_20 ?_
  refine lv_iconst (v := 0) hx hb dX10_sit_23 (by decide) ?_
  refine lv_bipush (v := 20) hx hb dX10_sit_24 (by decide) ?_
  refine cg_copy hC hl.1 hO (List.mem_of_getElem? (i := 2) rfl) (List.mem_of_getElem? (i := 3) rfl) (List.mem_of_getElem? (i := 4) rfl) (List.mem_of_getElem? (i := 5) rfl) 4 5 (by decide) (by decide) a4 a5 (by decide) (by decide) (by decide) (by decide) (by decide) (Nat.le_of_ble_eq_true rfl) (Nat.le_of_ble_eq_true rfl) dX10_sit_26 (fun H locs hO => ?_)
  have hO : cO D cy A s.heap s 12 ad (cup [(2, .inl (cy 0, 5, .inl c2_8_1)), (5, .inl (cy 0, 20, .inl (va_cpy c4 c5 (0 : Int32).toNatClampNeg (0 : Int32).toNatClampNeg (20 : Int32).toNatClampNeg)))] g) _ _ := hO
  obtain ⟨c5_26_2, ec5_26_2⟩ : ∃ z, z = (va_cpy c4 c5 (0 : Int32).toNatClampNeg (0 : Int32).toNatClampNeg (20 : Int32).toNatClampNeg) := ⟨_, rfl⟩
  rw [← ec5_26_2] at hO
  have hO : cO D cy A s.heap s 12 ad (cup [(2, .inl (cy 0, 5, .inl c2_8_1)), (5, .inl (cy 0, 20, .inl c5_26_2))] g) _ _ := hO
  refine lv_aload_n hx hb dX10_sit_29 rfl (lv_at hl 0 rfl) ?_
  refine cg_get hC hO 0 (by decide) o0 rfl i_X10 0 (by decide) (List.mem_of_getElem? (i := 6) rfl) f0_0 dX10_sit_30 ?_
  refine cg_get hC hO 3 (by decide) o3 rfl i_X7 10 (by decide) (List.mem_of_getElem? (i := 9) rfl) f3_10 dX10_sit_33 ?_
  refine lv_iconst (v := 0) hx hb dX10_sit_36 (by decide) ?_
  refine lv_aload_n hx hb dX10_sit_37 rfl (lv_at hl 0 rfl) ?_
  refine cg_get hC hO 0 (by decide) o0 rfl i_X10 3 (by decide) (List.mem_of_getElem? (i := 10) rfl) f0_3 dX10_sit_38 ?_
  refine lv_iconst (v := 0) hx hb dX10_sit_41 (by decide) ?_
  refine lv_iconst (v := 4) hx hb dX10_sit_42 (by decide) ?_
  refine cg_copy hC hl.1 hO (List.mem_of_getElem? (i := 2) rfl) (List.mem_of_getElem? (i := 3) rfl) (List.mem_of_getElem? (i := 4) rfl) (List.mem_of_getElem? (i := 5) rfl) 6 7 (by decide) (by decide) a6 a7 (by decide) (by decide) (by decide) (by decide) (by decide) (Nat.le_of_ble_eq_true rfl) (Nat.le_of_ble_eq_true rfl) dX10_sit_43 (fun H locs hO => ?_)
  have hO : cO D cy A s.heap s 12 ad (cup [(2, .inl (cy 0, 5, .inl c2_8_1)), (5, .inl (cy 0, 20, .inl c5_26_2)), (7, .inl (cy 0, 4, .inl (va_cpy c6 c7 (0 : Int32).toNatClampNeg (0 : Int32).toNatClampNeg (4 : Int32).toNatClampNeg)))] g) _ _ := hO
  obtain ⟨c7_43_3, ec7_43_3⟩ : ∃ z, z = (va_cpy c6 c7 (0 : Int32).toNatClampNeg (0 : Int32).toNatClampNeg (4 : Int32).toNatClampNeg) := ⟨_, rfl⟩
  rw [← ec7_43_3] at hO
  have hO : cO D cy A s.heap s 12 ad (cup [(2, .inl (cy 0, 5, .inl c2_8_1)), (5, .inl (cy 0, 20, .inl c5_26_2)), (7, .inl (cy 0, 4, .inl c7_43_3))] g) _ _ := hO
  refine lv_aload_n hx hb dX10_sit_46 rfl (lv_at hl 0 rfl) ?_
  refine cg_Vv (As := []) (rest := []) (mc := 0) (ms := 0) (rm := { frames := 1, cells := 0, slots := 0, locals := 23 }) hC hl.1 hO [0, 8, 9, 10, 11] rfl (c_X10_begin l D cy _ _ (f0 := f0) (c1 := c8) (c2 := c9) (c3 := c10) (c4 := c11) o0 f0_4 f0_5 f0_6 f0_7 a8 a9 a10 a11) gq_c_X10_sit_c_X10_begin_47 rfl rfl rfl 0 (by decide +kernel) ⟨Nat.le_of_ble_eq_true rfl, Nat.le_of_ble_eq_true rfl⟩ rfl (by decide) o0 rfl rfl (Nat.le_of_ble_eq_true rfl) dX10_sit_47 ⟨Nat.le_of_ble_eq_true rfl, Nat.le_of_ble_eq_true rfl⟩ (fun nw_47_4 l_47_5 H locs hw hO => ?_)
  obtain ⟨cz_47_7, cz_47_8, cz_47_9, cz_47_10, rfl⟩ := hw
  have hO : cO D cy A s.heap s 12 ad (cup [(2, .inl (cy 0, 5, .inl c2_8_1)), (5, .inl (cy 0, 20, .inl c5_26_2)), (7, .inl (cy 0, 4, .inl c7_43_3)), (11, .inl (cy 0, 5, .inl cz_47_10)), (10, .inl (cy 0, 5, .inl cz_47_9)), (9, .inl (cy 0, 5, .inl cz_47_8)), (8, .inl (cy 0, 5, .inl cz_47_7))] g) _ _ := hO
  exact cg_vret (nw := fun _ => 0) hC hr hlk hO.same (Nat.le_of_ble_eq_true rfl) (Nat.le_of_ble_eq_true rfl) (⟨c2_8_1, c5_26_2, c7_43_3, cz_47_7, cz_47_8, cz_47_9, cz_47_10, rfl⟩) dX10_sit_50

theorem dX1_workOut_0 : decode cX1_workOut 0 = .ok (.aload_n 0, 1) := by decide +kernel
theorem dX1_workOut_1 : decode cX1_workOut 1 = .ok (.getfield 25, 3) := by decide +kernel
theorem dX1_workOut_4 : decode cX1_workOut 4 = .ok (.aload_n 0, 1) := by decide +kernel
theorem dX1_workOut_5 : decode cX1_workOut 5 = .ok (.getfield 18, 3) := by decide +kernel
theorem dX1_workOut_8 : decode cX1_workOut 8 = .ok (.invokevirtual 48, 3) := by decide +kernel
theorem dX1_workOut_11 : decode cX1_workOut 11 = .ok (.istore_n 1, 1) := by decide +kernel
theorem dX1_workOut_12 : decode cX1_workOut 12 = .ok (.aload_n 0, 1) := by decide +kernel
theorem dX1_workOut_13 : decode cX1_workOut 13 = .ok (.getfield 18, 3) := by decide +kernel
theorem dX1_workOut_16 : decode cX1_workOut 16 = .ok (.iload_n 1, 1) := by decide +kernel
theorem dX1_workOut_17 : decode cX1_workOut 17 = .ok (.aload_n 0, 1) := by decide +kernel
theorem dX1_workOut_18 : decode cX1_workOut 18 = .ok (.getfield 25, 3) := by decide +kernel
theorem dX1_workOut_21 : decode cX1_workOut 21 = .ok (.getfield 54, 3) := by decide +kernel
theorem dX1_workOut_24 : decode cX1_workOut 24 = .ok (.invokestatic 57, 3) := by decide +kernel
theorem dX1_workOut_27 : decode cX1_workOut 27 = .ok (.aload_n 0, 1) := by decide +kernel
theorem dX1_workOut_28 : decode cX1_workOut 28 = .ok (.getfield 9, 3) := by decide +kernel
theorem dX1_workOut_31 : decode cX1_workOut 31 = .ok (.iconst (-1), 1) := by decide +kernel
theorem dX1_workOut_32 : decode cX1_workOut 32 = .ok (.invokestatic 42, 3) := by decide +kernel
theorem dX1_workOut_35 : decode cX1_workOut 35 = .ok (.aload_n 0, 1) := by decide +kernel
theorem dX1_workOut_36 : decode cX1_workOut 36 = .ok (.getfield 15, 3) := by decide +kernel
theorem dX1_workOut_39 : decode cX1_workOut 39 = .ok (.iconst 0, 1) := by decide +kernel
theorem dX1_workOut_40 : decode cX1_workOut 40 = .ok (.invokestatic 42, 3) := by decide +kernel
theorem dX1_workOut_43 : decode cX1_workOut 43 = .ok (.aload_n 0, 1) := by decide +kernel
theorem dX1_workOut_44 : decode cX1_workOut 44 = .ok (.getfield 38, 3) := by decide +kernel
theorem dX1_workOut_47 : decode cX1_workOut 47 = .ok (.aload_n 0, 1) := by decide +kernel
theorem dX1_workOut_48 : decode cX1_workOut 48 = .ok (.getfield 25, 3) := by decide +kernel
theorem dX1_workOut_51 : decode cX1_workOut 51 = .ok (.getfield 61, 3) := by decide +kernel
theorem dX1_workOut_54 : decode cX1_workOut 54 = .ok (.invokevirtual 64, 3) := by decide +kernel
theorem dX1_workOut_57 : decode cX1_workOut 57 = .ok (.iconst 0, 1) := by decide +kernel
theorem dX1_workOut_58 : decode cX1_workOut 58 = .ok (.istore_n 2, 1) := by decide +kernel
theorem dX1_workOut_59 : decode cX1_workOut 59 = .ok (.iload_n 2, 1) := by decide +kernel
theorem dX1_workOut_60 : decode cX1_workOut 60 = .ok (.aload_n 0, 1) := by decide +kernel
theorem dX1_workOut_61 : decode cX1_workOut 61 = .ok (.getfield 21, 3) := by decide +kernel
theorem dX1_workOut_64 : decode cX1_workOut 64 = .ok (.getfield 68, 3) := by decide +kernel
theorem dX1_workOut_67 : decode cX1_workOut 67 = .ok (.if_icmp .ge 118, 3) := by decide +kernel
theorem dX1_workOut_185 : decode cX1_workOut 185 = .ok (.return_, 1) := by decide +kernel
def wq_c_workOut0 : List Cond := Cond.code yX1_workOut cX1_workOut 6 none :: (([Cond.fieldLink RX1 25 "CrowToll$Day" "stand" "LCrowToll$Stand;", Cond.fieldLink RX1 18 "CrowToll$Day" "order" "[I", Cond.methodLink RX1 48 yX9_coming, Cond.instanceMethod yX9_coming, Cond.selects RX9 yX9_coming yX9_coming, Cond.initialized RX9, Cond.code yX9_coming cX9_coming 4 (some .int), Cond.fieldLink RX9 21 "CrowToll$Stand" "carts" "I", Cond.fieldLink RX1 54 "CrowToll$Stand" "minute" "[I", Cond.code yX11_putByMinutes cX11_putByMinutes 6 none, Cond.static yX11_putByMinutes, Cond.initialized RX11, Cond.fieldLink RX1 9 "CrowToll$Day" "counter" "[I", Cond.methodLink RX1 42 yJ7_fill_53178, Cond.static yJ7_fill_53178, Cond.initialized RJ7, Cond.code yJ7_fill_53178 cJ7_fill_53178 4 none, Cond.fieldLink RX1 15 "CrowToll$Day" "paid" "[I", Cond.fieldLink RX1 38 "CrowToll$Day" "watch" "LCrowToll$Watch;", Cond.fieldLink RX1 61 "CrowToll$Stand" "counts" "[I", Cond.methodLink RX1 64 yX10_sit, Cond.instanceMethod yX10_sit, Cond.selects RX10 yX10_sit yX10_sit, Cond.initialized RX10, Cond.code yX10_sit cX10_sit 2 none, Cond.fieldLink RX10 9 "CrowToll$Watch" "limit" "[I", Cond.methodLink RX10 37 arraycopyName, Cond.native arraycopyName, Cond.static arraycopyName, Cond.initialized "java/lang/System", Cond.fieldLink RX10 33 "CrowToll$Watch" "road" "LCrowToll$Road;", Cond.fieldLink RX10 43 "CrowToll$Road" "seat" "[I", Cond.fieldLink RX10 15 "CrowToll$Watch" "seat" "[I", Cond.fieldLink RX10 46 "CrowToll$Road" "seated" "[I", Cond.fieldLink RX10 18 "CrowToll$Watch" "seated" "[I", Cond.methodLink RX10 47 yX10_begin, Cond.instanceMethod yX10_begin, Cond.selects RX10 yX10_begin yX10_begin, Cond.code yX10_begin cX10_begin 1 none, Cond.fieldLink RX10 21 "CrowToll$Watch" "count" "[I", Cond.methodLink RX10 54 yJ7_fill_53178, Cond.fieldLink RX10 24 "CrowToll$Watch" "total" "[I", Cond.fieldLink RX10 27 "CrowToll$Watch" "lookedAt" "[I", Cond.fieldLink RX10 30 "CrowToll$Watch" "countedAt" "[I", Cond.fieldLink RX1 21 "CrowToll$Day" "road" "LCrowToll$Road;", Cond.fieldLink RX1 68 "CrowToll$Road" "posts" "I"] : List Cond) ++ wsX10 ++ wsX70 ++ wsX90 ++ wsX100)
set_option maxRecDepth 20000 in
theorem gr_c_workOut0_c_coming0 : GoodIn wq_c_workOut0 wq_c_coming0 := List.forall_mem_cons.mpr ⟨⟨(List.mem_of_getElem? (i := 7) rfl), good_of_word rfl⟩, List.forall_mem_append.mpr ⟨List.forall_mem_cons.mpr ⟨⟨(List.mem_of_getElem? (i := 8) rfl), good_of_word rfl⟩, (fun _ h => absurd h List.not_mem_nil)⟩, fun w h => ⟨(fun w h => List.mem_cons_of_mem _ (List.mem_append_left _ (List.mem_append_right _ h))) w h, good_of_word (List.all_eq_true.mp gw_X9 w h)⟩⟩⟩
set_option maxRecDepth 20000 in
theorem gq_c_workOut0_c_coming0_48 : GoodIn wq_c_workOut0 (wsV RX1 48 RX9 yX9_coming wq_c_coming0) := goodIn_app (List.forall_mem_cons.mpr ⟨⟨(List.mem_of_getElem? (i := 3) rfl), good_of_word rfl⟩, List.forall_mem_cons.mpr ⟨⟨(List.mem_of_getElem? (i := 4) rfl), good_of_word rfl⟩, List.forall_mem_cons.mpr ⟨⟨(List.mem_of_getElem? (i := 5) rfl), good_of_word rfl⟩, List.forall_mem_cons.mpr ⟨⟨(List.mem_of_getElem? (i := 6) rfl), good_of_word rfl⟩, (fun _ h => absurd h List.not_mem_nil)⟩⟩⟩⟩) gr_c_workOut0_c_coming0
set_option maxRecDepth 20000 in
theorem gr_c_workOut0_c_pbm0 : GoodIn wq_c_workOut0 wq_c_pbm0 := List.forall_mem_cons.mpr ⟨⟨(List.mem_of_getElem? (i := 10) rfl), good_of_word rfl⟩, (fun _ h => absurd h List.not_mem_nil)⟩
theorem gq_c_workOut0_c_pbm0 : GoodIn wq_c_workOut0 wq_c_pbm0 := gr_c_workOut0_c_pbm0
set_option maxRecDepth 20000 in
theorem gr_c_workOut0_c_J7_fill_53178 : GoodIn wq_c_workOut0 wq_c_J7_fill_53178 := List.forall_mem_cons.mpr ⟨⟨(List.mem_of_getElem? (i := 17) rfl), good_of_word rfl⟩, (fun _ h => absurd h List.not_mem_nil)⟩
set_option maxRecDepth 20000 in
theorem gq_c_workOut0_c_J7_fill_53178_42 : GoodIn wq_c_workOut0 (va_wsS RX1 42 yJ7_fill_53178 wq_c_J7_fill_53178) := goodIn_app (List.forall_mem_cons.mpr ⟨⟨(List.mem_of_getElem? (i := 14) rfl), good_of_word rfl⟩, List.forall_mem_cons.mpr ⟨⟨(List.mem_of_getElem? (i := 15) rfl), good_of_word rfl⟩, List.forall_mem_cons.mpr ⟨⟨(List.mem_of_getElem? (i := 16) rfl), good_of_word rfl⟩, (fun _ h => absurd h List.not_mem_nil)⟩⟩⟩) gr_c_workOut0_c_J7_fill_53178
set_option maxRecDepth 20000 in
theorem gr_c_workOut0_c_X10_sit : GoodIn wq_c_workOut0 wq_c_X10_sit := List.forall_mem_cons.mpr ⟨⟨(List.mem_of_getElem? (i := 25) rfl), good_of_word rfl⟩, List.forall_mem_append.mpr ⟨List.forall_mem_append.mpr ⟨List.forall_mem_cons.mpr ⟨⟨(List.mem_of_getElem? (i := 26) rfl), good_of_word rfl⟩, List.forall_mem_cons.mpr ⟨⟨(List.mem_of_getElem? (i := 27) rfl), good_of_word rfl⟩, List.forall_mem_cons.mpr ⟨⟨(List.mem_of_getElem? (i := 28) rfl), good_of_word rfl⟩, List.forall_mem_cons.mpr ⟨⟨(List.mem_of_getElem? (i := 29) rfl), good_of_word rfl⟩, List.forall_mem_cons.mpr ⟨⟨(List.mem_of_getElem? (i := 30) rfl), good_of_word rfl⟩, List.forall_mem_cons.mpr ⟨⟨(List.mem_of_getElem? (i := 31) rfl), good_of_word rfl⟩, List.forall_mem_cons.mpr ⟨⟨(List.mem_of_getElem? (i := 32) rfl), good_of_word rfl⟩, List.forall_mem_cons.mpr ⟨⟨(List.mem_of_getElem? (i := 33) rfl), good_of_word rfl⟩, List.forall_mem_cons.mpr ⟨⟨(List.mem_of_getElem? (i := 34) rfl), good_of_word rfl⟩, List.forall_mem_cons.mpr ⟨⟨(List.mem_of_getElem? (i := 35) rfl), good_of_word rfl⟩, List.forall_mem_cons.mpr ⟨⟨(List.mem_of_getElem? (i := 36) rfl), good_of_word rfl⟩, List.forall_mem_cons.mpr ⟨⟨(List.mem_of_getElem? (i := 37) rfl), good_of_word rfl⟩, List.forall_mem_cons.mpr ⟨⟨(List.mem_of_getElem? (i := 38) rfl), good_of_word rfl⟩, List.forall_mem_cons.mpr ⟨⟨(List.mem_of_getElem? (i := 24) rfl), good_of_word rfl⟩, List.forall_mem_cons.mpr ⟨⟨(List.mem_of_getElem? (i := 39) rfl), good_of_word rfl⟩, List.forall_mem_cons.mpr ⟨⟨(List.mem_of_getElem? (i := 40) rfl), good_of_word rfl⟩, List.forall_mem_cons.mpr ⟨⟨(List.mem_of_getElem? (i := 41) rfl), good_of_word rfl⟩, List.forall_mem_cons.mpr ⟨⟨(List.mem_of_getElem? (i := 15) rfl), good_of_word rfl⟩, List.forall_mem_cons.mpr ⟨⟨(List.mem_of_getElem? (i := 16) rfl), good_of_word rfl⟩, List.forall_mem_cons.mpr ⟨⟨(List.mem_of_getElem? (i := 17) rfl), good_of_word rfl⟩, List.forall_mem_cons.mpr ⟨⟨(List.mem_of_getElem? (i := 42) rfl), good_of_word rfl⟩, List.forall_mem_cons.mpr ⟨⟨(List.mem_of_getElem? (i := 43) rfl), good_of_word rfl⟩, List.forall_mem_cons.mpr ⟨⟨(List.mem_of_getElem? (i := 44) rfl), good_of_word rfl⟩, (fun _ h => absurd h List.not_mem_nil)⟩⟩⟩⟩⟩⟩⟩⟩⟩⟩⟩⟩⟩⟩⟩⟩⟩⟩⟩⟩⟩⟩⟩, fun w h => ⟨(fun w h => List.mem_cons_of_mem _ (List.mem_append_left _ (List.mem_append_left _ (List.mem_append_right _ h)))) w h, good_of_word (List.all_eq_true.mp gw_X7 w h)⟩⟩, fun w h => ⟨(fun w h => List.mem_cons_of_mem _ (List.mem_append_right _ h)) w h, good_of_word (List.all_eq_true.mp gw_X10 w h)⟩⟩⟩
set_option maxRecDepth 20000 in
theorem gq_c_workOut0_c_X10_sit_64 : GoodIn wq_c_workOut0 (wsV RX1 64 RX10 yX10_sit wq_c_X10_sit) := goodIn_app (List.forall_mem_cons.mpr ⟨⟨(List.mem_of_getElem? (i := 21) rfl), good_of_word rfl⟩, List.forall_mem_cons.mpr ⟨⟨(List.mem_of_getElem? (i := 22) rfl), good_of_word rfl⟩, List.forall_mem_cons.mpr ⟨⟨(List.mem_of_getElem? (i := 23) rfl), good_of_word rfl⟩, List.forall_mem_cons.mpr ⟨⟨(List.mem_of_getElem? (i := 24) rfl), good_of_word rfl⟩, (fun _ h => absurd h List.not_mem_nil)⟩⟩⟩⟩) gr_c_workOut0_c_X10_sit
set_option maxHeartbeats 8000000 in
set_option maxRecDepth 100000 in
theorem c_workOut0 (l : Launch) (D : va_G) (cy : Nat → ClassId) (ad : Nat → Nat) (g : Nat → va_E) {f0 : List Value} {f1 : List Value} {c2 : Nat → Int32} {c3 : Nat → Int32} {c4 : Nat → Int32} {c5 : Nat → Int32} {f6 : List Value} {f7 : List Value} {c8 : Nat → Int32} {c9 : Nat → Int32} {c10 : Nat → Int32} {c11 : Nat → Int32} {c12 : Nat → Int32} {c13 : Nat → Int32} {c14 : Nat → Int32} {c15 : Nat → Int32} {c16 : Nat → Int32} {c17 : Nat → Int32} (o0 : g 0 = .inr (1, f0)) (f0_0 : f0[0]? = some (.ref (ad 7))) (f0_1 : f0[1]? = some (.ref (ad 1))) (f0_3 : f0[3]? = some (.ref (ad 6))) (f0_4 : f0[4]? = some (.ref (ad 4))) (f0_5 : f0[5]? = some (.ref (ad 5))) (f0_6 : f0[6]? = some (.ref (ad 2))) (o1 : g 1 = .inr (9, f1)) (f1_0 : f1[0]? = some (.ref (ad 3))) (f1_3 : f1[3]? = some (.ref (ad 17))) (f1_4 : f1[4]? = some (.int 0)) (a2 : g 2 = .inl (cy 0, 24, .inl c2)) (a3 : g 3 = .inl (cy 0, 24, .inl c3)) (a4 : g 4 = .inl (cy 0, 96, .inl c4)) (a5 : g 5 = .inl (cy 0, 96, .inl c5)) (o6 : g 6 = .inr (10, f6)) (f6_0 : f6[0]? = some (.ref (ad 7))) (f6_1 : f6[1]? = some (.ref (ad 10))) (f6_2 : f6[2]? = some (.ref (ad 11))) (f6_3 : f6[3]? = some (.ref (ad 12))) (f6_4 : f6[4]? = some (.ref (ad 13))) (f6_5 : f6[5]? = some (.ref (ad 14))) (f6_6 : f6[6]? = some (.ref (ad 15))) (f6_7 : f6[7]? = some (.ref (ad 16))) (o7 : g 7 = .inr (7, f7)) (f7_9 : f7[9]? = some (.ref (ad 8))) (f7_10 : f7[10]? = some (.ref (ad 9))) (f7_11 : f7[11]? = some (.int 0)) (a8 : g 8 = .inl (cy 0, 20, .inl c8)) (a9 : g 9 = .inl (cy 0, 4, .inl c9)) (a10 : g 10 = .inl (cy 0, 5, .inl c10)) (a11 : g 11 = .inl (cy 0, 20, .inl c11)) (a12 : g 12 = .inl (cy 0, 4, .inl c12)) (a13 : g 13 = .inl (cy 0, 5, .inl c13)) (a14 : g 14 = .inl (cy 0, 5, .inl c14)) (a15 : g 15 = .inl (cy 0, 5, .inl c15)) (a16 : g 16 = .inl (cy 0, 5, .inl c16)) (a17 : g 17 = .inl (cy 0, 5, .inl c17)) : cMv l yX1_workOut wq_c_workOut0 { frames := 3, cells := 0, slots := 0, locals := 81 } 18 0 0 0 D cy ad g [.ref (ad 0)] (fun nw lu => ∃ (cz_32_10 : Nat → Int32) (cz_40_14 : Nat → Int32) (c2_54_18 : Nat → Int32) (c5_54_19 : Nat → Int32) (c7_54_20 : Nat → Int32) (cz_54_21 : Nat → Int32) (cz_54_22 : Nat → Int32) (cz_54_23 : Nat → Int32) (cz_54_24 : Nat → Int32), lu = [(4, .inl (cy 0, 96, .inl cz_32_10)), (5, .inl (cy 0, 96, .inl cz_40_14)), (13, .inl (cy 0, 5, .inl cz_54_21)), (14, .inl (cy 0, 5, .inl cz_54_22)), (15, .inl (cy 0, 5, .inl cz_54_23)), (16, .inl (cy 0, 5, .inl cz_54_24)), (12, .inl (cy 0, 4, .inl c7_54_20)), (11, .inl (cy 0, 20, .inl c5_54_19)), (10, .inl (cy 0, 5, .inl c2_54_18))]) := by
  refine cM_of (Qc := fun A => cQv (fun nw lu => ∃ (cz_32_10 : Nat → Int32) (cz_40_14 : Nat → Int32) (c2_54_18 : Nat → Int32) (c5_54_19 : Nat → Int32) (c7_54_20 : Nat → Int32) (cz_54_21 : Nat → Int32) (cz_54_22 : Nat → Int32) (cz_54_23 : Nat → Int32) (cz_54_24 : Nat → Int32), lu = [(4, .inl (cy 0, 96, .inl cz_32_10)), (5, .inl (cy 0, 96, .inl cz_40_14)), (13, .inl (cy 0, 5, .inl cz_54_21)), (14, .inl (cy 0, 5, .inl cz_54_22)), (15, .inl (cy 0, 5, .inl cz_54_23)), (16, .inl (cy 0, 5, .inl cz_54_24)), (12, .inl (cy 0, 4, .inl c7_54_20)), (11, .inl (cy 0, 20, .inl c5_54_19)), (10, .inl (cy 0, 5, .inl c2_54_18))]) D 18 0 ad g A) (cc := cX1_workOut) (maxL := 6) (ret := none) (by decide) rfl (Nat.le_of_ble_eq_true rfl) ?_
  intro p e s m below meth c A hC hr hlk hnm hO ls hl
  have hC : CallFix p m c cX1_workOut 6 s [.ref (ad 0)].toArray wq_c_workOut0 RX1 := hC
  obtain ⟨hx, hb, hml, hown, hts⟩ := id hC
  have hl : lv_has ls 6 [(0, .ref (ad 0))] := hl
  have i_X1 : ∀ w ∈ wsX10, w ∈ wq_c_workOut0 := fun w h => List.mem_cons_of_mem _ (List.mem_append_left _ (List.mem_append_left _ (List.mem_append_left _ (List.mem_append_right _ h))))
  have i_X10 : ∀ w ∈ wsX100, w ∈ wq_c_workOut0 := fun w h => List.mem_cons_of_mem _ (List.mem_append_right _ h)
  have i_X7 : ∀ w ∈ wsX70, w ∈ wq_c_workOut0 := fun w h => List.mem_cons_of_mem _ (List.mem_append_left _ (List.mem_append_left _ (List.mem_append_right _ h)))
  have i_X9 : ∀ w ∈ wsX90, w ∈ wq_c_workOut0 := fun w h => List.mem_cons_of_mem _ (List.mem_append_left _ (List.mem_append_right _ h))
  refine lv_aload_n hx hb dX1_workOut_0 rfl (lv_at hl 0 rfl) ?_
  refine cg_get hC hO 0 (by decide) o0 rfl i_X1 1 (by decide) (List.mem_of_getElem? (i := 1) rfl) f0_1 dX1_workOut_1 ?_
  refine lv_aload_n hx hb dX1_workOut_4 rfl (lv_at hl 0 rfl) ?_
  refine cg_get hC hO 0 (by decide) o0 rfl i_X1 6 (by decide) (List.mem_of_getElem? (i := 2) rfl) f0_6 dX1_workOut_5 ?_
  refine cg_Vi (As := [.ref (ad 2)]) (rest := []) (mc := 0) (ms := 0) (rm := { frames := 0, cells := 0, slots := 0, locals := 0 }) hC hl.1 hO [1, 2] rfl (c_coming0 l D cy _ _ (f0 := f1) (c1 := c2) o1 f1_4 a2) gq_c_workOut0_c_coming0_48 rfl rfl rfl 1 (by decide +kernel) ⟨Nat.le_of_ble_eq_true rfl, Nat.le_of_ble_eq_true rfl⟩ rfl (by decide) o1 rfl rfl (Nat.le_of_ble_eq_true rfl) dX1_workOut_8 ⟨Nat.le_of_ble_eq_true rfl, Nat.le_of_ble_eq_true rfl⟩ (fun r_8_3 nw_8_1 l_8_2 H locs hw hO => ?_)
  obtain ⟨rfl, rfl⟩ := hw
  have hO : cO D cy A s.heap s 18 ad (cup [] g) _ _ := hO
  refine lv_istore_n (lv' := [(1, .int 0), (0, .ref (ad 0))]) hx hb dX1_workOut_11 rfl hl (by decide) rfl (fun ls hl => ?_)
  refine lv_aload_n hx hb dX1_workOut_12 rfl (lv_at hl 1 rfl) ?_
  refine cg_get hC hO 0 (by decide) o0 rfl i_X1 6 (by decide) (List.mem_of_getElem? (i := 2) rfl) f0_6 dX1_workOut_13 ?_
  refine lv_iload_n hx hb dX1_workOut_16 rfl (lv_at hl 0 rfl) ?_
  refine lv_aload_n hx hb dX1_workOut_17 rfl (lv_at hl 1 rfl) ?_
  refine cg_get hC hO 0 (by decide) o0 rfl i_X1 1 (by decide) (List.mem_of_getElem? (i := 1) rfl) f0_1 dX1_workOut_18 ?_
  refine cg_get hC hO 1 (by decide) o1 rfl i_X9 0 (by decide) (List.mem_of_getElem? (i := 9) rfl) f1_0 dX1_workOut_21 ?_
  refine cg_Nv (As := [.ref (ad 2), .int 0, .ref (ad 3)]) (rest := []) (mc := 0) (ms := 0) (rm := { frames := 0, cells := 0, slots := 0, locals := 0 }) hC hl.1 hO [2, 3] rfl (c_pbm0 l D cy _ _ (n0 := 24) (c0 := c2) (n1 := 24) (c1 := c3) a2 a3) gq_c_workOut0_c_pbm0 rfl rfl rfl (host := "CrowToll") (nestL_mem_8) (List.mem_of_getElem? (i := 11) rfl) (List.mem_of_getElem? (i := 12) rfl) 3 (by decide +kernel) ⟨Nat.le_of_ble_eq_true rfl, Nat.le_of_ble_eq_true rfl⟩ rfl rfl (Nat.le_of_ble_eq_true rfl) dX1_workOut_24 ⟨Nat.le_of_ble_eq_true rfl, Nat.le_of_ble_eq_true rfl⟩ (fun nw_24_4 l_24_5 H locs hw hO => ?_)
  obtain rfl := hw
  have hO : cO D cy A s.heap s 18 ad (cup [] g) _ _ := hO
  refine lv_aload_n hx hb dX1_workOut_27 rfl (lv_at hl 1 rfl) ?_
  refine cg_get hC hO 0 (by decide) o0 rfl i_X1 4 (by decide) (List.mem_of_getElem? (i := 13) rfl) f0_4 dX1_workOut_28 ?_
  refine lv_iconst (v := (-1)) hx hb dX1_workOut_31 (by decide) ?_
  refine cg_Sv (As := [.ref (ad 4), .int (-1)]) (rest := []) (mc := 0) (ms := 0) (rm := { frames := 0, cells := 0, slots := 0, locals := 0 }) hC hl.1 hO [4] rfl (c_J7_fill_53178 l D cy _ _ (n := 96) (c0 := c4) (x := (-1)) a4 (by decide)) gq_c_workOut0_c_J7_fill_53178_42 rfl rfl rfl 2 (by decide +kernel) ⟨Nat.le_of_ble_eq_true rfl, Nat.le_of_ble_eq_true rfl⟩ rfl rfl (Nat.le_of_ble_eq_true rfl) dX1_workOut_32 ⟨Nat.le_of_ble_eq_true rfl, Nat.le_of_ble_eq_true rfl⟩ (fun nw_32_7 l_32_8 H locs hw hO => ?_)
  obtain ⟨cz_32_10, rfl⟩ := hw
  have hO : cO D cy A s.heap s 18 ad (cup [(4, .inl (cy 0, 96, .inl cz_32_10))] g) _ _ := hO
  refine lv_aload_n hx hb dX1_workOut_35 rfl (lv_at hl 1 rfl) ?_
  refine cg_get hC hO 0 (by decide) o0 rfl i_X1 5 (by decide) (List.mem_of_getElem? (i := 18) rfl) f0_5 dX1_workOut_36 ?_
  refine lv_iconst (v := 0) hx hb dX1_workOut_39 (by decide) ?_
  refine cg_Sv (As := [.ref (ad 5), .int 0]) (rest := []) (mc := 0) (ms := 0) (rm := { frames := 0, cells := 0, slots := 0, locals := 0 }) hC hl.1 hO [5] rfl (c_J7_fill_53178 l D cy _ _ (n := 96) (c0 := c5) (x := 0) a5 (by decide)) gq_c_workOut0_c_J7_fill_53178_42 rfl rfl rfl 2 (by decide +kernel) ⟨Nat.le_of_ble_eq_true rfl, Nat.le_of_ble_eq_true rfl⟩ rfl rfl (Nat.le_of_ble_eq_true rfl) dX1_workOut_40 ⟨Nat.le_of_ble_eq_true rfl, Nat.le_of_ble_eq_true rfl⟩ (fun nw_40_11 l_40_12 H locs hw hO => ?_)
  obtain ⟨cz_40_14, rfl⟩ := hw
  have hO : cO D cy A s.heap s 18 ad (cup [(4, .inl (cy 0, 96, .inl cz_32_10)), (5, .inl (cy 0, 96, .inl cz_40_14))] g) _ _ := hO
  refine lv_aload_n hx hb dX1_workOut_43 rfl (lv_at hl 1 rfl) ?_
  refine cg_get hC hO 0 (by decide) o0 rfl i_X1 3 (by decide) (List.mem_of_getElem? (i := 19) rfl) f0_3 dX1_workOut_44 ?_
  refine lv_aload_n hx hb dX1_workOut_47 rfl (lv_at hl 1 rfl) ?_
  refine cg_get hC hO 0 (by decide) o0 rfl i_X1 1 (by decide) (List.mem_of_getElem? (i := 1) rfl) f0_1 dX1_workOut_48 ?_
  refine cg_get hC hO 1 (by decide) o1 rfl i_X9 3 (by decide) (List.mem_of_getElem? (i := 20) rfl) f1_3 dX1_workOut_51 ?_
  refine cg_Vv (As := [.ref (ad 17)]) (rest := []) (mc := 0) (ms := 0) (rm := { frames := 2, cells := 0, slots := 0, locals := 60 }) hC hl.1 hO [6, 17, 10, 7, 8, 11, 9, 12, 13, 14, 15, 16] rfl (c_X10_sit l D cy _ _ (f0 := f6) (f3 := f7) (c4 := c8) (c6 := c9) (c2 := c10) (c5 := c11) (c7 := c12) (c8 := c13) (c9 := c14) (c10 := c15) (c11 := c16) (c1 := c17) o6 f6_0 f6_1 f6_2 f6_3 f6_4 f6_5 f6_6 f6_7 a17 a10 o7 f7_9 f7_10 a8 a11 a9 a12 a13 a14 a15 a16) gq_c_workOut0_c_X10_sit_64 rfl rfl rfl 1 (by decide +kernel) ⟨Nat.le_of_ble_eq_true rfl, Nat.le_of_ble_eq_true rfl⟩ rfl (by decide) o6 rfl rfl (Nat.le_of_ble_eq_true rfl) dX1_workOut_54 ⟨Nat.le_of_ble_eq_true rfl, Nat.le_of_ble_eq_true rfl⟩ (fun nw_54_15 l_54_16 H locs hw hO => ?_)
  obtain ⟨c2_54_18, c5_54_19, c7_54_20, cz_54_21, cz_54_22, cz_54_23, cz_54_24, rfl⟩ := hw
  have hO : cO D cy A s.heap s 18 ad (cup [(4, .inl (cy 0, 96, .inl cz_32_10)), (5, .inl (cy 0, 96, .inl cz_40_14)), (13, .inl (cy 0, 5, .inl cz_54_21)), (14, .inl (cy 0, 5, .inl cz_54_22)), (15, .inl (cy 0, 5, .inl cz_54_23)), (16, .inl (cy 0, 5, .inl cz_54_24)), (12, .inl (cy 0, 4, .inl c7_54_20)), (11, .inl (cy 0, 20, .inl c5_54_19)), (10, .inl (cy 0, 5, .inl c2_54_18))] g) _ _ := hO
  refine lv_iconst (v := 0) hx hb dX1_workOut_57 (by decide) ?_
  refine lv_istore_n (lv' := [(2, .int 0), (1, .int 0), (0, .ref (ad 0))]) hx hb dX1_workOut_58 rfl hl (by decide) rfl (fun ls hl => ?_)
  refine lv_iload_n hx hb dX1_workOut_59 rfl (lv_at hl 0 rfl) ?_
  refine lv_aload_n hx hb dX1_workOut_60 rfl (lv_at hl 2 rfl) ?_
  refine cg_get hC hO 0 (by decide) o0 rfl i_X1 0 (by decide) (List.mem_of_getElem? (i := 45) rfl) f0_0 dX1_workOut_61 ?_
  refine cg_get hC hO 7 (by decide) o7 rfl i_X7 11 (by decide) (List.mem_of_getElem? (i := 46) rfl) f7_11 dX1_workOut_64 ?_
  refine lv_icmp_ge (tgt := 185) hx hb dX1_workOut_67 (by decide) (fun _ => ?_) (fun h => absurd h (by decide))
  exact cg_vret (nw := fun _ => 0) hC hr hlk hO.same (Nat.le_of_ble_eq_true rfl) (Nat.le_of_ble_eq_true rfl) (⟨cz_32_10, cz_40_14, c2_54_18, c5_54_19, c7_54_20, cz_54_21, cz_54_22, cz_54_23, cz_54_24, rfl⟩) dX1_workOut_185

def wq_c_workOut1 : List Cond := Cond.code yX1_workOut cX1_workOut 6 none :: (([Cond.fieldLink RX1 25 "CrowToll$Day" "stand" "LCrowToll$Stand;", Cond.fieldLink RX1 18 "CrowToll$Day" "order" "[I", Cond.methodLink RX1 48 yX9_coming, Cond.instanceMethod yX9_coming, Cond.selects RX9 yX9_coming yX9_coming, Cond.initialized RX9, Cond.code yX9_coming cX9_coming 4 (some .int), Cond.fieldLink RX9 21 "CrowToll$Stand" "carts" "I", Cond.fieldLink RX9 37 "CrowToll$Stand" "comes" "I", Cond.code yX11_has cX11_has 2 (some .boolean), Cond.static yX11_has, Cond.initialized RX11, Cond.fieldLink RX1 54 "CrowToll$Stand" "minute" "[I", Cond.code yX11_putByMinutes cX11_putByMinutes 6 none, Cond.static yX11_putByMinutes, Cond.fieldLink RX1 9 "CrowToll$Day" "counter" "[I", Cond.methodLink RX1 42 yJ7_fill_53178, Cond.static yJ7_fill_53178, Cond.initialized RJ7, Cond.code yJ7_fill_53178 cJ7_fill_53178 4 none, Cond.fieldLink RX1 15 "CrowToll$Day" "paid" "[I", Cond.fieldLink RX1 38 "CrowToll$Day" "watch" "LCrowToll$Watch;", Cond.fieldLink RX1 61 "CrowToll$Stand" "counts" "[I", Cond.methodLink RX1 64 yX10_sit, Cond.instanceMethod yX10_sit, Cond.selects RX10 yX10_sit yX10_sit, Cond.initialized RX10, Cond.code yX10_sit cX10_sit 2 none, Cond.fieldLink RX10 9 "CrowToll$Watch" "limit" "[I", Cond.methodLink RX10 37 arraycopyName, Cond.native arraycopyName, Cond.static arraycopyName, Cond.initialized "java/lang/System", Cond.fieldLink RX10 33 "CrowToll$Watch" "road" "LCrowToll$Road;", Cond.fieldLink RX10 43 "CrowToll$Road" "seat" "[I", Cond.fieldLink RX10 15 "CrowToll$Watch" "seat" "[I", Cond.fieldLink RX10 46 "CrowToll$Road" "seated" "[I", Cond.fieldLink RX10 18 "CrowToll$Watch" "seated" "[I", Cond.methodLink RX10 47 yX10_begin, Cond.instanceMethod yX10_begin, Cond.selects RX10 yX10_begin yX10_begin, Cond.code yX10_begin cX10_begin 1 none, Cond.fieldLink RX10 21 "CrowToll$Watch" "count" "[I", Cond.methodLink RX10 54 yJ7_fill_53178, Cond.fieldLink RX10 24 "CrowToll$Watch" "total" "[I", Cond.fieldLink RX10 27 "CrowToll$Watch" "lookedAt" "[I", Cond.fieldLink RX10 30 "CrowToll$Watch" "countedAt" "[I", Cond.fieldLink RX1 21 "CrowToll$Day" "road" "LCrowToll$Road;", Cond.fieldLink RX1 68 "CrowToll$Road" "posts" "I"] : List Cond) ++ wsX10 ++ wsX70 ++ wsX90 ++ wsX100)
set_option maxRecDepth 20000 in
theorem gr_c_workOut1_c_coming1 : GoodIn wq_c_workOut1 wq_c_coming1 := List.forall_mem_cons.mpr ⟨⟨(List.mem_of_getElem? (i := 7) rfl), good_of_word rfl⟩, List.forall_mem_append.mpr ⟨List.forall_mem_cons.mpr ⟨⟨(List.mem_of_getElem? (i := 8) rfl), good_of_word rfl⟩, List.forall_mem_cons.mpr ⟨⟨(List.mem_of_getElem? (i := 9) rfl), good_of_word rfl⟩, List.forall_mem_cons.mpr ⟨⟨(List.mem_of_getElem? (i := 10) rfl), good_of_word rfl⟩, List.forall_mem_cons.mpr ⟨⟨(List.mem_of_getElem? (i := 11) rfl), good_of_word rfl⟩, List.forall_mem_cons.mpr ⟨⟨(List.mem_of_getElem? (i := 12) rfl), good_of_word rfl⟩, (fun _ h => absurd h List.not_mem_nil)⟩⟩⟩⟩⟩, fun w h => ⟨(fun w h => List.mem_cons_of_mem _ (List.mem_append_left _ (List.mem_append_right _ h))) w h, good_of_word (List.all_eq_true.mp gw_X9 w h)⟩⟩⟩
set_option maxRecDepth 20000 in
theorem gq_c_workOut1_c_coming1_48 : GoodIn wq_c_workOut1 (wsV RX1 48 RX9 yX9_coming wq_c_coming1) := goodIn_app (List.forall_mem_cons.mpr ⟨⟨(List.mem_of_getElem? (i := 3) rfl), good_of_word rfl⟩, List.forall_mem_cons.mpr ⟨⟨(List.mem_of_getElem? (i := 4) rfl), good_of_word rfl⟩, List.forall_mem_cons.mpr ⟨⟨(List.mem_of_getElem? (i := 5) rfl), good_of_word rfl⟩, List.forall_mem_cons.mpr ⟨⟨(List.mem_of_getElem? (i := 6) rfl), good_of_word rfl⟩, (fun _ h => absurd h List.not_mem_nil)⟩⟩⟩⟩) gr_c_workOut1_c_coming1
set_option maxRecDepth 20000 in
theorem gr_c_workOut1_c_pbm1 : GoodIn wq_c_workOut1 wq_c_pbm1 := List.forall_mem_cons.mpr ⟨⟨(List.mem_of_getElem? (i := 14) rfl), good_of_word rfl⟩, (fun _ h => absurd h List.not_mem_nil)⟩
theorem gq_c_workOut1_c_pbm1 : GoodIn wq_c_workOut1 wq_c_pbm1 := gr_c_workOut1_c_pbm1
set_option maxRecDepth 20000 in
theorem gr_c_workOut1_c_J7_fill_53178 : GoodIn wq_c_workOut1 wq_c_J7_fill_53178 := List.forall_mem_cons.mpr ⟨⟨(List.mem_of_getElem? (i := 20) rfl), good_of_word rfl⟩, (fun _ h => absurd h List.not_mem_nil)⟩
set_option maxRecDepth 20000 in
theorem gq_c_workOut1_c_J7_fill_53178_42 : GoodIn wq_c_workOut1 (va_wsS RX1 42 yJ7_fill_53178 wq_c_J7_fill_53178) := goodIn_app (List.forall_mem_cons.mpr ⟨⟨(List.mem_of_getElem? (i := 17) rfl), good_of_word rfl⟩, List.forall_mem_cons.mpr ⟨⟨(List.mem_of_getElem? (i := 18) rfl), good_of_word rfl⟩, List.forall_mem_cons.mpr ⟨⟨(List.mem_of_getElem? (i := 19) rfl), good_of_word rfl⟩, (fun _ h => absurd h List.not_mem_nil)⟩⟩⟩) gr_c_workOut1_c_J7_fill_53178
set_option maxRecDepth 20000 in
theorem gr_c_workOut1_c_X10_sit : GoodIn wq_c_workOut1 wq_c_X10_sit := List.forall_mem_cons.mpr ⟨⟨(List.mem_of_getElem? (i := 28) rfl), good_of_word rfl⟩, List.forall_mem_append.mpr ⟨List.forall_mem_append.mpr ⟨List.forall_mem_cons.mpr ⟨⟨(List.mem_of_getElem? (i := 29) rfl), good_of_word rfl⟩, List.forall_mem_cons.mpr ⟨⟨(List.mem_of_getElem? (i := 30) rfl), good_of_word rfl⟩, List.forall_mem_cons.mpr ⟨⟨(List.mem_of_getElem? (i := 31) rfl), good_of_word rfl⟩, List.forall_mem_cons.mpr ⟨⟨(List.mem_of_getElem? (i := 32) rfl), good_of_word rfl⟩, List.forall_mem_cons.mpr ⟨⟨(List.mem_of_getElem? (i := 33) rfl), good_of_word rfl⟩, List.forall_mem_cons.mpr ⟨⟨(List.mem_of_getElem? (i := 34) rfl), good_of_word rfl⟩, List.forall_mem_cons.mpr ⟨⟨(List.mem_of_getElem? (i := 35) rfl), good_of_word rfl⟩, List.forall_mem_cons.mpr ⟨⟨(List.mem_of_getElem? (i := 36) rfl), good_of_word rfl⟩, List.forall_mem_cons.mpr ⟨⟨(List.mem_of_getElem? (i := 37) rfl), good_of_word rfl⟩, List.forall_mem_cons.mpr ⟨⟨(List.mem_of_getElem? (i := 38) rfl), good_of_word rfl⟩, List.forall_mem_cons.mpr ⟨⟨(List.mem_of_getElem? (i := 39) rfl), good_of_word rfl⟩, List.forall_mem_cons.mpr ⟨⟨(List.mem_of_getElem? (i := 40) rfl), good_of_word rfl⟩, List.forall_mem_cons.mpr ⟨⟨(List.mem_of_getElem? (i := 41) rfl), good_of_word rfl⟩, List.forall_mem_cons.mpr ⟨⟨(List.mem_of_getElem? (i := 27) rfl), good_of_word rfl⟩, List.forall_mem_cons.mpr ⟨⟨(List.mem_of_getElem? (i := 42) rfl), good_of_word rfl⟩, List.forall_mem_cons.mpr ⟨⟨(List.mem_of_getElem? (i := 43) rfl), good_of_word rfl⟩, List.forall_mem_cons.mpr ⟨⟨(List.mem_of_getElem? (i := 44) rfl), good_of_word rfl⟩, List.forall_mem_cons.mpr ⟨⟨(List.mem_of_getElem? (i := 18) rfl), good_of_word rfl⟩, List.forall_mem_cons.mpr ⟨⟨(List.mem_of_getElem? (i := 19) rfl), good_of_word rfl⟩, List.forall_mem_cons.mpr ⟨⟨(List.mem_of_getElem? (i := 20) rfl), good_of_word rfl⟩, List.forall_mem_cons.mpr ⟨⟨(List.mem_of_getElem? (i := 45) rfl), good_of_word rfl⟩, List.forall_mem_cons.mpr ⟨⟨(List.mem_of_getElem? (i := 46) rfl), good_of_word rfl⟩, List.forall_mem_cons.mpr ⟨⟨(List.mem_of_getElem? (i := 47) rfl), good_of_word rfl⟩, (fun _ h => absurd h List.not_mem_nil)⟩⟩⟩⟩⟩⟩⟩⟩⟩⟩⟩⟩⟩⟩⟩⟩⟩⟩⟩⟩⟩⟩⟩, fun w h => ⟨(fun w h => List.mem_cons_of_mem _ (List.mem_append_left _ (List.mem_append_left _ (List.mem_append_right _ h)))) w h, good_of_word (List.all_eq_true.mp gw_X7 w h)⟩⟩, fun w h => ⟨(fun w h => List.mem_cons_of_mem _ (List.mem_append_right _ h)) w h, good_of_word (List.all_eq_true.mp gw_X10 w h)⟩⟩⟩
set_option maxRecDepth 20000 in
theorem gq_c_workOut1_c_X10_sit_64 : GoodIn wq_c_workOut1 (wsV RX1 64 RX10 yX10_sit wq_c_X10_sit) := goodIn_app (List.forall_mem_cons.mpr ⟨⟨(List.mem_of_getElem? (i := 24) rfl), good_of_word rfl⟩, List.forall_mem_cons.mpr ⟨⟨(List.mem_of_getElem? (i := 25) rfl), good_of_word rfl⟩, List.forall_mem_cons.mpr ⟨⟨(List.mem_of_getElem? (i := 26) rfl), good_of_word rfl⟩, List.forall_mem_cons.mpr ⟨⟨(List.mem_of_getElem? (i := 27) rfl), good_of_word rfl⟩, (fun _ h => absurd h List.not_mem_nil)⟩⟩⟩⟩) gr_c_workOut1_c_X10_sit
set_option maxHeartbeats 8000000 in
set_option maxRecDepth 100000 in
theorem c_workOut1 (l : Launch) (D : va_G) (cy : Nat → ClassId) (ad : Nat → Nat) (g : Nat → va_E) {f0 : List Value} {f1 : List Value} {c2 : Nat → Int32} {c3 : Nat → Int32} {c4 : Nat → Int32} {c5 : Nat → Int32} {f6 : List Value} {f7 : List Value} {c8 : Nat → Int32} {c9 : Nat → Int32} {c10 : Nat → Int32} {c11 : Nat → Int32} {c12 : Nat → Int32} {c13 : Nat → Int32} {c14 : Nat → Int32} {c15 : Nat → Int32} {c16 : Nat → Int32} {c17 : Nat → Int32} (o0 : g 0 = .inr (1, f0)) (f0_0 : f0[0]? = some (.ref (ad 7))) (f0_1 : f0[1]? = some (.ref (ad 1))) (f0_3 : f0[3]? = some (.ref (ad 6))) (f0_4 : f0[4]? = some (.ref (ad 4))) (f0_5 : f0[5]? = some (.ref (ad 5))) (f0_6 : f0[6]? = some (.ref (ad 2))) (o1 : g 1 = .inr (9, f1)) (f1_0 : f1[0]? = some (.ref (ad 3))) (f1_2 : f1[2]? = some (.int (-1))) (f1_3 : f1[3]? = some (.ref (ad 17))) (f1_4 : f1[4]? = some (.int 1)) (a2 : g 2 = .inl (cy 0, 24, .inl c2)) (a3 : g 3 = .inl (cy 0, 24, .inl c3)) (a4 : g 4 = .inl (cy 0, 96, .inl c4)) (a5 : g 5 = .inl (cy 0, 96, .inl c5)) (o6 : g 6 = .inr (10, f6)) (f6_0 : f6[0]? = some (.ref (ad 7))) (f6_1 : f6[1]? = some (.ref (ad 10))) (f6_2 : f6[2]? = some (.ref (ad 11))) (f6_3 : f6[3]? = some (.ref (ad 12))) (f6_4 : f6[4]? = some (.ref (ad 13))) (f6_5 : f6[5]? = some (.ref (ad 14))) (f6_6 : f6[6]? = some (.ref (ad 15))) (f6_7 : f6[7]? = some (.ref (ad 16))) (o7 : g 7 = .inr (7, f7)) (f7_9 : f7[9]? = some (.ref (ad 8))) (f7_10 : f7[10]? = some (.ref (ad 9))) (f7_11 : f7[11]? = some (.int 0)) (a8 : g 8 = .inl (cy 0, 20, .inl c8)) (a9 : g 9 = .inl (cy 0, 4, .inl c9)) (a10 : g 10 = .inl (cy 0, 5, .inl c10)) (a11 : g 11 = .inl (cy 0, 20, .inl c11)) (a12 : g 12 = .inl (cy 0, 4, .inl c12)) (a13 : g 13 = .inl (cy 0, 5, .inl c13)) (a14 : g 14 = .inl (cy 0, 5, .inl c14)) (a15 : g 15 = .inl (cy 0, 5, .inl c15)) (a16 : g 16 = .inl (cy 0, 5, .inl c16)) (a17 : g 17 = .inl (cy 0, 5, .inl c17)) : cMv l yX1_workOut wq_c_workOut1 { frames := 3, cells := 0, slots := 0, locals := 81 } 18 0 0 0 D cy ad g [.ref (ad 0)] (fun nw lu => ∃ (cz_32_10 : Nat → Int32) (cz_40_14 : Nat → Int32) (c2_54_18 : Nat → Int32) (c5_54_19 : Nat → Int32) (c7_54_20 : Nat → Int32) (cz_54_21 : Nat → Int32) (cz_54_22 : Nat → Int32) (cz_54_23 : Nat → Int32) (cz_54_24 : Nat → Int32), lu = [(2, .inl (cy 0, 24, .inl (upd c2 (0 : Int32).toNatClampNeg 0))), (4, .inl (cy 0, 96, .inl cz_32_10)), (5, .inl (cy 0, 96, .inl cz_40_14)), (13, .inl (cy 0, 5, .inl cz_54_21)), (14, .inl (cy 0, 5, .inl cz_54_22)), (15, .inl (cy 0, 5, .inl cz_54_23)), (16, .inl (cy 0, 5, .inl cz_54_24)), (12, .inl (cy 0, 4, .inl c7_54_20)), (11, .inl (cy 0, 20, .inl c5_54_19)), (10, .inl (cy 0, 5, .inl c2_54_18))]) := by
  refine cM_of (Qc := fun A => cQv (fun nw lu => ∃ (cz_32_10 : Nat → Int32) (cz_40_14 : Nat → Int32) (c2_54_18 : Nat → Int32) (c5_54_19 : Nat → Int32) (c7_54_20 : Nat → Int32) (cz_54_21 : Nat → Int32) (cz_54_22 : Nat → Int32) (cz_54_23 : Nat → Int32) (cz_54_24 : Nat → Int32), lu = [(2, .inl (cy 0, 24, .inl (upd c2 (0 : Int32).toNatClampNeg 0))), (4, .inl (cy 0, 96, .inl cz_32_10)), (5, .inl (cy 0, 96, .inl cz_40_14)), (13, .inl (cy 0, 5, .inl cz_54_21)), (14, .inl (cy 0, 5, .inl cz_54_22)), (15, .inl (cy 0, 5, .inl cz_54_23)), (16, .inl (cy 0, 5, .inl cz_54_24)), (12, .inl (cy 0, 4, .inl c7_54_20)), (11, .inl (cy 0, 20, .inl c5_54_19)), (10, .inl (cy 0, 5, .inl c2_54_18))]) D 18 0 ad g A) (cc := cX1_workOut) (maxL := 6) (ret := none) (by decide) rfl (Nat.le_of_ble_eq_true rfl) ?_
  intro p e s m below meth c A hC hr hlk hnm hO ls hl
  have hC : CallFix p m c cX1_workOut 6 s [.ref (ad 0)].toArray wq_c_workOut1 RX1 := hC
  obtain ⟨hx, hb, hml, hown, hts⟩ := id hC
  have hl : lv_has ls 6 [(0, .ref (ad 0))] := hl
  have i_X1 : ∀ w ∈ wsX10, w ∈ wq_c_workOut1 := fun w h => List.mem_cons_of_mem _ (List.mem_append_left _ (List.mem_append_left _ (List.mem_append_left _ (List.mem_append_right _ h))))
  have i_X10 : ∀ w ∈ wsX100, w ∈ wq_c_workOut1 := fun w h => List.mem_cons_of_mem _ (List.mem_append_right _ h)
  have i_X7 : ∀ w ∈ wsX70, w ∈ wq_c_workOut1 := fun w h => List.mem_cons_of_mem _ (List.mem_append_left _ (List.mem_append_left _ (List.mem_append_right _ h)))
  have i_X9 : ∀ w ∈ wsX90, w ∈ wq_c_workOut1 := fun w h => List.mem_cons_of_mem _ (List.mem_append_left _ (List.mem_append_right _ h))
  refine lv_aload_n hx hb dX1_workOut_0 rfl (lv_at hl 0 rfl) ?_
  refine cg_get hC hO 0 (by decide) o0 rfl i_X1 1 (by decide) (List.mem_of_getElem? (i := 1) rfl) f0_1 dX1_workOut_1 ?_
  refine lv_aload_n hx hb dX1_workOut_4 rfl (lv_at hl 0 rfl) ?_
  refine cg_get hC hO 0 (by decide) o0 rfl i_X1 6 (by decide) (List.mem_of_getElem? (i := 2) rfl) f0_6 dX1_workOut_5 ?_
  refine cg_Vi (As := [.ref (ad 2)]) (rest := []) (mc := 0) (ms := 0) (rm := { frames := 1, cells := 0, slots := 0, locals := 21 }) hC hl.1 hO [1, 2] rfl (c_coming1 l D cy _ _ (f0 := f1) (c1 := c2) o1 f1_2 f1_4 a2) gq_c_workOut1_c_coming1_48 rfl rfl rfl 1 (by decide +kernel) ⟨Nat.le_of_ble_eq_true rfl, Nat.le_of_ble_eq_true rfl⟩ rfl (by decide) o1 rfl rfl (Nat.le_of_ble_eq_true rfl) dX1_workOut_8 ⟨Nat.le_of_ble_eq_true rfl, Nat.le_of_ble_eq_true rfl⟩ (fun r_8_3 nw_8_1 l_8_2 H locs hw hO => ?_)
  obtain ⟨rfl, rfl⟩ := hw
  have hO : cO D cy A s.heap s 18 ad (cup [(2, .inl (cy 0, 24, .inl (upd c2 (0 : Int32).toNatClampNeg 0)))] g) _ _ := hO
  refine lv_istore_n (lv' := [(1, .int 1), (0, .ref (ad 0))]) hx hb dX1_workOut_11 rfl hl (by decide) rfl (fun ls hl => ?_)
  refine lv_aload_n hx hb dX1_workOut_12 rfl (lv_at hl 1 rfl) ?_
  refine cg_get hC hO 0 (by decide) o0 rfl i_X1 6 (by decide) (List.mem_of_getElem? (i := 2) rfl) f0_6 dX1_workOut_13 ?_
  refine lv_iload_n hx hb dX1_workOut_16 rfl (lv_at hl 0 rfl) ?_
  refine lv_aload_n hx hb dX1_workOut_17 rfl (lv_at hl 1 rfl) ?_
  refine cg_get hC hO 0 (by decide) o0 rfl i_X1 1 (by decide) (List.mem_of_getElem? (i := 1) rfl) f0_1 dX1_workOut_18 ?_
  refine cg_get hC hO 1 (by decide) o1 rfl i_X9 0 (by decide) (List.mem_of_getElem? (i := 13) rfl) f1_0 dX1_workOut_21 ?_
  refine cg_Nv (As := [.ref (ad 2), .int 1, .ref (ad 3)]) (rest := []) (mc := 0) (ms := 0) (rm := { frames := 0, cells := 0, slots := 0, locals := 0 }) hC hl.1 hO [2, 3] rfl (c_pbm1 l D cy _ _ (n0 := 24) (c0 := (upd c2 (0 : Int32).toNatClampNeg 0)) (n1 := 24) (c1 := c3) rfl a3) gq_c_workOut1_c_pbm1 rfl rfl rfl (host := "CrowToll") (nestL_mem_8) (List.mem_of_getElem? (i := 15) rfl) (List.mem_of_getElem? (i := 12) rfl) 3 (by decide +kernel) ⟨Nat.le_of_ble_eq_true rfl, Nat.le_of_ble_eq_true rfl⟩ rfl rfl (Nat.le_of_ble_eq_true rfl) dX1_workOut_24 ⟨Nat.le_of_ble_eq_true rfl, Nat.le_of_ble_eq_true rfl⟩ (fun nw_24_4 l_24_5 H locs hw hO => ?_)
  obtain rfl := hw
  have hO : cO D cy A s.heap s 18 ad (cup [(2, .inl (cy 0, 24, .inl (upd c2 (0 : Int32).toNatClampNeg 0)))] g) _ _ := hO
  refine lv_aload_n hx hb dX1_workOut_27 rfl (lv_at hl 1 rfl) ?_
  refine cg_get hC hO 0 (by decide) o0 rfl i_X1 4 (by decide) (List.mem_of_getElem? (i := 16) rfl) f0_4 dX1_workOut_28 ?_
  refine lv_iconst (v := (-1)) hx hb dX1_workOut_31 (by decide) ?_
  refine cg_Sv (As := [.ref (ad 4), .int (-1)]) (rest := []) (mc := 0) (ms := 0) (rm := { frames := 0, cells := 0, slots := 0, locals := 0 }) hC hl.1 hO [4] rfl (c_J7_fill_53178 l D cy _ _ (n := 96) (c0 := c4) (x := (-1)) a4 (by decide)) gq_c_workOut1_c_J7_fill_53178_42 rfl rfl rfl 2 (by decide +kernel) ⟨Nat.le_of_ble_eq_true rfl, Nat.le_of_ble_eq_true rfl⟩ rfl rfl (Nat.le_of_ble_eq_true rfl) dX1_workOut_32 ⟨Nat.le_of_ble_eq_true rfl, Nat.le_of_ble_eq_true rfl⟩ (fun nw_32_7 l_32_8 H locs hw hO => ?_)
  obtain ⟨cz_32_10, rfl⟩ := hw
  have hO : cO D cy A s.heap s 18 ad (cup [(2, .inl (cy 0, 24, .inl (upd c2 (0 : Int32).toNatClampNeg 0))), (4, .inl (cy 0, 96, .inl cz_32_10))] g) _ _ := hO
  refine lv_aload_n hx hb dX1_workOut_35 rfl (lv_at hl 1 rfl) ?_
  refine cg_get hC hO 0 (by decide) o0 rfl i_X1 5 (by decide) (List.mem_of_getElem? (i := 21) rfl) f0_5 dX1_workOut_36 ?_
  refine lv_iconst (v := 0) hx hb dX1_workOut_39 (by decide) ?_
  refine cg_Sv (As := [.ref (ad 5), .int 0]) (rest := []) (mc := 0) (ms := 0) (rm := { frames := 0, cells := 0, slots := 0, locals := 0 }) hC hl.1 hO [5] rfl (c_J7_fill_53178 l D cy _ _ (n := 96) (c0 := c5) (x := 0) a5 (by decide)) gq_c_workOut1_c_J7_fill_53178_42 rfl rfl rfl 2 (by decide +kernel) ⟨Nat.le_of_ble_eq_true rfl, Nat.le_of_ble_eq_true rfl⟩ rfl rfl (Nat.le_of_ble_eq_true rfl) dX1_workOut_40 ⟨Nat.le_of_ble_eq_true rfl, Nat.le_of_ble_eq_true rfl⟩ (fun nw_40_11 l_40_12 H locs hw hO => ?_)
  obtain ⟨cz_40_14, rfl⟩ := hw
  have hO : cO D cy A s.heap s 18 ad (cup [(2, .inl (cy 0, 24, .inl (upd c2 (0 : Int32).toNatClampNeg 0))), (4, .inl (cy 0, 96, .inl cz_32_10)), (5, .inl (cy 0, 96, .inl cz_40_14))] g) _ _ := hO
  refine lv_aload_n hx hb dX1_workOut_43 rfl (lv_at hl 1 rfl) ?_
  refine cg_get hC hO 0 (by decide) o0 rfl i_X1 3 (by decide) (List.mem_of_getElem? (i := 22) rfl) f0_3 dX1_workOut_44 ?_
  refine lv_aload_n hx hb dX1_workOut_47 rfl (lv_at hl 1 rfl) ?_
  refine cg_get hC hO 0 (by decide) o0 rfl i_X1 1 (by decide) (List.mem_of_getElem? (i := 1) rfl) f0_1 dX1_workOut_48 ?_
  refine cg_get hC hO 1 (by decide) o1 rfl i_X9 3 (by decide) (List.mem_of_getElem? (i := 23) rfl) f1_3 dX1_workOut_51 ?_
  refine cg_Vv (As := [.ref (ad 17)]) (rest := []) (mc := 0) (ms := 0) (rm := { frames := 2, cells := 0, slots := 0, locals := 60 }) hC hl.1 hO [6, 17, 10, 7, 8, 11, 9, 12, 13, 14, 15, 16] rfl (c_X10_sit l D cy _ _ (f0 := f6) (f3 := f7) (c4 := c8) (c6 := c9) (c2 := c10) (c5 := c11) (c7 := c12) (c8 := c13) (c9 := c14) (c10 := c15) (c11 := c16) (c1 := c17) o6 f6_0 f6_1 f6_2 f6_3 f6_4 f6_5 f6_6 f6_7 a17 a10 o7 f7_9 f7_10 a8 a11 a9 a12 a13 a14 a15 a16) gq_c_workOut1_c_X10_sit_64 rfl rfl rfl 1 (by decide +kernel) ⟨Nat.le_of_ble_eq_true rfl, Nat.le_of_ble_eq_true rfl⟩ rfl (by decide) o6 rfl rfl (Nat.le_of_ble_eq_true rfl) dX1_workOut_54 ⟨Nat.le_of_ble_eq_true rfl, Nat.le_of_ble_eq_true rfl⟩ (fun nw_54_15 l_54_16 H locs hw hO => ?_)
  obtain ⟨c2_54_18, c5_54_19, c7_54_20, cz_54_21, cz_54_22, cz_54_23, cz_54_24, rfl⟩ := hw
  have hO : cO D cy A s.heap s 18 ad (cup [(2, .inl (cy 0, 24, .inl (upd c2 (0 : Int32).toNatClampNeg 0))), (4, .inl (cy 0, 96, .inl cz_32_10)), (5, .inl (cy 0, 96, .inl cz_40_14)), (13, .inl (cy 0, 5, .inl cz_54_21)), (14, .inl (cy 0, 5, .inl cz_54_22)), (15, .inl (cy 0, 5, .inl cz_54_23)), (16, .inl (cy 0, 5, .inl cz_54_24)), (12, .inl (cy 0, 4, .inl c7_54_20)), (11, .inl (cy 0, 20, .inl c5_54_19)), (10, .inl (cy 0, 5, .inl c2_54_18))] g) _ _ := hO
  refine lv_iconst (v := 0) hx hb dX1_workOut_57 (by decide) ?_
  refine lv_istore_n (lv' := [(2, .int 0), (1, .int 1), (0, .ref (ad 0))]) hx hb dX1_workOut_58 rfl hl (by decide) rfl (fun ls hl => ?_)
  refine lv_iload_n hx hb dX1_workOut_59 rfl (lv_at hl 0 rfl) ?_
  refine lv_aload_n hx hb dX1_workOut_60 rfl (lv_at hl 2 rfl) ?_
  refine cg_get hC hO 0 (by decide) o0 rfl i_X1 0 (by decide) (List.mem_of_getElem? (i := 48) rfl) f0_0 dX1_workOut_61 ?_
  refine cg_get hC hO 7 (by decide) o7 rfl i_X7 11 (by decide) (List.mem_of_getElem? (i := 49) rfl) f7_11 dX1_workOut_64 ?_
  refine lv_icmp_ge (tgt := 185) hx hb dX1_workOut_67 (by decide) (fun _ => ?_) (fun h => absurd h (by decide))
  exact cg_vret (nw := fun _ => 0) hC hr hlk hO.same (Nat.le_of_ble_eq_true rfl) (Nat.le_of_ble_eq_true rfl) (⟨cz_32_10, cz_40_14, c2_54_18, c5_54_19, c7_54_20, cz_54_21, cz_54_22, cz_54_23, cz_54_24, rfl⟩) dX1_workOut_185

theorem dX11_layFour_0 : decode cX11_layFour 0 = .ok (.bipush 24, 2) := by decide +kernel
theorem dX11_layFour_2 : decode cX11_layFour 2 = .ok (.istore_n 2, 1) := by decide +kernel
theorem dX11_layFour_3 : decode cX11_layFour 3 = .ok (.iload_n 2, 1) := by decide +kernel
theorem dX11_layFour_4 : decode cX11_layFour 4 = .ok (.ifCond .lt 45, 3) := by decide +kernel
theorem dX11_layFour_7 : decode cX11_layFour 7 = .ok (.aload_n 0, 1) := by decide +kernel
theorem dX11_layFour_8 : decode cX11_layFour 8 = .ok (.getfield 13, 3) := by decide +kernel
theorem dX11_layFour_11 : decode cX11_layFour 11 = .ok (.sipush 1600, 3) := by decide +kernel
theorem dX11_layFour_14 : decode cX11_layFour 14 = .ok (.if_icmp .ge 35, 3) := by decide +kernel
theorem dX11_layFour_17 : decode cX11_layFour 17 = .ok (.aload_n 0, 1) := by decide +kernel
theorem dX11_layFour_18 : decode cX11_layFour 18 = .ok (.getfield 9, 3) := by decide +kernel
theorem dX11_layFour_21 : decode cX11_layFour 21 = .ok (.aload_n 0, 1) := by decide +kernel
theorem dX11_layFour_22 : decode cX11_layFour 22 = .ok (.getfield 13, 3) := by decide +kernel
theorem dX11_layFour_25 : decode cX11_layFour 25 = .ok (.iload_n 1, 1) := by decide +kernel
theorem dX11_layFour_26 : decode cX11_layFour 26 = .ok (.iload_n 2, 1) := by decide +kernel
theorem dX11_layFour_27 : decode cX11_layFour 27 = .ok (.iushr, 1) := by decide +kernel
theorem dX11_layFour_28 : decode cX11_layFour 28 = .ok (.sipush 255, 3) := by decide +kernel
theorem dX11_layFour_31 : decode cX11_layFour 31 = .ok (.iand, 1) := by decide +kernel
theorem dX11_layFour_32 : decode cX11_layFour 32 = .ok (.iastore, 1) := by decide +kernel
theorem dX11_layFour_33 : decode cX11_layFour 33 = .ok (.aload_n 0, 1) := by decide +kernel
theorem dX11_layFour_34 : decode cX11_layFour 34 = .ok (.dup, 1) := by decide +kernel
theorem dX11_layFour_35 : decode cX11_layFour 35 = .ok (.getfield 13, 3) := by decide +kernel
theorem dX11_layFour_38 : decode cX11_layFour 38 = .ok (.iconst 1, 1) := by decide +kernel
theorem dX11_layFour_39 : decode cX11_layFour 39 = .ok (.iadd, 1) := by decide +kernel
theorem dX11_layFour_40 : decode cX11_layFour 40 = .ok (.putfield 13, 3) := by decide +kernel
theorem dX11_layFour_43 : decode cX11_layFour 43 = .ok (.iinc 2 (-8), 3) := by decide +kernel
theorem dX11_layFour_46 : decode cX11_layFour 46 = .ok (.goto (-43), 3) := by decide +kernel
theorem dX11_layFour_49 : decode cX11_layFour 49 = .ok (.return_, 1) := by decide +kernel
def wq_c_X11_layFour : List Cond := Cond.code yX11_layFour cX11_layFour 3 none :: (([Cond.fieldLink RX11 13 "CrowToll" "onTape" "I", Cond.fieldLink RX11 9 "CrowToll" "tape" "[I"] : List Cond) ++ wsX110)
set_option maxHeartbeats 8000000 in
set_option maxRecDepth 100000 in
theorem c_X11_layFour (l : Launch) (D : va_G) (cy : Nat → ClassId) (ad : Nat → Nat) (g : Nat → va_E) {f0 : List Value} {t : Nat} {c1 : Nat → Int32} {q : Int32} (o0 : g 0 = .inr (11, f0)) (f0_0 : f0[0]? = some (.ref (ad 1))) (f0_1 : f0[1]? = some (.int (nI t))) (a1 : g 1 = .inl (cy 0, 1600, .inl c1)) (ht : t + 4 ≤ 1600) : cMv l yX11_layFour wq_c_X11_layFour { frames := 0, cells := 0, slots := 0, locals := 0 } 2 0 0 0 D cy ad g [.ref (ad 0), .int q] (fun nw lu => ∃ (c1_32_8 : Nat → Int32), lu = [(1, .inl (cy 0, 1600, .inl c1_32_8)), (0, .inr (11, ((((f0.set 1 (.int (nI (t + 1)))).set 1 (.int (nI ((t + 1) + 1)))).set 1 (.int (nI (((t + 1) + 1) + 1)))).set 1 (.int (nI ((((t + 1) + 1) + 1) + 1))))))]) := by
  refine cM_of (Qc := fun A => cQv (fun nw lu => ∃ (c1_32_8 : Nat → Int32), lu = [(1, .inl (cy 0, 1600, .inl c1_32_8)), (0, .inr (11, ((((f0.set 1 (.int (nI (t + 1)))).set 1 (.int (nI ((t + 1) + 1)))).set 1 (.int (nI (((t + 1) + 1) + 1)))).set 1 (.int (nI ((((t + 1) + 1) + 1) + 1))))))]) D 2 0 ad g A) (cc := cX11_layFour) (maxL := 3) (ret := none) (by decide) rfl (Nat.le_of_ble_eq_true rfl) ?_
  intro p e s m below meth c A hC hr hlk hnm hO ls hl
  have hC : CallFix p m c cX11_layFour 3 s [.ref (ad 0), .int q].toArray wq_c_X11_layFour RX11 := hC
  obtain ⟨hx, hb, hml, hown, hts⟩ := id hC
  have hl : lv_has ls 3 [(0, .ref (ad 0)), (1, .int q)] := hl
  have i_X11 : ∀ w ∈ wsX110, w ∈ wq_c_X11_layFour := fun w h => List.mem_cons_of_mem _ (List.mem_append_right _ h)
  refine lv_bipush (v := 24) hx hb dX11_layFour_0 (by decide) ?_
  refine lv_istore_n (lv' := [(2, .int 24), (0, .ref (ad 0)), (1, .int q)]) hx hb dX11_layFour_2 rfl hl (by decide) rfl (fun ls hl => ?_)
  refine lv_iload_n hx hb dX11_layFour_3 rfl (lv_at hl 0 rfl) ?_
  refine lv_if_lt (tgt := 49) hx hb dX11_layFour_4 (by decide) (fun h => absurd h (by decide)) (fun _ => ?_)
  refine lv_aload_n hx hb dX11_layFour_7 rfl (lv_at hl 1 rfl) ?_
  refine cg_get hC hO 0 (by decide) o0 rfl i_X11 1 (by decide) (List.mem_of_getElem? (i := 1) rfl) f0_1 dX11_layFour_8 ?_
  refine lv_sipush (v := 1600) hx hb dX11_layFour_11 (by decide) ?_
  refine lv_icmp_ge (tgt := 49) hx hb dX11_layFour_14 (by decide) (fun h => (show False from by have z := (nI_leI (a := 1600) (b := t) (by omega) (by omega)).mp h; omega).elim) (fun _ => ?_)
  refine lv_aload_n hx hb dX11_layFour_17 rfl (lv_at hl 1 rfl) ?_
  refine cg_get hC hO 0 (by decide) o0 rfl i_X11 0 (by decide) (List.mem_of_getElem? (i := 2) rfl) f0_0 dX11_layFour_18 ?_
  refine lv_aload_n hx hb dX11_layFour_21 rfl (lv_at hl 1 rfl) ?_
  refine cg_get hC hO 0 (by decide) o0 rfl i_X11 1 (by decide) (List.mem_of_getElem? (i := 1) rfl) f0_1 dX11_layFour_22 ?_
  refine lv_iload_n hx hb dX11_layFour_25 rfl (lv_at hl 2 rfl) ?_
  refine lv_iload_n hx hb dX11_layFour_26 rfl (lv_at hl 0 rfl) ?_
  refine lv_iushr hx hb dX11_layFour_27 rfl ?_
  refine lv_topi (fun w_27_1 _ => ?_)
  refine lv_sipush (v := 255) hx hb dX11_layFour_28 (by decide) ?_
  refine lv_iand hx hb dX11_layFour_31 ?_
  refine cg_iast hC hO 1 (by decide) a1 (vp_in_nI (by omega) (by omega)) dX11_layFour_32 (fun H locs hO => ?_)
  have hO : cO D cy A s.heap s 2 ad (cup [(1, .inl (cy 0, 1600, .inl (upd c1 (nI t).toNatClampNeg (w_27_1 &&& 255))))] g) _ _ := hO
  obtain ⟨c1_32_2, ec1_32_2⟩ : ∃ z, z = (upd c1 (nI t).toNatClampNeg (w_27_1 &&& 255)) := ⟨_, rfl⟩
  rw [← ec1_32_2] at hO
  have hO : cO D cy A s.heap s 2 ad (cup [(1, .inl (cy 0, 1600, .inl c1_32_2))] g) _ _ := hO
  refine lv_aload_n hx hb dX11_layFour_33 rfl (lv_at hl 1 rfl) ?_
  refine lv_dup hx hb dX11_layFour_34 rfl ?_
  refine cg_get hC hO 0 (by decide) o0 rfl i_X11 1 (by decide) (List.mem_of_getElem? (i := 1) rfl) f0_1 dX11_layFour_35 ?_
  refine lv_iconst (v := 1) hx hb dX11_layFour_38 (by decide) ?_
  refine lv_iadd hx hb dX11_layFour_39 ?_
  refine cg_ev (v := (nI (t + 1))) (nI_add t 1) ?_
  refine cg_put hC hO 0 (by decide) o0 rfl i_X11 tyX11_ok nmX11 1 (by decide) (List.mem_of_getElem? (i := 1) rfl) rfl rfl rfl (fs_lt f0_1) dX11_layFour_40 (fun H locs hO => ?_)
  have hO : cO D cy A s.heap s 2 ad (cup [(1, .inl (cy 0, 1600, .inl c1_32_2)), (0, .inr (11, (f0.set 1 (.int (nI (t + 1))))))] g) _ _ := hO
  refine lv_iinc (v := 16) (lv' := [(2, .int 16), (0, .ref (ad 0)), (1, .int q)]) hx hb dX11_layFour_43 hl (k := 0) rfl (by decide) (by decide) rfl (fun ls hl => ?_)
  refine lv_goto (tgt := 3) hx hb dX11_layFour_46 (by decide) ?_
  refine lv_iload_n hx hb dX11_layFour_3 rfl (lv_at hl 0 rfl) ?_
  refine lv_if_lt (tgt := 49) hx hb dX11_layFour_4 (by decide) (fun h => absurd h (by decide)) (fun _ => ?_)
  refine lv_aload_n hx hb dX11_layFour_7 rfl (lv_at hl 1 rfl) ?_
  refine cg_get hC hO 0 (by decide) rfl rfl i_X11 1 (by decide) (List.mem_of_getElem? (i := 1) rfl) (fs_eq f0_1) dX11_layFour_8 ?_
  refine lv_sipush (v := 1600) hx hb dX11_layFour_11 (by decide) ?_
  refine lv_icmp_ge (tgt := 49) hx hb dX11_layFour_14 (by decide) (fun h => (show False from by have z := (nI_leI (a := 1600) (b := (t + 1)) (by omega) (by omega)).mp h; omega).elim) (fun _ => ?_)
  refine lv_aload_n hx hb dX11_layFour_17 rfl (lv_at hl 1 rfl) ?_
  refine cg_get hC hO 0 (by decide) rfl rfl i_X11 0 (by decide) (List.mem_of_getElem? (i := 2) rfl) (fs_ne (by decide) f0_0) dX11_layFour_18 ?_
  refine lv_aload_n hx hb dX11_layFour_21 rfl (lv_at hl 1 rfl) ?_
  refine cg_get hC hO 0 (by decide) rfl rfl i_X11 1 (by decide) (List.mem_of_getElem? (i := 1) rfl) (fs_eq f0_1) dX11_layFour_22 ?_
  refine lv_iload_n hx hb dX11_layFour_25 rfl (lv_at hl 2 rfl) ?_
  refine lv_iload_n hx hb dX11_layFour_26 rfl (lv_at hl 0 rfl) ?_
  refine lv_iushr hx hb dX11_layFour_27 rfl ?_
  refine lv_topi (fun w_27_3 _ => ?_)
  refine lv_sipush (v := 255) hx hb dX11_layFour_28 (by decide) ?_
  refine lv_iand hx hb dX11_layFour_31 ?_
  refine cg_iast hC hO 1 (by decide) rfl (vp_in_nI (by omega) (by omega)) dX11_layFour_32 (fun H locs hO => ?_)
  have hO : cO D cy A s.heap s 2 ad (cup [(1, .inl (cy 0, 1600, .inl (upd c1_32_2 (nI (t + 1)).toNatClampNeg (w_27_3 &&& 255)))), (0, .inr (11, (f0.set 1 (.int (nI (t + 1))))))] g) _ _ := hO
  obtain ⟨c1_32_4, ec1_32_4⟩ : ∃ z, z = (upd c1_32_2 (nI (t + 1)).toNatClampNeg (w_27_3 &&& 255)) := ⟨_, rfl⟩
  rw [← ec1_32_4] at hO
  have hO : cO D cy A s.heap s 2 ad (cup [(1, .inl (cy 0, 1600, .inl c1_32_4)), (0, .inr (11, (f0.set 1 (.int (nI (t + 1))))))] g) _ _ := hO
  refine lv_aload_n hx hb dX11_layFour_33 rfl (lv_at hl 1 rfl) ?_
  refine lv_dup hx hb dX11_layFour_34 rfl ?_
  refine cg_get hC hO 0 (by decide) rfl rfl i_X11 1 (by decide) (List.mem_of_getElem? (i := 1) rfl) (fs_eq f0_1) dX11_layFour_35 ?_
  refine lv_iconst (v := 1) hx hb dX11_layFour_38 (by decide) ?_
  refine lv_iadd hx hb dX11_layFour_39 ?_
  refine cg_ev (v := (nI ((t + 1) + 1))) (nI_add (t + 1) 1) ?_
  refine cg_put hC hO 0 (by decide) rfl rfl i_X11 tyX11_ok nmX11 1 (by decide) (List.mem_of_getElem? (i := 1) rfl) rfl rfl rfl (fs_lt (fs_eq f0_1)) dX11_layFour_40 (fun H locs hO => ?_)
  have hO : cO D cy A s.heap s 2 ad (cup [(1, .inl (cy 0, 1600, .inl c1_32_4)), (0, .inr (11, ((f0.set 1 (.int (nI (t + 1)))).set 1 (.int (nI ((t + 1) + 1))))))] g) _ _ := hO
  refine lv_iinc (v := 8) (lv' := [(2, .int 8), (0, .ref (ad 0)), (1, .int q)]) hx hb dX11_layFour_43 hl (k := 0) rfl (by decide) (by decide) rfl (fun ls hl => ?_)
  refine lv_goto (tgt := 3) hx hb dX11_layFour_46 (by decide) ?_
  refine lv_iload_n hx hb dX11_layFour_3 rfl (lv_at hl 0 rfl) ?_
  refine lv_if_lt (tgt := 49) hx hb dX11_layFour_4 (by decide) (fun h => absurd h (by decide)) (fun _ => ?_)
  refine lv_aload_n hx hb dX11_layFour_7 rfl (lv_at hl 1 rfl) ?_
  refine cg_get hC hO 0 (by decide) rfl rfl i_X11 1 (by decide) (List.mem_of_getElem? (i := 1) rfl) (fs_eq (fs_eq f0_1)) dX11_layFour_8 ?_
  refine lv_sipush (v := 1600) hx hb dX11_layFour_11 (by decide) ?_
  refine lv_icmp_ge (tgt := 49) hx hb dX11_layFour_14 (by decide) (fun h => (show False from by have z := (nI_leI (a := 1600) (b := ((t + 1) + 1)) (by omega) (by omega)).mp h; omega).elim) (fun _ => ?_)
  refine lv_aload_n hx hb dX11_layFour_17 rfl (lv_at hl 1 rfl) ?_
  refine cg_get hC hO 0 (by decide) rfl rfl i_X11 0 (by decide) (List.mem_of_getElem? (i := 2) rfl) (fs_ne (by decide) (fs_ne (by decide) f0_0)) dX11_layFour_18 ?_
  refine lv_aload_n hx hb dX11_layFour_21 rfl (lv_at hl 1 rfl) ?_
  refine cg_get hC hO 0 (by decide) rfl rfl i_X11 1 (by decide) (List.mem_of_getElem? (i := 1) rfl) (fs_eq (fs_eq f0_1)) dX11_layFour_22 ?_
  refine lv_iload_n hx hb dX11_layFour_25 rfl (lv_at hl 2 rfl) ?_
  refine lv_iload_n hx hb dX11_layFour_26 rfl (lv_at hl 0 rfl) ?_
  refine lv_iushr hx hb dX11_layFour_27 rfl ?_
  refine lv_topi (fun w_27_5 _ => ?_)
  refine lv_sipush (v := 255) hx hb dX11_layFour_28 (by decide) ?_
  refine lv_iand hx hb dX11_layFour_31 ?_
  refine cg_iast hC hO 1 (by decide) rfl (vp_in_nI (by omega) (by omega)) dX11_layFour_32 (fun H locs hO => ?_)
  have hO : cO D cy A s.heap s 2 ad (cup [(1, .inl (cy 0, 1600, .inl (upd c1_32_4 (nI ((t + 1) + 1)).toNatClampNeg (w_27_5 &&& 255)))), (0, .inr (11, ((f0.set 1 (.int (nI (t + 1)))).set 1 (.int (nI ((t + 1) + 1))))))] g) _ _ := hO
  obtain ⟨c1_32_6, ec1_32_6⟩ : ∃ z, z = (upd c1_32_4 (nI ((t + 1) + 1)).toNatClampNeg (w_27_5 &&& 255)) := ⟨_, rfl⟩
  rw [← ec1_32_6] at hO
  have hO : cO D cy A s.heap s 2 ad (cup [(1, .inl (cy 0, 1600, .inl c1_32_6)), (0, .inr (11, ((f0.set 1 (.int (nI (t + 1)))).set 1 (.int (nI ((t + 1) + 1))))))] g) _ _ := hO
  refine lv_aload_n hx hb dX11_layFour_33 rfl (lv_at hl 1 rfl) ?_
  refine lv_dup hx hb dX11_layFour_34 rfl ?_
  refine cg_get hC hO 0 (by decide) rfl rfl i_X11 1 (by decide) (List.mem_of_getElem? (i := 1) rfl) (fs_eq (fs_eq f0_1)) dX11_layFour_35 ?_
  refine lv_iconst (v := 1) hx hb dX11_layFour_38 (by decide) ?_
  refine lv_iadd hx hb dX11_layFour_39 ?_
  refine cg_ev (v := (nI (((t + 1) + 1) + 1))) (nI_add ((t + 1) + 1) 1) ?_
  refine cg_put hC hO 0 (by decide) rfl rfl i_X11 tyX11_ok nmX11 1 (by decide) (List.mem_of_getElem? (i := 1) rfl) rfl rfl rfl (fs_lt (fs_eq (fs_eq f0_1))) dX11_layFour_40 (fun H locs hO => ?_)
  have hO : cO D cy A s.heap s 2 ad (cup [(1, .inl (cy 0, 1600, .inl c1_32_6)), (0, .inr (11, (((f0.set 1 (.int (nI (t + 1)))).set 1 (.int (nI ((t + 1) + 1)))).set 1 (.int (nI (((t + 1) + 1) + 1))))))] g) _ _ := hO
  refine lv_iinc (v := 0) (lv' := [(2, .int 0), (0, .ref (ad 0)), (1, .int q)]) hx hb dX11_layFour_43 hl (k := 0) rfl (by decide) (by decide) rfl (fun ls hl => ?_)
  refine lv_goto (tgt := 3) hx hb dX11_layFour_46 (by decide) ?_
  refine lv_iload_n hx hb dX11_layFour_3 rfl (lv_at hl 0 rfl) ?_
  refine lv_if_lt (tgt := 49) hx hb dX11_layFour_4 (by decide) (fun h => absurd h (by decide)) (fun _ => ?_)
  refine lv_aload_n hx hb dX11_layFour_7 rfl (lv_at hl 1 rfl) ?_
  refine cg_get hC hO 0 (by decide) rfl rfl i_X11 1 (by decide) (List.mem_of_getElem? (i := 1) rfl) (fs_eq (fs_eq (fs_eq f0_1))) dX11_layFour_8 ?_
  refine lv_sipush (v := 1600) hx hb dX11_layFour_11 (by decide) ?_
  refine lv_icmp_ge (tgt := 49) hx hb dX11_layFour_14 (by decide) (fun h => (show False from by have z := (nI_leI (a := 1600) (b := (((t + 1) + 1) + 1)) (by omega) (by omega)).mp h; omega).elim) (fun _ => ?_)
  refine lv_aload_n hx hb dX11_layFour_17 rfl (lv_at hl 1 rfl) ?_
  refine cg_get hC hO 0 (by decide) rfl rfl i_X11 0 (by decide) (List.mem_of_getElem? (i := 2) rfl) (fs_ne (by decide) (fs_ne (by decide) (fs_ne (by decide) f0_0))) dX11_layFour_18 ?_
  refine lv_aload_n hx hb dX11_layFour_21 rfl (lv_at hl 1 rfl) ?_
  refine cg_get hC hO 0 (by decide) rfl rfl i_X11 1 (by decide) (List.mem_of_getElem? (i := 1) rfl) (fs_eq (fs_eq (fs_eq f0_1))) dX11_layFour_22 ?_
  refine lv_iload_n hx hb dX11_layFour_25 rfl (lv_at hl 2 rfl) ?_
  refine lv_iload_n hx hb dX11_layFour_26 rfl (lv_at hl 0 rfl) ?_
  refine lv_iushr hx hb dX11_layFour_27 rfl ?_
  refine lv_topi (fun w_27_7 _ => ?_)
  refine lv_sipush (v := 255) hx hb dX11_layFour_28 (by decide) ?_
  refine lv_iand hx hb dX11_layFour_31 ?_
  refine cg_iast hC hO 1 (by decide) rfl (vp_in_nI (by omega) (by omega)) dX11_layFour_32 (fun H locs hO => ?_)
  have hO : cO D cy A s.heap s 2 ad (cup [(1, .inl (cy 0, 1600, .inl (upd c1_32_6 (nI (((t + 1) + 1) + 1)).toNatClampNeg (w_27_7 &&& 255)))), (0, .inr (11, (((f0.set 1 (.int (nI (t + 1)))).set 1 (.int (nI ((t + 1) + 1)))).set 1 (.int (nI (((t + 1) + 1) + 1))))))] g) _ _ := hO
  obtain ⟨c1_32_8, ec1_32_8⟩ : ∃ z, z = (upd c1_32_6 (nI (((t + 1) + 1) + 1)).toNatClampNeg (w_27_7 &&& 255)) := ⟨_, rfl⟩
  rw [← ec1_32_8] at hO
  have hO : cO D cy A s.heap s 2 ad (cup [(1, .inl (cy 0, 1600, .inl c1_32_8)), (0, .inr (11, (((f0.set 1 (.int (nI (t + 1)))).set 1 (.int (nI ((t + 1) + 1)))).set 1 (.int (nI (((t + 1) + 1) + 1))))))] g) _ _ := hO
  refine lv_aload_n hx hb dX11_layFour_33 rfl (lv_at hl 1 rfl) ?_
  refine lv_dup hx hb dX11_layFour_34 rfl ?_
  refine cg_get hC hO 0 (by decide) rfl rfl i_X11 1 (by decide) (List.mem_of_getElem? (i := 1) rfl) (fs_eq (fs_eq (fs_eq f0_1))) dX11_layFour_35 ?_
  refine lv_iconst (v := 1) hx hb dX11_layFour_38 (by decide) ?_
  refine lv_iadd hx hb dX11_layFour_39 ?_
  refine cg_ev (v := (nI ((((t + 1) + 1) + 1) + 1))) (nI_add (((t + 1) + 1) + 1) 1) ?_
  refine cg_put hC hO 0 (by decide) rfl rfl i_X11 tyX11_ok nmX11 1 (by decide) (List.mem_of_getElem? (i := 1) rfl) rfl rfl rfl (fs_lt (fs_eq (fs_eq (fs_eq f0_1)))) dX11_layFour_40 (fun H locs hO => ?_)
  have hO : cO D cy A s.heap s 2 ad (cup [(1, .inl (cy 0, 1600, .inl c1_32_8)), (0, .inr (11, ((((f0.set 1 (.int (nI (t + 1)))).set 1 (.int (nI ((t + 1) + 1)))).set 1 (.int (nI (((t + 1) + 1) + 1)))).set 1 (.int (nI ((((t + 1) + 1) + 1) + 1))))))] g) _ _ := hO
  refine lv_iinc (v := (-8)) (lv' := [(2, .int (-8)), (0, .ref (ad 0)), (1, .int q)]) hx hb dX11_layFour_43 hl (k := 0) rfl (by decide) (by decide) rfl (fun ls hl => ?_)
  refine lv_goto (tgt := 3) hx hb dX11_layFour_46 (by decide) ?_
  refine lv_iload_n hx hb dX11_layFour_3 rfl (lv_at hl 0 rfl) ?_
  refine lv_if_lt (tgt := 49) hx hb dX11_layFour_4 (by decide) (fun _ => ?_) (fun h => absurd h (by decide))
  exact cg_vret (nw := fun _ => 0) hC hr hlk hO.same (Nat.le_of_ble_eq_true rfl) (Nat.le_of_ble_eq_true rfl) (⟨c1_32_8, rfl⟩) dX11_layFour_49

theorem dX11_feed_0 : decode cX11_feed 0 = .ok (.aload_n 0, 1) := by decide +kernel
theorem dX11_feed_1 : decode cX11_feed 1 = .ok (.getfield 13, 3) := by decide +kernel
theorem dX11_feed_4 : decode cX11_feed 4 = .ok (.bipush 20, 2) := by decide +kernel
theorem dX11_feed_6 : decode cX11_feed 6 = .ok (.iadd, 1) := by decide +kernel
theorem dX11_feed_7 : decode cX11_feed 7 = .ok (.sipush 1600, 3) := by decide +kernel
theorem dX11_feed_10 : decode cX11_feed 10 = .ok (.if_icmp .le 5, 3) := by decide +kernel
theorem dX11_feed_15 : decode cX11_feed 15 = .ok (.aload_n 0, 1) := by decide +kernel
theorem dX11_feed_16 : decode cX11_feed 16 = .ok (.iload_n 1, 1) := by decide +kernel
theorem dX11_feed_17 : decode cX11_feed 17 = .ok (.invokevirtual 103, 3) := by decide +kernel
theorem dX11_feed_20 : decode cX11_feed 20 = .ok (.aload_n 0, 1) := by decide +kernel
theorem dX11_feed_21 : decode cX11_feed 21 = .ok (.iload_n 2, 1) := by decide +kernel
theorem dX11_feed_22 : decode cX11_feed 22 = .ok (.invokevirtual 103, 3) := by decide +kernel
theorem dX11_feed_25 : decode cX11_feed 25 = .ok (.aload_n 0, 1) := by decide +kernel
theorem dX11_feed_26 : decode cX11_feed 26 = .ok (.iload_n 3, 1) := by decide +kernel
theorem dX11_feed_27 : decode cX11_feed 27 = .ok (.invokevirtual 103, 3) := by decide +kernel
theorem dX11_feed_30 : decode cX11_feed 30 = .ok (.aload_n 0, 1) := by decide +kernel
theorem dX11_feed_31 : decode cX11_feed 31 = .ok (.iload 4, 2) := by decide +kernel
theorem dX11_feed_33 : decode cX11_feed 33 = .ok (.invokevirtual 103, 3) := by decide +kernel
theorem dX11_feed_36 : decode cX11_feed 36 = .ok (.aload_n 0, 1) := by decide +kernel
theorem dX11_feed_37 : decode cX11_feed 37 = .ok (.iload 5, 2) := by decide +kernel
theorem dX11_feed_39 : decode cX11_feed 39 = .ok (.invokevirtual 103, 3) := by decide +kernel
theorem dX11_feed_42 : decode cX11_feed 42 = .ok (.aload_n 0, 1) := by decide +kernel
theorem dX11_feed_43 : decode cX11_feed 43 = .ok (.getfield 13, 3) := by decide +kernel
theorem dX11_feed_46 : decode cX11_feed 46 = .ok (.ireturn, 1) := by decide +kernel
def wq_c_X11_feed : List Cond := Cond.code yX11_feed cX11_feed 6 (some .int) :: (([Cond.fieldLink RX11 13 "CrowToll" "onTape" "I", Cond.methodLink RX11 103 yX11_layFour, Cond.instanceMethod yX11_layFour, Cond.selects RX11 yX11_layFour yX11_layFour, Cond.initialized RX11, Cond.code yX11_layFour cX11_layFour 3 none, Cond.fieldLink RX11 9 "CrowToll" "tape" "[I"] : List Cond) ++ wsX110)
set_option maxRecDepth 20000 in
theorem gr_c_X11_feed_c_X11_layFour : GoodIn wq_c_X11_feed wq_c_X11_layFour := List.forall_mem_cons.mpr ⟨⟨(List.mem_of_getElem? (i := 6) rfl), good_of_word rfl⟩, List.forall_mem_append.mpr ⟨List.forall_mem_cons.mpr ⟨⟨(List.mem_of_getElem? (i := 1) rfl), good_of_word rfl⟩, List.forall_mem_cons.mpr ⟨⟨(List.mem_of_getElem? (i := 7) rfl), good_of_word rfl⟩, (fun _ h => absurd h List.not_mem_nil)⟩⟩, fun w h => ⟨(fun w h => List.mem_cons_of_mem _ (List.mem_append_right _ h)) w h, good_of_word (List.all_eq_true.mp gw_X11 w h)⟩⟩⟩
set_option maxRecDepth 20000 in
theorem gq_c_X11_feed_c_X11_layFour_103 : GoodIn wq_c_X11_feed (wsV RX11 103 RX11 yX11_layFour wq_c_X11_layFour) := goodIn_app (List.forall_mem_cons.mpr ⟨⟨(List.mem_of_getElem? (i := 2) rfl), good_of_word rfl⟩, List.forall_mem_cons.mpr ⟨⟨(List.mem_of_getElem? (i := 3) rfl), good_of_word rfl⟩, List.forall_mem_cons.mpr ⟨⟨(List.mem_of_getElem? (i := 4) rfl), good_of_word rfl⟩, List.forall_mem_cons.mpr ⟨⟨(List.mem_of_getElem? (i := 5) rfl), good_of_word rfl⟩, (fun _ h => absurd h List.not_mem_nil)⟩⟩⟩⟩) gr_c_X11_feed_c_X11_layFour
set_option maxHeartbeats 8000000 in
set_option maxRecDepth 100000 in
theorem c_X11_feed (l : Launch) (D : va_G) (cy : Nat → ClassId) (ad : Nat → Nat) (g : Nat → va_E) {f0 : List Value} {c1 : Nat → Int32} {x1 : Int32} {x2 : Int32} {x3 : Int32} {x4 : Int32} {x5 : Int32} (o0 : g 0 = .inr (11, f0)) (f0_0 : f0[0]? = some (.ref (ad 1))) (f0_1 : f0[1]? = some (.int 0)) (a1 : g 1 = .inl (cy 0, 1600, .inl c1)) : cMi l yX11_feed wq_c_X11_feed { frames := 1, cells := 0, slots := 0, locals := 22 } 2 0 0 0 D cy ad g [.ref (ad 0), .int x1, .int x2, .int x3, .int x4, .int x5] (fun r nw lu => r = 20) := by
  refine cM_of (Qc := fun A => cQi (fun r nw lu => r = 20) D 2 0 ad g A) (cc := cX11_feed) (maxL := 6) (ret := (some .int)) (by decide) rfl (Nat.le_of_ble_eq_true rfl) ?_
  intro p e s m below meth c A hC hr hlk hnm hO ls hl
  have hC : CallFix p m c cX11_feed 6 s [.ref (ad 0), .int x1, .int x2, .int x3, .int x4, .int x5].toArray wq_c_X11_feed RX11 := hC
  obtain ⟨hx, hb, hml, hown, hts⟩ := id hC
  have hl : lv_has ls 6 [(0, .ref (ad 0)), (1, .int x1), (2, .int x2), (3, .int x3), (4, .int x4), (5, .int x5)] := hl
  have i_X11 : ∀ w ∈ wsX110, w ∈ wq_c_X11_feed := fun w h => List.mem_cons_of_mem _ (List.mem_append_right _ h)
  refine lv_aload_n hx hb dX11_feed_0 rfl (lv_at hl 0 rfl) ?_
  refine cg_get hC hO 0 (by decide) o0 rfl i_X11 1 (by decide) (List.mem_of_getElem? (i := 1) rfl) f0_1 dX11_feed_1 ?_
  refine lv_bipush (v := 20) hx hb dX11_feed_4 (by decide) ?_
  refine lv_iadd hx hb dX11_feed_6 ?_
  refine cg_ev (v := 20) (by decide) ?_
  refine lv_sipush (v := 1600) hx hb dX11_feed_7 (by decide) ?_
  refine lv_icmp_le (tgt := 15) hx hb dX11_feed_10 (by decide) (fun _ => ?_) (fun h => absurd h (by decide))
  refine lv_aload_n hx hb dX11_feed_15 rfl (lv_at hl 0 rfl) ?_
  refine lv_iload_n hx hb dX11_feed_16 rfl (lv_at hl 1 rfl) ?_
  refine cg_Vv (As := [.int x1]) (rest := []) (mc := 0) (ms := 0) (rm := { frames := 0, cells := 0, slots := 0, locals := 0 }) hC hl.1 hO [0, 1] rfl (c_X11_layFour l D cy _ _ (f0 := f0) (c1 := c1) (t := 0) (q := x1) o0 f0_0 f0_1 a1 (by omega)) gq_c_X11_feed_c_X11_layFour_103 rfl rfl rfl 1 (by decide +kernel) ⟨Nat.le_of_ble_eq_true rfl, Nat.le_of_ble_eq_true rfl⟩ rfl (by decide) o0 rfl rfl (Nat.le_of_ble_eq_true rfl) dX11_feed_17 ⟨Nat.le_of_ble_eq_true rfl, Nat.le_of_ble_eq_true rfl⟩ (fun nw_17_1 l_17_2 H locs hw hO => ?_)
  obtain ⟨c1_17_4, rfl⟩ := hw
  have hO : cO D cy A s.heap s 2 ad (cup [(0, .inr (11, ((((f0.set 1 (.int 1)).set 1 (.int 2)).set 1 (.int 3)).set 1 (.int 4)))), (1, .inl (cy 0, 1600, .inl c1_17_4))] g) _ _ := hO
  refine lv_aload_n hx hb dX11_feed_20 rfl (lv_at hl 0 rfl) ?_
  refine lv_iload_n hx hb dX11_feed_21 rfl (lv_at hl 2 rfl) ?_
  refine cg_Vv (As := [.int x2]) (rest := []) (mc := 0) (ms := 0) (rm := { frames := 0, cells := 0, slots := 0, locals := 0 }) hC hl.1 hO [0, 1] rfl (c_X11_layFour l D cy _ _ (f0 := ((((f0.set 1 (.int 1)).set 1 (.int 2)).set 1 (.int 3)).set 1 (.int 4))) (c1 := c1_17_4) (t := ((((0 + 1) + 1) + 1) + 1)) (q := x2) rfl (fs_ne (by decide) (fs_ne (by decide) (fs_ne (by decide) (fs_ne (by decide) f0_0)))) (fs_eq (fs_eq (fs_eq (fs_eq f0_1)))) rfl (by omega)) gq_c_X11_feed_c_X11_layFour_103 rfl rfl rfl 1 (by decide +kernel) ⟨Nat.le_of_ble_eq_true rfl, Nat.le_of_ble_eq_true rfl⟩ rfl (by decide) rfl rfl rfl (Nat.le_of_ble_eq_true rfl) dX11_feed_22 ⟨Nat.le_of_ble_eq_true rfl, Nat.le_of_ble_eq_true rfl⟩ (fun nw_22_5 l_22_6 H locs hw hO => ?_)
  obtain ⟨c1_22_8, rfl⟩ := hw
  have hO : cO D cy A s.heap s 2 ad (cup [(0, .inr (11, ((((((((f0.set 1 (.int 1)).set 1 (.int 2)).set 1 (.int 3)).set 1 (.int 4)).set 1 (.int 5)).set 1 (.int 6)).set 1 (.int 7)).set 1 (.int 8)))), (1, .inl (cy 0, 1600, .inl c1_22_8))] g) _ _ := hO
  refine lv_aload_n hx hb dX11_feed_25 rfl (lv_at hl 0 rfl) ?_
  refine lv_iload_n hx hb dX11_feed_26 rfl (lv_at hl 3 rfl) ?_
  refine cg_Vv (As := [.int x3]) (rest := []) (mc := 0) (ms := 0) (rm := { frames := 0, cells := 0, slots := 0, locals := 0 }) hC hl.1 hO [0, 1] rfl (c_X11_layFour l D cy _ _ (f0 := ((((((((f0.set 1 (.int 1)).set 1 (.int 2)).set 1 (.int 3)).set 1 (.int 4)).set 1 (.int 5)).set 1 (.int 6)).set 1 (.int 7)).set 1 (.int 8))) (c1 := c1_22_8) (t := ((((((((0 + 1) + 1) + 1) + 1) + 1) + 1) + 1) + 1)) (q := x3) rfl (fs_ne (by decide) (fs_ne (by decide) (fs_ne (by decide) (fs_ne (by decide) (fs_ne (by decide) (fs_ne (by decide) (fs_ne (by decide) (fs_ne (by decide) f0_0)))))))) (fs_eq (fs_eq (fs_eq (fs_eq (fs_eq (fs_eq (fs_eq (fs_eq f0_1)))))))) rfl (by omega)) gq_c_X11_feed_c_X11_layFour_103 rfl rfl rfl 1 (by decide +kernel) ⟨Nat.le_of_ble_eq_true rfl, Nat.le_of_ble_eq_true rfl⟩ rfl (by decide) rfl rfl rfl (Nat.le_of_ble_eq_true rfl) dX11_feed_27 ⟨Nat.le_of_ble_eq_true rfl, Nat.le_of_ble_eq_true rfl⟩ (fun nw_27_9 l_27_10 H locs hw hO => ?_)
  obtain ⟨c1_27_12, rfl⟩ := hw
  have hO : cO D cy A s.heap s 2 ad (cup [(0, .inr (11, ((((((((((((f0.set 1 (.int 1)).set 1 (.int 2)).set 1 (.int 3)).set 1 (.int 4)).set 1 (.int 5)).set 1 (.int 6)).set 1 (.int 7)).set 1 (.int 8)).set 1 (.int 9)).set 1 (.int 10)).set 1 (.int 11)).set 1 (.int 12)))), (1, .inl (cy 0, 1600, .inl c1_27_12))] g) _ _ := hO
  refine lv_aload_n hx hb dX11_feed_30 rfl (lv_at hl 0 rfl) ?_
  refine lv_iload hx hb dX11_feed_31 (lv_at hl 4 rfl) ?_
  refine cg_Vv (As := [.int x4]) (rest := []) (mc := 0) (ms := 0) (rm := { frames := 0, cells := 0, slots := 0, locals := 0 }) hC hl.1 hO [0, 1] rfl (c_X11_layFour l D cy _ _ (f0 := ((((((((((((f0.set 1 (.int 1)).set 1 (.int 2)).set 1 (.int 3)).set 1 (.int 4)).set 1 (.int 5)).set 1 (.int 6)).set 1 (.int 7)).set 1 (.int 8)).set 1 (.int 9)).set 1 (.int 10)).set 1 (.int 11)).set 1 (.int 12))) (c1 := c1_27_12) (t := ((((((((((((0 + 1) + 1) + 1) + 1) + 1) + 1) + 1) + 1) + 1) + 1) + 1) + 1)) (q := x4) rfl (fs_ne (by decide) (fs_ne (by decide) (fs_ne (by decide) (fs_ne (by decide) (fs_ne (by decide) (fs_ne (by decide) (fs_ne (by decide) (fs_ne (by decide) (fs_ne (by decide) (fs_ne (by decide) (fs_ne (by decide) (fs_ne (by decide) f0_0)))))))))))) (fs_eq (fs_eq (fs_eq (fs_eq (fs_eq (fs_eq (fs_eq (fs_eq (fs_eq (fs_eq (fs_eq (fs_eq f0_1)))))))))))) rfl (by omega)) gq_c_X11_feed_c_X11_layFour_103 rfl rfl rfl 1 (by decide +kernel) ⟨Nat.le_of_ble_eq_true rfl, Nat.le_of_ble_eq_true rfl⟩ rfl (by decide) rfl rfl rfl (Nat.le_of_ble_eq_true rfl) dX11_feed_33 ⟨Nat.le_of_ble_eq_true rfl, Nat.le_of_ble_eq_true rfl⟩ (fun nw_33_13 l_33_14 H locs hw hO => ?_)
  obtain ⟨c1_33_16, rfl⟩ := hw
  have hO : cO D cy A s.heap s 2 ad (cup [(0, .inr (11, ((((((((((((((((f0.set 1 (.int 1)).set 1 (.int 2)).set 1 (.int 3)).set 1 (.int 4)).set 1 (.int 5)).set 1 (.int 6)).set 1 (.int 7)).set 1 (.int 8)).set 1 (.int 9)).set 1 (.int 10)).set 1 (.int 11)).set 1 (.int 12)).set 1 (.int 13)).set 1 (.int 14)).set 1 (.int 15)).set 1 (.int 16)))), (1, .inl (cy 0, 1600, .inl c1_33_16))] g) _ _ := hO
  refine lv_aload_n hx hb dX11_feed_36 rfl (lv_at hl 0 rfl) ?_
  refine lv_iload hx hb dX11_feed_37 (lv_at hl 5 rfl) ?_
  refine cg_Vv (As := [.int x5]) (rest := []) (mc := 0) (ms := 0) (rm := { frames := 0, cells := 0, slots := 0, locals := 0 }) hC hl.1 hO [0, 1] rfl (c_X11_layFour l D cy _ _ (f0 := ((((((((((((((((f0.set 1 (.int 1)).set 1 (.int 2)).set 1 (.int 3)).set 1 (.int 4)).set 1 (.int 5)).set 1 (.int 6)).set 1 (.int 7)).set 1 (.int 8)).set 1 (.int 9)).set 1 (.int 10)).set 1 (.int 11)).set 1 (.int 12)).set 1 (.int 13)).set 1 (.int 14)).set 1 (.int 15)).set 1 (.int 16))) (c1 := c1_33_16) (t := ((((((((((((((((0 + 1) + 1) + 1) + 1) + 1) + 1) + 1) + 1) + 1) + 1) + 1) + 1) + 1) + 1) + 1) + 1)) (q := x5) rfl (fs_ne (by decide) (fs_ne (by decide) (fs_ne (by decide) (fs_ne (by decide) (fs_ne (by decide) (fs_ne (by decide) (fs_ne (by decide) (fs_ne (by decide) (fs_ne (by decide) (fs_ne (by decide) (fs_ne (by decide) (fs_ne (by decide) (fs_ne (by decide) (fs_ne (by decide) (fs_ne (by decide) (fs_ne (by decide) f0_0)))))))))))))))) (fs_eq (fs_eq (fs_eq (fs_eq (fs_eq (fs_eq (fs_eq (fs_eq (fs_eq (fs_eq (fs_eq (fs_eq (fs_eq (fs_eq (fs_eq (fs_eq f0_1)))))))))))))))) rfl (by omega)) gq_c_X11_feed_c_X11_layFour_103 rfl rfl rfl 1 (by decide +kernel) ⟨Nat.le_of_ble_eq_true rfl, Nat.le_of_ble_eq_true rfl⟩ rfl (by decide) rfl rfl rfl (Nat.le_of_ble_eq_true rfl) dX11_feed_39 ⟨Nat.le_of_ble_eq_true rfl, Nat.le_of_ble_eq_true rfl⟩ (fun nw_39_17 l_39_18 H locs hw hO => ?_)
  obtain ⟨c1_39_20, rfl⟩ := hw
  have hO : cO D cy A s.heap s 2 ad (cup [(0, .inr (11, ((((((((((((((((((((f0.set 1 (.int 1)).set 1 (.int 2)).set 1 (.int 3)).set 1 (.int 4)).set 1 (.int 5)).set 1 (.int 6)).set 1 (.int 7)).set 1 (.int 8)).set 1 (.int 9)).set 1 (.int 10)).set 1 (.int 11)).set 1 (.int 12)).set 1 (.int 13)).set 1 (.int 14)).set 1 (.int 15)).set 1 (.int 16)).set 1 (.int 17)).set 1 (.int 18)).set 1 (.int 19)).set 1 (.int 20)))), (1, .inl (cy 0, 1600, .inl c1_39_20))] g) _ _ := hO
  refine lv_aload_n hx hb dX11_feed_42 rfl (lv_at hl 0 rfl) ?_
  refine cg_get hC hO 0 (by decide) rfl rfl i_X11 1 (by decide) (List.mem_of_getElem? (i := 1) rfl) (fs_eq (fs_eq (fs_eq (fs_eq (fs_eq (fs_eq (fs_eq (fs_eq (fs_eq (fs_eq (fs_eq (fs_eq (fs_eq (fs_eq (fs_eq (fs_eq (fs_eq (fs_eq (fs_eq (fs_eq f0_1)))))))))))))))))))) dX11_feed_43 ?_
  exact cg_iret (nw := fun _ => 0) hC hr hlk hO.same rfl (Nat.le_of_ble_eq_true rfl) (Nat.le_of_ble_eq_true rfl) rfl dX11_feed_46

theorem dX11_end_0 : decode cX11_end 0 = .ok (.iload_n 1, 1) := by decide +kernel
theorem dX11_end_1 : decode cX11_end 1 = .ok (.iconst 0, 1) := by decide +kernel
theorem dX11_end_2 : decode cX11_end 2 = .ok (.aload_n 0, 1) := by decide +kernel
theorem dX11_end_3 : decode cX11_end 3 = .ok (.getfield 13, 3) := by decide +kernel
theorem dX11_end_6 : decode cX11_end 6 = .ok (.invokestatic 107, 3) := by decide +kernel
theorem dX11_end_9 : decode cX11_end 9 = .ok (.ifCond .ne 5, 3) := by decide +kernel
theorem dX11_end_12 : decode cX11_end 12 = .ok (.iconst (-1), 1) := by decide +kernel
theorem dX11_end_13 : decode cX11_end 13 = .ok (.ireturn, 1) := by decide +kernel
theorem dX11_end_14 : decode cX11_end 14 = .ok (.aload_n 0, 1) := by decide +kernel
theorem dX11_end_15 : decode cX11_end 15 = .ok (.iload_n 1, 1) := by decide +kernel
theorem dX11_end_16 : decode cX11_end 16 = .ok (.putfield 13, 3) := by decide +kernel
theorem dX11_end_19 : decode cX11_end 19 = .ok (.iload_n 1, 1) := by decide +kernel
theorem dX11_end_20 : decode cX11_end 20 = .ok (.ireturn, 1) := by decide +kernel
def wq_c_X11_end : List Cond := Cond.code yX11_end cX11_end 2 (some .int) :: (([Cond.fieldLink RX11 13 "CrowToll" "onTape" "I", Cond.methodLink RX11 107 yX11_within, Cond.static yX11_within, Cond.initialized RX11, Cond.code yX11_within cX11_within 3 (some .boolean)] : List Cond) ++ wsX110)
set_option maxRecDepth 20000 in
theorem gr_c_X11_end_c_X11_within : GoodIn wq_c_X11_end wq_c_X11_within := List.forall_mem_cons.mpr ⟨⟨(List.mem_of_getElem? (i := 5) rfl), good_of_word rfl⟩, (fun _ h => absurd h List.not_mem_nil)⟩
set_option maxRecDepth 20000 in
theorem gq_c_X11_end_c_X11_within_107 : GoodIn wq_c_X11_end (va_wsS RX11 107 yX11_within wq_c_X11_within) := goodIn_app (List.forall_mem_cons.mpr ⟨⟨(List.mem_of_getElem? (i := 2) rfl), good_of_word rfl⟩, List.forall_mem_cons.mpr ⟨⟨(List.mem_of_getElem? (i := 3) rfl), good_of_word rfl⟩, List.forall_mem_cons.mpr ⟨⟨(List.mem_of_getElem? (i := 4) rfl), good_of_word rfl⟩, (fun _ h => absurd h List.not_mem_nil)⟩⟩⟩) gr_c_X11_end_c_X11_within
set_option maxHeartbeats 8000000 in
set_option maxRecDepth 100000 in
theorem c_X11_end (l : Launch) (D : va_G) (cy : Nat → ClassId) (ad : Nat → Nat) (g : Nat → va_E) {f0 : List Value} {n : Int32} (o0 : g 0 = .inr (11, f0)) (f0_1 : f0[1]? = some (.int 0)) : cMi l yX11_end wq_c_X11_end { frames := 1, cells := 0, slots := 0, locals := 22 } 1 0 0 0 D cy ad g [.ref (ad 0), .int n] (fun r nw lu => r = ans_end n) := by
  refine cM_of (Qc := fun A => cQi (fun r nw lu => r = ans_end n) D 1 0 ad g A) (cc := cX11_end) (maxL := 2) (ret := (some .int)) (by decide) rfl (Nat.le_of_ble_eq_true rfl) ?_
  intro p e s m below meth c A hC hr hlk hnm hO ls hl
  have hC : CallFix p m c cX11_end 2 s [.ref (ad 0), .int n].toArray wq_c_X11_end RX11 := hC
  obtain ⟨hx, hb, hml, hown, hts⟩ := id hC
  have hl : lv_has ls 2 [(0, .ref (ad 0)), (1, .int n)] := hl
  have i_X11 : ∀ w ∈ wsX110, w ∈ wq_c_X11_end := fun w h => List.mem_cons_of_mem _ (List.mem_append_right _ h)
  refine lv_iload_n hx hb dX11_end_0 rfl (lv_at hl 1 rfl) ?_
  refine lv_iconst (v := 0) hx hb dX11_end_1 (by decide) ?_
  refine lv_aload_n hx hb dX11_end_2 rfl (lv_at hl 0 rfl) ?_
  refine cg_get hC hO 0 (by decide) o0 rfl i_X11 1 (by decide) (List.mem_of_getElem? (i := 1) rfl) f0_1 dX11_end_3 ?_
  refine cg_Si (As := [.int n, .int 0, .int 0]) (rest := []) (mc := 0) (ms := 0) (rm := { frames := 0, cells := 0, slots := 0, locals := 0 }) hC hl.1 hO [] rfl (c_X11_within l D cy _ _ (x := n) (y := 0) (z := 0) ) gq_c_X11_end_c_X11_within_107 rfl rfl rfl 3 (by decide +kernel) ⟨Nat.le_of_ble_eq_true rfl, Nat.le_of_ble_eq_true rfl⟩ rfl rfl (Nat.le_of_ble_eq_true rfl) dX11_end_6 ⟨Nat.le_of_ble_eq_true rfl, Nat.le_of_ble_eq_true rfl⟩ (fun r_6_3 nw_6_1 l_6_2 H locs hw hO => ?_)
  rcases hw with hw | hw
  · obtain ⟨hr_6_4, rfl, rfl⟩ := hw
    have hO : cO D cy A s.heap s 1 ad (cup [] g) _ _ := hO
    refine lv_if_ne (tgt := 14) hx hb dX11_end_9 (by decide) (fun _ => ?_) (fun h => absurd h (by decide))
    refine lv_aload_n hx hb dX11_end_14 rfl (lv_at hl 0 rfl) ?_
    refine lv_iload_n hx hb dX11_end_15 rfl (lv_at hl 1 rfl) ?_
    refine cg_put hC hO 0 (by decide) o0 rfl i_X11 tyX11_ok nmX11 1 (by decide) (List.mem_of_getElem? (i := 1) rfl) rfl rfl rfl (fs_lt f0_1) dX11_end_16 (fun H locs hO => ?_)
    have hO : cO D cy A s.heap s 1 ad (cup [(0, .inr (11, (f0.set 1 (.int n))))] g) _ _ := hO
    refine lv_iload_n hx hb dX11_end_19 rfl (lv_at hl 1 rfl) ?_
    exact cg_iret (nw := fun _ => 0) hC hr hlk hO.same rfl (Nat.le_of_ble_eq_true rfl) (Nat.le_of_ble_eq_true rfl) (by first | rfl | (simp only [ans_end]; first | rw [if_pos (by first | assumption | (refine ⟨?_, ?_⟩ <;> assumption) | (refine ⟨?_, ?_, ?_⟩ <;> assumption) | (refine ⟨?_, ?_, ?_, ?_, ?_⟩ <;> assumption))] | rw [if_neg (by first | assumption | (intro hz; exact absurd hz.1 (by assumption)) | (intro hz; exact absurd hz.2 (by assumption)) | (intro hz; exact absurd hz.2.1 (by assumption)) | (intro hz; exact absurd hz.2.2 (by assumption)) | (intro hz; exact absurd hz.2.2.1 (by assumption)) | (intro hz; exact absurd hz.2.2.2.1 (by assumption)) | (intro hz; exact absurd hz.2.2.2.2 (by assumption)))])) dX11_end_20
  · obtain ⟨hr_6_5, rfl, rfl⟩ := hw
    have hO : cO D cy A s.heap s 1 ad (cup [] g) _ _ := hO
    refine lv_if_ne (tgt := 14) hx hb dX11_end_9 (by decide) (fun h => absurd h (by decide)) (fun _ => ?_)
    refine lv_iconst (v := (-1)) hx hb dX11_end_12 (by decide) ?_
    exact cg_iret (nw := fun _ => 0) hC hr hlk hO.same rfl (Nat.le_of_ble_eq_true rfl) (Nat.le_of_ble_eq_true rfl) (by first | rfl | (simp only [ans_end]; first | rw [if_pos (by first | assumption | (refine ⟨?_, ?_⟩ <;> assumption) | (refine ⟨?_, ?_, ?_⟩ <;> assumption) | (refine ⟨?_, ?_, ?_, ?_, ?_⟩ <;> assumption))] | rw [if_neg (by first | assumption | (intro hz; exact absurd hz.1 (by assumption)) | (intro hz; exact absurd hz.2 (by assumption)) | (intro hz; exact absurd hz.2.1 (by assumption)) | (intro hz; exact absurd hz.2.2 (by assumption)) | (intro hz; exact absurd hz.2.2.1 (by assumption)) | (intro hz; exact absurd hz.2.2.2.1 (by assumption)) | (intro hz; exact absurd hz.2.2.2.2 (by assumption)))])) dX11_end_13

theorem dX11_isCart_0 : decode cX11_isCart 0 = .ok (.iload_n 1, 1) := by decide +kernel
theorem dX11_isCart_1 : decode cX11_isCart 1 = .ok (.iconst 0, 1) := by decide +kernel
theorem dX11_isCart_2 : decode cX11_isCart 2 = .ok (.aload_n 0, 1) := by decide +kernel
theorem dX11_isCart_3 : decode cX11_isCart 3 = .ok (.getfield 37, 3) := by decide +kernel
theorem dX11_isCart_6 : decode cX11_isCart 6 = .ok (.getfield 49, 3) := by decide +kernel
theorem dX11_isCart_9 : decode cX11_isCart 9 = .ok (.iconst 1, 1) := by decide +kernel
theorem dX11_isCart_10 : decode cX11_isCart 10 = .ok (.isub, 1) := by decide +kernel
theorem dX11_isCart_11 : decode cX11_isCart 11 = .ok (.invokestatic 107, 3) := by decide +kernel
theorem dX11_isCart_14 : decode cX11_isCart 14 = .ok (.ireturn, 1) := by decide +kernel
def wq_c_X11_isCart : List Cond := Cond.code yX11_isCart cX11_isCart 2 (some .boolean) :: (([Cond.fieldLink RX11 37 "CrowToll" "stand" "LCrowToll$Stand;", Cond.fieldLink RX11 49 "CrowToll$Stand" "carts" "I", Cond.methodLink RX11 107 yX11_within, Cond.static yX11_within, Cond.initialized RX11, Cond.code yX11_within cX11_within 3 (some .boolean)] : List Cond) ++ wsX90 ++ wsX110)
set_option maxRecDepth 20000 in
theorem gr_c_X11_isCart_c_X11_within : GoodIn wq_c_X11_isCart wq_c_X11_within := List.forall_mem_cons.mpr ⟨⟨(List.mem_of_getElem? (i := 6) rfl), good_of_word rfl⟩, (fun _ h => absurd h List.not_mem_nil)⟩
set_option maxRecDepth 20000 in
theorem gq_c_X11_isCart_c_X11_within_107 : GoodIn wq_c_X11_isCart (va_wsS RX11 107 yX11_within wq_c_X11_within) := goodIn_app (List.forall_mem_cons.mpr ⟨⟨(List.mem_of_getElem? (i := 3) rfl), good_of_word rfl⟩, List.forall_mem_cons.mpr ⟨⟨(List.mem_of_getElem? (i := 4) rfl), good_of_word rfl⟩, List.forall_mem_cons.mpr ⟨⟨(List.mem_of_getElem? (i := 5) rfl), good_of_word rfl⟩, (fun _ h => absurd h List.not_mem_nil)⟩⟩⟩) gr_c_X11_isCart_c_X11_within
set_option maxHeartbeats 8000000 in
set_option maxRecDepth 100000 in
theorem c_X11_isCart (l : Launch) (D : va_G) (cy : Nat → ClassId) (ad : Nat → Nat) (g : Nat → va_E) {f0 : List Value} {f1 : List Value} {n : Int32} (o0 : g 0 = .inr (11, f0)) (f0_4 : f0[4]? = some (.ref (ad 1))) (o1 : g 1 = .inr (9, f1)) (f1_4 : f1[4]? = some (.int 0)) : cMi l yX11_isCart wq_c_X11_isCart { frames := 1, cells := 0, slots := 0, locals := 22 } 2 0 0 0 D cy ad g [.ref (ad 0), .int n] (fun r nw lu => (r = 0) ∧ (lu = [])) := by
  refine cM_of (Qc := fun A => cQi (fun r nw lu => (r = 0) ∧ (lu = [])) D 2 0 ad g A) (cc := cX11_isCart) (maxL := 2) (ret := (some .boolean)) (by decide) rfl (Nat.le_of_ble_eq_true rfl) ?_
  intro p e s m below meth c A hC hr hlk hnm hO ls hl
  have hC : CallFix p m c cX11_isCart 2 s [.ref (ad 0), .int n].toArray wq_c_X11_isCart RX11 := hC
  obtain ⟨hx, hb, hml, hown, hts⟩ := id hC
  have hl : lv_has ls 2 [(0, .ref (ad 0)), (1, .int n)] := hl
  have i_X11 : ∀ w ∈ wsX110, w ∈ wq_c_X11_isCart := fun w h => List.mem_cons_of_mem _ (List.mem_append_right _ h)
  have i_X9 : ∀ w ∈ wsX90, w ∈ wq_c_X11_isCart := fun w h => List.mem_cons_of_mem _ (List.mem_append_left _ (List.mem_append_right _ h))
  refine lv_iload_n hx hb dX11_isCart_0 rfl (lv_at hl 1 rfl) ?_
  refine lv_iconst (v := 0) hx hb dX11_isCart_1 (by decide) ?_
  refine lv_aload_n hx hb dX11_isCart_2 rfl (lv_at hl 0 rfl) ?_
  refine cg_get hC hO 0 (by decide) o0 rfl i_X11 4 (by decide) (List.mem_of_getElem? (i := 1) rfl) f0_4 dX11_isCart_3 ?_
  refine cg_get hC hO 1 (by decide) o1 rfl i_X9 4 (by decide) (List.mem_of_getElem? (i := 2) rfl) f1_4 dX11_isCart_6 ?_
  refine lv_iconst (v := 1) hx hb dX11_isCart_9 (by decide) ?_
  refine lv_isub hx hb dX11_isCart_10 ?_
  refine cg_ev (v := (-1)) (by decide) ?_
  refine cg_Si (As := [.int n, .int 0, .int (-1)]) (rest := []) (mc := 0) (ms := 0) (rm := { frames := 0, cells := 0, slots := 0, locals := 0 }) hC hl.1 hO [] rfl (c_X11_within l D cy _ _ (x := n) (y := 0) (z := (-1)) ) gq_c_X11_isCart_c_X11_within_107 rfl rfl rfl 3 (by decide +kernel) ⟨Nat.le_of_ble_eq_true rfl, Nat.le_of_ble_eq_true rfl⟩ rfl rfl (Nat.le_of_ble_eq_true rfl) dX11_isCart_11 ⟨Nat.le_of_ble_eq_true rfl, Nat.le_of_ble_eq_true rfl⟩ (fun r_11_3 nw_11_1 l_11_2 H locs hw hO => ?_)
  rcases hw with hw | hw
  · obtain ⟨hr_11_4, rfl, rfl⟩ := hw
    exact absurd (Int32.le_trans hr_11_4.1 hr_11_4.2) (by decide)
  · obtain ⟨hr_11_5, rfl, rfl⟩ := hw
    have hO : cO D cy A s.heap s 2 ad (cup [] g) _ _ := hO
    exact cg_iret (nw := fun _ => 0) hC hr hlk hO.same rfl (Nat.le_of_ble_eq_true rfl) (Nat.le_of_ble_eq_true rfl) (⟨rfl, rfl⟩) dX11_isCart_14

theorem dX11_isPost_0 : decode cX11_isPost 0 = .ok (.iload_n 1, 1) := by decide +kernel
theorem dX11_isPost_1 : decode cX11_isPost 1 = .ok (.iconst 0, 1) := by decide +kernel
theorem dX11_isPost_2 : decode cX11_isPost 2 = .ok (.aload_n 0, 1) := by decide +kernel
theorem dX11_isPost_3 : decode cX11_isPost 3 = .ok (.getfield 27, 3) := by decide +kernel
theorem dX11_isPost_6 : decode cX11_isPost 6 = .ok (.getfield 250, 3) := by decide +kernel
theorem dX11_isPost_9 : decode cX11_isPost 9 = .ok (.iconst 1, 1) := by decide +kernel
theorem dX11_isPost_10 : decode cX11_isPost 10 = .ok (.isub, 1) := by decide +kernel
theorem dX11_isPost_11 : decode cX11_isPost 11 = .ok (.invokestatic 107, 3) := by decide +kernel
theorem dX11_isPost_14 : decode cX11_isPost 14 = .ok (.ireturn, 1) := by decide +kernel
def wq_c_X11_isPost : List Cond := Cond.code yX11_isPost cX11_isPost 2 (some .boolean) :: (([Cond.fieldLink RX11 27 "CrowToll" "told" "LCrowToll$Road;", Cond.fieldLink RX11 250 "CrowToll$Road" "posts" "I", Cond.methodLink RX11 107 yX11_within, Cond.static yX11_within, Cond.initialized RX11, Cond.code yX11_within cX11_within 3 (some .boolean)] : List Cond) ++ wsX70 ++ wsX110)
set_option maxRecDepth 20000 in
theorem gr_c_X11_isPost_c_X11_within : GoodIn wq_c_X11_isPost wq_c_X11_within := List.forall_mem_cons.mpr ⟨⟨(List.mem_of_getElem? (i := 6) rfl), good_of_word rfl⟩, (fun _ h => absurd h List.not_mem_nil)⟩
set_option maxRecDepth 20000 in
theorem gq_c_X11_isPost_c_X11_within_107 : GoodIn wq_c_X11_isPost (va_wsS RX11 107 yX11_within wq_c_X11_within) := goodIn_app (List.forall_mem_cons.mpr ⟨⟨(List.mem_of_getElem? (i := 3) rfl), good_of_word rfl⟩, List.forall_mem_cons.mpr ⟨⟨(List.mem_of_getElem? (i := 4) rfl), good_of_word rfl⟩, List.forall_mem_cons.mpr ⟨⟨(List.mem_of_getElem? (i := 5) rfl), good_of_word rfl⟩, (fun _ h => absurd h List.not_mem_nil)⟩⟩⟩) gr_c_X11_isPost_c_X11_within
set_option maxHeartbeats 8000000 in
set_option maxRecDepth 100000 in
theorem c_X11_isPost (l : Launch) (D : va_G) (cy : Nat → ClassId) (ad : Nat → Nat) (g : Nat → va_E) {f0 : List Value} {f1 : List Value} {n : Int32} (o0 : g 0 = .inr (11, f0)) (f0_3 : f0[3]? = some (.ref (ad 1))) (o1 : g 1 = .inr (7, f1)) (f1_11 : f1[11]? = some (.int 0)) : cMi l yX11_isPost wq_c_X11_isPost { frames := 1, cells := 0, slots := 0, locals := 22 } 2 0 0 0 D cy ad g [.ref (ad 0), .int n] (fun r nw lu => (r = 0) ∧ (lu = [])) := by
  refine cM_of (Qc := fun A => cQi (fun r nw lu => (r = 0) ∧ (lu = [])) D 2 0 ad g A) (cc := cX11_isPost) (maxL := 2) (ret := (some .boolean)) (by decide) rfl (Nat.le_of_ble_eq_true rfl) ?_
  intro p e s m below meth c A hC hr hlk hnm hO ls hl
  have hC : CallFix p m c cX11_isPost 2 s [.ref (ad 0), .int n].toArray wq_c_X11_isPost RX11 := hC
  obtain ⟨hx, hb, hml, hown, hts⟩ := id hC
  have hl : lv_has ls 2 [(0, .ref (ad 0)), (1, .int n)] := hl
  have i_X11 : ∀ w ∈ wsX110, w ∈ wq_c_X11_isPost := fun w h => List.mem_cons_of_mem _ (List.mem_append_right _ h)
  have i_X7 : ∀ w ∈ wsX70, w ∈ wq_c_X11_isPost := fun w h => List.mem_cons_of_mem _ (List.mem_append_left _ (List.mem_append_right _ h))
  refine lv_iload_n hx hb dX11_isPost_0 rfl (lv_at hl 1 rfl) ?_
  refine lv_iconst (v := 0) hx hb dX11_isPost_1 (by decide) ?_
  refine lv_aload_n hx hb dX11_isPost_2 rfl (lv_at hl 0 rfl) ?_
  refine cg_get hC hO 0 (by decide) o0 rfl i_X11 3 (by decide) (List.mem_of_getElem? (i := 1) rfl) f0_3 dX11_isPost_3 ?_
  refine cg_get hC hO 1 (by decide) o1 rfl i_X7 11 (by decide) (List.mem_of_getElem? (i := 2) rfl) f1_11 dX11_isPost_6 ?_
  refine lv_iconst (v := 1) hx hb dX11_isPost_9 (by decide) ?_
  refine lv_isub hx hb dX11_isPost_10 ?_
  refine cg_ev (v := (-1)) (by decide) ?_
  refine cg_Si (As := [.int n, .int 0, .int (-1)]) (rest := []) (mc := 0) (ms := 0) (rm := { frames := 0, cells := 0, slots := 0, locals := 0 }) hC hl.1 hO [] rfl (c_X11_within l D cy _ _ (x := n) (y := 0) (z := (-1)) ) gq_c_X11_isPost_c_X11_within_107 rfl rfl rfl 3 (by decide +kernel) ⟨Nat.le_of_ble_eq_true rfl, Nat.le_of_ble_eq_true rfl⟩ rfl rfl (Nat.le_of_ble_eq_true rfl) dX11_isPost_11 ⟨Nat.le_of_ble_eq_true rfl, Nat.le_of_ble_eq_true rfl⟩ (fun r_11_3 nw_11_1 l_11_2 H locs hw hO => ?_)
  rcases hw with hw | hw
  · obtain ⟨hr_11_4, rfl, rfl⟩ := hw
    exact absurd (Int32.le_trans hr_11_4.1 hr_11_4.2) (by decide)
  · obtain ⟨hr_11_5, rfl, rfl⟩ := hw
    have hO : cO D cy A s.heap s 2 ad (cup [] g) _ _ := hO
    exact cg_iret (nw := fun _ => 0) hC hr hlk hO.same rfl (Nat.le_of_ble_eq_true rfl) (Nat.le_of_ble_eq_true rfl) (⟨rfl, rfl⟩) dX11_isPost_14

theorem dX11_isBird_0 : decode cX11_isBird 0 = .ok (.iload_n 1, 1) := by decide +kernel
theorem dX11_isBird_1 : decode cX11_isBird 1 = .ok (.iconst 0, 1) := by decide +kernel
theorem dX11_isBird_2 : decode cX11_isBird 2 = .ok (.aload_n 0, 1) := by decide +kernel
theorem dX11_isBird_3 : decode cX11_isBird 3 = .ok (.getfield 27, 3) := by decide +kernel
theorem dX11_isBird_6 : decode cX11_isBird 6 = .ok (.getfield 247, 3) := by decide +kernel
theorem dX11_isBird_9 : decode cX11_isBird 9 = .ok (.iconst 1, 1) := by decide +kernel
theorem dX11_isBird_10 : decode cX11_isBird 10 = .ok (.isub, 1) := by decide +kernel
theorem dX11_isBird_11 : decode cX11_isBird 11 = .ok (.invokestatic 107, 3) := by decide +kernel
theorem dX11_isBird_14 : decode cX11_isBird 14 = .ok (.ireturn, 1) := by decide +kernel
def wq_c_X11_isBird : List Cond := Cond.code yX11_isBird cX11_isBird 2 (some .boolean) :: (([Cond.fieldLink RX11 27 "CrowToll" "told" "LCrowToll$Road;", Cond.fieldLink RX11 247 "CrowToll$Road" "birds" "I", Cond.methodLink RX11 107 yX11_within, Cond.static yX11_within, Cond.initialized RX11, Cond.code yX11_within cX11_within 3 (some .boolean)] : List Cond) ++ wsX70 ++ wsX110)
set_option maxRecDepth 20000 in
theorem gr_c_X11_isBird_c_X11_within : GoodIn wq_c_X11_isBird wq_c_X11_within := List.forall_mem_cons.mpr ⟨⟨(List.mem_of_getElem? (i := 6) rfl), good_of_word rfl⟩, (fun _ h => absurd h List.not_mem_nil)⟩
set_option maxRecDepth 20000 in
theorem gq_c_X11_isBird_c_X11_within_107 : GoodIn wq_c_X11_isBird (va_wsS RX11 107 yX11_within wq_c_X11_within) := goodIn_app (List.forall_mem_cons.mpr ⟨⟨(List.mem_of_getElem? (i := 3) rfl), good_of_word rfl⟩, List.forall_mem_cons.mpr ⟨⟨(List.mem_of_getElem? (i := 4) rfl), good_of_word rfl⟩, List.forall_mem_cons.mpr ⟨⟨(List.mem_of_getElem? (i := 5) rfl), good_of_word rfl⟩, (fun _ h => absurd h List.not_mem_nil)⟩⟩⟩) gr_c_X11_isBird_c_X11_within
set_option maxHeartbeats 8000000 in
set_option maxRecDepth 100000 in
theorem c_X11_isBird (l : Launch) (D : va_G) (cy : Nat → ClassId) (ad : Nat → Nat) (g : Nat → va_E) {f0 : List Value} {f1 : List Value} {n : Int32} (o0 : g 0 = .inr (11, f0)) (f0_3 : f0[3]? = some (.ref (ad 1))) (o1 : g 1 = .inr (7, f1)) (f1_5 : f1[5]? = some (.int 0)) : cMi l yX11_isBird wq_c_X11_isBird { frames := 1, cells := 0, slots := 0, locals := 22 } 2 0 0 0 D cy ad g [.ref (ad 0), .int n] (fun r nw lu => (r = 0) ∧ (lu = [])) := by
  refine cM_of (Qc := fun A => cQi (fun r nw lu => (r = 0) ∧ (lu = [])) D 2 0 ad g A) (cc := cX11_isBird) (maxL := 2) (ret := (some .boolean)) (by decide) rfl (Nat.le_of_ble_eq_true rfl) ?_
  intro p e s m below meth c A hC hr hlk hnm hO ls hl
  have hC : CallFix p m c cX11_isBird 2 s [.ref (ad 0), .int n].toArray wq_c_X11_isBird RX11 := hC
  obtain ⟨hx, hb, hml, hown, hts⟩ := id hC
  have hl : lv_has ls 2 [(0, .ref (ad 0)), (1, .int n)] := hl
  have i_X11 : ∀ w ∈ wsX110, w ∈ wq_c_X11_isBird := fun w h => List.mem_cons_of_mem _ (List.mem_append_right _ h)
  have i_X7 : ∀ w ∈ wsX70, w ∈ wq_c_X11_isBird := fun w h => List.mem_cons_of_mem _ (List.mem_append_left _ (List.mem_append_right _ h))
  refine lv_iload_n hx hb dX11_isBird_0 rfl (lv_at hl 1 rfl) ?_
  refine lv_iconst (v := 0) hx hb dX11_isBird_1 (by decide) ?_
  refine lv_aload_n hx hb dX11_isBird_2 rfl (lv_at hl 0 rfl) ?_
  refine cg_get hC hO 0 (by decide) o0 rfl i_X11 3 (by decide) (List.mem_of_getElem? (i := 1) rfl) f0_3 dX11_isBird_3 ?_
  refine cg_get hC hO 1 (by decide) o1 rfl i_X7 5 (by decide) (List.mem_of_getElem? (i := 2) rfl) f1_5 dX11_isBird_6 ?_
  refine lv_iconst (v := 1) hx hb dX11_isBird_9 (by decide) ?_
  refine lv_isub hx hb dX11_isBird_10 ?_
  refine cg_ev (v := (-1)) (by decide) ?_
  refine cg_Si (As := [.int n, .int 0, .int (-1)]) (rest := []) (mc := 0) (ms := 0) (rm := { frames := 0, cells := 0, slots := 0, locals := 0 }) hC hl.1 hO [] rfl (c_X11_within l D cy _ _ (x := n) (y := 0) (z := (-1)) ) gq_c_X11_isBird_c_X11_within_107 rfl rfl rfl 3 (by decide +kernel) ⟨Nat.le_of_ble_eq_true rfl, Nat.le_of_ble_eq_true rfl⟩ rfl rfl (Nat.le_of_ble_eq_true rfl) dX11_isBird_11 ⟨Nat.le_of_ble_eq_true rfl, Nat.le_of_ble_eq_true rfl⟩ (fun r_11_3 nw_11_1 l_11_2 H locs hw hO => ?_)
  rcases hw with hw | hw
  · obtain ⟨hr_11_4, rfl, rfl⟩ := hw
    exact absurd (Int32.le_trans hr_11_4.1 hr_11_4.2) (by decide)
  · obtain ⟨hr_11_5, rfl, rfl⟩ := hw
    have hO : cO D cy A s.heap s 2 ad (cup [] g) _ _ := hO
    exact cg_iret (nw := fun _ => 0) hC hr hlk hO.same rfl (Nat.le_of_ble_eq_true rfl) (Nat.le_of_ble_eq_true rfl) (⟨rfl, rfl⟩) dX11_isBird_14

theorem dX11_cart_0 : decode cX11_cart 0 = .ok (.aload_n 0, 1) := by decide +kernel
theorem dX11_cart_1 : decode cX11_cart 1 = .ok (.iload_n 1, 1) := by decide +kernel
theorem dX11_cart_2 : decode cX11_cart 2 = .ok (.invokevirtual 135, 3) := by decide +kernel
theorem dX11_cart_5 : decode cX11_cart 5 = .ok (.ifCond .ne 5, 3) := by decide +kernel
theorem dX11_cart_8 : decode cX11_cart 8 = .ok (.iconst (-1), 1) := by decide +kernel
theorem dX11_cart_9 : decode cX11_cart 9 = .ok (.ireturn, 1) := by decide +kernel
def wq_c_X11_cart : List Cond := Cond.code yX11_cart cX11_cart 3 (some .int) :: (([Cond.methodLink RX11 135 yX11_isCart, Cond.instanceMethod yX11_isCart, Cond.selects RX11 yX11_isCart yX11_isCart, Cond.initialized RX11, Cond.code yX11_isCart cX11_isCart 2 (some .boolean), Cond.fieldLink RX11 37 "CrowToll" "stand" "LCrowToll$Stand;", Cond.fieldLink RX11 49 "CrowToll$Stand" "carts" "I", Cond.methodLink RX11 107 yX11_within, Cond.static yX11_within, Cond.code yX11_within cX11_within 3 (some .boolean)] : List Cond) ++ wsX90 ++ wsX110)
set_option maxRecDepth 20000 in
theorem gr_c_X11_cart_c_X11_isCart : GoodIn wq_c_X11_cart wq_c_X11_isCart := List.forall_mem_cons.mpr ⟨⟨(List.mem_of_getElem? (i := 5) rfl), good_of_word rfl⟩, List.forall_mem_append.mpr ⟨List.forall_mem_append.mpr ⟨List.forall_mem_cons.mpr ⟨⟨(List.mem_of_getElem? (i := 6) rfl), good_of_word rfl⟩, List.forall_mem_cons.mpr ⟨⟨(List.mem_of_getElem? (i := 7) rfl), good_of_word rfl⟩, List.forall_mem_cons.mpr ⟨⟨(List.mem_of_getElem? (i := 8) rfl), good_of_word rfl⟩, List.forall_mem_cons.mpr ⟨⟨(List.mem_of_getElem? (i := 9) rfl), good_of_word rfl⟩, List.forall_mem_cons.mpr ⟨⟨(List.mem_of_getElem? (i := 4) rfl), good_of_word rfl⟩, List.forall_mem_cons.mpr ⟨⟨(List.mem_of_getElem? (i := 10) rfl), good_of_word rfl⟩, (fun _ h => absurd h List.not_mem_nil)⟩⟩⟩⟩⟩⟩, fun w h => ⟨(fun w h => List.mem_cons_of_mem _ (List.mem_append_left _ (List.mem_append_right _ h))) w h, good_of_word (List.all_eq_true.mp gw_X9 w h)⟩⟩, fun w h => ⟨(fun w h => List.mem_cons_of_mem _ (List.mem_append_right _ h)) w h, good_of_word (List.all_eq_true.mp gw_X11 w h)⟩⟩⟩
set_option maxRecDepth 20000 in
theorem gq_c_X11_cart_c_X11_isCart_135 : GoodIn wq_c_X11_cart (wsV RX11 135 RX11 yX11_isCart wq_c_X11_isCart) := goodIn_app (List.forall_mem_cons.mpr ⟨⟨(List.mem_of_getElem? (i := 1) rfl), good_of_word rfl⟩, List.forall_mem_cons.mpr ⟨⟨(List.mem_of_getElem? (i := 2) rfl), good_of_word rfl⟩, List.forall_mem_cons.mpr ⟨⟨(List.mem_of_getElem? (i := 3) rfl), good_of_word rfl⟩, List.forall_mem_cons.mpr ⟨⟨(List.mem_of_getElem? (i := 4) rfl), good_of_word rfl⟩, (fun _ h => absurd h List.not_mem_nil)⟩⟩⟩⟩) gr_c_X11_cart_c_X11_isCart
set_option maxHeartbeats 8000000 in
set_option maxRecDepth 100000 in
theorem c_X11_cart (l : Launch) (D : va_G) (cy : Nat → ClassId) (ad : Nat → Nat) (g : Nat → va_E) {f0 : List Value} {f1 : List Value} {n : Int32} {q : Int32} (o0 : g 0 = .inr (11, f0)) (f0_4 : f0[4]? = some (.ref (ad 1))) (o1 : g 1 = .inr (9, f1)) (f1_4 : f1[4]? = some (.int 0)) : cMi l yX11_cart wq_c_X11_cart { frames := 2, cells := 0, slots := 0, locals := 43 } 2 0 0 0 D cy ad g [.ref (ad 0), .int n, .int q] (fun r nw lu => r = -1) := by
  refine cM_of (Qc := fun A => cQi (fun r nw lu => r = -1) D 2 0 ad g A) (cc := cX11_cart) (maxL := 3) (ret := (some .int)) (by decide) rfl (Nat.le_of_ble_eq_true rfl) ?_
  intro p e s m below meth c A hC hr hlk hnm hO ls hl
  have hC : CallFix p m c cX11_cart 3 s [.ref (ad 0), .int n, .int q].toArray wq_c_X11_cart RX11 := hC
  obtain ⟨hx, hb, hml, hown, hts⟩ := id hC
  have hl : lv_has ls 3 [(0, .ref (ad 0)), (1, .int n), (2, .int q)] := hl
  have i_X11 : ∀ w ∈ wsX110, w ∈ wq_c_X11_cart := fun w h => List.mem_cons_of_mem _ (List.mem_append_right _ h)
  have i_X9 : ∀ w ∈ wsX90, w ∈ wq_c_X11_cart := fun w h => List.mem_cons_of_mem _ (List.mem_append_left _ (List.mem_append_right _ h))
  refine lv_aload_n hx hb dX11_cart_0 rfl (lv_at hl 0 rfl) ?_
  refine lv_iload_n hx hb dX11_cart_1 rfl (lv_at hl 1 rfl) ?_
  refine cg_Vi (As := [.int n]) (rest := []) (mc := 0) (ms := 0) (rm := { frames := 1, cells := 0, slots := 0, locals := 22 }) hC hl.1 hO [0, 1] rfl (c_X11_isCart l D cy _ _ (f0 := f0) (f1 := f1) (n := n) o0 f0_4 o1 f1_4) gq_c_X11_cart_c_X11_isCart_135 rfl rfl rfl 1 (by decide +kernel) ⟨Nat.le_of_ble_eq_true rfl, Nat.le_of_ble_eq_true rfl⟩ rfl (by decide) o0 rfl rfl (Nat.le_of_ble_eq_true rfl) dX11_cart_2 ⟨Nat.le_of_ble_eq_true rfl, Nat.le_of_ble_eq_true rfl⟩ (fun r_2_3 nw_2_1 l_2_2 H locs hw hO => ?_)
  obtain ⟨rfl, rfl⟩ := hw
  have hO : cO D cy A s.heap s 2 ad (cup [] g) _ _ := hO
  refine lv_if_ne (tgt := 10) hx hb dX11_cart_5 (by decide) (fun h => absurd h (by decide)) (fun _ => ?_)
  refine lv_iconst (v := (-1)) hx hb dX11_cart_8 (by decide) ?_
  exact cg_iret (nw := fun _ => 0) hC hr hlk hO.same rfl (Nat.le_of_ble_eq_true rfl) (Nat.le_of_ble_eq_true rfl) rfl dX11_cart_9

theorem dX11_counter_0 : decode cX11_counter 0 = .ok (.aload_n 0, 1) := by decide +kernel
theorem dX11_counter_1 : decode cX11_counter 1 = .ok (.iload_n 1, 1) := by decide +kernel
theorem dX11_counter_2 : decode cX11_counter 2 = .ok (.invokevirtual 135, 3) := by decide +kernel
theorem dX11_counter_5 : decode cX11_counter 5 = .ok (.ifCond .eq 27, 3) := by decide +kernel
theorem dX11_counter_32 : decode cX11_counter 32 = .ok (.bipush (-2), 2) := by decide +kernel
theorem dX11_counter_34 : decode cX11_counter 34 = .ok (.ireturn, 1) := by decide +kernel
def wq_c_X11_counter : List Cond := Cond.code yX11_counter cX11_counter 3 (some .int) :: (([Cond.methodLink RX11 135 yX11_isCart, Cond.instanceMethod yX11_isCart, Cond.selects RX11 yX11_isCart yX11_isCart, Cond.initialized RX11, Cond.code yX11_isCart cX11_isCart 2 (some .boolean), Cond.fieldLink RX11 37 "CrowToll" "stand" "LCrowToll$Stand;", Cond.fieldLink RX11 49 "CrowToll$Stand" "carts" "I", Cond.methodLink RX11 107 yX11_within, Cond.static yX11_within, Cond.code yX11_within cX11_within 3 (some .boolean)] : List Cond) ++ wsX90 ++ wsX110)
set_option maxRecDepth 20000 in
theorem gr_c_X11_counter_c_X11_isCart : GoodIn wq_c_X11_counter wq_c_X11_isCart := List.forall_mem_cons.mpr ⟨⟨(List.mem_of_getElem? (i := 5) rfl), good_of_word rfl⟩, List.forall_mem_append.mpr ⟨List.forall_mem_append.mpr ⟨List.forall_mem_cons.mpr ⟨⟨(List.mem_of_getElem? (i := 6) rfl), good_of_word rfl⟩, List.forall_mem_cons.mpr ⟨⟨(List.mem_of_getElem? (i := 7) rfl), good_of_word rfl⟩, List.forall_mem_cons.mpr ⟨⟨(List.mem_of_getElem? (i := 8) rfl), good_of_word rfl⟩, List.forall_mem_cons.mpr ⟨⟨(List.mem_of_getElem? (i := 9) rfl), good_of_word rfl⟩, List.forall_mem_cons.mpr ⟨⟨(List.mem_of_getElem? (i := 4) rfl), good_of_word rfl⟩, List.forall_mem_cons.mpr ⟨⟨(List.mem_of_getElem? (i := 10) rfl), good_of_word rfl⟩, (fun _ h => absurd h List.not_mem_nil)⟩⟩⟩⟩⟩⟩, fun w h => ⟨(fun w h => List.mem_cons_of_mem _ (List.mem_append_left _ (List.mem_append_right _ h))) w h, good_of_word (List.all_eq_true.mp gw_X9 w h)⟩⟩, fun w h => ⟨(fun w h => List.mem_cons_of_mem _ (List.mem_append_right _ h)) w h, good_of_word (List.all_eq_true.mp gw_X11 w h)⟩⟩⟩
set_option maxRecDepth 20000 in
theorem gq_c_X11_counter_c_X11_isCart_135 : GoodIn wq_c_X11_counter (wsV RX11 135 RX11 yX11_isCart wq_c_X11_isCart) := goodIn_app (List.forall_mem_cons.mpr ⟨⟨(List.mem_of_getElem? (i := 1) rfl), good_of_word rfl⟩, List.forall_mem_cons.mpr ⟨⟨(List.mem_of_getElem? (i := 2) rfl), good_of_word rfl⟩, List.forall_mem_cons.mpr ⟨⟨(List.mem_of_getElem? (i := 3) rfl), good_of_word rfl⟩, List.forall_mem_cons.mpr ⟨⟨(List.mem_of_getElem? (i := 4) rfl), good_of_word rfl⟩, (fun _ h => absurd h List.not_mem_nil)⟩⟩⟩⟩) gr_c_X11_counter_c_X11_isCart
set_option maxHeartbeats 8000000 in
set_option maxRecDepth 100000 in
theorem c_X11_counter (l : Launch) (D : va_G) (cy : Nat → ClassId) (ad : Nat → Nat) (g : Nat → va_E) {f0 : List Value} {f1 : List Value} {n : Int32} {q : Int32} (o0 : g 0 = .inr (11, f0)) (f0_4 : f0[4]? = some (.ref (ad 1))) (o1 : g 1 = .inr (9, f1)) (f1_4 : f1[4]? = some (.int 0)) : cMi l yX11_counter wq_c_X11_counter { frames := 2, cells := 0, slots := 0, locals := 43 } 2 0 0 0 D cy ad g [.ref (ad 0), .int n, .int q] (fun r nw lu => r = -2) := by
  refine cM_of (Qc := fun A => cQi (fun r nw lu => r = -2) D 2 0 ad g A) (cc := cX11_counter) (maxL := 3) (ret := (some .int)) (by decide) rfl (Nat.le_of_ble_eq_true rfl) ?_
  intro p e s m below meth c A hC hr hlk hnm hO ls hl
  have hC : CallFix p m c cX11_counter 3 s [.ref (ad 0), .int n, .int q].toArray wq_c_X11_counter RX11 := hC
  obtain ⟨hx, hb, hml, hown, hts⟩ := id hC
  have hl : lv_has ls 3 [(0, .ref (ad 0)), (1, .int n), (2, .int q)] := hl
  have i_X11 : ∀ w ∈ wsX110, w ∈ wq_c_X11_counter := fun w h => List.mem_cons_of_mem _ (List.mem_append_right _ h)
  have i_X9 : ∀ w ∈ wsX90, w ∈ wq_c_X11_counter := fun w h => List.mem_cons_of_mem _ (List.mem_append_left _ (List.mem_append_right _ h))
  refine lv_aload_n hx hb dX11_counter_0 rfl (lv_at hl 0 rfl) ?_
  refine lv_iload_n hx hb dX11_counter_1 rfl (lv_at hl 1 rfl) ?_
  refine cg_Vi (As := [.int n]) (rest := []) (mc := 0) (ms := 0) (rm := { frames := 1, cells := 0, slots := 0, locals := 22 }) hC hl.1 hO [0, 1] rfl (c_X11_isCart l D cy _ _ (f0 := f0) (f1 := f1) (n := n) o0 f0_4 o1 f1_4) gq_c_X11_counter_c_X11_isCart_135 rfl rfl rfl 1 (by decide +kernel) ⟨Nat.le_of_ble_eq_true rfl, Nat.le_of_ble_eq_true rfl⟩ rfl (by decide) o0 rfl rfl (Nat.le_of_ble_eq_true rfl) dX11_counter_2 ⟨Nat.le_of_ble_eq_true rfl, Nat.le_of_ble_eq_true rfl⟩ (fun r_2_3 nw_2_1 l_2_2 H locs hw hO => ?_)
  obtain ⟨rfl, rfl⟩ := hw
  have hO : cO D cy A s.heap s 2 ad (cup [] g) _ _ := hO
  refine lv_if_eq (tgt := 32) hx hb dX11_counter_5 (by decide) (fun _ => ?_) (fun h => absurd h (by decide))
  refine lv_bipush (v := (-2)) hx hb dX11_counter_32 (by decide) ?_
  exact cg_iret (nw := fun _ => 0) hC hr hlk hO.same rfl (Nat.le_of_ble_eq_true rfl) (Nat.le_of_ble_eq_true rfl) rfl dX11_counter_34

theorem dX11_pays_0 : decode cX11_pays 0 = .ok (.aload_n 0, 1) := by decide +kernel
theorem dX11_pays_1 : decode cX11_pays 1 = .ok (.iload_n 1, 1) := by decide +kernel
theorem dX11_pays_2 : decode cX11_pays 2 = .ok (.invokevirtual 135, 3) := by decide +kernel
theorem dX11_pays_5 : decode cX11_pays 5 = .ok (.ifCond .eq 27, 3) := by decide +kernel
theorem dX11_pays_32 : decode cX11_pays 32 = .ok (.iconst (-1), 1) := by decide +kernel
theorem dX11_pays_33 : decode cX11_pays 33 = .ok (.ireturn, 1) := by decide +kernel
def wq_c_X11_pays : List Cond := Cond.code yX11_pays cX11_pays 3 (some .int) :: (([Cond.methodLink RX11 135 yX11_isCart, Cond.instanceMethod yX11_isCart, Cond.selects RX11 yX11_isCart yX11_isCart, Cond.initialized RX11, Cond.code yX11_isCart cX11_isCart 2 (some .boolean), Cond.fieldLink RX11 37 "CrowToll" "stand" "LCrowToll$Stand;", Cond.fieldLink RX11 49 "CrowToll$Stand" "carts" "I", Cond.methodLink RX11 107 yX11_within, Cond.static yX11_within, Cond.code yX11_within cX11_within 3 (some .boolean)] : List Cond) ++ wsX90 ++ wsX110)
set_option maxRecDepth 20000 in
theorem gr_c_X11_pays_c_X11_isCart : GoodIn wq_c_X11_pays wq_c_X11_isCart := List.forall_mem_cons.mpr ⟨⟨(List.mem_of_getElem? (i := 5) rfl), good_of_word rfl⟩, List.forall_mem_append.mpr ⟨List.forall_mem_append.mpr ⟨List.forall_mem_cons.mpr ⟨⟨(List.mem_of_getElem? (i := 6) rfl), good_of_word rfl⟩, List.forall_mem_cons.mpr ⟨⟨(List.mem_of_getElem? (i := 7) rfl), good_of_word rfl⟩, List.forall_mem_cons.mpr ⟨⟨(List.mem_of_getElem? (i := 8) rfl), good_of_word rfl⟩, List.forall_mem_cons.mpr ⟨⟨(List.mem_of_getElem? (i := 9) rfl), good_of_word rfl⟩, List.forall_mem_cons.mpr ⟨⟨(List.mem_of_getElem? (i := 4) rfl), good_of_word rfl⟩, List.forall_mem_cons.mpr ⟨⟨(List.mem_of_getElem? (i := 10) rfl), good_of_word rfl⟩, (fun _ h => absurd h List.not_mem_nil)⟩⟩⟩⟩⟩⟩, fun w h => ⟨(fun w h => List.mem_cons_of_mem _ (List.mem_append_left _ (List.mem_append_right _ h))) w h, good_of_word (List.all_eq_true.mp gw_X9 w h)⟩⟩, fun w h => ⟨(fun w h => List.mem_cons_of_mem _ (List.mem_append_right _ h)) w h, good_of_word (List.all_eq_true.mp gw_X11 w h)⟩⟩⟩
set_option maxRecDepth 20000 in
theorem gq_c_X11_pays_c_X11_isCart_135 : GoodIn wq_c_X11_pays (wsV RX11 135 RX11 yX11_isCart wq_c_X11_isCart) := goodIn_app (List.forall_mem_cons.mpr ⟨⟨(List.mem_of_getElem? (i := 1) rfl), good_of_word rfl⟩, List.forall_mem_cons.mpr ⟨⟨(List.mem_of_getElem? (i := 2) rfl), good_of_word rfl⟩, List.forall_mem_cons.mpr ⟨⟨(List.mem_of_getElem? (i := 3) rfl), good_of_word rfl⟩, List.forall_mem_cons.mpr ⟨⟨(List.mem_of_getElem? (i := 4) rfl), good_of_word rfl⟩, (fun _ h => absurd h List.not_mem_nil)⟩⟩⟩⟩) gr_c_X11_pays_c_X11_isCart
set_option maxHeartbeats 8000000 in
set_option maxRecDepth 100000 in
theorem c_X11_pays (l : Launch) (D : va_G) (cy : Nat → ClassId) (ad : Nat → Nat) (g : Nat → va_E) {f0 : List Value} {f1 : List Value} {n : Int32} {q : Int32} (o0 : g 0 = .inr (11, f0)) (f0_4 : f0[4]? = some (.ref (ad 1))) (o1 : g 1 = .inr (9, f1)) (f1_4 : f1[4]? = some (.int 0)) : cMi l yX11_pays wq_c_X11_pays { frames := 2, cells := 0, slots := 0, locals := 43 } 2 0 0 0 D cy ad g [.ref (ad 0), .int n, .int q] (fun r nw lu => r = -1) := by
  refine cM_of (Qc := fun A => cQi (fun r nw lu => r = -1) D 2 0 ad g A) (cc := cX11_pays) (maxL := 3) (ret := (some .int)) (by decide) rfl (Nat.le_of_ble_eq_true rfl) ?_
  intro p e s m below meth c A hC hr hlk hnm hO ls hl
  have hC : CallFix p m c cX11_pays 3 s [.ref (ad 0), .int n, .int q].toArray wq_c_X11_pays RX11 := hC
  obtain ⟨hx, hb, hml, hown, hts⟩ := id hC
  have hl : lv_has ls 3 [(0, .ref (ad 0)), (1, .int n), (2, .int q)] := hl
  have i_X11 : ∀ w ∈ wsX110, w ∈ wq_c_X11_pays := fun w h => List.mem_cons_of_mem _ (List.mem_append_right _ h)
  have i_X9 : ∀ w ∈ wsX90, w ∈ wq_c_X11_pays := fun w h => List.mem_cons_of_mem _ (List.mem_append_left _ (List.mem_append_right _ h))
  refine lv_aload_n hx hb dX11_pays_0 rfl (lv_at hl 0 rfl) ?_
  refine lv_iload_n hx hb dX11_pays_1 rfl (lv_at hl 1 rfl) ?_
  refine cg_Vi (As := [.int n]) (rest := []) (mc := 0) (ms := 0) (rm := { frames := 1, cells := 0, slots := 0, locals := 22 }) hC hl.1 hO [0, 1] rfl (c_X11_isCart l D cy _ _ (f0 := f0) (f1 := f1) (n := n) o0 f0_4 o1 f1_4) gq_c_X11_pays_c_X11_isCart_135 rfl rfl rfl 1 (by decide +kernel) ⟨Nat.le_of_ble_eq_true rfl, Nat.le_of_ble_eq_true rfl⟩ rfl (by decide) o0 rfl rfl (Nat.le_of_ble_eq_true rfl) dX11_pays_2 ⟨Nat.le_of_ble_eq_true rfl, Nat.le_of_ble_eq_true rfl⟩ (fun r_2_3 nw_2_1 l_2_2 H locs hw hO => ?_)
  obtain ⟨rfl, rfl⟩ := hw
  have hO : cO D cy A s.heap s 2 ad (cup [] g) _ _ := hO
  refine lv_if_eq (tgt := 32) hx hb dX11_pays_5 (by decide) (fun _ => ?_) (fun h => absurd h (by decide))
  refine lv_iconst (v := (-1)) hx hb dX11_pays_32 (by decide) ?_
  exact cg_iret (nw := fun _ => 0) hC hr hlk hO.same rfl (Nat.le_of_ble_eq_true rfl) (Nat.le_of_ble_eq_true rfl) rfl dX11_pays_33

theorem dX11_bird_0 : decode cX11_bird 0 = .ok (.aload_n 0, 1) := by decide +kernel
theorem dX11_bird_1 : decode cX11_bird 1 = .ok (.iload_n 1, 1) := by decide +kernel
theorem dX11_bird_2 : decode cX11_bird 2 = .ok (.invokevirtual 168, 3) := by decide +kernel
theorem dX11_bird_5 : decode cX11_bird 5 = .ok (.ifCond .ne 5, 3) := by decide +kernel
theorem dX11_bird_8 : decode cX11_bird 8 = .ok (.iconst (-1), 1) := by decide +kernel
theorem dX11_bird_9 : decode cX11_bird 9 = .ok (.ireturn, 1) := by decide +kernel
def wq_c_X11_bird : List Cond := Cond.code yX11_bird cX11_bird 3 (some .int) :: (([Cond.methodLink RX11 168 yX11_isBird, Cond.instanceMethod yX11_isBird, Cond.selects RX11 yX11_isBird yX11_isBird, Cond.initialized RX11, Cond.code yX11_isBird cX11_isBird 2 (some .boolean), Cond.fieldLink RX11 27 "CrowToll" "told" "LCrowToll$Road;", Cond.fieldLink RX11 247 "CrowToll$Road" "birds" "I", Cond.methodLink RX11 107 yX11_within, Cond.static yX11_within, Cond.code yX11_within cX11_within 3 (some .boolean)] : List Cond) ++ wsX70 ++ wsX110)
set_option maxRecDepth 20000 in
theorem gr_c_X11_bird_c_X11_isBird : GoodIn wq_c_X11_bird wq_c_X11_isBird := List.forall_mem_cons.mpr ⟨⟨(List.mem_of_getElem? (i := 5) rfl), good_of_word rfl⟩, List.forall_mem_append.mpr ⟨List.forall_mem_append.mpr ⟨List.forall_mem_cons.mpr ⟨⟨(List.mem_of_getElem? (i := 6) rfl), good_of_word rfl⟩, List.forall_mem_cons.mpr ⟨⟨(List.mem_of_getElem? (i := 7) rfl), good_of_word rfl⟩, List.forall_mem_cons.mpr ⟨⟨(List.mem_of_getElem? (i := 8) rfl), good_of_word rfl⟩, List.forall_mem_cons.mpr ⟨⟨(List.mem_of_getElem? (i := 9) rfl), good_of_word rfl⟩, List.forall_mem_cons.mpr ⟨⟨(List.mem_of_getElem? (i := 4) rfl), good_of_word rfl⟩, List.forall_mem_cons.mpr ⟨⟨(List.mem_of_getElem? (i := 10) rfl), good_of_word rfl⟩, (fun _ h => absurd h List.not_mem_nil)⟩⟩⟩⟩⟩⟩, fun w h => ⟨(fun w h => List.mem_cons_of_mem _ (List.mem_append_left _ (List.mem_append_right _ h))) w h, good_of_word (List.all_eq_true.mp gw_X7 w h)⟩⟩, fun w h => ⟨(fun w h => List.mem_cons_of_mem _ (List.mem_append_right _ h)) w h, good_of_word (List.all_eq_true.mp gw_X11 w h)⟩⟩⟩
set_option maxRecDepth 20000 in
theorem gq_c_X11_bird_c_X11_isBird_168 : GoodIn wq_c_X11_bird (wsV RX11 168 RX11 yX11_isBird wq_c_X11_isBird) := goodIn_app (List.forall_mem_cons.mpr ⟨⟨(List.mem_of_getElem? (i := 1) rfl), good_of_word rfl⟩, List.forall_mem_cons.mpr ⟨⟨(List.mem_of_getElem? (i := 2) rfl), good_of_word rfl⟩, List.forall_mem_cons.mpr ⟨⟨(List.mem_of_getElem? (i := 3) rfl), good_of_word rfl⟩, List.forall_mem_cons.mpr ⟨⟨(List.mem_of_getElem? (i := 4) rfl), good_of_word rfl⟩, (fun _ h => absurd h List.not_mem_nil)⟩⟩⟩⟩) gr_c_X11_bird_c_X11_isBird
set_option maxHeartbeats 8000000 in
set_option maxRecDepth 100000 in
theorem c_X11_bird (l : Launch) (D : va_G) (cy : Nat → ClassId) (ad : Nat → Nat) (g : Nat → va_E) {f0 : List Value} {f1 : List Value} {n : Int32} {q : Int32} (o0 : g 0 = .inr (11, f0)) (f0_3 : f0[3]? = some (.ref (ad 1))) (o1 : g 1 = .inr (7, f1)) (f1_5 : f1[5]? = some (.int 0)) : cMi l yX11_bird wq_c_X11_bird { frames := 2, cells := 0, slots := 0, locals := 43 } 2 0 0 0 D cy ad g [.ref (ad 0), .int n, .int q] (fun r nw lu => r = -1) := by
  refine cM_of (Qc := fun A => cQi (fun r nw lu => r = -1) D 2 0 ad g A) (cc := cX11_bird) (maxL := 3) (ret := (some .int)) (by decide) rfl (Nat.le_of_ble_eq_true rfl) ?_
  intro p e s m below meth c A hC hr hlk hnm hO ls hl
  have hC : CallFix p m c cX11_bird 3 s [.ref (ad 0), .int n, .int q].toArray wq_c_X11_bird RX11 := hC
  obtain ⟨hx, hb, hml, hown, hts⟩ := id hC
  have hl : lv_has ls 3 [(0, .ref (ad 0)), (1, .int n), (2, .int q)] := hl
  have i_X11 : ∀ w ∈ wsX110, w ∈ wq_c_X11_bird := fun w h => List.mem_cons_of_mem _ (List.mem_append_right _ h)
  have i_X7 : ∀ w ∈ wsX70, w ∈ wq_c_X11_bird := fun w h => List.mem_cons_of_mem _ (List.mem_append_left _ (List.mem_append_right _ h))
  refine lv_aload_n hx hb dX11_bird_0 rfl (lv_at hl 0 rfl) ?_
  refine lv_iload_n hx hb dX11_bird_1 rfl (lv_at hl 1 rfl) ?_
  refine cg_Vi (As := [.int n]) (rest := []) (mc := 0) (ms := 0) (rm := { frames := 1, cells := 0, slots := 0, locals := 22 }) hC hl.1 hO [0, 1] rfl (c_X11_isBird l D cy _ _ (f0 := f0) (f1 := f1) (n := n) o0 f0_3 o1 f1_5) gq_c_X11_bird_c_X11_isBird_168 rfl rfl rfl 1 (by decide +kernel) ⟨Nat.le_of_ble_eq_true rfl, Nat.le_of_ble_eq_true rfl⟩ rfl (by decide) o0 rfl rfl (Nat.le_of_ble_eq_true rfl) dX11_bird_2 ⟨Nat.le_of_ble_eq_true rfl, Nat.le_of_ble_eq_true rfl⟩ (fun r_2_3 nw_2_1 l_2_2 H locs hw hO => ?_)
  obtain ⟨rfl, rfl⟩ := hw
  have hO : cO D cy A s.heap s 2 ad (cup [] g) _ _ := hO
  refine lv_if_ne (tgt := 10) hx hb dX11_bird_5 (by decide) (fun h => absurd h (by decide)) (fun _ => ?_)
  refine lv_iconst (v := (-1)) hx hb dX11_bird_8 (by decide) ?_
  exact cg_iret (nw := fun _ => 0) hC hr hlk hO.same rfl (Nat.le_of_ble_eq_true rfl) (Nat.le_of_ble_eq_true rfl) rfl dX11_bird_9

theorem dX1_takenInAll_0 : decode cX1_takenInAll 0 = .ok (.iconst 0, 1) := by decide +kernel
theorem dX1_takenInAll_1 : decode cX1_takenInAll 1 = .ok (.istore_n 1, 1) := by decide +kernel
theorem dX1_takenInAll_2 : decode cX1_takenInAll 2 = .ok (.iconst 0, 1) := by decide +kernel
theorem dX1_takenInAll_3 : decode cX1_takenInAll 3 = .ok (.istore_n 2, 1) := by decide +kernel
theorem dX1_takenInAll_4 : decode cX1_takenInAll 4 = .ok (.iload_n 2, 1) := by decide +kernel
theorem dX1_takenInAll_5 : decode cX1_takenInAll 5 = .ok (.aload_n 0, 1) := by decide +kernel
theorem dX1_takenInAll_6 : decode cX1_takenInAll 6 = .ok (.getfield 21, 3) := by decide +kernel
theorem dX1_takenInAll_9 : decode cX1_takenInAll 9 = .ok (.getfield 68, 3) := by decide +kernel
theorem dX1_takenInAll_12 : decode cX1_takenInAll 12 = .ok (.if_icmp .ge 17, 3) := by decide +kernel
theorem dX1_takenInAll_29 : decode cX1_takenInAll 29 = .ok (.iload_n 1, 1) := by decide +kernel
theorem dX1_takenInAll_30 : decode cX1_takenInAll 30 = .ok (.ireturn, 1) := by decide +kernel
def wq_c_X1_takenInAll : List Cond := Cond.code yX1_takenInAll cX1_takenInAll 3 (some .int) :: (([Cond.fieldLink RX1 21 "CrowToll$Day" "road" "LCrowToll$Road;", Cond.fieldLink RX1 68 "CrowToll$Road" "posts" "I"] : List Cond) ++ wsX10 ++ wsX70)
set_option maxHeartbeats 8000000 in
set_option maxRecDepth 100000 in
theorem c_X1_takenInAll (l : Launch) (D : va_G) (cy : Nat → ClassId) (ad : Nat → Nat) (g : Nat → va_E) {f0 : List Value} {f1 : List Value} (o0 : g 0 = .inr (1, f0)) (f0_0 : f0[0]? = some (.ref (ad 1))) (o1 : g 1 = .inr (7, f1)) (f1_11 : f1[11]? = some (.int 0)) : cMi l yX1_takenInAll wq_c_X1_takenInAll { frames := 0, cells := 0, slots := 0, locals := 0 } 2 0 0 0 D cy ad g [.ref (ad 0)] (fun r nw lu => (r = 0) ∧ (lu = [])) := by
  refine cM_of (Qc := fun A => cQi (fun r nw lu => (r = 0) ∧ (lu = [])) D 2 0 ad g A) (cc := cX1_takenInAll) (maxL := 3) (ret := (some .int)) (by decide) rfl (Nat.le_of_ble_eq_true rfl) ?_
  intro p e s m below meth c A hC hr hlk hnm hO ls hl
  have hC : CallFix p m c cX1_takenInAll 3 s [.ref (ad 0)].toArray wq_c_X1_takenInAll RX1 := hC
  obtain ⟨hx, hb, hml, hown, hts⟩ := id hC
  have hl : lv_has ls 3 [(0, .ref (ad 0))] := hl
  have i_X1 : ∀ w ∈ wsX10, w ∈ wq_c_X1_takenInAll := fun w h => List.mem_cons_of_mem _ (List.mem_append_left _ (List.mem_append_right _ h))
  have i_X7 : ∀ w ∈ wsX70, w ∈ wq_c_X1_takenInAll := fun w h => List.mem_cons_of_mem _ (List.mem_append_right _ h)
  refine lv_iconst (v := 0) hx hb dX1_takenInAll_0 (by decide) ?_
  refine lv_istore_n (lv' := [(1, .int 0), (0, .ref (ad 0))]) hx hb dX1_takenInAll_1 rfl hl (by decide) rfl (fun ls hl => ?_)
  refine lv_iconst (v := 0) hx hb dX1_takenInAll_2 (by decide) ?_
  refine lv_istore_n (lv' := [(2, .int 0), (1, .int 0), (0, .ref (ad 0))]) hx hb dX1_takenInAll_3 rfl hl (by decide) rfl (fun ls hl => ?_)
  refine lv_iload_n hx hb dX1_takenInAll_4 rfl (lv_at hl 0 rfl) ?_
  refine lv_aload_n hx hb dX1_takenInAll_5 rfl (lv_at hl 2 rfl) ?_
  refine cg_get hC hO 0 (by decide) o0 rfl i_X1 0 (by decide) (List.mem_of_getElem? (i := 1) rfl) f0_0 dX1_takenInAll_6 ?_
  refine cg_get hC hO 1 (by decide) o1 rfl i_X7 11 (by decide) (List.mem_of_getElem? (i := 2) rfl) f1_11 dX1_takenInAll_9 ?_
  refine lv_icmp_ge (tgt := 29) hx hb dX1_takenInAll_12 (by decide) (fun _ => ?_) (fun h => absurd h (by decide))
  refine lv_iload_n hx hb dX1_takenInAll_29 rfl (lv_at hl 1 rfl) ?_
  exact cg_iret (nw := fun _ => 0) hC hr hlk hO.same rfl (Nat.le_of_ble_eq_true rfl) (Nat.le_of_ble_eq_true rfl) (⟨rfl, rfl⟩) dX1_takenInAll_30

theorem dX11_income_0 : decode cX11_income 0 = .ok (.iload_n 1, 1) := by decide +kernel
theorem dX11_income_1 : decode cX11_income 1 = .ok (.iconst (-1), 1) := by decide +kernel
theorem dX11_income_2 : decode cX11_income 2 = .ok (.if_icmp .ne 11, 3) := by decide +kernel
theorem dX11_income_5 : decode cX11_income 5 = .ok (.aload_n 0, 1) := by decide +kernel
theorem dX11_income_6 : decode cX11_income 6 = .ok (.getfield 72, 3) := by decide +kernel
theorem dX11_income_9 : decode cX11_income 9 = .ok (.invokevirtual 189, 3) := by decide +kernel
theorem dX11_income_12 : decode cX11_income 12 = .ok (.ireturn, 1) := by decide +kernel
theorem dX11_income_13 : decode cX11_income 13 = .ok (.aload_n 0, 1) := by decide +kernel
theorem dX11_income_14 : decode cX11_income 14 = .ok (.iload_n 1, 1) := by decide +kernel
theorem dX11_income_15 : decode cX11_income 15 = .ok (.invokevirtual 159, 3) := by decide +kernel
theorem dX11_income_18 : decode cX11_income 18 = .ok (.ifCond .eq 14, 3) := by decide +kernel
theorem dX11_income_32 : decode cX11_income 32 = .ok (.bipush (-2), 2) := by decide +kernel
theorem dX11_income_34 : decode cX11_income 34 = .ok (.ireturn, 1) := by decide +kernel
def wq_c_X11_income : List Cond := Cond.code yX11_income cX11_income 2 (some .int) :: (([Cond.methodLink RX11 159 yX11_isPost, Cond.instanceMethod yX11_isPost, Cond.selects RX11 yX11_isPost yX11_isPost, Cond.initialized RX11, Cond.code yX11_isPost cX11_isPost 2 (some .boolean), Cond.fieldLink RX11 27 "CrowToll" "told" "LCrowToll$Road;", Cond.fieldLink RX11 250 "CrowToll$Road" "posts" "I", Cond.methodLink RX11 107 yX11_within, Cond.static yX11_within, Cond.code yX11_within cX11_within 3 (some .boolean), Cond.fieldLink RX11 72 "CrowToll" "day" "LCrowToll$Day;", Cond.methodLink RX11 189 yX1_takenInAll, Cond.instanceMethod yX1_takenInAll, Cond.selects RX1 yX1_takenInAll yX1_takenInAll, Cond.initialized RX1, Cond.code yX1_takenInAll cX1_takenInAll 3 (some .int), Cond.fieldLink RX1 21 "CrowToll$Day" "road" "LCrowToll$Road;", Cond.fieldLink RX1 68 "CrowToll$Road" "posts" "I"] : List Cond) ++ wsX10 ++ wsX70 ++ wsX110)
set_option maxRecDepth 20000 in
theorem gr_c_X11_income_c_X11_isPost : GoodIn wq_c_X11_income wq_c_X11_isPost := List.forall_mem_cons.mpr ⟨⟨(List.mem_of_getElem? (i := 5) rfl), good_of_word rfl⟩, List.forall_mem_append.mpr ⟨List.forall_mem_append.mpr ⟨List.forall_mem_cons.mpr ⟨⟨(List.mem_of_getElem? (i := 6) rfl), good_of_word rfl⟩, List.forall_mem_cons.mpr ⟨⟨(List.mem_of_getElem? (i := 7) rfl), good_of_word rfl⟩, List.forall_mem_cons.mpr ⟨⟨(List.mem_of_getElem? (i := 8) rfl), good_of_word rfl⟩, List.forall_mem_cons.mpr ⟨⟨(List.mem_of_getElem? (i := 9) rfl), good_of_word rfl⟩, List.forall_mem_cons.mpr ⟨⟨(List.mem_of_getElem? (i := 4) rfl), good_of_word rfl⟩, List.forall_mem_cons.mpr ⟨⟨(List.mem_of_getElem? (i := 10) rfl), good_of_word rfl⟩, (fun _ h => absurd h List.not_mem_nil)⟩⟩⟩⟩⟩⟩, fun w h => ⟨(fun w h => List.mem_cons_of_mem _ (List.mem_append_left _ (List.mem_append_right _ h))) w h, good_of_word (List.all_eq_true.mp gw_X7 w h)⟩⟩, fun w h => ⟨(fun w h => List.mem_cons_of_mem _ (List.mem_append_right _ h)) w h, good_of_word (List.all_eq_true.mp gw_X11 w h)⟩⟩⟩
set_option maxRecDepth 20000 in
theorem gq_c_X11_income_c_X11_isPost_159 : GoodIn wq_c_X11_income (wsV RX11 159 RX11 yX11_isPost wq_c_X11_isPost) := goodIn_app (List.forall_mem_cons.mpr ⟨⟨(List.mem_of_getElem? (i := 1) rfl), good_of_word rfl⟩, List.forall_mem_cons.mpr ⟨⟨(List.mem_of_getElem? (i := 2) rfl), good_of_word rfl⟩, List.forall_mem_cons.mpr ⟨⟨(List.mem_of_getElem? (i := 3) rfl), good_of_word rfl⟩, List.forall_mem_cons.mpr ⟨⟨(List.mem_of_getElem? (i := 4) rfl), good_of_word rfl⟩, (fun _ h => absurd h List.not_mem_nil)⟩⟩⟩⟩) gr_c_X11_income_c_X11_isPost
set_option maxRecDepth 20000 in
theorem gr_c_X11_income_c_X1_takenInAll : GoodIn wq_c_X11_income wq_c_X1_takenInAll := List.forall_mem_cons.mpr ⟨⟨(List.mem_of_getElem? (i := 16) rfl), good_of_word rfl⟩, List.forall_mem_append.mpr ⟨List.forall_mem_append.mpr ⟨List.forall_mem_cons.mpr ⟨⟨(List.mem_of_getElem? (i := 17) rfl), good_of_word rfl⟩, List.forall_mem_cons.mpr ⟨⟨(List.mem_of_getElem? (i := 18) rfl), good_of_word rfl⟩, (fun _ h => absurd h List.not_mem_nil)⟩⟩, fun w h => ⟨(fun w h => List.mem_cons_of_mem _ (List.mem_append_left _ (List.mem_append_left _ (List.mem_append_right _ h)))) w h, good_of_word (List.all_eq_true.mp gw_X1 w h)⟩⟩, fun w h => ⟨(fun w h => List.mem_cons_of_mem _ (List.mem_append_left _ (List.mem_append_right _ h))) w h, good_of_word (List.all_eq_true.mp gw_X7 w h)⟩⟩⟩
set_option maxRecDepth 20000 in
theorem gq_c_X11_income_c_X1_takenInAll_189 : GoodIn wq_c_X11_income (wsV RX11 189 RX1 yX1_takenInAll wq_c_X1_takenInAll) := goodIn_app (List.forall_mem_cons.mpr ⟨⟨(List.mem_of_getElem? (i := 12) rfl), good_of_word rfl⟩, List.forall_mem_cons.mpr ⟨⟨(List.mem_of_getElem? (i := 13) rfl), good_of_word rfl⟩, List.forall_mem_cons.mpr ⟨⟨(List.mem_of_getElem? (i := 14) rfl), good_of_word rfl⟩, List.forall_mem_cons.mpr ⟨⟨(List.mem_of_getElem? (i := 15) rfl), good_of_word rfl⟩, (fun _ h => absurd h List.not_mem_nil)⟩⟩⟩⟩) gr_c_X11_income_c_X1_takenInAll
set_option maxHeartbeats 8000000 in
set_option maxRecDepth 100000 in
theorem c_X11_income (l : Launch) (D : va_G) (cy : Nat → ClassId) (ad : Nat → Nat) (g : Nat → va_E) {f0 : List Value} {f1 : List Value} {f2 : List Value} {n : Int32} (o0 : g 0 = .inr (11, f0)) (f0_3 : f0[3]? = some (.ref (ad 1))) (f0_8 : f0[8]? = some (.ref (ad 2))) (o1 : g 1 = .inr (7, f1)) (f1_11 : f1[11]? = some (.int 0)) (o2 : g 2 = .inr (1, f2)) (f2_0 : f2[0]? = some (.ref (ad 1))) : cMi l yX11_income wq_c_X11_income { frames := 2, cells := 0, slots := 0, locals := 43 } 3 0 0 0 D cy ad g [.ref (ad 0), .int n] (fun r nw lu => r = ans_income n) := by
  refine cM_of (Qc := fun A => cQi (fun r nw lu => r = ans_income n) D 3 0 ad g A) (cc := cX11_income) (maxL := 2) (ret := (some .int)) (by decide) rfl (Nat.le_of_ble_eq_true rfl) ?_
  intro p e s m below meth c A hC hr hlk hnm hO ls hl
  have hC : CallFix p m c cX11_income 2 s [.ref (ad 0), .int n].toArray wq_c_X11_income RX11 := hC
  obtain ⟨hx, hb, hml, hown, hts⟩ := id hC
  have hl : lv_has ls 2 [(0, .ref (ad 0)), (1, .int n)] := hl
  have i_X1 : ∀ w ∈ wsX10, w ∈ wq_c_X11_income := fun w h => List.mem_cons_of_mem _ (List.mem_append_left _ (List.mem_append_left _ (List.mem_append_right _ h)))
  have i_X11 : ∀ w ∈ wsX110, w ∈ wq_c_X11_income := fun w h => List.mem_cons_of_mem _ (List.mem_append_right _ h)
  have i_X7 : ∀ w ∈ wsX70, w ∈ wq_c_X11_income := fun w h => List.mem_cons_of_mem _ (List.mem_append_left _ (List.mem_append_right _ h))
  refine lv_iload_n hx hb dX11_income_0 rfl (lv_at hl 1 rfl) ?_
  refine lv_iconst (v := (-1)) hx hb dX11_income_1 (by decide) ?_
  refine lv_icmp_ne (tgt := 13) hx hb dX11_income_2 (by decide) (fun h_2_1 => ?_) (fun h_2_1 => ?_)
  · refine lv_aload_n hx hb dX11_income_13 rfl (lv_at hl 0 rfl) ?_
    refine lv_iload_n hx hb dX11_income_14 rfl (lv_at hl 1 rfl) ?_
    refine cg_Vi (As := [.int n]) (rest := []) (mc := 0) (ms := 0) (rm := { frames := 1, cells := 0, slots := 0, locals := 22 }) hC hl.1 hO [0, 1] rfl (c_X11_isPost l D cy _ _ (f0 := f0) (f1 := f1) (n := n) o0 f0_3 o1 f1_11) gq_c_X11_income_c_X11_isPost_159 rfl rfl rfl 1 (by decide +kernel) ⟨Nat.le_of_ble_eq_true rfl, Nat.le_of_ble_eq_true rfl⟩ rfl (by decide) o0 rfl rfl (Nat.le_of_ble_eq_true rfl) dX11_income_15 ⟨Nat.le_of_ble_eq_true rfl, Nat.le_of_ble_eq_true rfl⟩ (fun r_15_4 nw_15_2 l_15_3 H locs hw hO => ?_)
    obtain ⟨rfl, rfl⟩ := hw
    have hO : cO D cy A s.heap s 3 ad (cup [] g) _ _ := hO
    refine lv_if_eq (tgt := 32) hx hb dX11_income_18 (by decide) (fun _ => ?_) (fun h => absurd h (by decide))
    refine lv_bipush (v := (-2)) hx hb dX11_income_32 (by decide) ?_
    exact cg_iret (nw := fun _ => 0) hC hr hlk hO.same rfl (Nat.le_of_ble_eq_true rfl) (Nat.le_of_ble_eq_true rfl) (by simp [ans_income, h_2_1]) dX11_income_34
  · refine lv_aload_n hx hb dX11_income_5 rfl (lv_at hl 0 rfl) ?_
    refine cg_get hC hO 0 (by decide) o0 rfl i_X11 8 (by decide) (List.mem_of_getElem? (i := 11) rfl) f0_8 dX11_income_6 ?_
    refine cg_Vi (As := []) (rest := []) (mc := 0) (ms := 0) (rm := { frames := 0, cells := 0, slots := 0, locals := 0 }) hC hl.1 hO [2, 1] rfl (c_X1_takenInAll l D cy _ _ (f0 := f2) (f1 := f1) o2 f2_0 o1 f1_11) gq_c_X11_income_c_X1_takenInAll_189 rfl rfl rfl 0 (by decide +kernel) ⟨Nat.le_of_ble_eq_true rfl, Nat.le_of_ble_eq_true rfl⟩ rfl (by decide) o2 rfl rfl (Nat.le_of_ble_eq_true rfl) dX11_income_9 ⟨Nat.le_of_ble_eq_true rfl, Nat.le_of_ble_eq_true rfl⟩ (fun r_9_7 nw_9_5 l_9_6 H locs hw hO => ?_)
    obtain ⟨rfl, rfl⟩ := hw
    have hO : cO D cy A s.heap s 3 ad (cup [] g) _ _ := hO
    exact cg_iret (nw := fun _ => 0) hC hr hlk hO.same rfl (Nat.le_of_ble_eq_true rfl) (Nat.le_of_ble_eq_true rfl) (by simp [ans_income, h_2_1]) dX11_income_12

theorem dX11_fault_0 : decode cX11_fault 0 = .ok (.iload_n 1, 1) := by decide +kernel
theorem dX11_fault_1 : decode cX11_fault 1 = .ok (.lookupswitch 43 #[(0, 27), (1, 35)], 27) := by decide +kernel
theorem dX11_fault_28 : decode cX11_fault 28 = .ok (.aload_n 0, 1) := by decide +kernel
theorem dX11_fault_29 : decode cX11_fault 29 = .ok (.getfield 20, 3) := by decide +kernel
theorem dX11_fault_32 : decode cX11_fault 32 = .ok (.getfield 129, 3) := by decide +kernel
theorem dX11_fault_35 : decode cX11_fault 35 = .ok (.ireturn, 1) := by decide +kernel
theorem dX11_fault_36 : decode cX11_fault 36 = .ok (.aload_n 0, 1) := by decide +kernel
theorem dX11_fault_37 : decode cX11_fault 37 = .ok (.getfield 20, 3) := by decide +kernel
theorem dX11_fault_40 : decode cX11_fault 40 = .ok (.getfield 132, 3) := by decide +kernel
theorem dX11_fault_43 : decode cX11_fault 43 = .ok (.ireturn, 1) := by decide +kernel
theorem dX11_fault_44 : decode cX11_fault 44 = .ok (.iconst (-1), 1) := by decide +kernel
theorem dX11_fault_45 : decode cX11_fault 45 = .ok (.ireturn, 1) := by decide +kernel
def wq_c_X11_fault : List Cond := Cond.code yX11_fault cX11_fault 2 (some .int) :: (([Cond.fieldLink RX11 20 "CrowToll" "reader" "LCrowToll$Reader;", Cond.fieldLink RX11 129 "CrowToll$Reader" "fault" "I", Cond.fieldLink RX11 132 "CrowToll$Reader" "faultPlace" "I"] : List Cond) ++ wsX60 ++ wsX110)
set_option maxHeartbeats 8000000 in
set_option maxRecDepth 100000 in
theorem c_X11_fault (l : Launch) (D : va_G) (cy : Nat → ClassId) (ad : Nat → Nat) (g : Nat → va_E) {f0 : List Value} {f1 : List Value} {n : Int32} (o0 : g 0 = .inr (11, f0)) (f0_2 : f0[2]? = some (.ref (ad 1))) (o1 : g 1 = .inr (6, f1)) (f1_1 : f1[1]? = some (.int 0)) (f1_2 : f1[2]? = some (.int (-1))) : cMi l yX11_fault wq_c_X11_fault { frames := 0, cells := 0, slots := 0, locals := 0 } 2 0 0 0 D cy ad g [.ref (ad 0), .int n] (fun r nw lu => r = ans_fault n) := by
  refine cM_of (Qc := fun A => cQi (fun r nw lu => r = ans_fault n) D 2 0 ad g A) (cc := cX11_fault) (maxL := 2) (ret := (some .int)) (by decide) rfl (Nat.le_of_ble_eq_true rfl) ?_
  intro p e s m below meth c A hC hr hlk hnm hO ls hl
  have hC : CallFix p m c cX11_fault 2 s [.ref (ad 0), .int n].toArray wq_c_X11_fault RX11 := hC
  obtain ⟨hx, hb, hml, hown, hts⟩ := id hC
  have hl : lv_has ls 2 [(0, .ref (ad 0)), (1, .int n)] := hl
  have i_X11 : ∀ w ∈ wsX110, w ∈ wq_c_X11_fault := fun w h => List.mem_cons_of_mem _ (List.mem_append_right _ h)
  have i_X6 : ∀ w ∈ wsX60, w ∈ wq_c_X11_fault := fun w h => List.mem_cons_of_mem _ (List.mem_append_left _ (List.mem_append_right _ h))
  refine lv_iload_n hx hb dX11_fault_0 rfl (lv_at hl 1 rfl) ?_
  by_cases hs_1_1_0 : n = 0
  · refine lv_lookup (tgt := 28) (off := 27) hx hb dX11_fault_1 rfl (by rw [hs_1_1_0]; rfl) (by decide) ?_
    refine lv_aload_n hx hb dX11_fault_28 rfl (lv_at hl 0 rfl) ?_
    refine cg_get hC hO 0 (by decide) o0 rfl i_X11 2 (by decide) (List.mem_of_getElem? (i := 1) rfl) f0_2 dX11_fault_29 ?_
    refine cg_get hC hO 1 (by decide) o1 rfl i_X6 1 (by decide) (List.mem_of_getElem? (i := 2) rfl) f1_1 dX11_fault_32 ?_
    exact cg_iret (nw := fun _ => 0) hC hr hlk hO.same rfl (Nat.le_of_ble_eq_true rfl) (Nat.le_of_ble_eq_true rfl) (by simp [ans_fault, hs_1_1_0]) dX11_fault_35
  by_cases hs_1_1_1 : n = 1
  · refine lv_lookup (tgt := 36) (off := 35) hx hb dX11_fault_1 rfl (by rw [hs_1_1_1]; rfl) (by decide) ?_
    refine lv_aload_n hx hb dX11_fault_36 rfl (lv_at hl 0 rfl) ?_
    refine cg_get hC hO 0 (by decide) o0 rfl i_X11 2 (by decide) (List.mem_of_getElem? (i := 1) rfl) f0_2 dX11_fault_37 ?_
    refine cg_get hC hO 1 (by decide) o1 rfl i_X6 2 (by decide) (List.mem_of_getElem? (i := 3) rfl) f1_2 dX11_fault_40 ?_
    exact cg_iret (nw := fun _ => 0) hC hr hlk hO.same rfl (Nat.le_of_ble_eq_true rfl) (Nat.le_of_ble_eq_true rfl) (by simp [ans_fault, hs_1_1_0, hs_1_1_1]) dX11_fault_43
  refine lv_lookup (tgt := 44) (off := 43) hx hb dX11_fault_1 rfl ((lv_osw hs_1_1_0 rfl).trans ((lv_osw hs_1_1_1 rfl).trans rfl)) (by decide) ?_
  refine lv_iconst (v := (-1)) hx hb dX11_fault_44 (by decide) ?_
  exact cg_iret (nw := fun _ => 0) hC hr hlk hO.same rfl (Nat.le_of_ble_eq_true rfl) (Nat.le_of_ble_eq_true rfl) (by simp [ans_fault, hs_1_1_0, hs_1_1_1]) dX11_fault_45

theorem dX0_keep_0 : decode cX0_keep 0 = .ok (.aload_n 0, 1) := by decide +kernel
theorem dX0_keep_1 : decode cX0_keep 1 = .ok (.getfield 21, 3) := by decide +kernel
theorem dX0_keep_4 : decode cX0_keep 4 = .ok (.bipush 40, 2) := by decide +kernel
theorem dX0_keep_6 : decode cX0_keep 6 = .ok (.if_icmp .lt 60, 3) := by decide +kernel
theorem dX0_keep_66 : decode cX0_keep 66 = .ok (.aload_n 0, 1) := by decide +kernel
theorem dX0_keep_67 : decode cX0_keep 67 = .ok (.getfield 9, 3) := by decide +kernel
theorem dX0_keep_70 : decode cX0_keep 70 = .ok (.aload_n 0, 1) := by decide +kernel
theorem dX0_keep_71 : decode cX0_keep 71 = .ok (.getfield 21, 3) := by decide +kernel
theorem dX0_keep_74 : decode cX0_keep 74 = .ok (.iload_n 1, 1) := by decide +kernel
theorem dX0_keep_75 : decode cX0_keep 75 = .ok (.iastore, 1) := by decide +kernel
theorem dX0_keep_76 : decode cX0_keep 76 = .ok (.aload_n 0, 1) := by decide +kernel
theorem dX0_keep_77 : decode cX0_keep 77 = .ok (.getfield 15, 3) := by decide +kernel
theorem dX0_keep_80 : decode cX0_keep 80 = .ok (.aload_n 0, 1) := by decide +kernel
theorem dX0_keep_81 : decode cX0_keep 81 = .ok (.getfield 21, 3) := by decide +kernel
theorem dX0_keep_84 : decode cX0_keep 84 = .ok (.iload_n 2, 1) := by decide +kernel
theorem dX0_keep_85 : decode cX0_keep 85 = .ok (.iastore, 1) := by decide +kernel
theorem dX0_keep_86 : decode cX0_keep 86 = .ok (.aload_n 0, 1) := by decide +kernel
theorem dX0_keep_87 : decode cX0_keep 87 = .ok (.getfield 18, 3) := by decide +kernel
theorem dX0_keep_90 : decode cX0_keep 90 = .ok (.aload_n 0, 1) := by decide +kernel
theorem dX0_keep_91 : decode cX0_keep 91 = .ok (.getfield 21, 3) := by decide +kernel
theorem dX0_keep_94 : decode cX0_keep 94 = .ok (.iload_n 3, 1) := by decide +kernel
theorem dX0_keep_95 : decode cX0_keep 95 = .ok (.iastore, 1) := by decide +kernel
theorem dX0_keep_96 : decode cX0_keep 96 = .ok (.aload_n 0, 1) := by decide +kernel
theorem dX0_keep_97 : decode cX0_keep 97 = .ok (.dup, 1) := by decide +kernel
theorem dX0_keep_98 : decode cX0_keep 98 = .ok (.getfield 21, 3) := by decide +kernel
theorem dX0_keep_101 : decode cX0_keep 101 = .ok (.iconst 1, 1) := by decide +kernel
theorem dX0_keep_102 : decode cX0_keep 102 = .ok (.iadd, 1) := by decide +kernel
theorem dX0_keep_103 : decode cX0_keep 103 = .ok (.putfield 21, 3) := by decide +kernel
theorem dX0_keep_106 : decode cX0_keep 106 = .ok (.aload_n 0, 1) := by decide +kernel
theorem dX0_keep_107 : decode cX0_keep 107 = .ok (.aload_n 0, 1) := by decide +kernel
theorem dX0_keep_108 : decode cX0_keep 108 = .ok (.getfield 21, 3) := by decide +kernel
theorem dX0_keep_111 : decode cX0_keep 111 = .ok (.putfield 25, 3) := by decide +kernel
theorem dX0_keep_114 : decode cX0_keep 114 = .ok (.return_, 1) := by decide +kernel
def wq_c_X0_keep : List Cond := Cond.code yX0_keep cX0_keep 4 none :: (([Cond.fieldLink RX0 21 "CrowToll$Acts" "done" "I", Cond.fieldLink RX0 9 "CrowToll$Acts" "kind" "[I", Cond.fieldLink RX0 15 "CrowToll$Acts" "first" "[I", Cond.fieldLink RX0 18 "CrowToll$Acts" "second" "[I", Cond.fieldLink RX0 25 "CrowToll$Acts" "kept" "I"] : List Cond) ++ wsX00)
set_option maxHeartbeats 8000000 in
set_option maxRecDepth 100000 in
theorem c_X0_keep (l : Launch) (D : va_G) (cy : Nat → ClassId) (ad : Nat → Nat) (g : Nat → va_E) {f0 : List Value} {c1 : Nat → Int32} {c2 : Nat → Int32} {c3 : Nat → Int32} {x1 : Int32} {x2 : Int32} {x3 : Int32} (o0 : g 0 = .inr (0, f0)) (f0_0 : f0[0]? = some (.ref (ad 1))) (f0_1 : f0[1]? = some (.ref (ad 2))) (f0_2 : f0[2]? = some (.ref (ad 3))) (f0_3 : f0[3]? = some (.int 0)) (f0_4 : f0[4]? = some (.int 0)) (a1 : g 1 = .inl (cy 0, 40, .inl c1)) (a2 : g 2 = .inl (cy 0, 40, .inl c2)) (a3 : g 3 = .inl (cy 0, 40, .inl c3)) : cMv l yX0_keep wq_c_X0_keep { frames := 0, cells := 0, slots := 0, locals := 0 } 4 0 0 0 D cy ad g [.ref (ad 0), .int x1, .int x2, .int x3] (fun nw lu => lu = [(1, .inl (cy 0, 40, .inl (upd c1 (0 : Int32).toNatClampNeg x1))), (2, .inl (cy 0, 40, .inl (upd c2 (0 : Int32).toNatClampNeg x2))), (3, .inl (cy 0, 40, .inl (upd c3 (0 : Int32).toNatClampNeg x3))), (0, .inr (0, ((f0.set 3 (.int 1)).set 4 (.int 1))))]) := by
  refine cM_of (Qc := fun A => cQv (fun nw lu => lu = [(1, .inl (cy 0, 40, .inl (upd c1 (0 : Int32).toNatClampNeg x1))), (2, .inl (cy 0, 40, .inl (upd c2 (0 : Int32).toNatClampNeg x2))), (3, .inl (cy 0, 40, .inl (upd c3 (0 : Int32).toNatClampNeg x3))), (0, .inr (0, ((f0.set 3 (.int 1)).set 4 (.int 1))))]) D 4 0 ad g A) (cc := cX0_keep) (maxL := 4) (ret := none) (by decide) rfl (Nat.le_of_ble_eq_true rfl) ?_
  intro p e s m below meth c A hC hr hlk hnm hO ls hl
  have hC : CallFix p m c cX0_keep 4 s [.ref (ad 0), .int x1, .int x2, .int x3].toArray wq_c_X0_keep RX0 := hC
  obtain ⟨hx, hb, hml, hown, hts⟩ := id hC
  have hl : lv_has ls 4 [(0, .ref (ad 0)), (1, .int x1), (2, .int x2), (3, .int x3)] := hl
  have i_X0 : ∀ w ∈ wsX00, w ∈ wq_c_X0_keep := fun w h => List.mem_cons_of_mem _ (List.mem_append_right _ h)
  refine lv_aload_n hx hb dX0_keep_0 rfl (lv_at hl 0 rfl) ?_
  refine cg_get hC hO 0 (by decide) o0 rfl i_X0 3 (by decide) (List.mem_of_getElem? (i := 1) rfl) f0_3 dX0_keep_1 ?_
  refine lv_bipush (v := 40) hx hb dX0_keep_4 (by decide) ?_
  refine lv_icmp_lt (tgt := 66) hx hb dX0_keep_6 (by decide) (fun _ => ?_) (fun h => absurd h (by decide))
  refine lv_aload_n hx hb dX0_keep_66 rfl (lv_at hl 0 rfl) ?_
  refine cg_get hC hO 0 (by decide) o0 rfl i_X0 0 (by decide) (List.mem_of_getElem? (i := 2) rfl) f0_0 dX0_keep_67 ?_
  refine lv_aload_n hx hb dX0_keep_70 rfl (lv_at hl 0 rfl) ?_
  refine cg_get hC hO 0 (by decide) o0 rfl i_X0 3 (by decide) (List.mem_of_getElem? (i := 1) rfl) f0_3 dX0_keep_71 ?_
  refine lv_iload_n hx hb dX0_keep_74 rfl (lv_at hl 1 rfl) ?_
  refine cg_iast hC hO 1 (by decide) a1 (cin (by decide)) dX0_keep_75 (fun H locs hO => ?_)
  have hO : cO D cy A s.heap s 4 ad (cup [(1, .inl (cy 0, 40, .inl (upd c1 (0 : Int32).toNatClampNeg x1)))] g) _ _ := hO
  refine lv_aload_n hx hb dX0_keep_76 rfl (lv_at hl 0 rfl) ?_
  refine cg_get hC hO 0 (by decide) o0 rfl i_X0 1 (by decide) (List.mem_of_getElem? (i := 3) rfl) f0_1 dX0_keep_77 ?_
  refine lv_aload_n hx hb dX0_keep_80 rfl (lv_at hl 0 rfl) ?_
  refine cg_get hC hO 0 (by decide) o0 rfl i_X0 3 (by decide) (List.mem_of_getElem? (i := 1) rfl) f0_3 dX0_keep_81 ?_
  refine lv_iload_n hx hb dX0_keep_84 rfl (lv_at hl 2 rfl) ?_
  refine cg_iast hC hO 2 (by decide) a2 (cin (by decide)) dX0_keep_85 (fun H locs hO => ?_)
  have hO : cO D cy A s.heap s 4 ad (cup [(1, .inl (cy 0, 40, .inl (upd c1 (0 : Int32).toNatClampNeg x1))), (2, .inl (cy 0, 40, .inl (upd c2 (0 : Int32).toNatClampNeg x2)))] g) _ _ := hO
  refine lv_aload_n hx hb dX0_keep_86 rfl (lv_at hl 0 rfl) ?_
  refine cg_get hC hO 0 (by decide) o0 rfl i_X0 2 (by decide) (List.mem_of_getElem? (i := 4) rfl) f0_2 dX0_keep_87 ?_
  refine lv_aload_n hx hb dX0_keep_90 rfl (lv_at hl 0 rfl) ?_
  refine cg_get hC hO 0 (by decide) o0 rfl i_X0 3 (by decide) (List.mem_of_getElem? (i := 1) rfl) f0_3 dX0_keep_91 ?_
  refine lv_iload_n hx hb dX0_keep_94 rfl (lv_at hl 3 rfl) ?_
  refine cg_iast hC hO 3 (by decide) a3 (cin (by decide)) dX0_keep_95 (fun H locs hO => ?_)
  have hO : cO D cy A s.heap s 4 ad (cup [(1, .inl (cy 0, 40, .inl (upd c1 (0 : Int32).toNatClampNeg x1))), (2, .inl (cy 0, 40, .inl (upd c2 (0 : Int32).toNatClampNeg x2))), (3, .inl (cy 0, 40, .inl (upd c3 (0 : Int32).toNatClampNeg x3)))] g) _ _ := hO
  refine lv_aload_n hx hb dX0_keep_96 rfl (lv_at hl 0 rfl) ?_
  refine lv_dup hx hb dX0_keep_97 rfl ?_
  refine cg_get hC hO 0 (by decide) o0 rfl i_X0 3 (by decide) (List.mem_of_getElem? (i := 1) rfl) f0_3 dX0_keep_98 ?_
  refine lv_iconst (v := 1) hx hb dX0_keep_101 (by decide) ?_
  refine lv_iadd hx hb dX0_keep_102 ?_
  refine cg_ev (v := 1) (by decide) ?_
  refine cg_put hC hO 0 (by decide) o0 rfl i_X0 tyX0_ok nmX0 3 (by decide) (List.mem_of_getElem? (i := 1) rfl) rfl rfl rfl (fs_lt f0_3) dX0_keep_103 (fun H locs hO => ?_)
  have hO : cO D cy A s.heap s 4 ad (cup [(1, .inl (cy 0, 40, .inl (upd c1 (0 : Int32).toNatClampNeg x1))), (2, .inl (cy 0, 40, .inl (upd c2 (0 : Int32).toNatClampNeg x2))), (3, .inl (cy 0, 40, .inl (upd c3 (0 : Int32).toNatClampNeg x3))), (0, .inr (0, (f0.set 3 (.int 1))))] g) _ _ := hO
  refine lv_aload_n hx hb dX0_keep_106 rfl (lv_at hl 0 rfl) ?_
  refine lv_aload_n hx hb dX0_keep_107 rfl (lv_at hl 0 rfl) ?_
  refine cg_get hC hO 0 (by decide) rfl rfl i_X0 3 (by decide) (List.mem_of_getElem? (i := 1) rfl) (fs_eq f0_3) dX0_keep_108 ?_
  refine cg_put hC hO 0 (by decide) rfl rfl i_X0 tyX0_ok nmX0 4 (by decide) (List.mem_of_getElem? (i := 5) rfl) rfl rfl rfl (fs_lt (fs_ne (by decide) f0_4)) dX0_keep_111 (fun H locs hO => ?_)
  have hO : cO D cy A s.heap s 4 ad (cup [(1, .inl (cy 0, 40, .inl (upd c1 (0 : Int32).toNatClampNeg x1))), (2, .inl (cy 0, 40, .inl (upd c2 (0 : Int32).toNatClampNeg x2))), (3, .inl (cy 0, 40, .inl (upd c3 (0 : Int32).toNatClampNeg x3))), (0, .inr (0, ((f0.set 3 (.int 1)).set 4 (.int 1))))] g) _ _ := hO
  exact cg_vret (nw := fun _ => 0) hC hr hlk hO.same (Nat.le_of_ble_eq_true rfl) (Nat.le_of_ble_eq_true rfl) rfl dX0_keep_114

theorem dX9_add_0 : decode cX9_add 0 = .ok (.aload_n 0, 1) := by decide +kernel
theorem dX9_add_1 : decode cX9_add 1 = .ok (.getfield 21, 3) := by decide +kernel
theorem dX9_add_4 : decode cX9_add 4 = .ok (.bipush 24, 2) := by decide +kernel
theorem dX9_add_6 : decode cX9_add 6 = .ok (.if_icmp .ge 33, 3) := by decide +kernel
theorem dX9_add_9 : decode cX9_add 9 = .ok (.aload_n 0, 1) := by decide +kernel
theorem dX9_add_10 : decode cX9_add 10 = .ok (.getfield 9, 3) := by decide +kernel
theorem dX9_add_13 : decode cX9_add 13 = .ok (.aload_n 0, 1) := by decide +kernel
theorem dX9_add_14 : decode cX9_add 14 = .ok (.getfield 21, 3) := by decide +kernel
theorem dX9_add_17 : decode cX9_add 17 = .ok (.iload_n 1, 1) := by decide +kernel
theorem dX9_add_18 : decode cX9_add 18 = .ok (.iastore, 1) := by decide +kernel
theorem dX9_add_19 : decode cX9_add 19 = .ok (.aload_n 0, 1) := by decide +kernel
theorem dX9_add_20 : decode cX9_add 20 = .ok (.getfield 15, 3) := by decide +kernel
theorem dX9_add_23 : decode cX9_add 23 = .ok (.aload_n 0, 1) := by decide +kernel
theorem dX9_add_24 : decode cX9_add 24 = .ok (.getfield 21, 3) := by decide +kernel
theorem dX9_add_27 : decode cX9_add 27 = .ok (.iload_n 2, 1) := by decide +kernel
theorem dX9_add_28 : decode cX9_add 28 = .ok (.iastore, 1) := by decide +kernel
theorem dX9_add_29 : decode cX9_add 29 = .ok (.aload_n 0, 1) := by decide +kernel
theorem dX9_add_30 : decode cX9_add 30 = .ok (.dup, 1) := by decide +kernel
theorem dX9_add_31 : decode cX9_add 31 = .ok (.getfield 21, 3) := by decide +kernel
theorem dX9_add_34 : decode cX9_add 34 = .ok (.iconst 1, 1) := by decide +kernel
theorem dX9_add_35 : decode cX9_add 35 = .ok (.iadd, 1) := by decide +kernel
theorem dX9_add_36 : decode cX9_add 36 = .ok (.putfield 21, 3) := by decide +kernel
theorem dX9_add_39 : decode cX9_add 39 = .ok (.return_, 1) := by decide +kernel
def wq_c_X9_add : List Cond := Cond.code yX9_add cX9_add 3 none :: (([Cond.fieldLink RX9 21 "CrowToll$Stand" "carts" "I", Cond.fieldLink RX9 9 "CrowToll$Stand" "minute" "[I", Cond.fieldLink RX9 15 "CrowToll$Stand" "sacks" "[I"] : List Cond) ++ wsX90)
set_option maxHeartbeats 8000000 in
set_option maxRecDepth 100000 in
theorem c_X9_add (l : Launch) (D : va_G) (cy : Nat → ClassId) (ad : Nat → Nat) (g : Nat → va_E) {f0 : List Value} {c1 : Nat → Int32} {c2 : Nat → Int32} {x1 : Int32} {x2 : Int32} (o0 : g 0 = .inr (9, f0)) (f0_0 : f0[0]? = some (.ref (ad 1))) (f0_1 : f0[1]? = some (.ref (ad 2))) (f0_4 : f0[4]? = some (.int 0)) (a1 : g 1 = .inl (cy 0, 24, .inl c1)) (a2 : g 2 = .inl (cy 0, 24, .inl c2)) : cMv l yX9_add wq_c_X9_add { frames := 0, cells := 0, slots := 0, locals := 0 } 3 0 0 0 D cy ad g [.ref (ad 0), .int x1, .int x2] (fun nw lu => lu = [(1, .inl (cy 0, 24, .inl (upd c1 (0 : Int32).toNatClampNeg x1))), (2, .inl (cy 0, 24, .inl (upd c2 (0 : Int32).toNatClampNeg x2))), (0, .inr (9, (f0.set 4 (.int 1))))]) := by
  refine cM_of (Qc := fun A => cQv (fun nw lu => lu = [(1, .inl (cy 0, 24, .inl (upd c1 (0 : Int32).toNatClampNeg x1))), (2, .inl (cy 0, 24, .inl (upd c2 (0 : Int32).toNatClampNeg x2))), (0, .inr (9, (f0.set 4 (.int 1))))]) D 3 0 ad g A) (cc := cX9_add) (maxL := 3) (ret := none) (by decide) rfl (Nat.le_of_ble_eq_true rfl) ?_
  intro p e s m below meth c A hC hr hlk hnm hO ls hl
  have hC : CallFix p m c cX9_add 3 s [.ref (ad 0), .int x1, .int x2].toArray wq_c_X9_add RX9 := hC
  obtain ⟨hx, hb, hml, hown, hts⟩ := id hC
  have hl : lv_has ls 3 [(0, .ref (ad 0)), (1, .int x1), (2, .int x2)] := hl
  have i_X9 : ∀ w ∈ wsX90, w ∈ wq_c_X9_add := fun w h => List.mem_cons_of_mem _ (List.mem_append_right _ h)
  refine lv_aload_n hx hb dX9_add_0 rfl (lv_at hl 0 rfl) ?_
  refine cg_get hC hO 0 (by decide) o0 rfl i_X9 4 (by decide) (List.mem_of_getElem? (i := 1) rfl) f0_4 dX9_add_1 ?_
  refine lv_bipush (v := 24) hx hb dX9_add_4 (by decide) ?_
  refine lv_icmp_ge (tgt := 39) hx hb dX9_add_6 (by decide) (fun h => absurd h (by decide)) (fun _ => ?_)
  refine lv_aload_n hx hb dX9_add_9 rfl (lv_at hl 0 rfl) ?_
  refine cg_get hC hO 0 (by decide) o0 rfl i_X9 0 (by decide) (List.mem_of_getElem? (i := 2) rfl) f0_0 dX9_add_10 ?_
  refine lv_aload_n hx hb dX9_add_13 rfl (lv_at hl 0 rfl) ?_
  refine cg_get hC hO 0 (by decide) o0 rfl i_X9 4 (by decide) (List.mem_of_getElem? (i := 1) rfl) f0_4 dX9_add_14 ?_
  refine lv_iload_n hx hb dX9_add_17 rfl (lv_at hl 1 rfl) ?_
  refine cg_iast hC hO 1 (by decide) a1 (cin (by decide)) dX9_add_18 (fun H locs hO => ?_)
  have hO : cO D cy A s.heap s 3 ad (cup [(1, .inl (cy 0, 24, .inl (upd c1 (0 : Int32).toNatClampNeg x1)))] g) _ _ := hO
  refine lv_aload_n hx hb dX9_add_19 rfl (lv_at hl 0 rfl) ?_
  refine cg_get hC hO 0 (by decide) o0 rfl i_X9 1 (by decide) (List.mem_of_getElem? (i := 3) rfl) f0_1 dX9_add_20 ?_
  refine lv_aload_n hx hb dX9_add_23 rfl (lv_at hl 0 rfl) ?_
  refine cg_get hC hO 0 (by decide) o0 rfl i_X9 4 (by decide) (List.mem_of_getElem? (i := 1) rfl) f0_4 dX9_add_24 ?_
  refine lv_iload_n hx hb dX9_add_27 rfl (lv_at hl 2 rfl) ?_
  refine cg_iast hC hO 2 (by decide) a2 (cin (by decide)) dX9_add_28 (fun H locs hO => ?_)
  have hO : cO D cy A s.heap s 3 ad (cup [(1, .inl (cy 0, 24, .inl (upd c1 (0 : Int32).toNatClampNeg x1))), (2, .inl (cy 0, 24, .inl (upd c2 (0 : Int32).toNatClampNeg x2)))] g) _ _ := hO
  refine lv_aload_n hx hb dX9_add_29 rfl (lv_at hl 0 rfl) ?_
  refine lv_dup hx hb dX9_add_30 rfl ?_
  refine cg_get hC hO 0 (by decide) o0 rfl i_X9 4 (by decide) (List.mem_of_getElem? (i := 1) rfl) f0_4 dX9_add_31 ?_
  refine lv_iconst (v := 1) hx hb dX9_add_34 (by decide) ?_
  refine lv_iadd hx hb dX9_add_35 ?_
  refine cg_ev (v := 1) (by decide) ?_
  refine cg_put hC hO 0 (by decide) o0 rfl i_X9 tyX9_ok nmX9 4 (by decide) (List.mem_of_getElem? (i := 1) rfl) rfl rfl rfl (fs_lt f0_4) dX9_add_36 (fun H locs hO => ?_)
  have hO : cO D cy A s.heap s 3 ad (cup [(1, .inl (cy 0, 24, .inl (upd c1 (0 : Int32).toNatClampNeg x1))), (2, .inl (cy 0, 24, .inl (upd c2 (0 : Int32).toNatClampNeg x2))), (0, .inr (9, (f0.set 4 (.int 1))))] g) _ _ := hO
  exact cg_vret (nw := fun _ => 0) hC hr hlk hO.same (Nat.le_of_ble_eq_true rfl) (Nat.le_of_ble_eq_true rfl) rfl dX9_add_39

theorem dX0_carryOut_0 : decode cX0_carryOut 0 = .ok (.aload_n 0, 1) := by decide +kernel
theorem dX0_carryOut_1 : decode cX0_carryOut 1 = .ok (.getfield 9, 3) := by decide +kernel
theorem dX0_carryOut_4 : decode cX0_carryOut 4 = .ok (.iload_n 1, 1) := by decide +kernel
theorem dX0_carryOut_5 : decode cX0_carryOut 5 = .ok (.iaload, 1) := by decide +kernel
theorem dX0_carryOut_6 : decode cX0_carryOut 6 = .ok (.ifCond .ne 22, 3) := by decide +kernel
theorem dX0_carryOut_9 : decode cX0_carryOut 9 = .ok (.aload_n 2, 1) := by decide +kernel
theorem dX0_carryOut_10 : decode cX0_carryOut 10 = .ok (.aload_n 0, 1) := by decide +kernel
theorem dX0_carryOut_11 : decode cX0_carryOut 11 = .ok (.getfield 15, 3) := by decide +kernel
theorem dX0_carryOut_14 : decode cX0_carryOut 14 = .ok (.iload_n 1, 1) := by decide +kernel
theorem dX0_carryOut_15 : decode cX0_carryOut 15 = .ok (.iaload, 1) := by decide +kernel
theorem dX0_carryOut_16 : decode cX0_carryOut 16 = .ok (.aload_n 0, 1) := by decide +kernel
theorem dX0_carryOut_17 : decode cX0_carryOut 17 = .ok (.getfield 18, 3) := by decide +kernel
theorem dX0_carryOut_20 : decode cX0_carryOut 20 = .ok (.iload_n 1, 1) := by decide +kernel
theorem dX0_carryOut_21 : decode cX0_carryOut 21 = .ok (.iaload, 1) := by decide +kernel
theorem dX0_carryOut_22 : decode cX0_carryOut 22 = .ok (.invokevirtual 41, 3) := by decide +kernel
theorem dX0_carryOut_25 : decode cX0_carryOut 25 = .ok (.goto 53, 3) := by decide +kernel
theorem dX0_carryOut_78 : decode cX0_carryOut 78 = .ok (.return_, 1) := by decide +kernel
def wq_c_X0_carryOut : List Cond := Cond.code yX0_carryOut cX0_carryOut 3 none :: (([Cond.fieldLink RX0 9 "CrowToll$Acts" "kind" "[I", Cond.fieldLink RX0 15 "CrowToll$Acts" "first" "[I", Cond.fieldLink RX0 18 "CrowToll$Acts" "second" "[I", Cond.methodLink RX0 41 yX9_add, Cond.instanceMethod yX9_add, Cond.selects RX9 yX9_add yX9_add, Cond.initialized RX9, Cond.code yX9_add cX9_add 3 none, Cond.fieldLink RX9 21 "CrowToll$Stand" "carts" "I", Cond.fieldLink RX9 9 "CrowToll$Stand" "minute" "[I", Cond.fieldLink RX9 15 "CrowToll$Stand" "sacks" "[I"] : List Cond) ++ wsX00 ++ wsX90)
set_option maxRecDepth 20000 in
theorem gr_c_X0_carryOut_c_X9_add : GoodIn wq_c_X0_carryOut wq_c_X9_add := List.forall_mem_cons.mpr ⟨⟨(List.mem_of_getElem? (i := 8) rfl), good_of_word rfl⟩, List.forall_mem_append.mpr ⟨List.forall_mem_cons.mpr ⟨⟨(List.mem_of_getElem? (i := 9) rfl), good_of_word rfl⟩, List.forall_mem_cons.mpr ⟨⟨(List.mem_of_getElem? (i := 10) rfl), good_of_word rfl⟩, List.forall_mem_cons.mpr ⟨⟨(List.mem_of_getElem? (i := 11) rfl), good_of_word rfl⟩, (fun _ h => absurd h List.not_mem_nil)⟩⟩⟩, fun w h => ⟨(fun w h => List.mem_cons_of_mem _ (List.mem_append_right _ h)) w h, good_of_word (List.all_eq_true.mp gw_X9 w h)⟩⟩⟩
set_option maxRecDepth 20000 in
theorem gq_c_X0_carryOut_c_X9_add_41 : GoodIn wq_c_X0_carryOut (wsV RX0 41 RX9 yX9_add wq_c_X9_add) := goodIn_app (List.forall_mem_cons.mpr ⟨⟨(List.mem_of_getElem? (i := 4) rfl), good_of_word rfl⟩, List.forall_mem_cons.mpr ⟨⟨(List.mem_of_getElem? (i := 5) rfl), good_of_word rfl⟩, List.forall_mem_cons.mpr ⟨⟨(List.mem_of_getElem? (i := 6) rfl), good_of_word rfl⟩, List.forall_mem_cons.mpr ⟨⟨(List.mem_of_getElem? (i := 7) rfl), good_of_word rfl⟩, (fun _ h => absurd h List.not_mem_nil)⟩⟩⟩⟩) gr_c_X0_carryOut_c_X9_add
set_option maxHeartbeats 8000000 in
set_option maxRecDepth 100000 in
theorem c_X0_carryOut (l : Launch) (D : va_G) (cy : Nat → ClassId) (ad : Nat → Nat) (g : Nat → va_E) {f0 : List Value} {f1 : List Value} {c900 : Nat → Int32} {c901 : Nat → Int32} {c902 : Nat → Int32} {c5 : Nat → Int32} {c6 : Nat → Int32} (o0 : g 0 = .inr (0, f0)) (f0_0 : f0[0]? = some (.ref (ad 2))) (f0_1 : f0[1]? = some (.ref (ad 3))) (f0_2 : f0[2]? = some (.ref (ad 4))) (o1 : g 1 = .inr (9, f1)) (f1_0 : f1[0]? = some (.ref (ad 5))) (f1_1 : f1[1]? = some (.ref (ad 6))) (f1_4 : f1[4]? = some (.int 0)) (a2 : g 2 = .inl (cy 0, 40, .inl c900)) (a3 : g 3 = .inl (cy 0, 40, .inl c901)) (a4 : g 4 = .inl (cy 0, 40, .inl c902)) (a5 : g 5 = .inl (cy 0, 24, .inl c5)) (a6 : g 6 = .inl (cy 0, 24, .inl c6)) (hk : c900 ((0 : Int32).toNatClampNeg) = 0) : cMv l yX0_carryOut wq_c_X0_carryOut { frames := 1, cells := 0, slots := 0, locals := 22 } 7 0 0 0 D cy ad g [.ref (ad 0), .int 0, .ref (ad 1)] (fun nw lu => ∃ (v_15_1 : Int32) (v_21_2 : Int32), lu = [(1, .inr (9, (f1.set 4 (.int 1)))), (6, .inl (cy 0, 24, .inl (upd c6 (0 : Int32).toNatClampNeg v_21_2))), (5, .inl (cy 0, 24, .inl (upd c5 (0 : Int32).toNatClampNeg v_15_1)))]) := by
  refine cM_of (Qc := fun A => cQv (fun nw lu => ∃ (v_15_1 : Int32) (v_21_2 : Int32), lu = [(1, .inr (9, (f1.set 4 (.int 1)))), (6, .inl (cy 0, 24, .inl (upd c6 (0 : Int32).toNatClampNeg v_21_2))), (5, .inl (cy 0, 24, .inl (upd c5 (0 : Int32).toNatClampNeg v_15_1)))]) D 7 0 ad g A) (cc := cX0_carryOut) (maxL := 3) (ret := none) (by decide) rfl (Nat.le_of_ble_eq_true rfl) ?_
  intro p e s m below meth c A hC hr hlk hnm hO ls hl
  have hC : CallFix p m c cX0_carryOut 3 s [.ref (ad 0), .int 0, .ref (ad 1)].toArray wq_c_X0_carryOut RX0 := hC
  obtain ⟨hx, hb, hml, hown, hts⟩ := id hC
  have hl : lv_has ls 3 [(0, .ref (ad 0)), (1, .int 0), (2, .ref (ad 1))] := hl
  have i_X0 : ∀ w ∈ wsX00, w ∈ wq_c_X0_carryOut := fun w h => List.mem_cons_of_mem _ (List.mem_append_left _ (List.mem_append_right _ h))
  have i_X9 : ∀ w ∈ wsX90, w ∈ wq_c_X0_carryOut := fun w h => List.mem_cons_of_mem _ (List.mem_append_right _ h)
  refine lv_aload_n hx hb dX0_carryOut_0 rfl (lv_at hl 0 rfl) ?_
  refine cg_get hC hO 0 (by decide) o0 rfl i_X0 0 (by decide) (List.mem_of_getElem? (i := 1) rfl) f0_0 dX0_carryOut_1 ?_
  refine lv_iload_n hx hb dX0_carryOut_4 rfl (lv_at hl 1 rfl) ?_
  refine cg_iald hC hO 2 (by decide) a2 (cin (by decide)) dX0_carryOut_5 ?_
  refine cg_ev (v := 0) (hk) ?_
  refine lv_if_ne (tgt := 28) hx hb dX0_carryOut_6 (by decide) (fun h => absurd h (by decide)) (fun _ => ?_)
  refine lv_aload_n hx hb dX0_carryOut_9 rfl (lv_at hl 2 rfl) ?_
  refine lv_aload_n hx hb dX0_carryOut_10 rfl (lv_at hl 0 rfl) ?_
  refine cg_get hC hO 0 (by decide) o0 rfl i_X0 1 (by decide) (List.mem_of_getElem? (i := 2) rfl) f0_1 dX0_carryOut_11 ?_
  refine lv_iload_n hx hb dX0_carryOut_14 rfl (lv_at hl 1 rfl) ?_
  refine cg_iald hC hO 3 (by decide) a3 (cin (by decide)) dX0_carryOut_15 ?_
  refine lv_topi (fun v_15_1 ev_15_1 => ?_)
  refine lv_aload_n hx hb dX0_carryOut_16 rfl (lv_at hl 0 rfl) ?_
  refine cg_get hC hO 0 (by decide) o0 rfl i_X0 2 (by decide) (List.mem_of_getElem? (i := 3) rfl) f0_2 dX0_carryOut_17 ?_
  refine lv_iload_n hx hb dX0_carryOut_20 rfl (lv_at hl 1 rfl) ?_
  refine cg_iald hC hO 4 (by decide) a4 (cin (by decide)) dX0_carryOut_21 ?_
  refine lv_topi (fun v_21_2 ev_21_2 => ?_)
  refine cg_Vv (As := [.int v_15_1, .int v_21_2]) (rest := []) (mc := 0) (ms := 0) (rm := { frames := 0, cells := 0, slots := 0, locals := 0 }) hC hl.1 hO [1, 5, 6] rfl (c_X9_add l D cy _ _ (f0 := f1) (c1 := c5) (c2 := c6) (x1 := v_15_1) (x2 := v_21_2) o1 f1_0 f1_1 f1_4 a5 a6) gq_c_X0_carryOut_c_X9_add_41 rfl rfl rfl 2 (by decide +kernel) ⟨Nat.le_of_ble_eq_true rfl, Nat.le_of_ble_eq_true rfl⟩ rfl (by decide) o1 rfl rfl (Nat.le_of_ble_eq_true rfl) dX0_carryOut_22 ⟨Nat.le_of_ble_eq_true rfl, Nat.le_of_ble_eq_true rfl⟩ (fun nw_22_3 l_22_4 H locs hw hO => ?_)
  obtain rfl := hw
  have hO : cO D cy A s.heap s 7 ad (cup [(1, .inr (9, (f1.set 4 (.int 1)))), (6, .inl (cy 0, 24, .inl (upd c6 (0 : Int32).toNatClampNeg v_21_2))), (5, .inl (cy 0, 24, .inl (upd c5 (0 : Int32).toNatClampNeg v_15_1)))] g) _ _ := hO
  refine lv_goto (tgt := 78) hx hb dX0_carryOut_25 (by decide) ?_
  exact cg_vret (nw := fun _ => 0) hC hr hlk hO.same (Nat.le_of_ble_eq_true rfl) (Nat.le_of_ble_eq_true rfl) (⟨v_15_1, v_21_2, rfl⟩) dX0_carryOut_78

theorem dX11_act_0 : decode cX11_act 0 = .ok (.aload_n 0, 1) := by decide +kernel
theorem dX11_act_1 : decode cX11_act 1 = .ok (.getfield 55, 3) := by decide +kernel
theorem dX11_act_4 : decode cX11_act 4 = .ok (.iload_n 1, 1) := by decide +kernel
theorem dX11_act_5 : decode cX11_act 5 = .ok (.iload_n 2, 1) := by decide +kernel
theorem dX11_act_6 : decode cX11_act 6 = .ok (.iload_n 3, 1) := by decide +kernel
theorem dX11_act_7 : decode cX11_act 7 = .ok (.invokevirtual 200, 3) := by decide +kernel
theorem dX11_act_10 : decode cX11_act 10 = .ok (.aload_n 0, 1) := by decide +kernel
theorem dX11_act_11 : decode cX11_act 11 = .ok (.getfield 55, 3) := by decide +kernel
theorem dX11_act_14 : decode cX11_act 14 = .ok (.aload_n 0, 1) := by decide +kernel
theorem dX11_act_15 : decode cX11_act 15 = .ok (.getfield 55, 3) := by decide +kernel
theorem dX11_act_18 : decode cX11_act 18 = .ok (.getfield 203, 3) := by decide +kernel
theorem dX11_act_21 : decode cX11_act 21 = .ok (.iconst 1, 1) := by decide +kernel
theorem dX11_act_22 : decode cX11_act 22 = .ok (.isub, 1) := by decide +kernel
theorem dX11_act_23 : decode cX11_act 23 = .ok (.aload_n 0, 1) := by decide +kernel
theorem dX11_act_24 : decode cX11_act 24 = .ok (.getfield 37, 3) := by decide +kernel
theorem dX11_act_27 : decode cX11_act 27 = .ok (.invokevirtual 206, 3) := by decide +kernel
theorem dX11_act_30 : decode cX11_act 30 = .ok (.aload_n 0, 1) := by decide +kernel
theorem dX11_act_31 : decode cX11_act 31 = .ok (.getfield 72, 3) := by decide +kernel
theorem dX11_act_34 : decode cX11_act 34 = .ok (.invokevirtual 126, 3) := by decide +kernel
theorem dX11_act_37 : decode cX11_act 37 = .ok (.return_, 1) := by decide +kernel
def wq_c_X11_act : List Cond := Cond.code yX11_act cX11_act 4 none :: (([Cond.fieldLink RX11 55 "CrowToll" "acts" "LCrowToll$Acts;", Cond.methodLink RX11 200 yX0_keep, Cond.instanceMethod yX0_keep, Cond.selects RX0 yX0_keep yX0_keep, Cond.initialized RX0, Cond.code yX0_keep cX0_keep 4 none, Cond.fieldLink RX0 21 "CrowToll$Acts" "done" "I", Cond.fieldLink RX0 9 "CrowToll$Acts" "kind" "[I", Cond.fieldLink RX0 15 "CrowToll$Acts" "first" "[I", Cond.fieldLink RX0 18 "CrowToll$Acts" "second" "[I", Cond.fieldLink RX0 25 "CrowToll$Acts" "kept" "I", Cond.fieldLink RX11 203 "CrowToll$Acts" "done" "I", Cond.fieldLink RX11 37 "CrowToll" "stand" "LCrowToll$Stand;", Cond.methodLink RX11 206 yX0_carryOut, Cond.instanceMethod yX0_carryOut, Cond.selects RX0 yX0_carryOut yX0_carryOut, Cond.code yX0_carryOut cX0_carryOut 3 none, Cond.methodLink RX0 41 yX9_add, Cond.instanceMethod yX9_add, Cond.selects RX9 yX9_add yX9_add, Cond.initialized RX9, Cond.code yX9_add cX9_add 3 none, Cond.fieldLink RX9 21 "CrowToll$Stand" "carts" "I", Cond.fieldLink RX9 9 "CrowToll$Stand" "minute" "[I", Cond.fieldLink RX9 15 "CrowToll$Stand" "sacks" "[I", Cond.fieldLink RX11 72 "CrowToll" "day" "LCrowToll$Day;", Cond.methodLink RX11 126 yX1_workOut, Cond.instanceMethod yX1_workOut, Cond.selects RX1 yX1_workOut yX1_workOut, Cond.initialized RX1, Cond.code yX1_workOut cX1_workOut 6 none, Cond.fieldLink RX1 25 "CrowToll$Day" "stand" "LCrowToll$Stand;", Cond.fieldLink RX1 18 "CrowToll$Day" "order" "[I", Cond.methodLink RX1 48 yX9_coming, Cond.instanceMethod yX9_coming, Cond.selects RX9 yX9_coming yX9_coming, Cond.code yX9_coming cX9_coming 4 (some .int), Cond.fieldLink RX9 37 "CrowToll$Stand" "comes" "I", Cond.code yX11_has cX11_has 2 (some .boolean), Cond.static yX11_has, Cond.initialized RX11, Cond.fieldLink RX1 54 "CrowToll$Stand" "minute" "[I", Cond.code yX11_putByMinutes cX11_putByMinutes 6 none, Cond.static yX11_putByMinutes, Cond.fieldLink RX1 9 "CrowToll$Day" "counter" "[I", Cond.methodLink RX1 42 yJ7_fill_53178, Cond.static yJ7_fill_53178, Cond.initialized RJ7, Cond.code yJ7_fill_53178 cJ7_fill_53178 4 none, Cond.fieldLink RX1 15 "CrowToll$Day" "paid" "[I", Cond.fieldLink RX1 38 "CrowToll$Day" "watch" "LCrowToll$Watch;", Cond.fieldLink RX1 61 "CrowToll$Stand" "counts" "[I", Cond.methodLink RX1 64 yX10_sit, Cond.instanceMethod yX10_sit, Cond.selects RX10 yX10_sit yX10_sit, Cond.initialized RX10, Cond.code yX10_sit cX10_sit 2 none, Cond.fieldLink RX10 9 "CrowToll$Watch" "limit" "[I", Cond.methodLink RX10 37 arraycopyName, Cond.native arraycopyName, Cond.static arraycopyName, Cond.initialized "java/lang/System", Cond.fieldLink RX10 33 "CrowToll$Watch" "road" "LCrowToll$Road;", Cond.fieldLink RX10 43 "CrowToll$Road" "seat" "[I", Cond.fieldLink RX10 15 "CrowToll$Watch" "seat" "[I", Cond.fieldLink RX10 46 "CrowToll$Road" "seated" "[I", Cond.fieldLink RX10 18 "CrowToll$Watch" "seated" "[I", Cond.methodLink RX10 47 yX10_begin, Cond.instanceMethod yX10_begin, Cond.selects RX10 yX10_begin yX10_begin, Cond.code yX10_begin cX10_begin 1 none, Cond.fieldLink RX10 21 "CrowToll$Watch" "count" "[I", Cond.methodLink RX10 54 yJ7_fill_53178, Cond.fieldLink RX10 24 "CrowToll$Watch" "total" "[I", Cond.fieldLink RX10 27 "CrowToll$Watch" "lookedAt" "[I", Cond.fieldLink RX10 30 "CrowToll$Watch" "countedAt" "[I", Cond.fieldLink RX1 21 "CrowToll$Day" "road" "LCrowToll$Road;", Cond.fieldLink RX1 68 "CrowToll$Road" "posts" "I"] : List Cond) ++ wsX00 ++ wsX10 ++ wsX70 ++ wsX90 ++ wsX100 ++ wsX110)
set_option maxRecDepth 20000 in
theorem gr_c_X11_act_c_X0_keep : GoodIn wq_c_X11_act wq_c_X0_keep := List.forall_mem_cons.mpr ⟨⟨(List.mem_of_getElem? (i := 6) rfl), good_of_word rfl⟩, List.forall_mem_append.mpr ⟨List.forall_mem_cons.mpr ⟨⟨(List.mem_of_getElem? (i := 7) rfl), good_of_word rfl⟩, List.forall_mem_cons.mpr ⟨⟨(List.mem_of_getElem? (i := 8) rfl), good_of_word rfl⟩, List.forall_mem_cons.mpr ⟨⟨(List.mem_of_getElem? (i := 9) rfl), good_of_word rfl⟩, List.forall_mem_cons.mpr ⟨⟨(List.mem_of_getElem? (i := 10) rfl), good_of_word rfl⟩, List.forall_mem_cons.mpr ⟨⟨(List.mem_of_getElem? (i := 11) rfl), good_of_word rfl⟩, (fun _ h => absurd h List.not_mem_nil)⟩⟩⟩⟩⟩, fun w h => ⟨(fun w h => List.mem_cons_of_mem _ (List.mem_append_left _ (List.mem_append_left _ (List.mem_append_left _ (List.mem_append_left _ (List.mem_append_left _ (List.mem_append_right _ h))))))) w h, good_of_word (List.all_eq_true.mp gw_X0 w h)⟩⟩⟩
set_option maxRecDepth 20000 in
theorem gq_c_X11_act_c_X0_keep_200 : GoodIn wq_c_X11_act (wsV RX11 200 RX0 yX0_keep wq_c_X0_keep) := goodIn_app (List.forall_mem_cons.mpr ⟨⟨(List.mem_of_getElem? (i := 2) rfl), good_of_word rfl⟩, List.forall_mem_cons.mpr ⟨⟨(List.mem_of_getElem? (i := 3) rfl), good_of_word rfl⟩, List.forall_mem_cons.mpr ⟨⟨(List.mem_of_getElem? (i := 4) rfl), good_of_word rfl⟩, List.forall_mem_cons.mpr ⟨⟨(List.mem_of_getElem? (i := 5) rfl), good_of_word rfl⟩, (fun _ h => absurd h List.not_mem_nil)⟩⟩⟩⟩) gr_c_X11_act_c_X0_keep
set_option maxRecDepth 20000 in
theorem gr_c_X11_act_c_X0_carryOut : GoodIn wq_c_X11_act wq_c_X0_carryOut := List.forall_mem_cons.mpr ⟨⟨(List.mem_of_getElem? (i := 17) rfl), good_of_word rfl⟩, List.forall_mem_append.mpr ⟨List.forall_mem_append.mpr ⟨List.forall_mem_cons.mpr ⟨⟨(List.mem_of_getElem? (i := 8) rfl), good_of_word rfl⟩, List.forall_mem_cons.mpr ⟨⟨(List.mem_of_getElem? (i := 9) rfl), good_of_word rfl⟩, List.forall_mem_cons.mpr ⟨⟨(List.mem_of_getElem? (i := 10) rfl), good_of_word rfl⟩, List.forall_mem_cons.mpr ⟨⟨(List.mem_of_getElem? (i := 18) rfl), good_of_word rfl⟩, List.forall_mem_cons.mpr ⟨⟨(List.mem_of_getElem? (i := 19) rfl), good_of_word rfl⟩, List.forall_mem_cons.mpr ⟨⟨(List.mem_of_getElem? (i := 20) rfl), good_of_word rfl⟩, List.forall_mem_cons.mpr ⟨⟨(List.mem_of_getElem? (i := 21) rfl), good_of_word rfl⟩, List.forall_mem_cons.mpr ⟨⟨(List.mem_of_getElem? (i := 22) rfl), good_of_word rfl⟩, List.forall_mem_cons.mpr ⟨⟨(List.mem_of_getElem? (i := 23) rfl), good_of_word rfl⟩, List.forall_mem_cons.mpr ⟨⟨(List.mem_of_getElem? (i := 24) rfl), good_of_word rfl⟩, List.forall_mem_cons.mpr ⟨⟨(List.mem_of_getElem? (i := 25) rfl), good_of_word rfl⟩, (fun _ h => absurd h List.not_mem_nil)⟩⟩⟩⟩⟩⟩⟩⟩⟩⟩⟩, fun w h => ⟨(fun w h => List.mem_cons_of_mem _ (List.mem_append_left _ (List.mem_append_left _ (List.mem_append_left _ (List.mem_append_left _ (List.mem_append_left _ (List.mem_append_right _ h))))))) w h, good_of_word (List.all_eq_true.mp gw_X0 w h)⟩⟩, fun w h => ⟨(fun w h => List.mem_cons_of_mem _ (List.mem_append_left _ (List.mem_append_left _ (List.mem_append_right _ h)))) w h, good_of_word (List.all_eq_true.mp gw_X9 w h)⟩⟩⟩
set_option maxRecDepth 20000 in
theorem gq_c_X11_act_c_X0_carryOut_206 : GoodIn wq_c_X11_act (wsV RX11 206 RX0 yX0_carryOut wq_c_X0_carryOut) := goodIn_app (List.forall_mem_cons.mpr ⟨⟨(List.mem_of_getElem? (i := 14) rfl), good_of_word rfl⟩, List.forall_mem_cons.mpr ⟨⟨(List.mem_of_getElem? (i := 15) rfl), good_of_word rfl⟩, List.forall_mem_cons.mpr ⟨⟨(List.mem_of_getElem? (i := 16) rfl), good_of_word rfl⟩, List.forall_mem_cons.mpr ⟨⟨(List.mem_of_getElem? (i := 5) rfl), good_of_word rfl⟩, (fun _ h => absurd h List.not_mem_nil)⟩⟩⟩⟩) gr_c_X11_act_c_X0_carryOut
set_option maxRecDepth 20000 in
theorem gr_c_X11_act_c_workOut1 : GoodIn wq_c_X11_act wq_c_workOut1 := List.forall_mem_cons.mpr ⟨⟨(List.mem_of_getElem? (i := 31) rfl), good_of_word rfl⟩, List.forall_mem_append.mpr ⟨List.forall_mem_append.mpr ⟨List.forall_mem_append.mpr ⟨List.forall_mem_append.mpr ⟨List.forall_mem_cons.mpr ⟨⟨(List.mem_of_getElem? (i := 32) rfl), good_of_word rfl⟩, List.forall_mem_cons.mpr ⟨⟨(List.mem_of_getElem? (i := 33) rfl), good_of_word rfl⟩, List.forall_mem_cons.mpr ⟨⟨(List.mem_of_getElem? (i := 34) rfl), good_of_word rfl⟩, List.forall_mem_cons.mpr ⟨⟨(List.mem_of_getElem? (i := 35) rfl), good_of_word rfl⟩, List.forall_mem_cons.mpr ⟨⟨(List.mem_of_getElem? (i := 36) rfl), good_of_word rfl⟩, List.forall_mem_cons.mpr ⟨⟨(List.mem_of_getElem? (i := 21) rfl), good_of_word rfl⟩, List.forall_mem_cons.mpr ⟨⟨(List.mem_of_getElem? (i := 37) rfl), good_of_word rfl⟩, List.forall_mem_cons.mpr ⟨⟨(List.mem_of_getElem? (i := 23) rfl), good_of_word rfl⟩, List.forall_mem_cons.mpr ⟨⟨(List.mem_of_getElem? (i := 38) rfl), good_of_word rfl⟩, List.forall_mem_cons.mpr ⟨⟨(List.mem_of_getElem? (i := 39) rfl), good_of_word rfl⟩, List.forall_mem_cons.mpr ⟨⟨(List.mem_of_getElem? (i := 40) rfl), good_of_word rfl⟩, List.forall_mem_cons.mpr ⟨⟨(List.mem_of_getElem? (i := 41) rfl), good_of_word rfl⟩, List.forall_mem_cons.mpr ⟨⟨(List.mem_of_getElem? (i := 42) rfl), good_of_word rfl⟩, List.forall_mem_cons.mpr ⟨⟨(List.mem_of_getElem? (i := 43) rfl), good_of_word rfl⟩, List.forall_mem_cons.mpr ⟨⟨(List.mem_of_getElem? (i := 44) rfl), good_of_word rfl⟩, List.forall_mem_cons.mpr ⟨⟨(List.mem_of_getElem? (i := 45) rfl), good_of_word rfl⟩, List.forall_mem_cons.mpr ⟨⟨(List.mem_of_getElem? (i := 46) rfl), good_of_word rfl⟩, List.forall_mem_cons.mpr ⟨⟨(List.mem_of_getElem? (i := 47) rfl), good_of_word rfl⟩, List.forall_mem_cons.mpr ⟨⟨(List.mem_of_getElem? (i := 48) rfl), good_of_word rfl⟩, List.forall_mem_cons.mpr ⟨⟨(List.mem_of_getElem? (i := 49) rfl), good_of_word rfl⟩, List.forall_mem_cons.mpr ⟨⟨(List.mem_of_getElem? (i := 50) rfl), good_of_word rfl⟩, List.forall_mem_cons.mpr ⟨⟨(List.mem_of_getElem? (i := 51) rfl), good_of_word rfl⟩, List.forall_mem_cons.mpr ⟨⟨(List.mem_of_getElem? (i := 52) rfl), good_of_word rfl⟩, List.forall_mem_cons.mpr ⟨⟨(List.mem_of_getElem? (i := 53) rfl), good_of_word rfl⟩, List.forall_mem_cons.mpr ⟨⟨(List.mem_of_getElem? (i := 54) rfl), good_of_word rfl⟩, List.forall_mem_cons.mpr ⟨⟨(List.mem_of_getElem? (i := 55) rfl), good_of_word rfl⟩, List.forall_mem_cons.mpr ⟨⟨(List.mem_of_getElem? (i := 56) rfl), good_of_word rfl⟩, List.forall_mem_cons.mpr ⟨⟨(List.mem_of_getElem? (i := 57) rfl), good_of_word rfl⟩, List.forall_mem_cons.mpr ⟨⟨(List.mem_of_getElem? (i := 58) rfl), good_of_word rfl⟩, List.forall_mem_cons.mpr ⟨⟨(List.mem_of_getElem? (i := 59) rfl), good_of_word rfl⟩, List.forall_mem_cons.mpr ⟨⟨(List.mem_of_getElem? (i := 60) rfl), good_of_word rfl⟩, List.forall_mem_cons.mpr ⟨⟨(List.mem_of_getElem? (i := 61) rfl), good_of_word rfl⟩, List.forall_mem_cons.mpr ⟨⟨(List.mem_of_getElem? (i := 62) rfl), good_of_word rfl⟩, List.forall_mem_cons.mpr ⟨⟨(List.mem_of_getElem? (i := 63) rfl), good_of_word rfl⟩, List.forall_mem_cons.mpr ⟨⟨(List.mem_of_getElem? (i := 64) rfl), good_of_word rfl⟩, List.forall_mem_cons.mpr ⟨⟨(List.mem_of_getElem? (i := 65) rfl), good_of_word rfl⟩, List.forall_mem_cons.mpr ⟨⟨(List.mem_of_getElem? (i := 66) rfl), good_of_word rfl⟩, List.forall_mem_cons.mpr ⟨⟨(List.mem_of_getElem? (i := 67) rfl), good_of_word rfl⟩, List.forall_mem_cons.mpr ⟨⟨(List.mem_of_getElem? (i := 68) rfl), good_of_word rfl⟩, List.forall_mem_cons.mpr ⟨⟨(List.mem_of_getElem? (i := 69) rfl), good_of_word rfl⟩, List.forall_mem_cons.mpr ⟨⟨(List.mem_of_getElem? (i := 70) rfl), good_of_word rfl⟩, List.forall_mem_cons.mpr ⟨⟨(List.mem_of_getElem? (i := 71) rfl), good_of_word rfl⟩, List.forall_mem_cons.mpr ⟨⟨(List.mem_of_getElem? (i := 72) rfl), good_of_word rfl⟩, List.forall_mem_cons.mpr ⟨⟨(List.mem_of_getElem? (i := 73) rfl), good_of_word rfl⟩, List.forall_mem_cons.mpr ⟨⟨(List.mem_of_getElem? (i := 74) rfl), good_of_word rfl⟩, List.forall_mem_cons.mpr ⟨⟨(List.mem_of_getElem? (i := 75) rfl), good_of_word rfl⟩, List.forall_mem_cons.mpr ⟨⟨(List.mem_of_getElem? (i := 76) rfl), good_of_word rfl⟩, List.forall_mem_cons.mpr ⟨⟨(List.mem_of_getElem? (i := 77) rfl), good_of_word rfl⟩, List.forall_mem_cons.mpr ⟨⟨(List.mem_of_getElem? (i := 78) rfl), good_of_word rfl⟩, (fun _ h => absurd h List.not_mem_nil)⟩⟩⟩⟩⟩⟩⟩⟩⟩⟩⟩⟩⟩⟩⟩⟩⟩⟩⟩⟩⟩⟩⟩⟩⟩⟩⟩⟩⟩⟩⟩⟩⟩⟩⟩⟩⟩⟩⟩⟩⟩⟩⟩⟩⟩⟩⟩⟩⟩, fun w h => ⟨(fun w h => List.mem_cons_of_mem _ (List.mem_append_left _ (List.mem_append_left _ (List.mem_append_left _ (List.mem_append_left _ (List.mem_append_right _ h)))))) w h, good_of_word (List.all_eq_true.mp gw_X1 w h)⟩⟩, fun w h => ⟨(fun w h => List.mem_cons_of_mem _ (List.mem_append_left _ (List.mem_append_left _ (List.mem_append_left _ (List.mem_append_right _ h))))) w h, good_of_word (List.all_eq_true.mp gw_X7 w h)⟩⟩, fun w h => ⟨(fun w h => List.mem_cons_of_mem _ (List.mem_append_left _ (List.mem_append_left _ (List.mem_append_right _ h)))) w h, good_of_word (List.all_eq_true.mp gw_X9 w h)⟩⟩, fun w h => ⟨(fun w h => List.mem_cons_of_mem _ (List.mem_append_left _ (List.mem_append_right _ h))) w h, good_of_word (List.all_eq_true.mp gw_X10 w h)⟩⟩⟩
set_option maxRecDepth 20000 in
theorem gq_c_X11_act_c_workOut1_126 : GoodIn wq_c_X11_act (wsV RX11 126 RX1 yX1_workOut wq_c_workOut1) := goodIn_app (List.forall_mem_cons.mpr ⟨⟨(List.mem_of_getElem? (i := 27) rfl), good_of_word rfl⟩, List.forall_mem_cons.mpr ⟨⟨(List.mem_of_getElem? (i := 28) rfl), good_of_word rfl⟩, List.forall_mem_cons.mpr ⟨⟨(List.mem_of_getElem? (i := 29) rfl), good_of_word rfl⟩, List.forall_mem_cons.mpr ⟨⟨(List.mem_of_getElem? (i := 30) rfl), good_of_word rfl⟩, (fun _ h => absurd h List.not_mem_nil)⟩⟩⟩⟩) gr_c_X11_act_c_workOut1
set_option maxHeartbeats 8000000 in
set_option maxRecDepth 100000 in
theorem c_X11_act (l : Launch) (D : va_G) (cy : Nat → ClassId) (ad : Nat → Nat) (g : Nat → va_E) {f0 : List Value} {f1 : List Value} {c2 : Nat → Int32} {c3 : Nat → Int32} {c4 : Nat → Int32} {f5 : List Value} {c6 : Nat → Int32} {c7 : Nat → Int32} {f8 : List Value} {f9 : List Value} {c10 : Nat → Int32} {c11 : Nat → Int32} {c12 : Nat → Int32} {f13 : List Value} {c14 : Nat → Int32} {c15 : Nat → Int32} {c16 : Nat → Int32} {c17 : Nat → Int32} {c18 : Nat → Int32} {c19 : Nat → Int32} {c20 : Nat → Int32} {c21 : Nat → Int32} {c22 : Nat → Int32} {c23 : Nat → Int32} {x1 : Int32} {x2 : Int32} (o0 : g 0 = .inr (11, f0)) (f0_4 : f0[4]? = some (.ref (ad 5))) (f0_6 : f0[6]? = some (.ref (ad 1))) (f0_8 : f0[8]? = some (.ref (ad 8))) (o1 : g 1 = .inr (0, f1)) (f1_0 : f1[0]? = some (.ref (ad 2))) (f1_1 : f1[1]? = some (.ref (ad 3))) (f1_2 : f1[2]? = some (.ref (ad 4))) (f1_3 : f1[3]? = some (.int 0)) (f1_4 : f1[4]? = some (.int 0)) (a2 : g 2 = .inl (cy 0, 40, .inl c2)) (a3 : g 3 = .inl (cy 0, 40, .inl c3)) (a4 : g 4 = .inl (cy 0, 40, .inl c4)) (o5 : g 5 = .inr (9, f5)) (f5_0 : f5[0]? = some (.ref (ad 6))) (f5_1 : f5[1]? = some (.ref (ad 7))) (f5_2 : f5[2]? = some (.int (-1))) (f5_3 : f5[3]? = some (.ref (ad 12))) (f5_4 : f5[4]? = some (.int 0)) (a6 : g 6 = .inl (cy 0, 24, .inl c6)) (a7 : g 7 = .inl (cy 0, 24, .inl c7)) (o8 : g 8 = .inr (1, f8)) (f8_0 : f8[0]? = some (.ref (ad 9))) (f8_1 : f8[1]? = some (.ref (ad 5))) (f8_3 : f8[3]? = some (.ref (ad 13))) (f8_4 : f8[4]? = some (.ref (ad 21))) (f8_5 : f8[5]? = some (.ref (ad 22))) (f8_6 : f8[6]? = some (.ref (ad 23))) (o9 : g 9 = .inr (7, f9)) (f9_9 : f9[9]? = some (.ref (ad 10))) (f9_10 : f9[10]? = some (.ref (ad 11))) (f9_11 : f9[11]? = some (.int 0)) (a10 : g 10 = .inl (cy 0, 20, .inl c10)) (a11 : g 11 = .inl (cy 0, 4, .inl c11)) (a12 : g 12 = .inl (cy 0, 5, .inl c12)) (o13 : g 13 = .inr (10, f13)) (f13_0 : f13[0]? = some (.ref (ad 9))) (f13_1 : f13[1]? = some (.ref (ad 14))) (f13_2 : f13[2]? = some (.ref (ad 15))) (f13_3 : f13[3]? = some (.ref (ad 16))) (f13_4 : f13[4]? = some (.ref (ad 17))) (f13_5 : f13[5]? = some (.ref (ad 18))) (f13_6 : f13[6]? = some (.ref (ad 19))) (f13_7 : f13[7]? = some (.ref (ad 20))) (a14 : g 14 = .inl (cy 0, 5, .inl c14)) (a15 : g 15 = .inl (cy 0, 20, .inl c15)) (a16 : g 16 = .inl (cy 0, 4, .inl c16)) (a17 : g 17 = .inl (cy 0, 5, .inl c17)) (a18 : g 18 = .inl (cy 0, 5, .inl c18)) (a19 : g 19 = .inl (cy 0, 5, .inl c19)) (a20 : g 20 = .inl (cy 0, 5, .inl c20)) (a21 : g 21 = .inl (cy 0, 96, .inl c21)) (a22 : g 22 = .inl (cy 0, 96, .inl c22)) (a23 : g 23 = .inl (cy 0, 24, .inl c23)) : cMv l yX11_act wq_c_X11_act { frames := 4, cells := 0, slots := 0, locals := 106 } 24 0 0 0 D cy ad g [.ref (ad 0), .int 0, .int x1, .int x2] (fun nw lu => ∃ (v_27_7 : Int32) (v_27_8 : Int32) (cz_34_12 : Nat → Int32) (cz_34_13 : Nat → Int32) (c2_34_14 : Nat → Int32) (c5_34_15 : Nat → Int32) (c7_34_16 : Nat → Int32) (cz_34_17 : Nat → Int32) (cz_34_18 : Nat → Int32) (cz_34_19 : Nat → Int32) (cz_34_20 : Nat → Int32), lu = [(1, .inr (0, ((f1.set 3 (.int 1)).set 4 (.int 1)))), (4, .inl (cy 0, 40, .inl (upd c4 (0 : Int32).toNatClampNeg x2))), (3, .inl (cy 0, 40, .inl (upd c3 (0 : Int32).toNatClampNeg x1))), (2, .inl (cy 0, 40, .inl (upd c2 (0 : Int32).toNatClampNeg 0))), (6, .inl (cy 0, 24, .inl (upd c6 (0 : Int32).toNatClampNeg v_27_7))), (7, .inl (cy 0, 24, .inl (upd c7 (0 : Int32).toNatClampNeg v_27_8))), (5, .inr (9, (f5.set 4 (.int 1)))), (14, .inl (cy 0, 5, .inl c2_34_14)), (15, .inl (cy 0, 20, .inl c5_34_15)), (16, .inl (cy 0, 4, .inl c7_34_16)), (20, .inl (cy 0, 5, .inl cz_34_20)), (19, .inl (cy 0, 5, .inl cz_34_19)), (18, .inl (cy 0, 5, .inl cz_34_18)), (17, .inl (cy 0, 5, .inl cz_34_17)), (22, .inl (cy 0, 96, .inl cz_34_13)), (21, .inl (cy 0, 96, .inl cz_34_12)), (23, .inl (cy 0, 24, .inl (upd c23 (0 : Int32).toNatClampNeg 0)))]) := by
  refine cM_of (Qc := fun A => cQv (fun nw lu => ∃ (v_27_7 : Int32) (v_27_8 : Int32) (cz_34_12 : Nat → Int32) (cz_34_13 : Nat → Int32) (c2_34_14 : Nat → Int32) (c5_34_15 : Nat → Int32) (c7_34_16 : Nat → Int32) (cz_34_17 : Nat → Int32) (cz_34_18 : Nat → Int32) (cz_34_19 : Nat → Int32) (cz_34_20 : Nat → Int32), lu = [(1, .inr (0, ((f1.set 3 (.int 1)).set 4 (.int 1)))), (4, .inl (cy 0, 40, .inl (upd c4 (0 : Int32).toNatClampNeg x2))), (3, .inl (cy 0, 40, .inl (upd c3 (0 : Int32).toNatClampNeg x1))), (2, .inl (cy 0, 40, .inl (upd c2 (0 : Int32).toNatClampNeg 0))), (6, .inl (cy 0, 24, .inl (upd c6 (0 : Int32).toNatClampNeg v_27_7))), (7, .inl (cy 0, 24, .inl (upd c7 (0 : Int32).toNatClampNeg v_27_8))), (5, .inr (9, (f5.set 4 (.int 1)))), (14, .inl (cy 0, 5, .inl c2_34_14)), (15, .inl (cy 0, 20, .inl c5_34_15)), (16, .inl (cy 0, 4, .inl c7_34_16)), (20, .inl (cy 0, 5, .inl cz_34_20)), (19, .inl (cy 0, 5, .inl cz_34_19)), (18, .inl (cy 0, 5, .inl cz_34_18)), (17, .inl (cy 0, 5, .inl cz_34_17)), (22, .inl (cy 0, 96, .inl cz_34_13)), (21, .inl (cy 0, 96, .inl cz_34_12)), (23, .inl (cy 0, 24, .inl (upd c23 (0 : Int32).toNatClampNeg 0)))]) D 24 0 ad g A) (cc := cX11_act) (maxL := 4) (ret := none) (by decide) rfl (Nat.le_of_ble_eq_true rfl) ?_
  intro p e s m below meth c A hC hr hlk hnm hO ls hl
  have hC : CallFix p m c cX11_act 4 s [.ref (ad 0), .int 0, .int x1, .int x2].toArray wq_c_X11_act RX11 := hC
  obtain ⟨hx, hb, hml, hown, hts⟩ := id hC
  have hl : lv_has ls 4 [(0, .ref (ad 0)), (1, .int 0), (2, .int x1), (3, .int x2)] := hl
  have i_X0 : ∀ w ∈ wsX00, w ∈ wq_c_X11_act := fun w h => List.mem_cons_of_mem _ (List.mem_append_left _ (List.mem_append_left _ (List.mem_append_left _ (List.mem_append_left _ (List.mem_append_left _ (List.mem_append_right _ h))))))
  have i_X1 : ∀ w ∈ wsX10, w ∈ wq_c_X11_act := fun w h => List.mem_cons_of_mem _ (List.mem_append_left _ (List.mem_append_left _ (List.mem_append_left _ (List.mem_append_left _ (List.mem_append_right _ h)))))
  have i_X10 : ∀ w ∈ wsX100, w ∈ wq_c_X11_act := fun w h => List.mem_cons_of_mem _ (List.mem_append_left _ (List.mem_append_right _ h))
  have i_X11 : ∀ w ∈ wsX110, w ∈ wq_c_X11_act := fun w h => List.mem_cons_of_mem _ (List.mem_append_right _ h)
  have i_X7 : ∀ w ∈ wsX70, w ∈ wq_c_X11_act := fun w h => List.mem_cons_of_mem _ (List.mem_append_left _ (List.mem_append_left _ (List.mem_append_left _ (List.mem_append_right _ h))))
  have i_X9 : ∀ w ∈ wsX90, w ∈ wq_c_X11_act := fun w h => List.mem_cons_of_mem _ (List.mem_append_left _ (List.mem_append_left _ (List.mem_append_right _ h)))
  refine lv_aload_n hx hb dX11_act_0 rfl (lv_at hl 0 rfl) ?_
  refine cg_get hC hO 0 (by decide) o0 rfl i_X11 6 (by decide) (List.mem_of_getElem? (i := 1) rfl) f0_6 dX11_act_1 ?_
  refine lv_iload_n hx hb dX11_act_4 rfl (lv_at hl 1 rfl) ?_
  refine lv_iload_n hx hb dX11_act_5 rfl (lv_at hl 2 rfl) ?_
  refine lv_iload_n hx hb dX11_act_6 rfl (lv_at hl 3 rfl) ?_
  refine cg_Vv (As := [.int 0, .int x1, .int x2]) (rest := []) (mc := 0) (ms := 0) (rm := { frames := 0, cells := 0, slots := 0, locals := 0 }) hC hl.1 hO [1, 2, 3, 4] rfl (c_X0_keep l D cy _ _ (f0 := f1) (c1 := c2) (c2 := c3) (c3 := c4) (x1 := 0) (x2 := x1) (x3 := x2) o1 f1_0 f1_1 f1_2 f1_3 f1_4 a2 a3 a4) gq_c_X11_act_c_X0_keep_200 rfl rfl rfl 3 (by decide +kernel) ⟨Nat.le_of_ble_eq_true rfl, Nat.le_of_ble_eq_true rfl⟩ rfl (by decide) o1 rfl rfl (Nat.le_of_ble_eq_true rfl) dX11_act_7 ⟨Nat.le_of_ble_eq_true rfl, Nat.le_of_ble_eq_true rfl⟩ (fun nw_7_1 l_7_2 H locs hw hO => ?_)
  obtain rfl := hw
  have hO : cO D cy A s.heap s 24 ad (cup [(1, .inr (0, ((f1.set 3 (.int 1)).set 4 (.int 1)))), (4, .inl (cy 0, 40, .inl (upd c4 (0 : Int32).toNatClampNeg x2))), (3, .inl (cy 0, 40, .inl (upd c3 (0 : Int32).toNatClampNeg x1))), (2, .inl (cy 0, 40, .inl (upd c2 (0 : Int32).toNatClampNeg 0)))] g) _ _ := hO
  refine lv_aload_n hx hb dX11_act_10 rfl (lv_at hl 0 rfl) ?_
  refine cg_get hC hO 0 (by decide) o0 rfl i_X11 6 (by decide) (List.mem_of_getElem? (i := 1) rfl) f0_6 dX11_act_11 ?_
  refine lv_aload_n hx hb dX11_act_14 rfl (lv_at hl 0 rfl) ?_
  refine cg_get hC hO 0 (by decide) o0 rfl i_X11 6 (by decide) (List.mem_of_getElem? (i := 1) rfl) f0_6 dX11_act_15 ?_
  refine cg_get hC hO 1 (by decide) rfl rfl i_X0 3 (by decide) (List.mem_of_getElem? (i := 12) rfl) (fs_ne (by decide) (fs_eq f1_3)) dX11_act_18 ?_
  refine lv_iconst (v := 1) hx hb dX11_act_21 (by decide) ?_
  refine lv_isub hx hb dX11_act_22 ?_
  refine cg_ev (v := 0) (by decide) ?_
  refine lv_aload_n hx hb dX11_act_23 rfl (lv_at hl 0 rfl) ?_
  refine cg_get hC hO 0 (by decide) o0 rfl i_X11 4 (by decide) (List.mem_of_getElem? (i := 13) rfl) f0_4 dX11_act_24 ?_
  refine cg_Vv (As := [.int 0, .ref (ad 5)]) (rest := []) (mc := 0) (ms := 0) (rm := { frames := 1, cells := 0, slots := 0, locals := 22 }) hC hl.1 hO [1, 5, 2, 3, 4, 6, 7] rfl (c_X0_carryOut l D cy _ _ (f0 := ((f1.set 3 (.int 1)).set 4 (.int 1))) (c900 := (upd c2 (0 : Int32).toNatClampNeg 0)) (c901 := (upd c3 (0 : Int32).toNatClampNeg x1)) (c902 := (upd c4 (0 : Int32).toNatClampNeg x2)) (f1 := f5) (c5 := c6) (c6 := c7) rfl (fs_ne (by decide) (fs_ne (by decide) f1_0)) (fs_ne (by decide) (fs_ne (by decide) f1_1)) (fs_ne (by decide) (fs_ne (by decide) f1_2)) o5 f5_0 f5_1 f5_4 rfl rfl rfl a6 a7 (rfl)) gq_c_X11_act_c_X0_carryOut_206 rfl rfl rfl 2 (by decide +kernel) ⟨Nat.le_of_ble_eq_true rfl, Nat.le_of_ble_eq_true rfl⟩ rfl (by decide) rfl rfl rfl (Nat.le_of_ble_eq_true rfl) dX11_act_27 ⟨Nat.le_of_ble_eq_true rfl, Nat.le_of_ble_eq_true rfl⟩ (fun nw_27_4 l_27_5 H locs hw hO => ?_)
  obtain ⟨v_27_7, v_27_8, rfl⟩ := hw
  have hO : cO D cy A s.heap s 24 ad (cup [(1, .inr (0, ((f1.set 3 (.int 1)).set 4 (.int 1)))), (4, .inl (cy 0, 40, .inl (upd c4 (0 : Int32).toNatClampNeg x2))), (3, .inl (cy 0, 40, .inl (upd c3 (0 : Int32).toNatClampNeg x1))), (2, .inl (cy 0, 40, .inl (upd c2 (0 : Int32).toNatClampNeg 0))), (6, .inl (cy 0, 24, .inl (upd c6 (0 : Int32).toNatClampNeg v_27_7))), (7, .inl (cy 0, 24, .inl (upd c7 (0 : Int32).toNatClampNeg v_27_8))), (5, .inr (9, (f5.set 4 (.int 1))))] g) _ _ := hO
  refine lv_aload_n hx hb dX11_act_30 rfl (lv_at hl 0 rfl) ?_
  refine cg_get hC hO 0 (by decide) o0 rfl i_X11 8 (by decide) (List.mem_of_getElem? (i := 26) rfl) f0_8 dX11_act_31 ?_
  refine cg_Vv (As := []) (rest := []) (mc := 0) (ms := 0) (rm := { frames := 3, cells := 0, slots := 0, locals := 81 }) hC hl.1 hO [8, 5, 23, 6, 21, 22, 13, 9, 10, 11, 14, 15, 16, 17, 18, 19, 20, 12] rfl (c_workOut1 l D cy _ _ (f0 := f8) (f7 := f9) (c8 := c10) (c9 := c11) (f1 := (f5.set 4 (.int 1))) (c3 := (upd c6 (0 : Int32).toNatClampNeg v_27_7)) (c17 := c12) (f6 := f13) (c10 := c14) (c11 := c15) (c12 := c16) (c13 := c17) (c14 := c18) (c15 := c19) (c16 := c20) (c4 := c21) (c5 := c22) (c2 := c23) o8 f8_0 f8_1 f8_3 f8_4 f8_5 f8_6 rfl (fs_ne (by decide) f5_0) (fs_ne (by decide) f5_2) (fs_ne (by decide) f5_3) (fs_eq f5_4) a23 rfl a21 a22 o13 f13_0 f13_1 f13_2 f13_3 f13_4 f13_5 f13_6 f13_7 o9 f9_9 f9_10 f9_11 a10 a11 a14 a15 a16 a17 a18 a19 a20 a12) gq_c_X11_act_c_workOut1_126 rfl rfl rfl 0 (by decide +kernel) ⟨Nat.le_of_ble_eq_true rfl, Nat.le_of_ble_eq_true rfl⟩ rfl (by decide) o8 rfl rfl (Nat.le_of_ble_eq_true rfl) dX11_act_34 ⟨Nat.le_of_ble_eq_true rfl, Nat.le_of_ble_eq_true rfl⟩ (fun nw_34_9 l_34_10 H locs hw hO => ?_)
  obtain ⟨cz_34_12, cz_34_13, c2_34_14, c5_34_15, c7_34_16, cz_34_17, cz_34_18, cz_34_19, cz_34_20, rfl⟩ := hw
  have hO : cO D cy A s.heap s 24 ad (cup [(1, .inr (0, ((f1.set 3 (.int 1)).set 4 (.int 1)))), (4, .inl (cy 0, 40, .inl (upd c4 (0 : Int32).toNatClampNeg x2))), (3, .inl (cy 0, 40, .inl (upd c3 (0 : Int32).toNatClampNeg x1))), (2, .inl (cy 0, 40, .inl (upd c2 (0 : Int32).toNatClampNeg 0))), (6, .inl (cy 0, 24, .inl (upd c6 (0 : Int32).toNatClampNeg v_27_7))), (7, .inl (cy 0, 24, .inl (upd c7 (0 : Int32).toNatClampNeg v_27_8))), (5, .inr (9, (f5.set 4 (.int 1)))), (14, .inl (cy 0, 5, .inl c2_34_14)), (15, .inl (cy 0, 20, .inl c5_34_15)), (16, .inl (cy 0, 4, .inl c7_34_16)), (20, .inl (cy 0, 5, .inl cz_34_20)), (19, .inl (cy 0, 5, .inl cz_34_19)), (18, .inl (cy 0, 5, .inl cz_34_18)), (17, .inl (cy 0, 5, .inl cz_34_17)), (22, .inl (cy 0, 96, .inl cz_34_13)), (21, .inl (cy 0, 96, .inl cz_34_12)), (23, .inl (cy 0, 24, .inl (upd c23 (0 : Int32).toNatClampNeg 0)))] g) _ _ := hO
  exact cg_vret (nw := fun _ => 0) hC hr hlk hO.same (Nat.le_of_ble_eq_true rfl) (Nat.le_of_ble_eq_true rfl) (⟨v_27_7, v_27_8, cz_34_12, cz_34_13, c2_34_14, c5_34_15, c7_34_16, cz_34_17, cz_34_18, cz_34_19, cz_34_20, rfl⟩) dX11_act_37

theorem dX11_come_0 : decode cX11_come 0 = .ok (.iload_n 1, 1) := by decide +kernel
theorem dX11_come_1 : decode cX11_come 1 = .ok (.iconst 0, 1) := by decide +kernel
theorem dX11_come_2 : decode cX11_come 2 = .ok (.sipush 600, 3) := by decide +kernel
theorem dX11_come_5 : decode cX11_come 5 = .ok (.invokestatic 107, 3) := by decide +kernel
theorem dX11_come_8 : decode cX11_come 8 = .ok (.ifCond .eq 25, 3) := by decide +kernel
theorem dX11_come_11 : decode cX11_come 11 = .ok (.iload_n 2, 1) := by decide +kernel
theorem dX11_come_12 : decode cX11_come 12 = .ok (.iconst 1, 1) := by decide +kernel
theorem dX11_come_13 : decode cX11_come 13 = .ok (.bipush 99, 2) := by decide +kernel
theorem dX11_come_15 : decode cX11_come 15 = .ok (.invokestatic 107, 3) := by decide +kernel
theorem dX11_come_18 : decode cX11_come 18 = .ok (.ifCond .eq 15, 3) := by decide +kernel
theorem dX11_come_21 : decode cX11_come 21 = .ok (.aload_n 0, 1) := by decide +kernel
theorem dX11_come_22 : decode cX11_come 22 = .ok (.getfield 37, 3) := by decide +kernel
theorem dX11_come_25 : decode cX11_come 25 = .ok (.getfield 49, 3) := by decide +kernel
theorem dX11_come_28 : decode cX11_come 28 = .ok (.bipush 24, 2) := by decide +kernel
theorem dX11_come_30 : decode cX11_come 30 = .ok (.if_icmp .lt 5, 3) := by decide +kernel
theorem dX11_come_33 : decode cX11_come 33 = .ok (.iconst (-1), 1) := by decide +kernel
theorem dX11_come_34 : decode cX11_come 34 = .ok (.ireturn, 1) := by decide +kernel
theorem dX11_come_35 : decode cX11_come 35 = .ok (.aload_n 0, 1) := by decide +kernel
theorem dX11_come_36 : decode cX11_come 36 = .ok (.iconst 0, 1) := by decide +kernel
theorem dX11_come_37 : decode cX11_come 37 = .ok (.iload_n 1, 1) := by decide +kernel
theorem dX11_come_38 : decode cX11_come 38 = .ok (.iload_n 2, 1) := by decide +kernel
theorem dX11_come_39 : decode cX11_come 39 = .ok (.invokevirtual 196, 3) := by decide +kernel
theorem dX11_come_42 : decode cX11_come 42 = .ok (.aload_n 0, 1) := by decide +kernel
theorem dX11_come_43 : decode cX11_come 43 = .ok (.getfield 37, 3) := by decide +kernel
theorem dX11_come_46 : decode cX11_come 46 = .ok (.getfield 49, 3) := by decide +kernel
theorem dX11_come_49 : decode cX11_come 49 = .ok (.iconst 1, 1) := by decide +kernel
theorem dX11_come_50 : decode cX11_come 50 = .ok (.isub, 1) := by decide +kernel
theorem dX11_come_51 : decode cX11_come 51 = .ok (.ireturn, 1) := by decide +kernel
def wq_c_X11_come : List Cond := Cond.code yX11_come cX11_come 3 (some .int) :: (([Cond.methodLink RX11 107 yX11_within, Cond.static yX11_within, Cond.initialized RX11, Cond.code yX11_within cX11_within 3 (some .boolean), Cond.fieldLink RX11 37 "CrowToll" "stand" "LCrowToll$Stand;", Cond.fieldLink RX11 49 "CrowToll$Stand" "carts" "I", Cond.methodLink RX11 196 yX11_act, Cond.instanceMethod yX11_act, Cond.selects RX11 yX11_act yX11_act, Cond.code yX11_act cX11_act 4 none, Cond.fieldLink RX11 55 "CrowToll" "acts" "LCrowToll$Acts;", Cond.methodLink RX11 200 yX0_keep, Cond.instanceMethod yX0_keep, Cond.selects RX0 yX0_keep yX0_keep, Cond.initialized RX0, Cond.code yX0_keep cX0_keep 4 none, Cond.fieldLink RX0 21 "CrowToll$Acts" "done" "I", Cond.fieldLink RX0 9 "CrowToll$Acts" "kind" "[I", Cond.fieldLink RX0 15 "CrowToll$Acts" "first" "[I", Cond.fieldLink RX0 18 "CrowToll$Acts" "second" "[I", Cond.fieldLink RX0 25 "CrowToll$Acts" "kept" "I", Cond.fieldLink RX11 203 "CrowToll$Acts" "done" "I", Cond.methodLink RX11 206 yX0_carryOut, Cond.instanceMethod yX0_carryOut, Cond.selects RX0 yX0_carryOut yX0_carryOut, Cond.code yX0_carryOut cX0_carryOut 3 none, Cond.methodLink RX0 41 yX9_add, Cond.instanceMethod yX9_add, Cond.selects RX9 yX9_add yX9_add, Cond.initialized RX9, Cond.code yX9_add cX9_add 3 none, Cond.fieldLink RX9 21 "CrowToll$Stand" "carts" "I", Cond.fieldLink RX9 9 "CrowToll$Stand" "minute" "[I", Cond.fieldLink RX9 15 "CrowToll$Stand" "sacks" "[I", Cond.fieldLink RX11 72 "CrowToll" "day" "LCrowToll$Day;", Cond.methodLink RX11 126 yX1_workOut, Cond.instanceMethod yX1_workOut, Cond.selects RX1 yX1_workOut yX1_workOut, Cond.initialized RX1, Cond.code yX1_workOut cX1_workOut 6 none, Cond.fieldLink RX1 25 "CrowToll$Day" "stand" "LCrowToll$Stand;", Cond.fieldLink RX1 18 "CrowToll$Day" "order" "[I", Cond.methodLink RX1 48 yX9_coming, Cond.instanceMethod yX9_coming, Cond.selects RX9 yX9_coming yX9_coming, Cond.code yX9_coming cX9_coming 4 (some .int), Cond.fieldLink RX9 37 "CrowToll$Stand" "comes" "I", Cond.code yX11_has cX11_has 2 (some .boolean), Cond.static yX11_has, Cond.fieldLink RX1 54 "CrowToll$Stand" "minute" "[I", Cond.code yX11_putByMinutes cX11_putByMinutes 6 none, Cond.static yX11_putByMinutes, Cond.fieldLink RX1 9 "CrowToll$Day" "counter" "[I", Cond.methodLink RX1 42 yJ7_fill_53178, Cond.static yJ7_fill_53178, Cond.initialized RJ7, Cond.code yJ7_fill_53178 cJ7_fill_53178 4 none, Cond.fieldLink RX1 15 "CrowToll$Day" "paid" "[I", Cond.fieldLink RX1 38 "CrowToll$Day" "watch" "LCrowToll$Watch;", Cond.fieldLink RX1 61 "CrowToll$Stand" "counts" "[I", Cond.methodLink RX1 64 yX10_sit, Cond.instanceMethod yX10_sit, Cond.selects RX10 yX10_sit yX10_sit, Cond.initialized RX10, Cond.code yX10_sit cX10_sit 2 none, Cond.fieldLink RX10 9 "CrowToll$Watch" "limit" "[I", Cond.methodLink RX10 37 arraycopyName, Cond.native arraycopyName, Cond.static arraycopyName, Cond.initialized "java/lang/System", Cond.fieldLink RX10 33 "CrowToll$Watch" "road" "LCrowToll$Road;", Cond.fieldLink RX10 43 "CrowToll$Road" "seat" "[I", Cond.fieldLink RX10 15 "CrowToll$Watch" "seat" "[I", Cond.fieldLink RX10 46 "CrowToll$Road" "seated" "[I", Cond.fieldLink RX10 18 "CrowToll$Watch" "seated" "[I", Cond.methodLink RX10 47 yX10_begin, Cond.instanceMethod yX10_begin, Cond.selects RX10 yX10_begin yX10_begin, Cond.code yX10_begin cX10_begin 1 none, Cond.fieldLink RX10 21 "CrowToll$Watch" "count" "[I", Cond.methodLink RX10 54 yJ7_fill_53178, Cond.fieldLink RX10 24 "CrowToll$Watch" "total" "[I", Cond.fieldLink RX10 27 "CrowToll$Watch" "lookedAt" "[I", Cond.fieldLink RX10 30 "CrowToll$Watch" "countedAt" "[I", Cond.fieldLink RX1 21 "CrowToll$Day" "road" "LCrowToll$Road;", Cond.fieldLink RX1 68 "CrowToll$Road" "posts" "I"] : List Cond) ++ wsX00 ++ wsX10 ++ wsX70 ++ wsX90 ++ wsX100 ++ wsX110)
set_option maxRecDepth 20000 in
theorem gr_c_X11_come_c_X11_within : GoodIn wq_c_X11_come wq_c_X11_within := List.forall_mem_cons.mpr ⟨⟨(List.mem_of_getElem? (i := 4) rfl), good_of_word rfl⟩, (fun _ h => absurd h List.not_mem_nil)⟩
set_option maxRecDepth 20000 in
theorem gq_c_X11_come_c_X11_within_107 : GoodIn wq_c_X11_come (va_wsS RX11 107 yX11_within wq_c_X11_within) := goodIn_app (List.forall_mem_cons.mpr ⟨⟨(List.mem_of_getElem? (i := 1) rfl), good_of_word rfl⟩, List.forall_mem_cons.mpr ⟨⟨(List.mem_of_getElem? (i := 2) rfl), good_of_word rfl⟩, List.forall_mem_cons.mpr ⟨⟨(List.mem_of_getElem? (i := 3) rfl), good_of_word rfl⟩, (fun _ h => absurd h List.not_mem_nil)⟩⟩⟩) gr_c_X11_come_c_X11_within
set_option maxRecDepth 20000 in
theorem gr_c_X11_come_c_X11_act : GoodIn wq_c_X11_come wq_c_X11_act := List.forall_mem_cons.mpr ⟨⟨(List.mem_of_getElem? (i := 10) rfl), good_of_word rfl⟩, List.forall_mem_append.mpr ⟨List.forall_mem_append.mpr ⟨List.forall_mem_append.mpr ⟨List.forall_mem_append.mpr ⟨List.forall_mem_append.mpr ⟨List.forall_mem_append.mpr ⟨List.forall_mem_cons.mpr ⟨⟨(List.mem_of_getElem? (i := 11) rfl), good_of_word rfl⟩, List.forall_mem_cons.mpr ⟨⟨(List.mem_of_getElem? (i := 12) rfl), good_of_word rfl⟩, List.forall_mem_cons.mpr ⟨⟨(List.mem_of_getElem? (i := 13) rfl), good_of_word rfl⟩, List.forall_mem_cons.mpr ⟨⟨(List.mem_of_getElem? (i := 14) rfl), good_of_word rfl⟩, List.forall_mem_cons.mpr ⟨⟨(List.mem_of_getElem? (i := 15) rfl), good_of_word rfl⟩, List.forall_mem_cons.mpr ⟨⟨(List.mem_of_getElem? (i := 16) rfl), good_of_word rfl⟩, List.forall_mem_cons.mpr ⟨⟨(List.mem_of_getElem? (i := 17) rfl), good_of_word rfl⟩, List.forall_mem_cons.mpr ⟨⟨(List.mem_of_getElem? (i := 18) rfl), good_of_word rfl⟩, List.forall_mem_cons.mpr ⟨⟨(List.mem_of_getElem? (i := 19) rfl), good_of_word rfl⟩, List.forall_mem_cons.mpr ⟨⟨(List.mem_of_getElem? (i := 20) rfl), good_of_word rfl⟩, List.forall_mem_cons.mpr ⟨⟨(List.mem_of_getElem? (i := 21) rfl), good_of_word rfl⟩, List.forall_mem_cons.mpr ⟨⟨(List.mem_of_getElem? (i := 22) rfl), good_of_word rfl⟩, List.forall_mem_cons.mpr ⟨⟨(List.mem_of_getElem? (i := 5) rfl), good_of_word rfl⟩, List.forall_mem_cons.mpr ⟨⟨(List.mem_of_getElem? (i := 23) rfl), good_of_word rfl⟩, List.forall_mem_cons.mpr ⟨⟨(List.mem_of_getElem? (i := 24) rfl), good_of_word rfl⟩, List.forall_mem_cons.mpr ⟨⟨(List.mem_of_getElem? (i := 25) rfl), good_of_word rfl⟩, List.forall_mem_cons.mpr ⟨⟨(List.mem_of_getElem? (i := 26) rfl), good_of_word rfl⟩, List.forall_mem_cons.mpr ⟨⟨(List.mem_of_getElem? (i := 27) rfl), good_of_word rfl⟩, List.forall_mem_cons.mpr ⟨⟨(List.mem_of_getElem? (i := 28) rfl), good_of_word rfl⟩, List.forall_mem_cons.mpr ⟨⟨(List.mem_of_getElem? (i := 29) rfl), good_of_word rfl⟩, List.forall_mem_cons.mpr ⟨⟨(List.mem_of_getElem? (i := 30) rfl), good_of_word rfl⟩, List.forall_mem_cons.mpr ⟨⟨(List.mem_of_getElem? (i := 31) rfl), good_of_word rfl⟩, List.forall_mem_cons.mpr ⟨⟨(List.mem_of_getElem? (i := 32) rfl), good_of_word rfl⟩, List.forall_mem_cons.mpr ⟨⟨(List.mem_of_getElem? (i := 33) rfl), good_of_word rfl⟩, List.forall_mem_cons.mpr ⟨⟨(List.mem_of_getElem? (i := 34) rfl), good_of_word rfl⟩, List.forall_mem_cons.mpr ⟨⟨(List.mem_of_getElem? (i := 35) rfl), good_of_word rfl⟩, List.forall_mem_cons.mpr ⟨⟨(List.mem_of_getElem? (i := 36) rfl), good_of_word rfl⟩, List.forall_mem_cons.mpr ⟨⟨(List.mem_of_getElem? (i := 37) rfl), good_of_word rfl⟩, List.forall_mem_cons.mpr ⟨⟨(List.mem_of_getElem? (i := 38) rfl), good_of_word rfl⟩, List.forall_mem_cons.mpr ⟨⟨(List.mem_of_getElem? (i := 39) rfl), good_of_word rfl⟩, List.forall_mem_cons.mpr ⟨⟨(List.mem_of_getElem? (i := 40) rfl), good_of_word rfl⟩, List.forall_mem_cons.mpr ⟨⟨(List.mem_of_getElem? (i := 41) rfl), good_of_word rfl⟩, List.forall_mem_cons.mpr ⟨⟨(List.mem_of_getElem? (i := 42) rfl), good_of_word rfl⟩, List.forall_mem_cons.mpr ⟨⟨(List.mem_of_getElem? (i := 43) rfl), good_of_word rfl⟩, List.forall_mem_cons.mpr ⟨⟨(List.mem_of_getElem? (i := 44) rfl), good_of_word rfl⟩, List.forall_mem_cons.mpr ⟨⟨(List.mem_of_getElem? (i := 45) rfl), good_of_word rfl⟩, List.forall_mem_cons.mpr ⟨⟨(List.mem_of_getElem? (i := 46) rfl), good_of_word rfl⟩, List.forall_mem_cons.mpr ⟨⟨(List.mem_of_getElem? (i := 47) rfl), good_of_word rfl⟩, List.forall_mem_cons.mpr ⟨⟨(List.mem_of_getElem? (i := 48) rfl), good_of_word rfl⟩, List.forall_mem_cons.mpr ⟨⟨(List.mem_of_getElem? (i := 49) rfl), good_of_word rfl⟩, List.forall_mem_cons.mpr ⟨⟨(List.mem_of_getElem? (i := 3) rfl), good_of_word rfl⟩, List.forall_mem_cons.mpr ⟨⟨(List.mem_of_getElem? (i := 50) rfl), good_of_word rfl⟩, List.forall_mem_cons.mpr ⟨⟨(List.mem_of_getElem? (i := 51) rfl), good_of_word rfl⟩, List.forall_mem_cons.mpr ⟨⟨(List.mem_of_getElem? (i := 52) rfl), good_of_word rfl⟩, List.forall_mem_cons.mpr ⟨⟨(List.mem_of_getElem? (i := 53) rfl), good_of_word rfl⟩, List.forall_mem_cons.mpr ⟨⟨(List.mem_of_getElem? (i := 54) rfl), good_of_word rfl⟩, List.forall_mem_cons.mpr ⟨⟨(List.mem_of_getElem? (i := 55) rfl), good_of_word rfl⟩, List.forall_mem_cons.mpr ⟨⟨(List.mem_of_getElem? (i := 56) rfl), good_of_word rfl⟩, List.forall_mem_cons.mpr ⟨⟨(List.mem_of_getElem? (i := 57) rfl), good_of_word rfl⟩, List.forall_mem_cons.mpr ⟨⟨(List.mem_of_getElem? (i := 58) rfl), good_of_word rfl⟩, List.forall_mem_cons.mpr ⟨⟨(List.mem_of_getElem? (i := 59) rfl), good_of_word rfl⟩, List.forall_mem_cons.mpr ⟨⟨(List.mem_of_getElem? (i := 60) rfl), good_of_word rfl⟩, List.forall_mem_cons.mpr ⟨⟨(List.mem_of_getElem? (i := 61) rfl), good_of_word rfl⟩, List.forall_mem_cons.mpr ⟨⟨(List.mem_of_getElem? (i := 62) rfl), good_of_word rfl⟩, List.forall_mem_cons.mpr ⟨⟨(List.mem_of_getElem? (i := 63) rfl), good_of_word rfl⟩, List.forall_mem_cons.mpr ⟨⟨(List.mem_of_getElem? (i := 64) rfl), good_of_word rfl⟩, List.forall_mem_cons.mpr ⟨⟨(List.mem_of_getElem? (i := 65) rfl), good_of_word rfl⟩, List.forall_mem_cons.mpr ⟨⟨(List.mem_of_getElem? (i := 66) rfl), good_of_word rfl⟩, List.forall_mem_cons.mpr ⟨⟨(List.mem_of_getElem? (i := 67) rfl), good_of_word rfl⟩, List.forall_mem_cons.mpr ⟨⟨(List.mem_of_getElem? (i := 68) rfl), good_of_word rfl⟩, List.forall_mem_cons.mpr ⟨⟨(List.mem_of_getElem? (i := 69) rfl), good_of_word rfl⟩, List.forall_mem_cons.mpr ⟨⟨(List.mem_of_getElem? (i := 70) rfl), good_of_word rfl⟩, List.forall_mem_cons.mpr ⟨⟨(List.mem_of_getElem? (i := 71) rfl), good_of_word rfl⟩, List.forall_mem_cons.mpr ⟨⟨(List.mem_of_getElem? (i := 72) rfl), good_of_word rfl⟩, List.forall_mem_cons.mpr ⟨⟨(List.mem_of_getElem? (i := 73) rfl), good_of_word rfl⟩, List.forall_mem_cons.mpr ⟨⟨(List.mem_of_getElem? (i := 74) rfl), good_of_word rfl⟩, List.forall_mem_cons.mpr ⟨⟨(List.mem_of_getElem? (i := 75) rfl), good_of_word rfl⟩, List.forall_mem_cons.mpr ⟨⟨(List.mem_of_getElem? (i := 76) rfl), good_of_word rfl⟩, List.forall_mem_cons.mpr ⟨⟨(List.mem_of_getElem? (i := 77) rfl), good_of_word rfl⟩, List.forall_mem_cons.mpr ⟨⟨(List.mem_of_getElem? (i := 78) rfl), good_of_word rfl⟩, List.forall_mem_cons.mpr ⟨⟨(List.mem_of_getElem? (i := 79) rfl), good_of_word rfl⟩, List.forall_mem_cons.mpr ⟨⟨(List.mem_of_getElem? (i := 80) rfl), good_of_word rfl⟩, List.forall_mem_cons.mpr ⟨⟨(List.mem_of_getElem? (i := 81) rfl), good_of_word rfl⟩, List.forall_mem_cons.mpr ⟨⟨(List.mem_of_getElem? (i := 82) rfl), good_of_word rfl⟩, List.forall_mem_cons.mpr ⟨⟨(List.mem_of_getElem? (i := 83) rfl), good_of_word rfl⟩, List.forall_mem_cons.mpr ⟨⟨(List.mem_of_getElem? (i := 84) rfl), good_of_word rfl⟩, List.forall_mem_cons.mpr ⟨⟨(List.mem_of_getElem? (i := 85) rfl), good_of_word rfl⟩, List.forall_mem_cons.mpr ⟨⟨(List.mem_of_getElem? (i := 86) rfl), good_of_word rfl⟩, (fun _ h => absurd h List.not_mem_nil)⟩⟩⟩⟩⟩⟩⟩⟩⟩⟩⟩⟩⟩⟩⟩⟩⟩⟩⟩⟩⟩⟩⟩⟩⟩⟩⟩⟩⟩⟩⟩⟩⟩⟩⟩⟩⟩⟩⟩⟩⟩⟩⟩⟩⟩⟩⟩⟩⟩⟩⟩⟩⟩⟩⟩⟩⟩⟩⟩⟩⟩⟩⟩⟩⟩⟩⟩⟩⟩⟩⟩⟩⟩⟩⟩⟩⟩⟩, fun w h => ⟨(fun w h => List.mem_cons_of_mem _ (List.mem_append_left _ (List.mem_append_left _ (List.mem_append_left _ (List.mem_append_left _ (List.mem_append_left _ (List.mem_append_right _ h))))))) w h, good_of_word (List.all_eq_true.mp gw_X0 w h)⟩⟩, fun w h => ⟨(fun w h => List.mem_cons_of_mem _ (List.mem_append_left _ (List.mem_append_left _ (List.mem_append_left _ (List.mem_append_left _ (List.mem_append_right _ h)))))) w h, good_of_word (List.all_eq_true.mp gw_X1 w h)⟩⟩, fun w h => ⟨(fun w h => List.mem_cons_of_mem _ (List.mem_append_left _ (List.mem_append_left _ (List.mem_append_left _ (List.mem_append_right _ h))))) w h, good_of_word (List.all_eq_true.mp gw_X7 w h)⟩⟩, fun w h => ⟨(fun w h => List.mem_cons_of_mem _ (List.mem_append_left _ (List.mem_append_left _ (List.mem_append_right _ h)))) w h, good_of_word (List.all_eq_true.mp gw_X9 w h)⟩⟩, fun w h => ⟨(fun w h => List.mem_cons_of_mem _ (List.mem_append_left _ (List.mem_append_right _ h))) w h, good_of_word (List.all_eq_true.mp gw_X10 w h)⟩⟩, fun w h => ⟨(fun w h => List.mem_cons_of_mem _ (List.mem_append_right _ h)) w h, good_of_word (List.all_eq_true.mp gw_X11 w h)⟩⟩⟩
set_option maxRecDepth 20000 in
theorem gq_c_X11_come_c_X11_act_196 : GoodIn wq_c_X11_come (wsV RX11 196 RX11 yX11_act wq_c_X11_act) := goodIn_app (List.forall_mem_cons.mpr ⟨⟨(List.mem_of_getElem? (i := 7) rfl), good_of_word rfl⟩, List.forall_mem_cons.mpr ⟨⟨(List.mem_of_getElem? (i := 8) rfl), good_of_word rfl⟩, List.forall_mem_cons.mpr ⟨⟨(List.mem_of_getElem? (i := 9) rfl), good_of_word rfl⟩, List.forall_mem_cons.mpr ⟨⟨(List.mem_of_getElem? (i := 3) rfl), good_of_word rfl⟩, (fun _ h => absurd h List.not_mem_nil)⟩⟩⟩⟩) gr_c_X11_come_c_X11_act
set_option maxHeartbeats 8000000 in
set_option maxRecDepth 100000 in
theorem c_X11_come (l : Launch) (D : va_G) (cy : Nat → ClassId) (ad : Nat → Nat) (g : Nat → va_E) {f0 : List Value} {f1 : List Value} {c2 : Nat → Int32} {c3 : Nat → Int32} {c4 : Nat → Int32} {f5 : List Value} {c6 : Nat → Int32} {c7 : Nat → Int32} {c8 : Nat → Int32} {f9 : List Value} {f10 : List Value} {c11 : Nat → Int32} {c12 : Nat → Int32} {f13 : List Value} {c14 : Nat → Int32} {c15 : Nat → Int32} {c16 : Nat → Int32} {c17 : Nat → Int32} {c18 : Nat → Int32} {c19 : Nat → Int32} {c20 : Nat → Int32} {c21 : Nat → Int32} {c22 : Nat → Int32} {c23 : Nat → Int32} {x1 : Int32} {x2 : Int32} (o0 : g 0 = .inr (11, f0)) (f0_4 : f0[4]? = some (.ref (ad 1))) (f0_6 : f0[6]? = some (.ref (ad 5))) (f0_8 : f0[8]? = some (.ref (ad 9))) (o1 : g 1 = .inr (9, f1)) (f1_0 : f1[0]? = some (.ref (ad 2))) (f1_1 : f1[1]? = some (.ref (ad 3))) (f1_2 : f1[2]? = some (.int (-1))) (f1_3 : f1[3]? = some (.ref (ad 4))) (f1_4 : f1[4]? = some (.int 0)) (a2 : g 2 = .inl (cy 0, 24, .inl c2)) (a3 : g 3 = .inl (cy 0, 24, .inl c3)) (a4 : g 4 = .inl (cy 0, 5, .inl c4)) (o5 : g 5 = .inr (0, f5)) (f5_0 : f5[0]? = some (.ref (ad 6))) (f5_1 : f5[1]? = some (.ref (ad 7))) (f5_2 : f5[2]? = some (.ref (ad 8))) (f5_3 : f5[3]? = some (.int 0)) (f5_4 : f5[4]? = some (.int 0)) (a6 : g 6 = .inl (cy 0, 40, .inl c6)) (a7 : g 7 = .inl (cy 0, 40, .inl c7)) (a8 : g 8 = .inl (cy 0, 40, .inl c8)) (o9 : g 9 = .inr (1, f9)) (f9_0 : f9[0]? = some (.ref (ad 10))) (f9_1 : f9[1]? = some (.ref (ad 1))) (f9_3 : f9[3]? = some (.ref (ad 13))) (f9_4 : f9[4]? = some (.ref (ad 21))) (f9_5 : f9[5]? = some (.ref (ad 22))) (f9_6 : f9[6]? = some (.ref (ad 23))) (o10 : g 10 = .inr (7, f10)) (f10_9 : f10[9]? = some (.ref (ad 11))) (f10_10 : f10[10]? = some (.ref (ad 12))) (f10_11 : f10[11]? = some (.int 0)) (a11 : g 11 = .inl (cy 0, 20, .inl c11)) (a12 : g 12 = .inl (cy 0, 4, .inl c12)) (o13 : g 13 = .inr (10, f13)) (f13_0 : f13[0]? = some (.ref (ad 10))) (f13_1 : f13[1]? = some (.ref (ad 14))) (f13_2 : f13[2]? = some (.ref (ad 15))) (f13_3 : f13[3]? = some (.ref (ad 16))) (f13_4 : f13[4]? = some (.ref (ad 17))) (f13_5 : f13[5]? = some (.ref (ad 18))) (f13_6 : f13[6]? = some (.ref (ad 19))) (f13_7 : f13[7]? = some (.ref (ad 20))) (a14 : g 14 = .inl (cy 0, 5, .inl c14)) (a15 : g 15 = .inl (cy 0, 20, .inl c15)) (a16 : g 16 = .inl (cy 0, 4, .inl c16)) (a17 : g 17 = .inl (cy 0, 5, .inl c17)) (a18 : g 18 = .inl (cy 0, 5, .inl c18)) (a19 : g 19 = .inl (cy 0, 5, .inl c19)) (a20 : g 20 = .inl (cy 0, 5, .inl c20)) (a21 : g 21 = .inl (cy 0, 96, .inl c21)) (a22 : g 22 = .inl (cy 0, 96, .inl c22)) (a23 : g 23 = .inl (cy 0, 24, .inl c23)) : cMi l yX11_come wq_c_X11_come { frames := 5, cells := 0, slots := 0, locals := 129 } 24 0 0 0 D cy ad g [.ref (ad 0), .int x1, .int x2] (fun r nw lu => r = ans_come x1 x2) := by
  refine cM_of (Qc := fun A => cQi (fun r nw lu => r = ans_come x1 x2) D 24 0 ad g A) (cc := cX11_come) (maxL := 3) (ret := (some .int)) (by decide) rfl (Nat.le_of_ble_eq_true rfl) ?_
  intro p e s m below meth c A hC hr hlk hnm hO ls hl
  have hC : CallFix p m c cX11_come 3 s [.ref (ad 0), .int x1, .int x2].toArray wq_c_X11_come RX11 := hC
  obtain ⟨hx, hb, hml, hown, hts⟩ := id hC
  have hl : lv_has ls 3 [(0, .ref (ad 0)), (1, .int x1), (2, .int x2)] := hl
  have i_X0 : ∀ w ∈ wsX00, w ∈ wq_c_X11_come := fun w h => List.mem_cons_of_mem _ (List.mem_append_left _ (List.mem_append_left _ (List.mem_append_left _ (List.mem_append_left _ (List.mem_append_left _ (List.mem_append_right _ h))))))
  have i_X1 : ∀ w ∈ wsX10, w ∈ wq_c_X11_come := fun w h => List.mem_cons_of_mem _ (List.mem_append_left _ (List.mem_append_left _ (List.mem_append_left _ (List.mem_append_left _ (List.mem_append_right _ h)))))
  have i_X10 : ∀ w ∈ wsX100, w ∈ wq_c_X11_come := fun w h => List.mem_cons_of_mem _ (List.mem_append_left _ (List.mem_append_right _ h))
  have i_X11 : ∀ w ∈ wsX110, w ∈ wq_c_X11_come := fun w h => List.mem_cons_of_mem _ (List.mem_append_right _ h)
  have i_X7 : ∀ w ∈ wsX70, w ∈ wq_c_X11_come := fun w h => List.mem_cons_of_mem _ (List.mem_append_left _ (List.mem_append_left _ (List.mem_append_left _ (List.mem_append_right _ h))))
  have i_X9 : ∀ w ∈ wsX90, w ∈ wq_c_X11_come := fun w h => List.mem_cons_of_mem _ (List.mem_append_left _ (List.mem_append_left _ (List.mem_append_right _ h)))
  refine lv_iload_n hx hb dX11_come_0 rfl (lv_at hl 1 rfl) ?_
  refine lv_iconst (v := 0) hx hb dX11_come_1 (by decide) ?_
  refine lv_sipush (v := 600) hx hb dX11_come_2 (by decide) ?_
  refine cg_Si (As := [.int x1, .int 0, .int 600]) (rest := []) (mc := 0) (ms := 0) (rm := { frames := 0, cells := 0, slots := 0, locals := 0 }) hC hl.1 hO [] rfl (c_X11_within l D cy _ _ (x := x1) (y := 0) (z := 600) ) gq_c_X11_come_c_X11_within_107 rfl rfl rfl 3 (by decide +kernel) ⟨Nat.le_of_ble_eq_true rfl, Nat.le_of_ble_eq_true rfl⟩ rfl rfl (Nat.le_of_ble_eq_true rfl) dX11_come_5 ⟨Nat.le_of_ble_eq_true rfl, Nat.le_of_ble_eq_true rfl⟩ (fun r_5_3 nw_5_1 l_5_2 H locs hw hO => ?_)
  rcases hw with hw | hw
  · obtain ⟨hr_5_4, rfl, rfl⟩ := hw
    have hO : cO D cy A s.heap s 24 ad (cup [] g) _ _ := hO
    refine lv_if_eq (tgt := 33) hx hb dX11_come_8 (by decide) (fun h => absurd h (by decide)) (fun _ => ?_)
    refine lv_iload_n hx hb dX11_come_11 rfl (lv_at hl 2 rfl) ?_
    refine lv_iconst (v := 1) hx hb dX11_come_12 (by decide) ?_
    refine lv_bipush (v := 99) hx hb dX11_come_13 (by decide) ?_
    refine cg_Si (As := [.int x2, .int 1, .int 99]) (rest := []) (mc := 0) (ms := 0) (rm := { frames := 0, cells := 0, slots := 0, locals := 0 }) hC hl.1 hO [] rfl (c_X11_within l D cy _ _ (x := x2) (y := 1) (z := 99) ) gq_c_X11_come_c_X11_within_107 rfl rfl rfl 3 (by decide +kernel) ⟨Nat.le_of_ble_eq_true rfl, Nat.le_of_ble_eq_true rfl⟩ rfl rfl (Nat.le_of_ble_eq_true rfl) dX11_come_15 ⟨Nat.le_of_ble_eq_true rfl, Nat.le_of_ble_eq_true rfl⟩ (fun r_15_7 nw_15_5 l_15_6 H locs hw hO => ?_)
    rcases hw with hw | hw
    · obtain ⟨hr_15_8, rfl, rfl⟩ := hw
      have hO : cO D cy A s.heap s 24 ad (cup [] g) _ _ := hO
      refine lv_if_eq (tgt := 33) hx hb dX11_come_18 (by decide) (fun h => absurd h (by decide)) (fun _ => ?_)
      refine lv_aload_n hx hb dX11_come_21 rfl (lv_at hl 0 rfl) ?_
      refine cg_get hC hO 0 (by decide) o0 rfl i_X11 4 (by decide) (List.mem_of_getElem? (i := 5) rfl) f0_4 dX11_come_22 ?_
      refine cg_get hC hO 1 (by decide) o1 rfl i_X9 4 (by decide) (List.mem_of_getElem? (i := 6) rfl) f1_4 dX11_come_25 ?_
      refine lv_bipush (v := 24) hx hb dX11_come_28 (by decide) ?_
      refine lv_icmp_lt (tgt := 35) hx hb dX11_come_30 (by decide) (fun _ => ?_) (fun h => absurd h (by decide))
      refine lv_aload_n hx hb dX11_come_35 rfl (lv_at hl 0 rfl) ?_
      refine lv_iconst (v := 0) hx hb dX11_come_36 (by decide) ?_
      refine lv_iload_n hx hb dX11_come_37 rfl (lv_at hl 1 rfl) ?_
      refine lv_iload_n hx hb dX11_come_38 rfl (lv_at hl 2 rfl) ?_
      refine cg_Vv (As := [.int 0, .int x1, .int x2]) (rest := []) (mc := 0) (ms := 0) (rm := { frames := 4, cells := 0, slots := 0, locals := 106 }) hC hl.1 hO [0, 5, 6, 7, 8, 1, 2, 3, 9, 10, 11, 12, 4, 13, 14, 15, 16, 17, 18, 19, 20, 21, 22, 23] rfl (c_X11_act l D cy _ _ (f0 := f0) (f5 := f1) (c6 := c2) (c7 := c3) (c12 := c4) (f1 := f5) (c2 := c6) (c3 := c7) (c4 := c8) (f8 := f9) (f9 := f10) (c10 := c11) (c11 := c12) (f13 := f13) (c14 := c14) (c15 := c15) (c16 := c16) (c17 := c17) (c18 := c18) (c19 := c19) (c20 := c20) (c21 := c21) (c22 := c22) (c23 := c23) (x1 := x1) (x2 := x2) o0 f0_4 f0_6 f0_8 o5 f5_0 f5_1 f5_2 f5_3 f5_4 a6 a7 a8 o1 f1_0 f1_1 f1_2 f1_3 f1_4 a2 a3 o9 f9_0 f9_1 f9_3 f9_4 f9_5 f9_6 o10 f10_9 f10_10 f10_11 a11 a12 a4 o13 f13_0 f13_1 f13_2 f13_3 f13_4 f13_5 f13_6 f13_7 a14 a15 a16 a17 a18 a19 a20 a21 a22 a23) gq_c_X11_come_c_X11_act_196 rfl rfl rfl 3 (by decide +kernel) ⟨Nat.le_of_ble_eq_true rfl, Nat.le_of_ble_eq_true rfl⟩ rfl (by decide) o0 rfl rfl (Nat.le_of_ble_eq_true rfl) dX11_come_39 ⟨Nat.le_of_ble_eq_true rfl, Nat.le_of_ble_eq_true rfl⟩ (fun nw_39_9 l_39_10 H locs hw hO => ?_)
      obtain ⟨v_39_12, v_39_13, cz_39_14, cz_39_15, c2_39_16, c5_39_17, c7_39_18, cz_39_19, cz_39_20, cz_39_21, cz_39_22, rfl⟩ := hw
      have hO : cO D cy A s.heap s 24 ad (cup [(23, .inl (cy 0, 24, .inl (upd c23 (0 : Int32).toNatClampNeg 0))), (21, .inl (cy 0, 96, .inl cz_39_14)), (22, .inl (cy 0, 96, .inl cz_39_15)), (17, .inl (cy 0, 5, .inl cz_39_19)), (18, .inl (cy 0, 5, .inl cz_39_20)), (19, .inl (cy 0, 5, .inl cz_39_21)), (20, .inl (cy 0, 5, .inl cz_39_22)), (16, .inl (cy 0, 4, .inl c7_39_18)), (15, .inl (cy 0, 20, .inl c5_39_17)), (14, .inl (cy 0, 5, .inl c2_39_16)), (1, .inr (9, (f1.set 4 (.int 1)))), (3, .inl (cy 0, 24, .inl (upd c3 (0 : Int32).toNatClampNeg v_39_13))), (2, .inl (cy 0, 24, .inl (upd c2 (0 : Int32).toNatClampNeg v_39_12))), (6, .inl (cy 0, 40, .inl (upd c6 (0 : Int32).toNatClampNeg 0))), (7, .inl (cy 0, 40, .inl (upd c7 (0 : Int32).toNatClampNeg x1))), (8, .inl (cy 0, 40, .inl (upd c8 (0 : Int32).toNatClampNeg x2))), (5, .inr (0, ((f5.set 3 (.int 1)).set 4 (.int 1))))] g) _ _ := hO
      refine lv_aload_n hx hb dX11_come_42 rfl (lv_at hl 0 rfl) ?_
      refine cg_get hC hO 0 (by decide) o0 rfl i_X11 4 (by decide) (List.mem_of_getElem? (i := 5) rfl) f0_4 dX11_come_43 ?_
      refine cg_get hC hO 1 (by decide) rfl rfl i_X9 4 (by decide) (List.mem_of_getElem? (i := 6) rfl) (fs_eq f1_4) dX11_come_46 ?_
      refine lv_iconst (v := 1) hx hb dX11_come_49 (by decide) ?_
      refine lv_isub hx hb dX11_come_50 ?_
      refine cg_ev (v := 0) (by decide) ?_
      exact cg_iret (nw := fun _ => 0) hC hr hlk hO.same rfl (Nat.le_of_ble_eq_true rfl) (Nat.le_of_ble_eq_true rfl) (by first | rfl | (simp only [ans_come]; first | rw [if_pos (by first | assumption | (refine ⟨?_, ?_⟩ <;> assumption) | (refine ⟨?_, ?_, ?_⟩ <;> assumption) | (refine ⟨?_, ?_, ?_, ?_, ?_⟩ <;> assumption))] | rw [if_neg (by first | assumption | (intro hz; exact absurd hz.1 (by assumption)) | (intro hz; exact absurd hz.2 (by assumption)) | (intro hz; exact absurd hz.2.1 (by assumption)) | (intro hz; exact absurd hz.2.2 (by assumption)) | (intro hz; exact absurd hz.2.2.1 (by assumption)) | (intro hz; exact absurd hz.2.2.2.1 (by assumption)) | (intro hz; exact absurd hz.2.2.2.2 (by assumption)))])) dX11_come_51
    · obtain ⟨hr_15_23, rfl, rfl⟩ := hw
      have hO : cO D cy A s.heap s 24 ad (cup [] g) _ _ := hO
      refine lv_if_eq (tgt := 33) hx hb dX11_come_18 (by decide) (fun _ => ?_) (fun h => absurd h (by decide))
      refine lv_iconst (v := (-1)) hx hb dX11_come_33 (by decide) ?_
      exact cg_iret (nw := fun _ => 0) hC hr hlk hO.same rfl (Nat.le_of_ble_eq_true rfl) (Nat.le_of_ble_eq_true rfl) (by first | rfl | (simp only [ans_come]; first | rw [if_pos (by first | assumption | (refine ⟨?_, ?_⟩ <;> assumption) | (refine ⟨?_, ?_, ?_⟩ <;> assumption) | (refine ⟨?_, ?_, ?_, ?_, ?_⟩ <;> assumption))] | rw [if_neg (by first | assumption | (intro hz; exact absurd hz.1 (by assumption)) | (intro hz; exact absurd hz.2 (by assumption)) | (intro hz; exact absurd hz.2.1 (by assumption)) | (intro hz; exact absurd hz.2.2 (by assumption)) | (intro hz; exact absurd hz.2.2.1 (by assumption)) | (intro hz; exact absurd hz.2.2.2.1 (by assumption)) | (intro hz; exact absurd hz.2.2.2.2 (by assumption)))])) dX11_come_34
  · obtain ⟨hr_5_24, rfl, rfl⟩ := hw
    have hO : cO D cy A s.heap s 24 ad (cup [] g) _ _ := hO
    refine lv_if_eq (tgt := 33) hx hb dX11_come_8 (by decide) (fun _ => ?_) (fun h => absurd h (by decide))
    refine lv_iconst (v := (-1)) hx hb dX11_come_33 (by decide) ?_
    exact cg_iret (nw := fun _ => 0) hC hr hlk hO.same rfl (Nat.le_of_ble_eq_true rfl) (Nat.le_of_ble_eq_true rfl) (by first | rfl | (simp only [ans_come]; first | rw [if_pos (by first | assumption | (refine ⟨?_, ?_⟩ <;> assumption) | (refine ⟨?_, ?_, ?_⟩ <;> assumption) | (refine ⟨?_, ?_, ?_, ?_, ?_⟩ <;> assumption))] | rw [if_neg (by first | assumption | (intro hz; exact absurd hz.1 (by assumption)) | (intro hz; exact absurd hz.2 (by assumption)) | (intro hz; exact absurd hz.2.1 (by assumption)) | (intro hz; exact absurd hz.2.2 (by assumption)) | (intro hz; exact absurd hz.2.2.1 (by assumption)) | (intro hz; exact absurd hz.2.2.2.1 (by assumption)) | (intro hz; exact absurd hz.2.2.2.2 (by assumption)))])) dX11_come_34

theorem dX11_doubt_0 : decode cX11_doubt 0 = .ok (.aload_n 0, 1) := by decide +kernel
theorem dX11_doubt_1 : decode cX11_doubt 1 = .ok (.iload_n 1, 1) := by decide +kernel
theorem dX11_doubt_2 : decode cX11_doubt 2 = .ok (.invokevirtual 135, 3) := by decide +kernel
theorem dX11_doubt_5 : decode cX11_doubt 5 = .ok (.ifCond .eq 17, 3) := by decide +kernel
theorem dX11_doubt_22 : decode cX11_doubt 22 = .ok (.iconst (-1), 1) := by decide +kernel
theorem dX11_doubt_23 : decode cX11_doubt 23 = .ok (.ireturn, 1) := by decide +kernel
def wq_c_X11_doubt : List Cond := Cond.code yX11_doubt cX11_doubt 2 (some .int) :: (([Cond.methodLink RX11 135 yX11_isCart, Cond.instanceMethod yX11_isCart, Cond.selects RX11 yX11_isCart yX11_isCart, Cond.initialized RX11, Cond.code yX11_isCart cX11_isCart 2 (some .boolean), Cond.fieldLink RX11 37 "CrowToll" "stand" "LCrowToll$Stand;", Cond.fieldLink RX11 49 "CrowToll$Stand" "carts" "I", Cond.methodLink RX11 107 yX11_within, Cond.static yX11_within, Cond.code yX11_within cX11_within 3 (some .boolean)] : List Cond) ++ wsX90 ++ wsX110)
set_option maxRecDepth 20000 in
theorem gr_c_X11_doubt_c_X11_isCart : GoodIn wq_c_X11_doubt wq_c_X11_isCart := List.forall_mem_cons.mpr ⟨⟨(List.mem_of_getElem? (i := 5) rfl), good_of_word rfl⟩, List.forall_mem_append.mpr ⟨List.forall_mem_append.mpr ⟨List.forall_mem_cons.mpr ⟨⟨(List.mem_of_getElem? (i := 6) rfl), good_of_word rfl⟩, List.forall_mem_cons.mpr ⟨⟨(List.mem_of_getElem? (i := 7) rfl), good_of_word rfl⟩, List.forall_mem_cons.mpr ⟨⟨(List.mem_of_getElem? (i := 8) rfl), good_of_word rfl⟩, List.forall_mem_cons.mpr ⟨⟨(List.mem_of_getElem? (i := 9) rfl), good_of_word rfl⟩, List.forall_mem_cons.mpr ⟨⟨(List.mem_of_getElem? (i := 4) rfl), good_of_word rfl⟩, List.forall_mem_cons.mpr ⟨⟨(List.mem_of_getElem? (i := 10) rfl), good_of_word rfl⟩, (fun _ h => absurd h List.not_mem_nil)⟩⟩⟩⟩⟩⟩, fun w h => ⟨(fun w h => List.mem_cons_of_mem _ (List.mem_append_left _ (List.mem_append_right _ h))) w h, good_of_word (List.all_eq_true.mp gw_X9 w h)⟩⟩, fun w h => ⟨(fun w h => List.mem_cons_of_mem _ (List.mem_append_right _ h)) w h, good_of_word (List.all_eq_true.mp gw_X11 w h)⟩⟩⟩
set_option maxRecDepth 20000 in
theorem gq_c_X11_doubt_c_X11_isCart_135 : GoodIn wq_c_X11_doubt (wsV RX11 135 RX11 yX11_isCart wq_c_X11_isCart) := goodIn_app (List.forall_mem_cons.mpr ⟨⟨(List.mem_of_getElem? (i := 1) rfl), good_of_word rfl⟩, List.forall_mem_cons.mpr ⟨⟨(List.mem_of_getElem? (i := 2) rfl), good_of_word rfl⟩, List.forall_mem_cons.mpr ⟨⟨(List.mem_of_getElem? (i := 3) rfl), good_of_word rfl⟩, List.forall_mem_cons.mpr ⟨⟨(List.mem_of_getElem? (i := 4) rfl), good_of_word rfl⟩, (fun _ h => absurd h List.not_mem_nil)⟩⟩⟩⟩) gr_c_X11_doubt_c_X11_isCart
set_option maxHeartbeats 8000000 in
set_option maxRecDepth 100000 in
theorem c_X11_doubt (l : Launch) (D : va_G) (cy : Nat → ClassId) (ad : Nat → Nat) (g : Nat → va_E) {f0 : List Value} {f1 : List Value} {n : Int32} (o0 : g 0 = .inr (11, f0)) (f0_4 : f0[4]? = some (.ref (ad 1))) (o1 : g 1 = .inr (9, f1)) (f1_4 : f1[4]? = some (.int 0)) : cMi l yX11_doubt wq_c_X11_doubt { frames := 2, cells := 0, slots := 0, locals := 43 } 2 0 0 0 D cy ad g [.ref (ad 0), .int n] (fun r nw lu => r = -1) := by
  refine cM_of (Qc := fun A => cQi (fun r nw lu => r = -1) D 2 0 ad g A) (cc := cX11_doubt) (maxL := 2) (ret := (some .int)) (by decide) rfl (Nat.le_of_ble_eq_true rfl) ?_
  intro p e s m below meth c A hC hr hlk hnm hO ls hl
  have hC : CallFix p m c cX11_doubt 2 s [.ref (ad 0), .int n].toArray wq_c_X11_doubt RX11 := hC
  obtain ⟨hx, hb, hml, hown, hts⟩ := id hC
  have hl : lv_has ls 2 [(0, .ref (ad 0)), (1, .int n)] := hl
  have i_X11 : ∀ w ∈ wsX110, w ∈ wq_c_X11_doubt := fun w h => List.mem_cons_of_mem _ (List.mem_append_right _ h)
  have i_X9 : ∀ w ∈ wsX90, w ∈ wq_c_X11_doubt := fun w h => List.mem_cons_of_mem _ (List.mem_append_left _ (List.mem_append_right _ h))
  refine lv_aload_n hx hb dX11_doubt_0 rfl (lv_at hl 0 rfl) ?_
  refine lv_iload_n hx hb dX11_doubt_1 rfl (lv_at hl 1 rfl) ?_
  refine cg_Vi (As := [.int n]) (rest := []) (mc := 0) (ms := 0) (rm := { frames := 1, cells := 0, slots := 0, locals := 22 }) hC hl.1 hO [0, 1] rfl (c_X11_isCart l D cy _ _ (f0 := f0) (f1 := f1) (n := n) o0 f0_4 o1 f1_4) gq_c_X11_doubt_c_X11_isCart_135 rfl rfl rfl 1 (by decide +kernel) ⟨Nat.le_of_ble_eq_true rfl, Nat.le_of_ble_eq_true rfl⟩ rfl (by decide) o0 rfl rfl (Nat.le_of_ble_eq_true rfl) dX11_doubt_2 ⟨Nat.le_of_ble_eq_true rfl, Nat.le_of_ble_eq_true rfl⟩ (fun r_2_3 nw_2_1 l_2_2 H locs hw hO => ?_)
  obtain ⟨rfl, rfl⟩ := hw
  have hO : cO D cy A s.heap s 2 ad (cup [] g) _ _ := hO
  refine lv_if_eq (tgt := 22) hx hb dX11_doubt_5 (by decide) (fun _ => ?_) (fun h => absurd h (by decide))
  refine lv_iconst (v := (-1)) hx hb dX11_doubt_22 (by decide) ?_
  exact cg_iret (nw := fun _ => 0) hC hr hlk hO.same rfl (Nat.le_of_ble_eq_true rfl) (Nat.le_of_ble_eq_true rfl) rfl dX11_doubt_23

theorem dX11_learn_0 : decode cX11_learn 0 = .ok (.aload_n 0, 1) := by decide +kernel
theorem dX11_learn_1 : decode cX11_learn 1 = .ok (.iload_n 1, 1) := by decide +kernel
theorem dX11_learn_2 : decode cX11_learn 2 = .ok (.invokevirtual 168, 3) := by decide +kernel
theorem dX11_learn_5 : decode cX11_learn 5 = .ok (.ifCond .eq 34, 3) := by decide +kernel
theorem dX11_learn_39 : decode cX11_learn 39 = .ok (.iconst (-1), 1) := by decide +kernel
theorem dX11_learn_40 : decode cX11_learn 40 = .ok (.ireturn, 1) := by decide +kernel
def wq_c_X11_learn : List Cond := Cond.code yX11_learn cX11_learn 3 (some .int) :: (([Cond.methodLink RX11 168 yX11_isBird, Cond.instanceMethod yX11_isBird, Cond.selects RX11 yX11_isBird yX11_isBird, Cond.initialized RX11, Cond.code yX11_isBird cX11_isBird 2 (some .boolean), Cond.fieldLink RX11 27 "CrowToll" "told" "LCrowToll$Road;", Cond.fieldLink RX11 247 "CrowToll$Road" "birds" "I", Cond.methodLink RX11 107 yX11_within, Cond.static yX11_within, Cond.code yX11_within cX11_within 3 (some .boolean)] : List Cond) ++ wsX70 ++ wsX110)
set_option maxRecDepth 20000 in
theorem gr_c_X11_learn_c_X11_isBird : GoodIn wq_c_X11_learn wq_c_X11_isBird := List.forall_mem_cons.mpr ⟨⟨(List.mem_of_getElem? (i := 5) rfl), good_of_word rfl⟩, List.forall_mem_append.mpr ⟨List.forall_mem_append.mpr ⟨List.forall_mem_cons.mpr ⟨⟨(List.mem_of_getElem? (i := 6) rfl), good_of_word rfl⟩, List.forall_mem_cons.mpr ⟨⟨(List.mem_of_getElem? (i := 7) rfl), good_of_word rfl⟩, List.forall_mem_cons.mpr ⟨⟨(List.mem_of_getElem? (i := 8) rfl), good_of_word rfl⟩, List.forall_mem_cons.mpr ⟨⟨(List.mem_of_getElem? (i := 9) rfl), good_of_word rfl⟩, List.forall_mem_cons.mpr ⟨⟨(List.mem_of_getElem? (i := 4) rfl), good_of_word rfl⟩, List.forall_mem_cons.mpr ⟨⟨(List.mem_of_getElem? (i := 10) rfl), good_of_word rfl⟩, (fun _ h => absurd h List.not_mem_nil)⟩⟩⟩⟩⟩⟩, fun w h => ⟨(fun w h => List.mem_cons_of_mem _ (List.mem_append_left _ (List.mem_append_right _ h))) w h, good_of_word (List.all_eq_true.mp gw_X7 w h)⟩⟩, fun w h => ⟨(fun w h => List.mem_cons_of_mem _ (List.mem_append_right _ h)) w h, good_of_word (List.all_eq_true.mp gw_X11 w h)⟩⟩⟩
set_option maxRecDepth 20000 in
theorem gq_c_X11_learn_c_X11_isBird_168 : GoodIn wq_c_X11_learn (wsV RX11 168 RX11 yX11_isBird wq_c_X11_isBird) := goodIn_app (List.forall_mem_cons.mpr ⟨⟨(List.mem_of_getElem? (i := 1) rfl), good_of_word rfl⟩, List.forall_mem_cons.mpr ⟨⟨(List.mem_of_getElem? (i := 2) rfl), good_of_word rfl⟩, List.forall_mem_cons.mpr ⟨⟨(List.mem_of_getElem? (i := 3) rfl), good_of_word rfl⟩, List.forall_mem_cons.mpr ⟨⟨(List.mem_of_getElem? (i := 4) rfl), good_of_word rfl⟩, (fun _ h => absurd h List.not_mem_nil)⟩⟩⟩⟩) gr_c_X11_learn_c_X11_isBird
set_option maxHeartbeats 8000000 in
set_option maxRecDepth 100000 in
theorem c_X11_learn (l : Launch) (D : va_G) (cy : Nat → ClassId) (ad : Nat → Nat) (g : Nat → va_E) {f0 : List Value} {f1 : List Value} {n : Int32} {q : Int32} (o0 : g 0 = .inr (11, f0)) (f0_3 : f0[3]? = some (.ref (ad 1))) (o1 : g 1 = .inr (7, f1)) (f1_5 : f1[5]? = some (.int 0)) : cMi l yX11_learn wq_c_X11_learn { frames := 2, cells := 0, slots := 0, locals := 43 } 2 0 0 0 D cy ad g [.ref (ad 0), .int n, .int q] (fun r nw lu => r = -1) := by
  refine cM_of (Qc := fun A => cQi (fun r nw lu => r = -1) D 2 0 ad g A) (cc := cX11_learn) (maxL := 3) (ret := (some .int)) (by decide) rfl (Nat.le_of_ble_eq_true rfl) ?_
  intro p e s m below meth c A hC hr hlk hnm hO ls hl
  have hC : CallFix p m c cX11_learn 3 s [.ref (ad 0), .int n, .int q].toArray wq_c_X11_learn RX11 := hC
  obtain ⟨hx, hb, hml, hown, hts⟩ := id hC
  have hl : lv_has ls 3 [(0, .ref (ad 0)), (1, .int n), (2, .int q)] := hl
  have i_X11 : ∀ w ∈ wsX110, w ∈ wq_c_X11_learn := fun w h => List.mem_cons_of_mem _ (List.mem_append_right _ h)
  have i_X7 : ∀ w ∈ wsX70, w ∈ wq_c_X11_learn := fun w h => List.mem_cons_of_mem _ (List.mem_append_left _ (List.mem_append_right _ h))
  refine lv_aload_n hx hb dX11_learn_0 rfl (lv_at hl 0 rfl) ?_
  refine lv_iload_n hx hb dX11_learn_1 rfl (lv_at hl 1 rfl) ?_
  refine cg_Vi (As := [.int n]) (rest := []) (mc := 0) (ms := 0) (rm := { frames := 1, cells := 0, slots := 0, locals := 22 }) hC hl.1 hO [0, 1] rfl (c_X11_isBird l D cy _ _ (f0 := f0) (f1 := f1) (n := n) o0 f0_3 o1 f1_5) gq_c_X11_learn_c_X11_isBird_168 rfl rfl rfl 1 (by decide +kernel) ⟨Nat.le_of_ble_eq_true rfl, Nat.le_of_ble_eq_true rfl⟩ rfl (by decide) o0 rfl rfl (Nat.le_of_ble_eq_true rfl) dX11_learn_2 ⟨Nat.le_of_ble_eq_true rfl, Nat.le_of_ble_eq_true rfl⟩ (fun r_2_3 nw_2_1 l_2_2 H locs hw hO => ?_)
  obtain ⟨rfl, rfl⟩ := hw
  have hO : cO D cy A s.heap s 2 ad (cup [] g) _ _ := hO
  refine lv_if_eq (tgt := 39) hx hb dX11_learn_5 (by decide) (fun _ => ?_) (fun h => absurd h (by decide))
  refine lv_iconst (v := (-1)) hx hb dX11_learn_39 (by decide) ?_
  exact cg_iret (nw := fun _ => 0) hC hr hlk hO.same rfl (Nat.le_of_ble_eq_true rfl) (Nat.le_of_ble_eq_true rfl) rfl dX11_learn_40

theorem dX0_takeBackLatest_0 : decode cX0_takeBackLatest 0 = .ok (.aload_n 0, 1) := by decide +kernel
theorem dX0_takeBackLatest_1 : decode cX0_takeBackLatest 1 = .ok (.getfield 21, 3) := by decide +kernel
theorem dX0_takeBackLatest_4 : decode cX0_takeBackLatest 4 = .ok (.ifCond .gt 5, 3) := by decide +kernel
theorem dX0_takeBackLatest_7 : decode cX0_takeBackLatest 7 = .ok (.iconst 0, 1) := by decide +kernel
theorem dX0_takeBackLatest_8 : decode cX0_takeBackLatest 8 = .ok (.ireturn, 1) := by decide +kernel
def wq_c_X0_takeBackLatest : List Cond := Cond.code yX0_takeBackLatest cX0_takeBackLatest 2 (some .boolean) :: (([Cond.fieldLink RX0 21 "CrowToll$Acts" "done" "I"] : List Cond) ++ wsX00)
set_option maxHeartbeats 8000000 in
set_option maxRecDepth 100000 in
theorem c_X0_takeBackLatest (l : Launch) (D : va_G) (cy : Nat → ClassId) (ad : Nat → Nat) (g : Nat → va_E) {f0 : List Value} {f1 : List Value} (o0 : g 0 = .inr (0, f0)) (f0_3 : f0[3]? = some (.int 0)) (o1 : g 1 = .inr (9, f1)) : cMi l yX0_takeBackLatest wq_c_X0_takeBackLatest { frames := 0, cells := 0, slots := 0, locals := 0 } 2 0 0 0 D cy ad g [.ref (ad 0), .ref (ad 1)] (fun r nw lu => (r = 0) ∧ (lu = [])) := by
  refine cM_of (Qc := fun A => cQi (fun r nw lu => (r = 0) ∧ (lu = [])) D 2 0 ad g A) (cc := cX0_takeBackLatest) (maxL := 2) (ret := (some .boolean)) (by decide) rfl (Nat.le_of_ble_eq_true rfl) ?_
  intro p e s m below meth c A hC hr hlk hnm hO ls hl
  have hC : CallFix p m c cX0_takeBackLatest 2 s [.ref (ad 0), .ref (ad 1)].toArray wq_c_X0_takeBackLatest RX0 := hC
  obtain ⟨hx, hb, hml, hown, hts⟩ := id hC
  have hl : lv_has ls 2 [(0, .ref (ad 0)), (1, .ref (ad 1))] := hl
  have i_X0 : ∀ w ∈ wsX00, w ∈ wq_c_X0_takeBackLatest := fun w h => List.mem_cons_of_mem _ (List.mem_append_right _ h)
  refine lv_aload_n hx hb dX0_takeBackLatest_0 rfl (lv_at hl 0 rfl) ?_
  refine cg_get hC hO 0 (by decide) o0 rfl i_X0 3 (by decide) (List.mem_of_getElem? (i := 1) rfl) f0_3 dX0_takeBackLatest_1 ?_
  refine lv_if_gt (tgt := 9) hx hb dX0_takeBackLatest_4 (by decide) (fun h => absurd h (by decide)) (fun _ => ?_)
  refine lv_iconst (v := 0) hx hb dX0_takeBackLatest_7 (by decide) ?_
  exact cg_iret (nw := fun _ => 0) hC hr hlk hO.same rfl (Nat.le_of_ble_eq_true rfl) (Nat.le_of_ble_eq_true rfl) (⟨rfl, rfl⟩) dX0_takeBackLatest_8

theorem dX0_doAgain_0 : decode cX0_doAgain 0 = .ok (.aload_n 0, 1) := by decide +kernel
theorem dX0_doAgain_1 : decode cX0_doAgain 1 = .ok (.getfield 21, 3) := by decide +kernel
theorem dX0_doAgain_4 : decode cX0_doAgain 4 = .ok (.aload_n 0, 1) := by decide +kernel
theorem dX0_doAgain_5 : decode cX0_doAgain 5 = .ok (.getfield 25, 3) := by decide +kernel
theorem dX0_doAgain_8 : decode cX0_doAgain 8 = .ok (.if_icmp .lt 5, 3) := by decide +kernel
theorem dX0_doAgain_11 : decode cX0_doAgain 11 = .ok (.iconst 0, 1) := by decide +kernel
theorem dX0_doAgain_12 : decode cX0_doAgain 12 = .ok (.ireturn, 1) := by decide +kernel
def wq_c_X0_doAgain : List Cond := Cond.code yX0_doAgain cX0_doAgain 2 (some .boolean) :: (([Cond.fieldLink RX0 21 "CrowToll$Acts" "done" "I", Cond.fieldLink RX0 25 "CrowToll$Acts" "kept" "I"] : List Cond) ++ wsX00)
set_option maxHeartbeats 8000000 in
set_option maxRecDepth 100000 in
theorem c_X0_doAgain (l : Launch) (D : va_G) (cy : Nat → ClassId) (ad : Nat → Nat) (g : Nat → va_E) {f0 : List Value} {f1 : List Value} (o0 : g 0 = .inr (0, f0)) (f0_3 : f0[3]? = some (.int 0)) (f0_4 : f0[4]? = some (.int 0)) (o1 : g 1 = .inr (9, f1)) : cMi l yX0_doAgain wq_c_X0_doAgain { frames := 0, cells := 0, slots := 0, locals := 0 } 2 0 0 0 D cy ad g [.ref (ad 0), .ref (ad 1)] (fun r nw lu => (r = 0) ∧ (lu = [])) := by
  refine cM_of (Qc := fun A => cQi (fun r nw lu => (r = 0) ∧ (lu = [])) D 2 0 ad g A) (cc := cX0_doAgain) (maxL := 2) (ret := (some .boolean)) (by decide) rfl (Nat.le_of_ble_eq_true rfl) ?_
  intro p e s m below meth c A hC hr hlk hnm hO ls hl
  have hC : CallFix p m c cX0_doAgain 2 s [.ref (ad 0), .ref (ad 1)].toArray wq_c_X0_doAgain RX0 := hC
  obtain ⟨hx, hb, hml, hown, hts⟩ := id hC
  have hl : lv_has ls 2 [(0, .ref (ad 0)), (1, .ref (ad 1))] := hl
  have i_X0 : ∀ w ∈ wsX00, w ∈ wq_c_X0_doAgain := fun w h => List.mem_cons_of_mem _ (List.mem_append_right _ h)
  refine lv_aload_n hx hb dX0_doAgain_0 rfl (lv_at hl 0 rfl) ?_
  refine cg_get hC hO 0 (by decide) o0 rfl i_X0 3 (by decide) (List.mem_of_getElem? (i := 1) rfl) f0_3 dX0_doAgain_1 ?_
  refine lv_aload_n hx hb dX0_doAgain_4 rfl (lv_at hl 0 rfl) ?_
  refine cg_get hC hO 0 (by decide) o0 rfl i_X0 4 (by decide) (List.mem_of_getElem? (i := 2) rfl) f0_4 dX0_doAgain_5 ?_
  refine lv_icmp_lt (tgt := 13) hx hb dX0_doAgain_8 (by decide) (fun h => absurd h (by decide)) (fun _ => ?_)
  refine lv_iconst (v := 0) hx hb dX0_doAgain_11 (by decide) ?_
  exact cg_iret (nw := fun _ => 0) hC hr hlk hO.same rfl (Nat.le_of_ble_eq_true rfl) (Nat.le_of_ble_eq_true rfl) (⟨rfl, rfl⟩) dX0_doAgain_12

theorem dX11_undo_0 : decode cX11_undo 0 = .ok (.aload_n 0, 1) := by decide +kernel
theorem dX11_undo_1 : decode cX11_undo 1 = .ok (.getfield 55, 3) := by decide +kernel
theorem dX11_undo_4 : decode cX11_undo 4 = .ok (.aload_n 0, 1) := by decide +kernel
theorem dX11_undo_5 : decode cX11_undo 5 = .ok (.getfield 37, 3) := by decide +kernel
theorem dX11_undo_8 : decode cX11_undo 8 = .ok (.invokevirtual 210, 3) := by decide +kernel
theorem dX11_undo_11 : decode cX11_undo 11 = .ok (.ifCond .ne 5, 3) := by decide +kernel
theorem dX11_undo_14 : decode cX11_undo 14 = .ok (.iconst 0, 1) := by decide +kernel
theorem dX11_undo_15 : decode cX11_undo 15 = .ok (.ireturn, 1) := by decide +kernel
def wq_c_X11_undo : List Cond := Cond.code yX11_undo cX11_undo 1 (some .boolean) :: (([Cond.fieldLink RX11 55 "CrowToll" "acts" "LCrowToll$Acts;", Cond.fieldLink RX11 37 "CrowToll" "stand" "LCrowToll$Stand;", Cond.methodLink RX11 210 yX0_takeBackLatest, Cond.instanceMethod yX0_takeBackLatest, Cond.selects RX0 yX0_takeBackLatest yX0_takeBackLatest, Cond.initialized RX0, Cond.code yX0_takeBackLatest cX0_takeBackLatest 2 (some .boolean), Cond.fieldLink RX0 21 "CrowToll$Acts" "done" "I"] : List Cond) ++ wsX00 ++ wsX110)
set_option maxRecDepth 20000 in
theorem gr_c_X11_undo_c_X0_takeBackLatest : GoodIn wq_c_X11_undo wq_c_X0_takeBackLatest := List.forall_mem_cons.mpr ⟨⟨(List.mem_of_getElem? (i := 7) rfl), good_of_word rfl⟩, List.forall_mem_append.mpr ⟨List.forall_mem_cons.mpr ⟨⟨(List.mem_of_getElem? (i := 8) rfl), good_of_word rfl⟩, (fun _ h => absurd h List.not_mem_nil)⟩, fun w h => ⟨(fun w h => List.mem_cons_of_mem _ (List.mem_append_left _ (List.mem_append_right _ h))) w h, good_of_word (List.all_eq_true.mp gw_X0 w h)⟩⟩⟩
set_option maxRecDepth 20000 in
theorem gq_c_X11_undo_c_X0_takeBackLatest_210 : GoodIn wq_c_X11_undo (wsV RX11 210 RX0 yX0_takeBackLatest wq_c_X0_takeBackLatest) := goodIn_app (List.forall_mem_cons.mpr ⟨⟨(List.mem_of_getElem? (i := 3) rfl), good_of_word rfl⟩, List.forall_mem_cons.mpr ⟨⟨(List.mem_of_getElem? (i := 4) rfl), good_of_word rfl⟩, List.forall_mem_cons.mpr ⟨⟨(List.mem_of_getElem? (i := 5) rfl), good_of_word rfl⟩, List.forall_mem_cons.mpr ⟨⟨(List.mem_of_getElem? (i := 6) rfl), good_of_word rfl⟩, (fun _ h => absurd h List.not_mem_nil)⟩⟩⟩⟩) gr_c_X11_undo_c_X0_takeBackLatest
set_option maxHeartbeats 8000000 in
set_option maxRecDepth 100000 in
theorem c_X11_undo (l : Launch) (D : va_G) (cy : Nat → ClassId) (ad : Nat → Nat) (g : Nat → va_E) {f0 : List Value} {f1 : List Value} {f2 : List Value} (o0 : g 0 = .inr (11, f0)) (f0_4 : f0[4]? = some (.ref (ad 2))) (f0_6 : f0[6]? = some (.ref (ad 1))) (o1 : g 1 = .inr (0, f1)) (f1_3 : f1[3]? = some (.int 0)) (o2 : g 2 = .inr (9, f2)) : cMi l yX11_undo wq_c_X11_undo { frames := 1, cells := 0, slots := 0, locals := 21 } 3 0 0 0 D cy ad g [.ref (ad 0)] (fun r nw lu => r = 0) := by
  refine cM_of (Qc := fun A => cQi (fun r nw lu => r = 0) D 3 0 ad g A) (cc := cX11_undo) (maxL := 1) (ret := (some .boolean)) (by decide) rfl (Nat.le_of_ble_eq_true rfl) ?_
  intro p e s m below meth c A hC hr hlk hnm hO ls hl
  have hC : CallFix p m c cX11_undo 1 s [.ref (ad 0)].toArray wq_c_X11_undo RX11 := hC
  obtain ⟨hx, hb, hml, hown, hts⟩ := id hC
  have hl : lv_has ls 1 [(0, .ref (ad 0))] := hl
  have i_X0 : ∀ w ∈ wsX00, w ∈ wq_c_X11_undo := fun w h => List.mem_cons_of_mem _ (List.mem_append_left _ (List.mem_append_right _ h))
  have i_X11 : ∀ w ∈ wsX110, w ∈ wq_c_X11_undo := fun w h => List.mem_cons_of_mem _ (List.mem_append_right _ h)
  refine lv_aload_n hx hb dX11_undo_0 rfl (lv_at hl 0 rfl) ?_
  refine cg_get hC hO 0 (by decide) o0 rfl i_X11 6 (by decide) (List.mem_of_getElem? (i := 1) rfl) f0_6 dX11_undo_1 ?_
  refine lv_aload_n hx hb dX11_undo_4 rfl (lv_at hl 0 rfl) ?_
  refine cg_get hC hO 0 (by decide) o0 rfl i_X11 4 (by decide) (List.mem_of_getElem? (i := 2) rfl) f0_4 dX11_undo_5 ?_
  refine cg_Vi (As := [.ref (ad 2)]) (rest := []) (mc := 0) (ms := 0) (rm := { frames := 0, cells := 0, slots := 0, locals := 0 }) hC hl.1 hO [1, 2] rfl (c_X0_takeBackLatest l D cy _ _ (f0 := f1) (f1 := f2) o1 f1_3 o2) gq_c_X11_undo_c_X0_takeBackLatest_210 rfl rfl rfl 1 (by decide +kernel) ⟨Nat.le_of_ble_eq_true rfl, Nat.le_of_ble_eq_true rfl⟩ rfl (by decide) o1 rfl rfl (Nat.le_of_ble_eq_true rfl) dX11_undo_8 ⟨Nat.le_of_ble_eq_true rfl, Nat.le_of_ble_eq_true rfl⟩ (fun r_8_3 nw_8_1 l_8_2 H locs hw hO => ?_)
  obtain ⟨rfl, rfl⟩ := hw
  have hO : cO D cy A s.heap s 3 ad (cup [] g) _ _ := hO
  refine lv_if_ne (tgt := 16) hx hb dX11_undo_11 (by decide) (fun h => absurd h (by decide)) (fun _ => ?_)
  refine lv_iconst (v := 0) hx hb dX11_undo_14 (by decide) ?_
  exact cg_iret (nw := fun _ => 0) hC hr hlk hO.same rfl (Nat.le_of_ble_eq_true rfl) (Nat.le_of_ble_eq_true rfl) rfl dX11_undo_15

theorem dX11_redo_0 : decode cX11_redo 0 = .ok (.aload_n 0, 1) := by decide +kernel
theorem dX11_redo_1 : decode cX11_redo 1 = .ok (.getfield 55, 3) := by decide +kernel
theorem dX11_redo_4 : decode cX11_redo 4 = .ok (.aload_n 0, 1) := by decide +kernel
theorem dX11_redo_5 : decode cX11_redo 5 = .ok (.getfield 37, 3) := by decide +kernel
theorem dX11_redo_8 : decode cX11_redo 8 = .ok (.invokevirtual 214, 3) := by decide +kernel
theorem dX11_redo_11 : decode cX11_redo 11 = .ok (.ifCond .ne 5, 3) := by decide +kernel
theorem dX11_redo_14 : decode cX11_redo 14 = .ok (.iconst 0, 1) := by decide +kernel
theorem dX11_redo_15 : decode cX11_redo 15 = .ok (.ireturn, 1) := by decide +kernel
def wq_c_X11_redo : List Cond := Cond.code yX11_redo cX11_redo 1 (some .boolean) :: (([Cond.fieldLink RX11 55 "CrowToll" "acts" "LCrowToll$Acts;", Cond.fieldLink RX11 37 "CrowToll" "stand" "LCrowToll$Stand;", Cond.methodLink RX11 214 yX0_doAgain, Cond.instanceMethod yX0_doAgain, Cond.selects RX0 yX0_doAgain yX0_doAgain, Cond.initialized RX0, Cond.code yX0_doAgain cX0_doAgain 2 (some .boolean), Cond.fieldLink RX0 21 "CrowToll$Acts" "done" "I", Cond.fieldLink RX0 25 "CrowToll$Acts" "kept" "I"] : List Cond) ++ wsX00 ++ wsX110)
set_option maxRecDepth 20000 in
theorem gr_c_X11_redo_c_X0_doAgain : GoodIn wq_c_X11_redo wq_c_X0_doAgain := List.forall_mem_cons.mpr ⟨⟨(List.mem_of_getElem? (i := 7) rfl), good_of_word rfl⟩, List.forall_mem_append.mpr ⟨List.forall_mem_cons.mpr ⟨⟨(List.mem_of_getElem? (i := 8) rfl), good_of_word rfl⟩, List.forall_mem_cons.mpr ⟨⟨(List.mem_of_getElem? (i := 9) rfl), good_of_word rfl⟩, (fun _ h => absurd h List.not_mem_nil)⟩⟩, fun w h => ⟨(fun w h => List.mem_cons_of_mem _ (List.mem_append_left _ (List.mem_append_right _ h))) w h, good_of_word (List.all_eq_true.mp gw_X0 w h)⟩⟩⟩
set_option maxRecDepth 20000 in
theorem gq_c_X11_redo_c_X0_doAgain_214 : GoodIn wq_c_X11_redo (wsV RX11 214 RX0 yX0_doAgain wq_c_X0_doAgain) := goodIn_app (List.forall_mem_cons.mpr ⟨⟨(List.mem_of_getElem? (i := 3) rfl), good_of_word rfl⟩, List.forall_mem_cons.mpr ⟨⟨(List.mem_of_getElem? (i := 4) rfl), good_of_word rfl⟩, List.forall_mem_cons.mpr ⟨⟨(List.mem_of_getElem? (i := 5) rfl), good_of_word rfl⟩, List.forall_mem_cons.mpr ⟨⟨(List.mem_of_getElem? (i := 6) rfl), good_of_word rfl⟩, (fun _ h => absurd h List.not_mem_nil)⟩⟩⟩⟩) gr_c_X11_redo_c_X0_doAgain
set_option maxHeartbeats 8000000 in
set_option maxRecDepth 100000 in
theorem c_X11_redo (l : Launch) (D : va_G) (cy : Nat → ClassId) (ad : Nat → Nat) (g : Nat → va_E) {f0 : List Value} {f1 : List Value} {f2 : List Value} (o0 : g 0 = .inr (11, f0)) (f0_4 : f0[4]? = some (.ref (ad 2))) (f0_6 : f0[6]? = some (.ref (ad 1))) (o1 : g 1 = .inr (0, f1)) (f1_3 : f1[3]? = some (.int 0)) (f1_4 : f1[4]? = some (.int 0)) (o2 : g 2 = .inr (9, f2)) : cMi l yX11_redo wq_c_X11_redo { frames := 1, cells := 0, slots := 0, locals := 21 } 3 0 0 0 D cy ad g [.ref (ad 0)] (fun r nw lu => r = 0) := by
  refine cM_of (Qc := fun A => cQi (fun r nw lu => r = 0) D 3 0 ad g A) (cc := cX11_redo) (maxL := 1) (ret := (some .boolean)) (by decide) rfl (Nat.le_of_ble_eq_true rfl) ?_
  intro p e s m below meth c A hC hr hlk hnm hO ls hl
  have hC : CallFix p m c cX11_redo 1 s [.ref (ad 0)].toArray wq_c_X11_redo RX11 := hC
  obtain ⟨hx, hb, hml, hown, hts⟩ := id hC
  have hl : lv_has ls 1 [(0, .ref (ad 0))] := hl
  have i_X0 : ∀ w ∈ wsX00, w ∈ wq_c_X11_redo := fun w h => List.mem_cons_of_mem _ (List.mem_append_left _ (List.mem_append_right _ h))
  have i_X11 : ∀ w ∈ wsX110, w ∈ wq_c_X11_redo := fun w h => List.mem_cons_of_mem _ (List.mem_append_right _ h)
  refine lv_aload_n hx hb dX11_redo_0 rfl (lv_at hl 0 rfl) ?_
  refine cg_get hC hO 0 (by decide) o0 rfl i_X11 6 (by decide) (List.mem_of_getElem? (i := 1) rfl) f0_6 dX11_redo_1 ?_
  refine lv_aload_n hx hb dX11_redo_4 rfl (lv_at hl 0 rfl) ?_
  refine cg_get hC hO 0 (by decide) o0 rfl i_X11 4 (by decide) (List.mem_of_getElem? (i := 2) rfl) f0_4 dX11_redo_5 ?_
  refine cg_Vi (As := [.ref (ad 2)]) (rest := []) (mc := 0) (ms := 0) (rm := { frames := 0, cells := 0, slots := 0, locals := 0 }) hC hl.1 hO [1, 2] rfl (c_X0_doAgain l D cy _ _ (f0 := f1) (f1 := f2) o1 f1_3 f1_4 o2) gq_c_X11_redo_c_X0_doAgain_214 rfl rfl rfl 1 (by decide +kernel) ⟨Nat.le_of_ble_eq_true rfl, Nat.le_of_ble_eq_true rfl⟩ rfl (by decide) o1 rfl rfl (Nat.le_of_ble_eq_true rfl) dX11_redo_8 ⟨Nat.le_of_ble_eq_true rfl, Nat.le_of_ble_eq_true rfl⟩ (fun r_8_3 nw_8_1 l_8_2 H locs hw hO => ?_)
  obtain ⟨rfl, rfl⟩ := hw
  have hO : cO D cy A s.heap s 3 ad (cup [] g) _ _ := hO
  refine lv_if_ne (tgt := 16) hx hb dX11_redo_11 (by decide) (fun h => absurd h (by decide)) (fun _ => ?_)
  refine lv_iconst (v := 0) hx hb dX11_redo_14 (by decide) ?_
  exact cg_iret (nw := fun _ => 0) hC hr hlk hO.same rfl (Nat.le_of_ble_eq_true rfl) (Nat.le_of_ble_eq_true rfl) rfl dX11_redo_15

theorem dX11_seats_0 : decode cX11_seats 0 = .ok (.aload_n 0, 1) := by decide +kernel
theorem dX11_seats_1 : decode cX11_seats 1 = .ok (.iconst 0, 1) := by decide +kernel
theorem dX11_seats_2 : decode cX11_seats 2 = .ok (.putfield 100, 3) := by decide +kernel
theorem dX11_seats_5 : decode cX11_seats 5 = .ok (.aload_n 0, 1) := by decide +kernel
theorem dX11_seats_6 : decode cX11_seats 6 = .ok (.getfield 27, 3) := by decide +kernel
theorem dX11_seats_9 : decode cX11_seats 9 = .ok (.getfield 250, 3) := by decide +kernel
theorem dX11_seats_12 : decode cX11_seats 12 = .ok (.ifCond .ne 5, 3) := by decide +kernel
theorem dX11_seats_15 : decode cX11_seats 15 = .ok (.iconst (-1), 1) := by decide +kernel
theorem dX11_seats_16 : decode cX11_seats 16 = .ok (.ireturn, 1) := by decide +kernel
def wq_c_X11_seats : List Cond := Cond.code yX11_seats cX11_seats 2 (some .int) :: (([Cond.fieldLink RX11 100 "CrowToll" "lyingThere" "I", Cond.fieldLink RX11 27 "CrowToll" "told" "LCrowToll$Road;", Cond.fieldLink RX11 250 "CrowToll$Road" "posts" "I"] : List Cond) ++ wsX70 ++ wsX110)
set_option maxHeartbeats 8000000 in
set_option maxRecDepth 100000 in
theorem c_X11_seats (l : Launch) (D : va_G) (cy : Nat → ClassId) (ad : Nat → Nat) (g : Nat → va_E) {f0 : List Value} {f1 : List Value} (o0 : g 0 = .inr (11, f0)) (f0_3 : f0[3]? = some (.ref (ad 1))) (f0_13 : f0[13]? = some (.int 0)) (o1 : g 1 = .inr (7, f1)) (f1_11 : f1[11]? = some (.int 0)) : cMi l yX11_seats wq_c_X11_seats { frames := 0, cells := 0, slots := 0, locals := 0 } 2 0 0 0 D cy ad g [.ref (ad 0)] (fun r nw lu => r = -1) := by
  refine cM_of (Qc := fun A => cQi (fun r nw lu => r = -1) D 2 0 ad g A) (cc := cX11_seats) (maxL := 2) (ret := (some .int)) (by decide) rfl (Nat.le_of_ble_eq_true rfl) ?_
  intro p e s m below meth c A hC hr hlk hnm hO ls hl
  have hC : CallFix p m c cX11_seats 2 s [.ref (ad 0)].toArray wq_c_X11_seats RX11 := hC
  obtain ⟨hx, hb, hml, hown, hts⟩ := id hC
  have hl : lv_has ls 2 [(0, .ref (ad 0))] := hl
  have i_X11 : ∀ w ∈ wsX110, w ∈ wq_c_X11_seats := fun w h => List.mem_cons_of_mem _ (List.mem_append_right _ h)
  have i_X7 : ∀ w ∈ wsX70, w ∈ wq_c_X11_seats := fun w h => List.mem_cons_of_mem _ (List.mem_append_left _ (List.mem_append_right _ h))
  refine lv_aload_n hx hb dX11_seats_0 rfl (lv_at hl 0 rfl) ?_
  refine lv_iconst (v := 0) hx hb dX11_seats_1 (by decide) ?_
  refine cg_put hC hO 0 (by decide) o0 rfl i_X11 tyX11_ok nmX11 13 (by decide) (List.mem_of_getElem? (i := 1) rfl) rfl rfl rfl (fs_lt f0_13) dX11_seats_2 (fun H locs hO => ?_)
  have hO : cO D cy A s.heap s 2 ad (cup [(0, .inr (11, (f0.set 13 (.int 0))))] g) _ _ := hO
  refine lv_aload_n hx hb dX11_seats_5 rfl (lv_at hl 0 rfl) ?_
  refine cg_get hC hO 0 (by decide) rfl rfl i_X11 3 (by decide) (List.mem_of_getElem? (i := 2) rfl) (fs_ne (by decide) f0_3) dX11_seats_6 ?_
  refine cg_get hC hO 1 (by decide) o1 rfl i_X7 11 (by decide) (List.mem_of_getElem? (i := 3) rfl) f1_11 dX11_seats_9 ?_
  refine lv_if_ne (tgt := 17) hx hb dX11_seats_12 (by decide) (fun h => absurd h (by decide)) (fun _ => ?_)
  refine lv_iconst (v := (-1)) hx hb dX11_seats_15 (by decide) ?_
  exact cg_iret (nw := fun _ => 0) hC hr hlk hO.same rfl (Nat.le_of_ble_eq_true rfl) (Nat.le_of_ble_eq_true rfl) rfl dX11_seats_16

theorem dX11_lies_0 : decode cX11_lies 0 = .ok (.iload_n 1, 1) := by decide +kernel
theorem dX11_lies_1 : decode cX11_lies 1 = .ok (.iconst 0, 1) := by decide +kernel
theorem dX11_lies_2 : decode cX11_lies 2 = .ok (.aload_n 0, 1) := by decide +kernel
theorem dX11_lies_3 : decode cX11_lies 3 = .ok (.getfield 100, 3) := by decide +kernel
theorem dX11_lies_6 : decode cX11_lies 6 = .ok (.iconst 1, 1) := by decide +kernel
theorem dX11_lies_7 : decode cX11_lies 7 = .ok (.isub, 1) := by decide +kernel
theorem dX11_lies_8 : decode cX11_lies 8 = .ok (.invokestatic 107, 3) := by decide +kernel
theorem dX11_lies_11 : decode cX11_lies 11 = .ok (.ifCond .eq 12, 3) := by decide +kernel
theorem dX11_lies_23 : decode cX11_lies 23 = .ok (.iconst (-1), 1) := by decide +kernel
theorem dX11_lies_24 : decode cX11_lies 24 = .ok (.ireturn, 1) := by decide +kernel
def wq_c_X11_lies : List Cond := Cond.code yX11_lies cX11_lies 2 (some .int) :: (([Cond.fieldLink RX11 100 "CrowToll" "lyingThere" "I", Cond.methodLink RX11 107 yX11_within, Cond.static yX11_within, Cond.initialized RX11, Cond.code yX11_within cX11_within 3 (some .boolean)] : List Cond) ++ wsX110)
set_option maxRecDepth 20000 in
theorem gr_c_X11_lies_c_X11_within : GoodIn wq_c_X11_lies wq_c_X11_within := List.forall_mem_cons.mpr ⟨⟨(List.mem_of_getElem? (i := 5) rfl), good_of_word rfl⟩, (fun _ h => absurd h List.not_mem_nil)⟩
set_option maxRecDepth 20000 in
theorem gq_c_X11_lies_c_X11_within_107 : GoodIn wq_c_X11_lies (va_wsS RX11 107 yX11_within wq_c_X11_within) := goodIn_app (List.forall_mem_cons.mpr ⟨⟨(List.mem_of_getElem? (i := 2) rfl), good_of_word rfl⟩, List.forall_mem_cons.mpr ⟨⟨(List.mem_of_getElem? (i := 3) rfl), good_of_word rfl⟩, List.forall_mem_cons.mpr ⟨⟨(List.mem_of_getElem? (i := 4) rfl), good_of_word rfl⟩, (fun _ h => absurd h List.not_mem_nil)⟩⟩⟩) gr_c_X11_lies_c_X11_within
set_option maxHeartbeats 8000000 in
set_option maxRecDepth 100000 in
theorem c_X11_lies (l : Launch) (D : va_G) (cy : Nat → ClassId) (ad : Nat → Nat) (g : Nat → va_E) {f0 : List Value} {n : Int32} (o0 : g 0 = .inr (11, f0)) (f0_13 : f0[13]? = some (.int 0)) : cMi l yX11_lies wq_c_X11_lies { frames := 1, cells := 0, slots := 0, locals := 22 } 1 0 0 0 D cy ad g [.ref (ad 0), .int n] (fun r nw lu => r = -1) := by
  refine cM_of (Qc := fun A => cQi (fun r nw lu => r = -1) D 1 0 ad g A) (cc := cX11_lies) (maxL := 2) (ret := (some .int)) (by decide) rfl (Nat.le_of_ble_eq_true rfl) ?_
  intro p e s m below meth c A hC hr hlk hnm hO ls hl
  have hC : CallFix p m c cX11_lies 2 s [.ref (ad 0), .int n].toArray wq_c_X11_lies RX11 := hC
  obtain ⟨hx, hb, hml, hown, hts⟩ := id hC
  have hl : lv_has ls 2 [(0, .ref (ad 0)), (1, .int n)] := hl
  have i_X11 : ∀ w ∈ wsX110, w ∈ wq_c_X11_lies := fun w h => List.mem_cons_of_mem _ (List.mem_append_right _ h)
  refine lv_iload_n hx hb dX11_lies_0 rfl (lv_at hl 1 rfl) ?_
  refine lv_iconst (v := 0) hx hb dX11_lies_1 (by decide) ?_
  refine lv_aload_n hx hb dX11_lies_2 rfl (lv_at hl 0 rfl) ?_
  refine cg_get hC hO 0 (by decide) o0 rfl i_X11 13 (by decide) (List.mem_of_getElem? (i := 1) rfl) f0_13 dX11_lies_3 ?_
  refine lv_iconst (v := 1) hx hb dX11_lies_6 (by decide) ?_
  refine lv_isub hx hb dX11_lies_7 ?_
  refine cg_ev (v := (-1)) (by decide) ?_
  refine cg_Si (As := [.int n, .int 0, .int (-1)]) (rest := []) (mc := 0) (ms := 0) (rm := { frames := 0, cells := 0, slots := 0, locals := 0 }) hC hl.1 hO [] rfl (c_X11_within l D cy _ _ (x := n) (y := 0) (z := (-1)) ) gq_c_X11_lies_c_X11_within_107 rfl rfl rfl 3 (by decide +kernel) ⟨Nat.le_of_ble_eq_true rfl, Nat.le_of_ble_eq_true rfl⟩ rfl rfl (Nat.le_of_ble_eq_true rfl) dX11_lies_8 ⟨Nat.le_of_ble_eq_true rfl, Nat.le_of_ble_eq_true rfl⟩ (fun r_8_3 nw_8_1 l_8_2 H locs hw hO => ?_)
  rcases hw with hw | hw
  · obtain ⟨hr_8_4, rfl, rfl⟩ := hw
    exact absurd (Int32.le_trans hr_8_4.1 hr_8_4.2) (by decide)
  · obtain ⟨hr_8_5, rfl, rfl⟩ := hw
    have hO : cO D cy A s.heap s 1 ad (cup [] g) _ _ := hO
    refine lv_if_eq (tgt := 23) hx hb dX11_lies_11 (by decide) (fun _ => ?_) (fun h => absurd h (by decide))
    refine lv_iconst (v := (-1)) hx hb dX11_lies_23 (by decide) ?_
    exact cg_iret (nw := fun _ => 0) hC hr hlk hO.same rfl (Nat.le_of_ble_eq_true rfl) (Nat.le_of_ble_eq_true rfl) rfl dX11_lies_24

theorem dX11_sight_0 : decode cX11_sight 0 = .ok (.iload_n 1, 1) := by decide +kernel
theorem dX11_sight_1 : decode cX11_sight 1 = .ok (.iconst 0, 1) := by decide +kernel
theorem dX11_sight_2 : decode cX11_sight 2 = .ok (.sipush 720, 3) := by decide +kernel
theorem dX11_sight_5 : decode cX11_sight 5 = .ok (.invokestatic 107, 3) := by decide +kernel
theorem dX11_sight_8 : decode cX11_sight 8 = .ok (.ifCond .eq 33, 3) := by decide +kernel
theorem dX11_sight_11 : decode cX11_sight 11 = .ok (.aload_n 0, 1) := by decide +kernel
theorem dX11_sight_12 : decode cX11_sight 12 = .ok (.iload_n 2, 1) := by decide +kernel
theorem dX11_sight_13 : decode cX11_sight 13 = .ok (.invokevirtual 168, 3) := by decide +kernel
theorem dX11_sight_16 : decode cX11_sight 16 = .ok (.ifCond .eq 25, 3) := by decide +kernel
theorem dX11_sight_41 : decode cX11_sight 41 = .ok (.iconst (-1), 1) := by decide +kernel
theorem dX11_sight_42 : decode cX11_sight 42 = .ok (.ireturn, 1) := by decide +kernel
def wq_c_X11_sight : List Cond := Cond.code yX11_sight cX11_sight 4 (some .int) :: (([Cond.methodLink RX11 107 yX11_within, Cond.static yX11_within, Cond.initialized RX11, Cond.code yX11_within cX11_within 3 (some .boolean), Cond.methodLink RX11 168 yX11_isBird, Cond.instanceMethod yX11_isBird, Cond.selects RX11 yX11_isBird yX11_isBird, Cond.code yX11_isBird cX11_isBird 2 (some .boolean), Cond.fieldLink RX11 27 "CrowToll" "told" "LCrowToll$Road;", Cond.fieldLink RX11 247 "CrowToll$Road" "birds" "I"] : List Cond) ++ wsX70 ++ wsX110)
set_option maxRecDepth 20000 in
theorem gr_c_X11_sight_c_X11_within : GoodIn wq_c_X11_sight wq_c_X11_within := List.forall_mem_cons.mpr ⟨⟨(List.mem_of_getElem? (i := 4) rfl), good_of_word rfl⟩, (fun _ h => absurd h List.not_mem_nil)⟩
set_option maxRecDepth 20000 in
theorem gq_c_X11_sight_c_X11_within_107 : GoodIn wq_c_X11_sight (va_wsS RX11 107 yX11_within wq_c_X11_within) := goodIn_app (List.forall_mem_cons.mpr ⟨⟨(List.mem_of_getElem? (i := 1) rfl), good_of_word rfl⟩, List.forall_mem_cons.mpr ⟨⟨(List.mem_of_getElem? (i := 2) rfl), good_of_word rfl⟩, List.forall_mem_cons.mpr ⟨⟨(List.mem_of_getElem? (i := 3) rfl), good_of_word rfl⟩, (fun _ h => absurd h List.not_mem_nil)⟩⟩⟩) gr_c_X11_sight_c_X11_within
set_option maxRecDepth 20000 in
theorem gr_c_X11_sight_c_X11_isBird : GoodIn wq_c_X11_sight wq_c_X11_isBird := List.forall_mem_cons.mpr ⟨⟨(List.mem_of_getElem? (i := 8) rfl), good_of_word rfl⟩, List.forall_mem_append.mpr ⟨List.forall_mem_append.mpr ⟨List.forall_mem_cons.mpr ⟨⟨(List.mem_of_getElem? (i := 9) rfl), good_of_word rfl⟩, List.forall_mem_cons.mpr ⟨⟨(List.mem_of_getElem? (i := 10) rfl), good_of_word rfl⟩, List.forall_mem_cons.mpr ⟨⟨(List.mem_of_getElem? (i := 1) rfl), good_of_word rfl⟩, List.forall_mem_cons.mpr ⟨⟨(List.mem_of_getElem? (i := 2) rfl), good_of_word rfl⟩, List.forall_mem_cons.mpr ⟨⟨(List.mem_of_getElem? (i := 3) rfl), good_of_word rfl⟩, List.forall_mem_cons.mpr ⟨⟨(List.mem_of_getElem? (i := 4) rfl), good_of_word rfl⟩, (fun _ h => absurd h List.not_mem_nil)⟩⟩⟩⟩⟩⟩, fun w h => ⟨(fun w h => List.mem_cons_of_mem _ (List.mem_append_left _ (List.mem_append_right _ h))) w h, good_of_word (List.all_eq_true.mp gw_X7 w h)⟩⟩, fun w h => ⟨(fun w h => List.mem_cons_of_mem _ (List.mem_append_right _ h)) w h, good_of_word (List.all_eq_true.mp gw_X11 w h)⟩⟩⟩
set_option maxRecDepth 20000 in
theorem gq_c_X11_sight_c_X11_isBird_168 : GoodIn wq_c_X11_sight (wsV RX11 168 RX11 yX11_isBird wq_c_X11_isBird) := goodIn_app (List.forall_mem_cons.mpr ⟨⟨(List.mem_of_getElem? (i := 5) rfl), good_of_word rfl⟩, List.forall_mem_cons.mpr ⟨⟨(List.mem_of_getElem? (i := 6) rfl), good_of_word rfl⟩, List.forall_mem_cons.mpr ⟨⟨(List.mem_of_getElem? (i := 7) rfl), good_of_word rfl⟩, List.forall_mem_cons.mpr ⟨⟨(List.mem_of_getElem? (i := 3) rfl), good_of_word rfl⟩, (fun _ h => absurd h List.not_mem_nil)⟩⟩⟩⟩) gr_c_X11_sight_c_X11_isBird
set_option maxHeartbeats 8000000 in
set_option maxRecDepth 100000 in
theorem c_X11_sight (l : Launch) (D : va_G) (cy : Nat → ClassId) (ad : Nat → Nat) (g : Nat → va_E) {f0 : List Value} {f1 : List Value} {n : Int32} {q : Int32} {q2 : Int32} (o0 : g 0 = .inr (11, f0)) (f0_3 : f0[3]? = some (.ref (ad 1))) (o1 : g 1 = .inr (7, f1)) (f1_5 : f1[5]? = some (.int 0)) : cMi l yX11_sight wq_c_X11_sight { frames := 2, cells := 0, slots := 0, locals := 43 } 2 0 0 0 D cy ad g [.ref (ad 0), .int n, .int q, .int q2] (fun r nw lu => r = -1) := by
  refine cM_of (Qc := fun A => cQi (fun r nw lu => r = -1) D 2 0 ad g A) (cc := cX11_sight) (maxL := 4) (ret := (some .int)) (by decide) rfl (Nat.le_of_ble_eq_true rfl) ?_
  intro p e s m below meth c A hC hr hlk hnm hO ls hl
  have hC : CallFix p m c cX11_sight 4 s [.ref (ad 0), .int n, .int q, .int q2].toArray wq_c_X11_sight RX11 := hC
  obtain ⟨hx, hb, hml, hown, hts⟩ := id hC
  have hl : lv_has ls 4 [(0, .ref (ad 0)), (1, .int n), (2, .int q), (3, .int q2)] := hl
  have i_X11 : ∀ w ∈ wsX110, w ∈ wq_c_X11_sight := fun w h => List.mem_cons_of_mem _ (List.mem_append_right _ h)
  have i_X7 : ∀ w ∈ wsX70, w ∈ wq_c_X11_sight := fun w h => List.mem_cons_of_mem _ (List.mem_append_left _ (List.mem_append_right _ h))
  refine lv_iload_n hx hb dX11_sight_0 rfl (lv_at hl 1 rfl) ?_
  refine lv_iconst (v := 0) hx hb dX11_sight_1 (by decide) ?_
  refine lv_sipush (v := 720) hx hb dX11_sight_2 (by decide) ?_
  refine cg_Si (As := [.int n, .int 0, .int 720]) (rest := []) (mc := 0) (ms := 0) (rm := { frames := 0, cells := 0, slots := 0, locals := 0 }) hC hl.1 hO [] rfl (c_X11_within l D cy _ _ (x := n) (y := 0) (z := 720) ) gq_c_X11_sight_c_X11_within_107 rfl rfl rfl 3 (by decide +kernel) ⟨Nat.le_of_ble_eq_true rfl, Nat.le_of_ble_eq_true rfl⟩ rfl rfl (Nat.le_of_ble_eq_true rfl) dX11_sight_5 ⟨Nat.le_of_ble_eq_true rfl, Nat.le_of_ble_eq_true rfl⟩ (fun r_5_3 nw_5_1 l_5_2 H locs hw hO => ?_)
  rcases hw with hw | hw
  · obtain ⟨hr_5_4, rfl, rfl⟩ := hw
    have hO : cO D cy A s.heap s 2 ad (cup [] g) _ _ := hO
    refine lv_if_eq (tgt := 41) hx hb dX11_sight_8 (by decide) (fun h => absurd h (by decide)) (fun _ => ?_)
    refine lv_aload_n hx hb dX11_sight_11 rfl (lv_at hl 0 rfl) ?_
    refine lv_iload_n hx hb dX11_sight_12 rfl (lv_at hl 2 rfl) ?_
    refine cg_Vi (As := [.int q]) (rest := []) (mc := 0) (ms := 0) (rm := { frames := 1, cells := 0, slots := 0, locals := 22 }) hC hl.1 hO [0, 1] rfl (c_X11_isBird l D cy _ _ (f0 := f0) (f1 := f1) (n := q) o0 f0_3 o1 f1_5) gq_c_X11_sight_c_X11_isBird_168 rfl rfl rfl 1 (by decide +kernel) ⟨Nat.le_of_ble_eq_true rfl, Nat.le_of_ble_eq_true rfl⟩ rfl (by decide) o0 rfl rfl (Nat.le_of_ble_eq_true rfl) dX11_sight_13 ⟨Nat.le_of_ble_eq_true rfl, Nat.le_of_ble_eq_true rfl⟩ (fun r_13_7 nw_13_5 l_13_6 H locs hw hO => ?_)
    obtain ⟨rfl, rfl⟩ := hw
    have hO : cO D cy A s.heap s 2 ad (cup [] g) _ _ := hO
    refine lv_if_eq (tgt := 41) hx hb dX11_sight_16 (by decide) (fun _ => ?_) (fun h => absurd h (by decide))
    refine lv_iconst (v := (-1)) hx hb dX11_sight_41 (by decide) ?_
    exact cg_iret (nw := fun _ => 0) hC hr hlk hO.same rfl (Nat.le_of_ble_eq_true rfl) (Nat.le_of_ble_eq_true rfl) rfl dX11_sight_42
  · obtain ⟨hr_5_8, rfl, rfl⟩ := hw
    have hO : cO D cy A s.heap s 2 ad (cup [] g) _ _ := hO
    refine lv_if_eq (tgt := 41) hx hb dX11_sight_8 (by decide) (fun _ => ?_) (fun h => absurd h (by decide))
    refine lv_iconst (v := (-1)) hx hb dX11_sight_41 (by decide) ?_
    exact cg_iret (nw := fun _ => 0) hC hr hlk hO.same rfl (Nat.le_of_ble_eq_true rfl) (Nat.le_of_ble_eq_true rfl) rfl dX11_sight_42

theorem dX8_takeBack_0 : decode cX8_takeBack 0 = .ok (.iload_n 1, 1) := by decide +kernel
theorem dX8_takeBack_1 : decode cX8_takeBack 1 = .ok (.iconst 0, 1) := by decide +kernel
theorem dX8_takeBack_2 : decode cX8_takeBack 2 = .ok (.aload_n 0, 1) := by decide +kernel
theorem dX8_takeBack_3 : decode cX8_takeBack 3 = .ok (.getfield 49, 3) := by decide +kernel
theorem dX8_takeBack_6 : decode cX8_takeBack 6 = .ok (.iconst 1, 1) := by decide +kernel
theorem dX8_takeBack_7 : decode cX8_takeBack 7 = .ok (.isub, 1) := by decide +kernel
theorem dX8_takeBack_8 : decode cX8_takeBack 8 = .ok (.invokestatic 56, 3) := by decide +kernel
theorem dX8_takeBack_11 : decode cX8_takeBack 11 = .ok (.ifCond .eq 13, 3) := by decide +kernel
theorem dX8_takeBack_24 : decode cX8_takeBack 24 = .ok (.iconst 0, 1) := by decide +kernel
theorem dX8_takeBack_25 : decode cX8_takeBack 25 = .ok (.ireturn, 1) := by decide +kernel
def wq_c_X8_takeBack : List Cond := Cond.code yX8_takeBack cX8_takeBack 2 (some .boolean) :: (([Cond.fieldLink RX8 49 "CrowToll$Sights" "size" "I", Cond.code yX11_within cX11_within 3 (some .boolean), Cond.static yX11_within, Cond.initialized RX11] : List Cond) ++ wsX80)
set_option maxRecDepth 20000 in
theorem gr_c_X8_takeBack_c_X11_within : GoodIn wq_c_X8_takeBack wq_c_X11_within := List.forall_mem_cons.mpr ⟨⟨(List.mem_of_getElem? (i := 2) rfl), good_of_word rfl⟩, (fun _ h => absurd h List.not_mem_nil)⟩
theorem gq_c_X8_takeBack_c_X11_within : GoodIn wq_c_X8_takeBack wq_c_X11_within := gr_c_X8_takeBack_c_X11_within
set_option maxHeartbeats 8000000 in
set_option maxRecDepth 100000 in
theorem c_X8_takeBack (l : Launch) (D : va_G) (cy : Nat → ClassId) (ad : Nat → Nat) (g : Nat → va_E) {f0 : List Value} {n : Int32} (o0 : g 0 = .inr (8, f0)) (f0_7 : f0[7]? = some (.int 0)) : cMi l yX8_takeBack wq_c_X8_takeBack { frames := 1, cells := 0, slots := 0, locals := 22 } 1 0 0 0 D cy ad g [.ref (ad 0), .int n] (fun r nw lu => (r = 0) ∧ (lu = [])) := by
  refine cM_of (Qc := fun A => cQi (fun r nw lu => (r = 0) ∧ (lu = [])) D 1 0 ad g A) (cc := cX8_takeBack) (maxL := 2) (ret := (some .boolean)) (by decide) rfl (Nat.le_of_ble_eq_true rfl) ?_
  intro p e s m below meth c A hC hr hlk hnm hO ls hl
  have hC : CallFix p m c cX8_takeBack 2 s [.ref (ad 0), .int n].toArray wq_c_X8_takeBack RX8 := hC
  obtain ⟨hx, hb, hml, hown, hts⟩ := id hC
  have hl : lv_has ls 2 [(0, .ref (ad 0)), (1, .int n)] := hl
  have i_X8 : ∀ w ∈ wsX80, w ∈ wq_c_X8_takeBack := fun w h => List.mem_cons_of_mem _ (List.mem_append_right _ h)
  refine lv_iload_n hx hb dX8_takeBack_0 rfl (lv_at hl 1 rfl) ?_
  refine lv_iconst (v := 0) hx hb dX8_takeBack_1 (by decide) ?_
  refine lv_aload_n hx hb dX8_takeBack_2 rfl (lv_at hl 0 rfl) ?_
  refine cg_get hC hO 0 (by decide) o0 rfl i_X8 7 (by decide) (List.mem_of_getElem? (i := 1) rfl) f0_7 dX8_takeBack_3 ?_
  refine lv_iconst (v := 1) hx hb dX8_takeBack_6 (by decide) ?_
  refine lv_isub hx hb dX8_takeBack_7 ?_
  refine cg_ev (v := (-1)) (by decide) ?_
  refine cg_Ni (As := [.int n, .int 0, .int (-1)]) (rest := []) (mc := 0) (ms := 0) (rm := { frames := 0, cells := 0, slots := 0, locals := 0 }) hC hl.1 hO [] rfl (c_X11_within l D cy _ _ (x := n) (y := 0) (z := (-1)) ) gq_c_X8_takeBack_c_X11_within rfl rfl rfl (host := "CrowToll") (nestL_mem_14) (List.mem_of_getElem? (i := 3) rfl) (List.mem_of_getElem? (i := 4) rfl) 3 (by decide +kernel) ⟨Nat.le_of_ble_eq_true rfl, Nat.le_of_ble_eq_true rfl⟩ rfl rfl (Nat.le_of_ble_eq_true rfl) dX8_takeBack_8 ⟨Nat.le_of_ble_eq_true rfl, Nat.le_of_ble_eq_true rfl⟩ (fun r_8_3 nw_8_1 l_8_2 H locs hw hO => ?_)
  rcases hw with hw | hw
  · obtain ⟨hr_8_4, rfl, rfl⟩ := hw
    exact absurd (Int32.le_trans hr_8_4.1 hr_8_4.2) (by decide)
  · obtain ⟨hr_8_5, rfl, rfl⟩ := hw
    have hO : cO D cy A s.heap s 1 ad (cup [] g) _ _ := hO
    refine lv_if_eq (tgt := 24) hx hb dX8_takeBack_11 (by decide) (fun _ => ?_) (fun h => absurd h (by decide))
    refine lv_iconst (v := 0) hx hb dX8_takeBack_24 (by decide) ?_
    exact cg_iret (nw := fun _ => 0) hC hr hlk hO.same rfl (Nat.le_of_ble_eq_true rfl) (Nat.le_of_ble_eq_true rfl) (⟨rfl, rfl⟩) dX8_takeBack_25

theorem dX11_untell_0 : decode cX11_untell 0 = .ok (.aload_n 0, 1) := by decide +kernel
theorem dX11_untell_1 : decode cX11_untell 1 = .ok (.getfield 93, 3) := by decide +kernel
theorem dX11_untell_4 : decode cX11_untell 4 = .ok (.iload_n 1, 1) := by decide +kernel
theorem dX11_untell_5 : decode cX11_untell 5 = .ok (.invokevirtual 263, 3) := by decide +kernel
theorem dX11_untell_8 : decode cX11_untell 8 = .ok (.ireturn, 1) := by decide +kernel
def wq_c_X11_untell : List Cond := Cond.code yX11_untell cX11_untell 2 (some .boolean) :: (([Cond.fieldLink RX11 93 "CrowToll" "sights" "LCrowToll$Sights;", Cond.methodLink RX11 263 yX8_takeBack, Cond.instanceMethod yX8_takeBack, Cond.selects RX8 yX8_takeBack yX8_takeBack, Cond.initialized RX8, Cond.code yX8_takeBack cX8_takeBack 2 (some .boolean), Cond.fieldLink RX8 49 "CrowToll$Sights" "size" "I", Cond.code yX11_within cX11_within 3 (some .boolean), Cond.static yX11_within, Cond.initialized RX11] : List Cond) ++ wsX80 ++ wsX110)
set_option maxRecDepth 20000 in
theorem gr_c_X11_untell_c_X8_takeBack : GoodIn wq_c_X11_untell wq_c_X8_takeBack := List.forall_mem_cons.mpr ⟨⟨(List.mem_of_getElem? (i := 6) rfl), good_of_word rfl⟩, List.forall_mem_append.mpr ⟨List.forall_mem_cons.mpr ⟨⟨(List.mem_of_getElem? (i := 7) rfl), good_of_word rfl⟩, List.forall_mem_cons.mpr ⟨⟨(List.mem_of_getElem? (i := 8) rfl), good_of_word rfl⟩, List.forall_mem_cons.mpr ⟨⟨(List.mem_of_getElem? (i := 9) rfl), good_of_word rfl⟩, List.forall_mem_cons.mpr ⟨⟨(List.mem_of_getElem? (i := 10) rfl), good_of_word rfl⟩, (fun _ h => absurd h List.not_mem_nil)⟩⟩⟩⟩, fun w h => ⟨(fun w h => List.mem_cons_of_mem _ (List.mem_append_left _ (List.mem_append_right _ h))) w h, good_of_word (List.all_eq_true.mp gw_X8 w h)⟩⟩⟩
set_option maxRecDepth 20000 in
theorem gq_c_X11_untell_c_X8_takeBack_263 : GoodIn wq_c_X11_untell (wsV RX11 263 RX8 yX8_takeBack wq_c_X8_takeBack) := goodIn_app (List.forall_mem_cons.mpr ⟨⟨(List.mem_of_getElem? (i := 2) rfl), good_of_word rfl⟩, List.forall_mem_cons.mpr ⟨⟨(List.mem_of_getElem? (i := 3) rfl), good_of_word rfl⟩, List.forall_mem_cons.mpr ⟨⟨(List.mem_of_getElem? (i := 4) rfl), good_of_word rfl⟩, List.forall_mem_cons.mpr ⟨⟨(List.mem_of_getElem? (i := 5) rfl), good_of_word rfl⟩, (fun _ h => absurd h List.not_mem_nil)⟩⟩⟩⟩) gr_c_X11_untell_c_X8_takeBack
set_option maxHeartbeats 8000000 in
set_option maxRecDepth 100000 in
theorem c_X11_untell (l : Launch) (D : va_G) (cy : Nat → ClassId) (ad : Nat → Nat) (g : Nat → va_E) {f0 : List Value} {f1 : List Value} {n : Int32} (o0 : g 0 = .inr (11, f0)) (f0_11 : f0[11]? = some (.ref (ad 1))) (o1 : g 1 = .inr (8, f1)) (f1_7 : f1[7]? = some (.int 0)) : cMi l yX11_untell wq_c_X11_untell { frames := 2, cells := 0, slots := 0, locals := 43 } 2 0 0 0 D cy ad g [.ref (ad 0), .int n] (fun r nw lu => r = 0) := by
  refine cM_of (Qc := fun A => cQi (fun r nw lu => r = 0) D 2 0 ad g A) (cc := cX11_untell) (maxL := 2) (ret := (some .boolean)) (by decide) rfl (Nat.le_of_ble_eq_true rfl) ?_
  intro p e s m below meth c A hC hr hlk hnm hO ls hl
  have hC : CallFix p m c cX11_untell 2 s [.ref (ad 0), .int n].toArray wq_c_X11_untell RX11 := hC
  obtain ⟨hx, hb, hml, hown, hts⟩ := id hC
  have hl : lv_has ls 2 [(0, .ref (ad 0)), (1, .int n)] := hl
  have i_X11 : ∀ w ∈ wsX110, w ∈ wq_c_X11_untell := fun w h => List.mem_cons_of_mem _ (List.mem_append_right _ h)
  have i_X8 : ∀ w ∈ wsX80, w ∈ wq_c_X11_untell := fun w h => List.mem_cons_of_mem _ (List.mem_append_left _ (List.mem_append_right _ h))
  refine lv_aload_n hx hb dX11_untell_0 rfl (lv_at hl 0 rfl) ?_
  refine cg_get hC hO 0 (by decide) o0 rfl i_X11 11 (by decide) (List.mem_of_getElem? (i := 1) rfl) f0_11 dX11_untell_1 ?_
  refine lv_iload_n hx hb dX11_untell_4 rfl (lv_at hl 1 rfl) ?_
  refine cg_Vi (As := [.int n]) (rest := []) (mc := 0) (ms := 0) (rm := { frames := 1, cells := 0, slots := 0, locals := 22 }) hC hl.1 hO [1] rfl (c_X8_takeBack l D cy _ _ (f0 := f1) (n := n) o1 f1_7) gq_c_X11_untell_c_X8_takeBack_263 rfl rfl rfl 1 (by decide +kernel) ⟨Nat.le_of_ble_eq_true rfl, Nat.le_of_ble_eq_true rfl⟩ rfl (by decide) o1 rfl rfl (Nat.le_of_ble_eq_true rfl) dX11_untell_5 ⟨Nat.le_of_ble_eq_true rfl, Nat.le_of_ble_eq_true rfl⟩ (fun r_5_3 nw_5_1 l_5_2 H locs hw hO => ?_)
  obtain ⟨rfl, rfl⟩ := hw
  have hO : cO D cy A s.heap s 2 ad (cup [] g) _ _ := hO
  exact cg_iret (nw := fun _ => 0) hC hr hlk hO.same rfl (Nat.le_of_ble_eq_true rfl) (Nat.le_of_ble_eq_true rfl) rfl dX11_untell_8
