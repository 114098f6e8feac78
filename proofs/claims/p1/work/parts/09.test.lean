set_option maxHeartbeats 8000000 in
set_option maxRecDepth 100000 in
theorem c_X4_init (l : Launch) (D : va_G) (cy : Nat → ClassId) (ad : Nat → Nat) (g : Nat → va_E) {f0 : List Value} (o0 : g 0 = .inr (4, f0)) (f0_0 : f0[0]? = some (.null)) (f0_1 : f0[1]? = some (.int 0)) (f0_2 : f0[2]? = some (.int 0)) (f0_3 : f0[3]? = some (.int 0)) (f0_4 : f0[4]? = some (.null)) : cMv l yX4_init wsX4_init { frames := 1, cells := 2, slots := 330, locals := 20 } 1 2 2 330 D cy [.ref (ad 0)] ad g (fun nw lu => lu = [(1, .inl (cy 0, 300, .inl (fun _ => 0))), (0, .inr (4, ((f0.set 0 (.ref (nw 0))).set 4 (.ref (nw 1))))), (2, .inl (cy 0, 30, .inl (fun _ => 0)))]) := by
  refine cM_of (Qc := fun A => cQv (fun nw lu => lu = [(1, .inl (cy 0, 300, .inl (fun _ => 0))), (0, .inr (4, ((f0.set 0 (.ref (nw 0))).set 4 (.ref (nw 1))))), (2, .inl (cy 0, 30, .inl (fun _ => 0)))]) D 1 2 ad g A) (cc := cX4_init) (maxL := 1) (ret := none) (by decide) rfl (Nat.le_of_ble_eq_true rfl) ?_
  intro p e s m below meth c A hC hr hlk hnm hO ls hl
  have hC : CallFix p m c cX4_init 1 s [.ref (ad 0)].toArray wsX4_init RX4 := hC
  obtain ⟨hx, hb, hml, hown, hts⟩ := id hC
  have hl : lv_has ls 1 [(0, .ref (ad 0))] := hl
  have hnm : meth.name = "<init>" := hnm
  have i_X4 : ∀ w ∈ wsX40, w ∈ wsX4_init := fun w h => List.mem_cons_of_mem _ (List.mem_append_right _ h)
  refine lv_aload_n hx hb dX4_init_0 rfl (lv_at hl 0 rfl) ?_
  refine cg_obj hC hl.1 (List.mem_of_getElem? (i := 1) rfl) (List.mem_of_getElem? (i := 2) rfl) (List.mem_of_getElem? (i := 3) rfl) dX4_init_1 (Nat.le_of_ble_eq_true rfl) (Nat.le_of_ble_eq_true rfl) ?_
  refine lv_aload_n hx hb dX4_init_4 rfl (lv_at hl 0 rfl) ?_
  refine lv_sipush (v := 300) hx hb dX4_init_5 (by decide) ?_
  refine cg_newa (atype := .int) hC hO rfl (List.mem_of_getElem? (i := 4) rfl) 0 rfl (fun _ h => by cases h) (a0 := (300, .inl (fun _ => 0))) (fun _ => rfl) (by decide) (N' := 300) (by decide) (Nat.le_of_ble_eq_true rfl) (Nat.le_of_ble_eq_true rfl) (Nat.le_of_ble_eq_true rfl) dX4_init_8 (fun nw_8_1 H hO => ?_)
  refine W.widen (k := 1) (n := 300) (Nat.le_of_ble_eq_true rfl) (Nat.le_of_ble_eq_true rfl) ?_
  have hO : cO D cy A s.heap s 2 (aext 1 nw_8_1 ad) (cup [(1, .inl (cy 0, 300, .inl (fun _ => 0)))] g) H _ := hO
  refine cg_putF hC hO hnm 0 (by decide) o0 rfl i_X4 tyX4_ok nmX4 0 (by decide) (List.mem_of_getElem? (i := 5) rfl) rfl rfl rfl rfl (fs_lt f0_0) dX4_init_10 (fun H locs hO => ?_)
  have hO : cO D cy A s.heap s 2 (aext 1 nw_8_1 ad) (cup [(1, .inl (cy 0, 300, .inl (fun _ => 0))), (0, .inr (4, (f0.set 0 (.ref (nw_8_1 0)))))] g) H _ := hO
  refine lv_aload_n hx hb dX4_init_13 rfl (lv_at hl 0 rfl) ?_
  refine lv_bipush (v := 30) hx hb dX4_init_14 (by decide) ?_
  refine cg_newa (atype := .int) hC hO rfl (List.mem_of_getElem? (i := 4) rfl) 0 rfl (fun _ h => by cases h) (a0 := (30, .inl (fun _ => 0))) (fun _ => rfl) (by decide) (N' := 30) (by decide) (Nat.le_of_ble_eq_true rfl) (Nat.le_of_ble_eq_true rfl) (Nat.le_of_ble_eq_true rfl) dX4_init_16 (fun nw_16_2 H hO => ?_)
  refine W.widen (k := 2) (n := 330) (Nat.le_of_ble_eq_true rfl) (Nat.le_of_ble_eq_true rfl) ?_
  have hO : cO D cy A s.heap s 3 (aext 2 nw_16_2 (aext 1 nw_8_1 ad)) (cup [(1, .inl (cy 0, 300, .inl (fun _ => 0))), (0, .inr (4, (f0.set 0 (.ref (nw_8_1 0))))), (2, .inl (cy 0, 30, .inl (fun _ => 0)))] g) H _ := hO
  refine cg_putF hC hO hnm 0 (by decide) rfl rfl i_X4 tyX4_ok nmX4 4 (by decide) (List.mem_of_getElem? (i := 6) rfl) rfl rfl rfl rfl (fs_lt (fs_ne (by decide) f0_4)) dX4_init_18 (fun H locs hO => ?_)
  have hO : cO D cy A s.heap s 3 (aext 2 nw_16_2 (aext 1 nw_8_1 ad)) (cup [(1, .inl (cy 0, 300, .inl (fun _ => 0))), (0, .inr (4, ((f0.set 0 (.ref (nw_8_1 0))).set 4 (.ref (nw_16_2 0))))), (2, .inl (cy 0, 30, .inl (fun _ => 0)))] g) H _ := hO
  exact cg_vret (nw := fun i => (aext 2 nw_16_2 (aext 1 nw_8_1 ad)) (1 + i)) hC hr hlk (hO.fold (k := 1) (n := 2) (ad := ad) (fun j hj => by match j, hj with | 0, _ => rfl)) (Nat.le_of_ble_eq_true rfl) (Nat.le_of_ble_eq_true rfl) rfl dX4_init_21

set_option maxHeartbeats 8000000 in
set_option maxRecDepth 100000 in
theorem c_X4_clear (l : Launch) (D : va_G) (cy : Nat → ClassId) (ad : Nat → Nat) (g : Nat → va_E) {f0 : List Value} {x : Int32} {y : Int32} {z : Int32} (o0 : g 0 = .inr (4, f0)) (f0_1 : f0[1]? = some (.int x)) (f0_2 : f0[2]? = some (.int y)) (f0_3 : f0[3]? = some (.int z)) : cMv l yX4_clear wsX4_clear { frames := 0, cells := 0, slots := 0, locals := 0 } 1 0 0 0 D cy [.ref (ad 0)] ad g (fun nw lu => lu = [(0, .inr (4, (((f0.set 1 (.int 0)).set 2 (.int 0)).set 3 (.int 0))))]) := by
  refine cM_of (Qc := fun A => cQv (fun nw lu => lu = [(0, .inr (4, (((f0.set 1 (.int 0)).set 2 (.int 0)).set 3 (.int 0))))]) D 1 0 ad g A) (cc := cX4_clear) (maxL := 1) (ret := none) (by decide) rfl (Nat.le_of_ble_eq_true rfl) ?_
  intro p e s m below meth c A hC hr hlk hnm hO ls hl
  have hC : CallFix p m c cX4_clear 1 s [.ref (ad 0)].toArray wsX4_clear RX4 := hC
  obtain ⟨hx, hb, hml, hown, hts⟩ := id hC
  have hl : lv_has ls 1 [(0, .ref (ad 0))] := hl
  have i_X4 : ∀ w ∈ wsX40, w ∈ wsX4_clear := fun w h => List.mem_cons_of_mem _ (List.mem_append_right _ h)
  refine lv_aload_n hx hb dX4_clear_0 rfl (lv_at hl 0 rfl) ?_
  refine lv_iconst (v := 0) hx hb dX4_clear_1 (by decide) ?_
  refine cg_put hC hO 0 (by decide) o0 rfl i_X4 tyX4_ok nmX4 1 (by decide) (List.mem_of_getElem? (i := 1) rfl) rfl rfl rfl (fs_lt f0_1) dX4_clear_2 (fun H locs hO => ?_)
  have hO : cO D cy A s.heap s 1 ad (cup [(0, .inr (4, (f0.set 1 (.int 0))))] g) H _ := hO
  refine lv_aload_n hx hb dX4_clear_5 rfl (lv_at hl 0 rfl) ?_
  refine lv_iconst (v := 0) hx hb dX4_clear_6 (by decide) ?_
  refine cg_put hC hO 0 (by decide) rfl rfl i_X4 tyX4_ok nmX4 2 (by decide) (List.mem_of_getElem? (i := 2) rfl) rfl rfl rfl (fs_lt (fs_ne (by decide) f0_2)) dX4_clear_7 (fun H locs hO => ?_)
  have hO : cO D cy A s.heap s 1 ad (cup [(0, .inr (4, ((f0.set 1 (.int 0)).set 2 (.int 0))))] g) H _ := hO
  refine lv_aload_n hx hb dX4_clear_10 rfl (lv_at hl 0 rfl) ?_
  refine lv_iconst (v := 0) hx hb dX4_clear_11 (by decide) ?_
  refine cg_put hC hO 0 (by decide) rfl rfl i_X4 tyX4_ok nmX4 3 (by decide) (List.mem_of_getElem? (i := 3) rfl) rfl rfl rfl (fs_lt (fs_ne (by decide) (fs_ne (by decide) f0_3))) dX4_clear_12 (fun H locs hO => ?_)
  have hO : cO D cy A s.heap s 1 ad (cup [(0, .inr (4, (((f0.set 1 (.int 0)).set 2 (.int 0)).set 3 (.int 0))))] g) H _ := hO
  exact cg_vret (nw := fun _ => 0) hC hr hlk hO.same (Nat.le_of_ble_eq_true rfl) (Nat.le_of_ble_eq_true rfl) rfl dX4_clear_15

set_option maxHeartbeats 8000000 in
set_option maxRecDepth 100000 in
theorem c_X0_init (l : Launch) (D : va_G) (cy : Nat → ClassId) (ad : Nat → Nat) (g : Nat → va_E) {f0 : List Value} (o0 : g 0 = .inr (0, f0)) (f0_0 : f0[0]? = some (.null)) (f0_1 : f0[1]? = some (.null)) (f0_2 : f0[2]? = some (.null)) (f0_3 : f0[3]? = some (.int 0)) (f0_4 : f0[4]? = some (.int 0)) : cMv l yX0_init wsX0_init { frames := 1, cells := 3, slots := 120, locals := 20 } 1 3 3 120 D cy [.ref (ad 0)] ad g (fun nw lu => lu = [(1, .inl (cy 0, 40, .inl (fun _ => 0))), (0, .inr (0, (((f0.set 0 (.ref (nw 0))).set 1 (.ref (nw 1))).set 2 (.ref (nw 2))))), (2, .inl (cy 0, 40, .inl (fun _ => 0))), (3, .inl (cy 0, 40, .inl (fun _ => 0)))]) := by
  refine cM_of (Qc := fun A => cQv (fun nw lu => lu = [(1, .inl (cy 0, 40, .inl (fun _ => 0))), (0, .inr (0, (((f0.set 0 (.ref (nw 0))).set 1 (.ref (nw 1))).set 2 (.ref (nw 2))))), (2, .inl (cy 0, 40, .inl (fun _ => 0))), (3, .inl (cy 0, 40, .inl (fun _ => 0)))]) D 1 3 ad g A) (cc := cX0_init) (maxL := 1) (ret := none) (by decide) rfl (Nat.le_of_ble_eq_true rfl) ?_
  intro p e s m below meth c A hC hr hlk hnm hO ls hl
  have hC : CallFix p m c cX0_init 1 s [.ref (ad 0)].toArray wsX0_init RX0 := hC
  obtain ⟨hx, hb, hml, hown, hts⟩ := id hC
  have hl : lv_has ls 1 [(0, .ref (ad 0))] := hl
  have hnm : meth.name = "<init>" := hnm
  have i_X0 : ∀ w ∈ wsX00, w ∈ wsX0_init := fun w h => List.mem_cons_of_mem _ (List.mem_append_right _ h)
  refine lv_aload_n hx hb dX0_init_0 rfl (lv_at hl 0 rfl) ?_
  refine cg_obj hC hl.1 (List.mem_of_getElem? (i := 1) rfl) (List.mem_of_getElem? (i := 2) rfl) (List.mem_of_getElem? (i := 3) rfl) dX0_init_1 (Nat.le_of_ble_eq_true rfl) (Nat.le_of_ble_eq_true rfl) ?_
  refine lv_aload_n hx hb dX0_init_4 rfl (lv_at hl 0 rfl) ?_
  refine lv_bipush (v := 40) hx hb dX0_init_5 (by decide) ?_
  refine cg_newa (atype := .int) hC hO rfl (List.mem_of_getElem? (i := 4) rfl) 0 rfl (fun _ h => by cases h) (a0 := (40, .inl (fun _ => 0))) (fun _ => rfl) (by decide) (N' := 40) (by decide) (Nat.le_of_ble_eq_true rfl) (Nat.le_of_ble_eq_true rfl) (Nat.le_of_ble_eq_true rfl) dX0_init_7 (fun nw_7_1 H hO => ?_)
  refine W.widen (k := 1) (n := 40) (Nat.le_of_ble_eq_true rfl) (Nat.le_of_ble_eq_true rfl) ?_
  have hO : cO D cy A s.heap s 2 (aext 1 nw_7_1 ad) (cup [(1, .inl (cy 0, 40, .inl (fun _ => 0)))] g) H _ := hO
  refine cg_putF hC hO hnm 0 (by decide) o0 rfl i_X0 tyX0_ok nmX0 0 (by decide) (List.mem_of_getElem? (i := 5) rfl) rfl rfl rfl rfl (fs_lt f0_0) dX0_init_9 (fun H locs hO => ?_)
  have hO : cO D cy A s.heap s 2 (aext 1 nw_7_1 ad) (cup [(1, .inl (cy 0, 40, .inl (fun _ => 0))), (0, .inr (0, (f0.set 0 (.ref (nw_7_1 0)))))] g) H _ := hO
  refine lv_aload_n hx hb dX0_init_12 rfl (lv_at hl 0 rfl) ?_
  refine lv_bipush (v := 40) hx hb dX0_init_13 (by decide) ?_
  refine cg_newa (atype := .int) hC hO rfl (List.mem_of_getElem? (i := 4) rfl) 0 rfl (fun _ h => by cases h) (a0 := (40, .inl (fun _ => 0))) (fun _ => rfl) (by decide) (N' := 40) (by decide) (Nat.le_of_ble_eq_true rfl) (Nat.le_of_ble_eq_true rfl) (Nat.le_of_ble_eq_true rfl) dX0_init_15 (fun nw_15_2 H hO => ?_)
  refine W.widen (k := 2) (n := 80) (Nat.le_of_ble_eq_true rfl) (Nat.le_of_ble_eq_true rfl) ?_
  have hO : cO D cy A s.heap s 3 (aext 2 nw_15_2 (aext 1 nw_7_1 ad)) (cup [(1, .inl (cy 0, 40, .inl (fun _ => 0))), (0, .inr (0, (f0.set 0 (.ref (nw_7_1 0))))), (2, .inl (cy 0, 40, .inl (fun _ => 0)))] g) H _ := hO
  refine cg_putF hC hO hnm 0 (by decide) rfl rfl i_X0 tyX0_ok nmX0 1 (by decide) (List.mem_of_getElem? (i := 6) rfl) rfl rfl rfl rfl (fs_lt (fs_ne (by decide) f0_1)) dX0_init_17 (fun H locs hO => ?_)
  have hO : cO D cy A s.heap s 3 (aext 2 nw_15_2 (aext 1 nw_7_1 ad)) (cup [(1, .inl (cy 0, 40, .inl (fun _ => 0))), (0, .inr (0, ((f0.set 0 (.ref (nw_7_1 0))).set 1 (.ref (nw_15_2 0))))), (2, .inl (cy 0, 40, .inl (fun _ => 0)))] g) H _ := hO
  refine lv_aload_n hx hb dX0_init_20 rfl (lv_at hl 0 rfl) ?_
  refine lv_bipush (v := 40) hx hb dX0_init_21 (by decide) ?_
  refine cg_newa (atype := .int) hC hO rfl (List.mem_of_getElem? (i := 4) rfl) 0 rfl (fun _ h => by cases h) (a0 := (40, .inl (fun _ => 0))) (fun _ => rfl) (by decide) (N' := 40) (by decide) (Nat.le_of_ble_eq_true rfl) (Nat.le_of_ble_eq_true rfl) (Nat.le_of_ble_eq_true rfl) dX0_init_23 (fun nw_23_3 H hO => ?_)
  refine W.widen (k := 3) (n := 120) (Nat.le_of_ble_eq_true rfl) (Nat.le_of_ble_eq_true rfl) ?_
  have hO : cO D cy A s.heap s 4 (aext 3 nw_23_3 (aext 2 nw_15_2 (aext 1 nw_7_1 ad))) (cup [(1, .inl (cy 0, 40, .inl (fun _ => 0))), (0, .inr (0, ((f0.set 0 (.ref (nw_7_1 0))).set 1 (.ref (nw_15_2 0))))), (2, .inl (cy 0, 40, .inl (fun _ => 0))), (3, .inl (cy 0, 40, .inl (fun _ => 0)))] g) H _ := hO
  refine cg_putF hC hO hnm 0 (by decide) rfl rfl i_X0 tyX0_ok nmX0 2 (by decide) (List.mem_of_getElem? (i := 7) rfl) rfl rfl rfl rfl (fs_lt (fs_ne (by decide) (fs_ne (by decide) f0_2))) dX0_init_25 (fun H locs hO => ?_)
  have hO : cO D cy A s.heap s 4 (aext 3 nw_23_3 (aext 2 nw_15_2 (aext 1 nw_7_1 ad))) (cup [(1, .inl (cy 0, 40, .inl (fun _ => 0))), (0, .inr (0, (((f0.set 0 (.ref (nw_7_1 0))).set 1 (.ref (nw_15_2 0))).set 2 (.ref (nw_23_3 0))))), (2, .inl (cy 0, 40, .inl (fun _ => 0))), (3, .inl (cy 0, 40, .inl (fun _ => 0)))] g) H _ := hO
  exact cg_vret (nw := fun i => (aext 3 nw_23_3 (aext 2 nw_15_2 (aext 1 nw_7_1 ad))) (1 + i)) hC hr hlk (hO.fold (k := 1) (n := 3) (ad := ad) (fun j hj => by match j, hj with | 0, _ => rfl)) (Nat.le_of_ble_eq_true rfl) (Nat.le_of_ble_eq_true rfl) rfl dX0_init_28

set_option maxHeartbeats 8000000 in
set_option maxRecDepth 100000 in
theorem c_X0_forget (l : Launch) (D : va_G) (cy : Nat → ClassId) (ad : Nat → Nat) (g : Nat → va_E) {f0 : List Value} {x : Int32} {y : Int32} (o0 : g 0 = .inr (0, f0)) (f0_3 : f0[3]? = some (.int x)) (f0_4 : f0[4]? = some (.int y)) : cMv l yX0_forget wsX0_forget { frames := 0, cells := 0, slots := 0, locals := 0 } 1 0 0 0 D cy [.ref (ad 0)] ad g (fun nw lu => lu = [(0, .inr (0, ((f0.set 3 (.int 0)).set 4 (.int 0))))]) := by
  refine cM_of (Qc := fun A => cQv (fun nw lu => lu = [(0, .inr (0, ((f0.set 3 (.int 0)).set 4 (.int 0))))]) D 1 0 ad g A) (cc := cX0_forget) (maxL := 1) (ret := none) (by decide) rfl (Nat.le_of_ble_eq_true rfl) ?_
  intro p e s m below meth c A hC hr hlk hnm hO ls hl
  have hC : CallFix p m c cX0_forget 1 s [.ref (ad 0)].toArray wsX0_forget RX0 := hC
  obtain ⟨hx, hb, hml, hown, hts⟩ := id hC
  have hl : lv_has ls 1 [(0, .ref (ad 0))] := hl
  have i_X0 : ∀ w ∈ wsX00, w ∈ wsX0_forget := fun w h => List.mem_cons_of_mem _ (List.mem_append_right _ h)
  refine lv_aload_n hx hb dX0_forget_0 rfl (lv_at hl 0 rfl) ?_
  refine lv_iconst (v := 0) hx hb dX0_forget_1 (by decide) ?_
  refine cg_put hC hO 0 (by decide) o0 rfl i_X0 tyX0_ok nmX0 3 (by decide) (List.mem_of_getElem? (i := 1) rfl) rfl rfl rfl (fs_lt f0_3) dX0_forget_2 (fun H locs hO => ?_)
  have hO : cO D cy A s.heap s 1 ad (cup [(0, .inr (0, (f0.set 3 (.int 0))))] g) H _ := hO
  refine lv_aload_n hx hb dX0_forget_5 rfl (lv_at hl 0 rfl) ?_
  refine lv_iconst (v := 0) hx hb dX0_forget_6 (by decide) ?_
  refine cg_put hC hO 0 (by decide) rfl rfl i_X0 tyX0_ok nmX0 4 (by decide) (List.mem_of_getElem? (i := 2) rfl) rfl rfl rfl (fs_lt (fs_ne (by decide) f0_4)) dX0_forget_7 (fun H locs hO => ?_)
  have hO : cO D cy A s.heap s 1 ad (cup [(0, .inr (0, ((f0.set 3 (.int 0)).set 4 (.int 0))))] g) H _ := hO
  exact cg_vret (nw := fun _ => 0) hC hr hlk hO.same (Nat.le_of_ble_eq_true rfl) (Nat.le_of_ble_eq_true rfl) rfl dX0_forget_10

set_option maxHeartbeats 8000000 in
set_option maxRecDepth 100000 in
theorem c_X0_keep (l : Launch) (D : va_G) (cy : Nat → ClassId) (ad : Nat → Nat) (g : Nat → va_E) {f0 : List Value} {y : Int32} {c1 : Nat → Int32} {c2 : Nat → Int32} {c3 : Nat → Int32} {x1 : Int32} {x2 : Int32} {x3 : Int32} (o0 : g 0 = .inr (0, f0)) (f0_0 : f0[0]? = some (.ref (ad 1))) (f0_1 : f0[1]? = some (.ref (ad 2))) (f0_2 : f0[2]? = some (.ref (ad 3))) (f0_3 : f0[3]? = some (.int 0)) (f0_4 : f0[4]? = some (.int y)) (a1 : g 1 = .inl (cy 0, 40, .inl c1)) (a2 : g 2 = .inl (cy 0, 40, .inl c2)) (a3 : g 3 = .inl (cy 0, 40, .inl c3)) : cMv l yX0_keep wsX0_keep { frames := 0, cells := 0, slots := 0, locals := 0 } 4 0 0 0 D cy [.ref (ad 0), .int x1, .int x2, .int x3] ad g (fun nw lu => ∃ (c1_75_1 : Nat → Int32) (c2_85_2 : Nat → Int32) (c3_95_3 : Nat → Int32), lu = [(1, .inl (cy 0, 40, .inl c1_75_1)), (2, .inl (cy 0, 40, .inl c2_85_2)), (3, .inl (cy 0, 40, .inl c3_95_3)), (0, .inr (0, ((f0.set 3 (.int 1)).set 4 (.int 1))))]) := by
  refine cM_of (Qc := fun A => cQv (fun nw lu => ∃ (c1_75_1 : Nat → Int32) (c2_85_2 : Nat → Int32) (c3_95_3 : Nat → Int32), lu = [(1, .inl (cy 0, 40, .inl c1_75_1)), (2, .inl (cy 0, 40, .inl c2_85_2)), (3, .inl (cy 0, 40, .inl c3_95_3)), (0, .inr (0, ((f0.set 3 (.int 1)).set 4 (.int 1))))]) D 4 0 ad g A) (cc := cX0_keep) (maxL := 4) (ret := none) (by decide) rfl (Nat.le_of_ble_eq_true rfl) ?_
  intro p e s m below meth c A hC hr hlk hnm hO ls hl
  have hC : CallFix p m c cX0_keep 4 s [.ref (ad 0), .int x1, .int x2, .int x3].toArray wsX0_keep RX0 := hC
  obtain ⟨hx, hb, hml, hown, hts⟩ := id hC
  have hl : lv_has ls 4 [(0, .ref (ad 0)), (1, .int x1), (2, .int x2), (3, .int x3)] := hl
  have i_X0 : ∀ w ∈ wsX00, w ∈ wsX0_keep := fun w h => List.mem_cons_of_mem _ (List.mem_append_right _ h)
  refine lv_aload_n hx hb dX0_keep_0 rfl (lv_at hl 0 rfl) ?_
  refine cg_get hC hO 0 (by decide) o0 rfl i_X0 3 (by decide) (List.mem_of_getElem? (i := 1) rfl) f0_3 dX0_keep_1 ?_
  refine lv_bipush (v := 40) hx hb dX0_keep_4 (by decide) ?_
  refine lv_icmp_lt (tgt := 66) hx hb dX0_keep_6 (by decide) (fun _ => ?_) (fun h => absurd h (by decide))
  refine lv_aload_n hx hb dX0_keep_66 rfl (lv_at hl 0 rfl) ?_
  refine cg_get hC hO 0 (by decide) o0 rfl i_X0 0 (by decide) (List.mem_of_getElem? (i := 2) rfl) f0_0 dX0_keep_67 ?_
  refine lv_aload_n hx hb dX0_keep_70 rfl (lv_at hl 0 rfl) ?_
  refine cg_get hC hO 0 (by decide) o0 rfl i_X0 3 (by decide) (List.mem_of_getElem? (i := 1) rfl) f0_3 dX0_keep_71 ?_
  refine lv_iload_n hx hb dX0_keep_74 rfl (lv_at hl 1 rfl) ?_
  refine cg_iast hC hO 1 (by decide) a1 (cin (by decide)) dX0_keep_75 (fun H locs hO => ?_)
  have hO : cO D cy A s.heap s 4 ad (cup [(1, .inl (cy 0, 40, .inl (upd c1 (0 : Int32).toNatClampNeg x1)))] g) H _ := hO
  obtain ⟨c1_75_1, ec1_75_1⟩ : ∃ z, z = (upd c1 (0 : Int32).toNatClampNeg x1) := ⟨_, rfl⟩
  rw [← ec1_75_1] at hO
  have hO : cO D cy A s.heap s 4 ad (cup [(1, .inl (cy 0, 40, .inl c1_75_1))] g) H _ := hO
  refine lv_aload_n hx hb dX0_keep_76 rfl (lv_at hl 0 rfl) ?_
  refine cg_get hC hO 0 (by decide) o0 rfl i_X0 1 (by decide) (List.mem_of_getElem? (i := 7) rfl) f0_1 dX0_keep_77 ?_
  refine lv_aload_n hx hb dX0_keep_80 rfl (lv_at hl 0 rfl) ?_
  refine cg_get hC hO 0 (by decide) o0 rfl i_X0 3 (by decide) (List.mem_of_getElem? (i := 1) rfl) f0_3 dX0_keep_81 ?_
  refine lv_iload_n hx hb dX0_keep_84 rfl (lv_at hl 2 rfl) ?_
  refine cg_iast hC hO 2 (by decide) a2 (cin (by decide)) dX0_keep_85 (fun H locs hO => ?_)
  have hO : cO D cy A s.heap s 4 ad (cup [(1, .inl (cy 0, 40, .inl c1_75_1)), (2, .inl (cy 0, 40, .inl (upd c2 (0 : Int32).toNatClampNeg x2)))] g) H _ := hO
  obtain ⟨c2_85_2, ec2_85_2⟩ : ∃ z, z = (upd c2 (0 : Int32).toNatClampNeg x2) := ⟨_, rfl⟩
  rw [← ec2_85_2] at hO
  have hO : cO D cy A s.heap s 4 ad (cup [(1, .inl (cy 0, 40, .inl c1_75_1)), (2, .inl (cy 0, 40, .inl c2_85_2))] g) H _ := hO
  refine lv_aload_n hx hb dX0_keep_86 rfl (lv_at hl 0 rfl) ?_
  refine cg_get hC hO 0 (by decide) o0 rfl i_X0 2 (by decide) (List.mem_of_getElem? (i := 8) rfl) f0_2 dX0_keep_87 ?_
  refine lv_aload_n hx hb dX0_keep_90 rfl (lv_at hl 0 rfl) ?_
  refine cg_get hC hO 0 (by decide) o0 rfl i_X0 3 (by decide) (List.mem_of_getElem? (i := 1) rfl) f0_3 dX0_keep_91 ?_
  refine lv_iload_n hx hb dX0_keep_94 rfl (lv_at hl 3 rfl) ?_
  refine cg_iast hC hO 3 (by decide) a3 (cin (by decide)) dX0_keep_95 (fun H locs hO => ?_)
  have hO : cO D cy A s.heap s 4 ad (cup [(1, .inl (cy 0, 40, .inl c1_75_1)), (2, .inl (cy 0, 40, .inl c2_85_2)), (3, .inl (cy 0, 40, .inl (upd c3 (0 : Int32).toNatClampNeg x3)))] g) H _ := hO
  obtain ⟨c3_95_3, ec3_95_3⟩ : ∃ z, z = (upd c3 (0 : Int32).toNatClampNeg x3) := ⟨_, rfl⟩
  rw [← ec3_95_3] at hO
  have hO : cO D cy A s.heap s 4 ad (cup [(1, .inl (cy 0, 40, .inl c1_75_1)), (2, .inl (cy 0, 40, .inl c2_85_2)), (3, .inl (cy 0, 40, .inl c3_95_3))] g) H _ := hO
  refine lv_aload_n hx hb dX0_keep_96 rfl (lv_at hl 0 rfl) ?_
  refine lv_dup hx hb dX0_keep_97 rfl ?_
  refine cg_get hC hO 0 (by decide) o0 rfl i_X0 3 (by decide) (List.mem_of_getElem? (i := 1) rfl) f0_3 dX0_keep_98 ?_
  refine lv_iconst (v := 1) hx hb dX0_keep_101 (by decide) ?_
  refine lv_iadd hx hb dX0_keep_102 ?_
  refine cg_ev (v := 1) (by decide) ?_
  refine cg_put hC hO 0 (by decide) o0 rfl i_X0 tyX0_ok nmX0 3 (by decide) (List.mem_of_getElem? (i := 1) rfl) rfl rfl rfl (fs_lt f0_3) dX0_keep_103 (fun H locs hO => ?_)
  have hO : cO D cy A s.heap s 4 ad (cup [(1, .inl (cy 0, 40, .inl c1_75_1)), (2, .inl (cy 0, 40, .inl c2_85_2)), (3, .inl (cy 0, 40, .inl c3_95_3)), (0, .inr (0, (f0.set 3 (.int 1))))] g) H _ := hO
  refine lv_aload_n hx hb dX0_keep_106 rfl (lv_at hl 0 rfl) ?_
  refine lv_aload_n hx hb dX0_keep_107 rfl (lv_at hl 0 rfl) ?_
  refine cg_get hC hO 0 (by decide) rfl rfl i_X0 3 (by decide) (List.mem_of_getElem? (i := 1) rfl) (fs_eq f0_3) dX0_keep_108 ?_
  refine cg_put hC hO 0 (by decide) rfl rfl i_X0 tyX0_ok nmX0 4 (by decide) (List.mem_of_getElem? (i := 9) rfl) rfl rfl rfl (fs_lt (fs_ne (by decide) f0_4)) dX0_keep_111 (fun H locs hO => ?_)
  have hO : cO D cy A s.heap s 4 ad (cup [(1, .inl (cy 0, 40, .inl c1_75_1)), (2, .inl (cy 0, 40, .inl c2_85_2)), (3, .inl (cy 0, 40, .inl c3_95_3)), (0, .inr (0, ((f0.set 3 (.int 1)).set 4 (.int 1))))] g) H _ := hO
  exact cg_vret (nw := fun _ => 0) hC hr hlk hO.same (Nat.le_of_ble_eq_true rfl) (Nat.le_of_ble_eq_true rfl) (⟨c1_75_1, c2_85_2, c3_95_3, rfl⟩) dX0_keep_114

set_option maxHeartbeats 8000000 in
set_option maxRecDepth 100000 in
theorem c_X5_init (l : Launch) (D : va_G) (cy : Nat → ClassId) (ad : Nat → Nat) (g : Nat → va_E) {f0 : List Value} {f1 : List Value} (o0 : g 0 = .inr (5, f0)) (f0_0 : f0[0]? = some (.null)) (f0_1 : f0[1]? = some (.null)) (f0_2 : f0[2]? = some (.null)) (o1 : g 1 = .inr (7, f1)) : cMv l yX5_init wsX5_init { frames := 1, cells := 2, slots := 160, locals := 20 } 2 2 2 160 D cy [.ref (ad 0), .ref (ad 1)] ad g (fun nw lu => lu = [(2, .inl (cy 0, 80, .inl (fun _ => 0))), (0, .inr (5, (((f0.set 1 (.ref (nw 0))).set 2 (.ref (nw 1))).set 0 (.ref (ad 1))))), (3, .inl (cy 0, 80, .inl (fun _ => 0)))]) := by
  refine cM_of (Qc := fun A => cQv (fun nw lu => lu = [(2, .inl (cy 0, 80, .inl (fun _ => 0))), (0, .inr (5, (((f0.set 1 (.ref (nw 0))).set 2 (.ref (nw 1))).set 0 (.ref (ad 1))))), (3, .inl (cy 0, 80, .inl (fun _ => 0)))]) D 2 2 ad g A) (cc := cX5_init) (maxL := 2) (ret := none) (by decide) rfl (Nat.le_of_ble_eq_true rfl) ?_
  intro p e s m below meth c A hC hr hlk hnm hO ls hl
  have hC : CallFix p m c cX5_init 2 s [.ref (ad 0), .ref (ad 1)].toArray wsX5_init RX5 := hC
  obtain ⟨hx, hb, hml, hown, hts⟩ := id hC
  have hl : lv_has ls 2 [(0, .ref (ad 0)), (1, .ref (ad 1))] := hl
  have hnm : meth.name = "<init>" := hnm
  have i_X5 : ∀ w ∈ wsX50, w ∈ wsX5_init := fun w h => List.mem_cons_of_mem _ (List.mem_append_right _ h)
  refine lv_aload_n hx hb dX5_init_0 rfl (lv_at hl 0 rfl) ?_
  refine cg_obj hC hl.1 (List.mem_of_getElem? (i := 1) rfl) (List.mem_of_getElem? (i := 2) rfl) (List.mem_of_getElem? (i := 3) rfl) dX5_init_1 (Nat.le_of_ble_eq_true rfl) (Nat.le_of_ble_eq_true rfl) ?_
  refine lv_aload_n hx hb dX5_init_4 rfl (lv_at hl 0 rfl) ?_
  refine lv_bipush (v := 80) hx hb dX5_init_5 (by decide) ?_
  refine cg_newa (atype := .int) hC hO rfl (List.mem_of_getElem? (i := 4) rfl) 0 rfl (fun _ h => by cases h) (a0 := (80, .inl (fun _ => 0))) (fun _ => rfl) (by decide) (N' := 80) (by decide) (Nat.le_of_ble_eq_true rfl) (Nat.le_of_ble_eq_true rfl) (Nat.le_of_ble_eq_true rfl) dX5_init_7 (fun nw_7_1 H hO => ?_)
  refine W.widen (k := 1) (n := 80) (Nat.le_of_ble_eq_true rfl) (Nat.le_of_ble_eq_true rfl) ?_
  have hO : cO D cy A s.heap s 3 (aext 2 nw_7_1 ad) (cup [(2, .inl (cy 0, 80, .inl (fun _ => 0)))] g) H _ := hO
  refine cg_putF hC hO hnm 0 (by decide) o0 rfl i_X5 tyX5_ok nmX5 1 (by decide) (List.mem_of_getElem? (i := 5) rfl) rfl rfl rfl rfl (fs_lt f0_1) dX5_init_9 (fun H locs hO => ?_)
  have hO : cO D cy A s.heap s 3 (aext 2 nw_7_1 ad) (cup [(2, .inl (cy 0, 80, .inl (fun _ => 0))), (0, .inr (5, (f0.set 1 (.ref (nw_7_1 0)))))] g) H _ := hO
  refine lv_aload_n hx hb dX5_init_12 rfl (lv_at hl 0 rfl) ?_
  refine lv_bipush (v := 80) hx hb dX5_init_13 (by decide) ?_
  refine cg_newa (atype := .int) hC hO rfl (List.mem_of_getElem? (i := 4) rfl) 0 rfl (fun _ h => by cases h) (a0 := (80, .inl (fun _ => 0))) (fun _ => rfl) (by decide) (N' := 80) (by decide) (Nat.le_of_ble_eq_true rfl) (Nat.le_of_ble_eq_true rfl) (Nat.le_of_ble_eq_true rfl) dX5_init_15 (fun nw_15_2 H hO => ?_)
  refine W.widen (k := 2) (n := 160) (Nat.le_of_ble_eq_true rfl) (Nat.le_of_ble_eq_true rfl) ?_
  have hO : cO D cy A s.heap s 4 (aext 3 nw_15_2 (aext 2 nw_7_1 ad)) (cup [(2, .inl (cy 0, 80, .inl (fun _ => 0))), (0, .inr (5, (f0.set 1 (.ref (nw_7_1 0))))), (3, .inl (cy 0, 80, .inl (fun _ => 0)))] g) H _ := hO
  refine cg_putF hC hO hnm 0 (by decide) rfl rfl i_X5 tyX5_ok nmX5 2 (by decide) (List.mem_of_getElem? (i := 6) rfl) rfl rfl rfl rfl (fs_lt (fs_ne (by decide) f0_2)) dX5_init_17 (fun H locs hO => ?_)
  have hO : cO D cy A s.heap s 4 (aext 3 nw_15_2 (aext 2 nw_7_1 ad)) (cup [(2, .inl (cy 0, 80, .inl (fun _ => 0))), (0, .inr (5, ((f0.set 1 (.ref (nw_7_1 0))).set 2 (.ref (nw_15_2 0))))), (3, .inl (cy 0, 80, .inl (fun _ => 0)))] g) H _ := hO
  refine lv_aload_n hx hb dX5_init_20 rfl (lv_at hl 0 rfl) ?_
  refine lv_aload_n hx hb dX5_init_21 rfl (lv_at hl 1 rfl) ?_
  refine cg_putF hC hO hnm 0 (by decide) rfl rfl i_X5 tyX5_ok nmX5 0 (by decide) (List.mem_of_getElem? (i := 7) rfl) rfl rfl rfl rfl (fs_lt (fs_ne (by decide) (fs_ne (by decide) f0_0))) dX5_init_22 (fun H locs hO => ?_)
  have hO : cO D cy A s.heap s 4 (aext 3 nw_15_2 (aext 2 nw_7_1 ad)) (cup [(2, .inl (cy 0, 80, .inl (fun _ => 0))), (0, .inr (5, (((f0.set 1 (.ref (nw_7_1 0))).set 2 (.ref (nw_15_2 0))).set 0 (.ref (ad 1))))), (3, .inl (cy 0, 80, .inl (fun _ => 0)))] g) H _ := hO
  exact cg_vret (nw := fun i => (aext 3 nw_15_2 (aext 2 nw_7_1 ad)) (2 + i)) hC hr hlk (hO.fold (k := 2) (n := 2) (ad := ad) (fun j hj => by match j, hj with | 0, _ => rfl | 1, _ => rfl)) (Nat.le_of_ble_eq_true rfl) (Nat.le_of_ble_eq_true rfl) rfl dX5_init_25
