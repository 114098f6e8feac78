theorem dJ7_fill_53178_0 : decode cJ7_fill_53178 0 = .ok (.iconst 0, 1) := by decide +kernel
theorem dJ7_fill_53178_1 : decode cJ7_fill_53178 1 = .ok (.istore_n 2, 1) := by decide +kernel
theorem dJ7_fill_53178_2 : decode cJ7_fill_53178 2 = .ok (.aload_n 0, 1) := by decide +kernel
theorem dJ7_fill_53178_3 : decode cJ7_fill_53178 3 = .ok (.arraylength, 1) := by decide +kernel
theorem dJ7_fill_53178_4 : decode cJ7_fill_53178 4 = .ok (.istore_n 3, 1) := by decide +kernel
theorem dJ7_fill_53178_5 : decode cJ7_fill_53178 5 = .ok (.iload_n 2, 1) := by decide +kernel
theorem dJ7_fill_53178_6 : decode cJ7_fill_53178 6 = .ok (.iload_n 3, 1) := by decide +kernel
theorem dJ7_fill_53178_7 : decode cJ7_fill_53178 7 = .ok (.if_icmp .ge 13, 3) := by decide +kernel
theorem dJ7_fill_53178_10 : decode cJ7_fill_53178 10 = .ok (.aload_n 0, 1) := by decide +kernel
theorem dJ7_fill_53178_11 : decode cJ7_fill_53178 11 = .ok (.iload_n 2, 1) := by decide +kernel
theorem dJ7_fill_53178_12 : decode cJ7_fill_53178 12 = .ok (.iload_n 1, 1) := by decide +kernel
theorem dJ7_fill_53178_13 : decode cJ7_fill_53178 13 = .ok (.iastore, 1) := by decide +kernel
theorem dJ7_fill_53178_14 : decode cJ7_fill_53178 14 = .ok (.iinc 2 1, 3) := by decide +kernel
theorem dJ7_fill_53178_17 : decode cJ7_fill_53178 17 = .ok (.goto (-12), 3) := by decide +kernel
theorem dJ7_fill_53178_20 : decode cJ7_fill_53178 20 = .ok (.return_, 1) := by decide +kernel
def wq_c_J7_fill_53178 : List Cond := Cond.code yJ7_fill_53178 cJ7_fill_53178 4 none :: (([] : List Cond))
set_option maxHeartbeats 8000000 in
set_option maxRecDepth 100000 in
/-- Arrays.fill -/
theorem c_J7_fill_53178 (l : Launch) (D : va_G) (cy : Nat → ClassId) (ad : Nat → Nat) (g : Nat → va_E) {n : Nat} {c0 : Nat → Int32} {x : Int32} (a0 : g 0 = .inl (cy 0, n, .inl c0)) (hn : n < 2 ^ 31) : cMv l yJ7_fill_53178 wq_c_J7_fill_53178 { frames := 0, cells := 0, slots := 0, locals := 0 } 1 0 0 0 D cy ad g [.ref (ad 0), .int x] (fun nw lu => ∃ (cz : Nat → Int32), (∀ a b : Int, za a b c0 → zi a b x → za a b cz) ∧ lu = [(0, .inl (cy 0, n, .inl cz))]) := by
  refine cM_of (Qc := fun A => cQv (fun nw lu => ∃ (cz : Nat → Int32), (∀ a b : Int, za a b c0 → zi a b x → za a b cz) ∧ lu = [(0, .inl (cy 0, n, .inl cz))]) D 1 0 ad g A) (cc := cJ7_fill_53178) (maxL := 4) (ret := none) (by decide) rfl (Nat.le_of_ble_eq_true rfl) ?_
  intro p e s m below meth c A hC hr hlk hnm hO ls hl
  have hC : CallFix p m c cJ7_fill_53178 4 s [.ref (ad 0), .int x].toArray wq_c_J7_fill_53178 RJ7 := hC
  obtain ⟨hx, hb, hml, hown, hts⟩ := id hC
  have hl : lv_has ls 4 [(0, .ref (ad 0)), (1, .int x)] := hl
  refine lv_iconst (v := 0) hx hb dJ7_fill_53178_0 (by decide) ?_
  refine lv_istore_n (lv' := [(2, .int 0), (0, .ref (ad 0)), (1, .int x)]) hx hb dJ7_fill_53178_1 rfl hl (by decide) rfl (fun ls hl => ?_)
  refine lv_aload_n hx hb dJ7_fill_53178_2 rfl (lv_at hl 1 rfl) ?_
  refine cg_alen hC hO 0 0 (by decide) rfl a0 (v := (nI n)) rfl dJ7_fill_53178_3 ?_
  refine lv_istore_n (lv' := [(3, .int (nI n)), (2, .int 0), (0, .ref (ad 0)), (1, .int x)]) hx hb dJ7_fill_53178_4 rfl hl (by decide) rfl (fun ls hl => ?_)
  have hO := hO.note 0 (e := .inl (cy 0, n, .inl c0)) a0
  have hO : cO D cy A s.heap s 1 ad (cup [(0, .inl (cy 0, n, .inl c0))] g) _ _ := hO
  have loop_5_1 : ∀ (d_5_2 : Nat) (i : Nat) (cz : Nat → Int32), (i ≤ n) → (∀ j, j < i → cz j = x) → (∀ a b : Int, za a b c0 → zi a b x → za a b cz) → n - i < d_5_2 → ∀ (H : Heap) (locs : List Loc), cO D cy A s.heap s 1 ad (cup [(0, .inl (cy 0, n, .inl cz))] g) H locs → ∀ ls : Array Slot, lv_has ls 4 [(3, .int (nI n)), (2, .int (nI i)), (0, .ref (ad 0)), (1, .int x)] → W p l e { frames := 0, cells := 0, slots := 0, locals := 0 } s m [.ref (ad 0), .int x].toArray below meth c H locs 0 0 (MQ below (cQv (fun nw lu => ∃ (cz : Nat → Int32), (∀ a b : Int, za a b c0 → zi a b x → za a b cz) ∧ lu = [(0, .inl (cy 0, n, .inl cz))]) D 1 0 ad g A) [.ref (ad 0), .int x].toArray s 0 0 A) (F0 m 5 ls []) := by
    intro d_5_2
    induction d_5_2 with
    | zero => intro i cz hi hz hzb mu_5_3; exact absurd mu_5_3 (Nat.not_lt_zero _)
    | succ d_5_2 ih_5_4 =>
      intro i cz hi hz hzb mu_5_3 H locs hO ls hl
      refine lv_iload_n hx hb dJ7_fill_53178_5 rfl (lv_at hl 1 rfl) ?_
      refine lv_iload_n hx hb dJ7_fill_53178_6 rfl (lv_at hl 0 rfl) ?_
      refine lv_icmp_ge (tgt := 20) hx hb dJ7_fill_53178_7 (by decide) (fun h_7_5 => ?_) (fun h_7_5 => ?_)
      · have nh_7_5 : n ≤ i := (nI_leI (by omega) (by omega)).mp h_7_5
        exact cg_vret (nw := fun _ => 0) hC hr hlk hO.same (Nat.le_of_ble_eq_true rfl) (Nat.le_of_ble_eq_true rfl) (⟨cz, hzb, rfl⟩) dJ7_fill_53178_20
      · have nh_7_5 : ¬ n ≤ i := fun z => h_7_5 ((nI_leI (by omega) (by omega)).mpr z)
        refine lv_aload_n hx hb dJ7_fill_53178_10 rfl (lv_at hl 2 rfl) ?_
        refine lv_iload_n hx hb dJ7_fill_53178_11 rfl (lv_at hl 1 rfl) ?_
        refine lv_iload_n hx hb dJ7_fill_53178_12 rfl (lv_at hl 3 rfl) ?_
        refine cg_iast hC hO 0 (by decide) rfl (vp_in_nI (by omega) (by omega)) dJ7_fill_53178_13 (fun H locs hO => ?_)
        have hO : cO D cy A s.heap s 1 ad (cup [(0, .inl (cy 0, n, .inl (upd cz (nI i).toNatClampNeg x)))] g) _ _ := hO
        obtain ⟨c0_13_6, ec0_13_6⟩ : ∃ z, z = (upd cz (nI i).toNatClampNeg x) := ⟨_, rfl⟩
        rw [← ec0_13_6] at hO
        have hO : cO D cy A s.heap s 1 ad (cup [(0, .inl (cy 0, n, .inl c0_13_6))] g) _ _ := hO
        refine lv_iinc (v := (nI (i + 1))) (lv' := [(2, .int (nI (i + 1))), (3, .int (nI n)), (0, .ref (ad 0)), (1, .int x)]) hx hb dJ7_fill_53178_14 hl (k := 1) rfl (nI_add i 1) (by decide) rfl (fun ls hl => ?_)
        refine lv_goto (tgt := 5) hx hb dJ7_fill_53178_17 (by decide) ?_
        exact ih_5_4 (i + 1) c0_13_6 (by omega) (by rw [ec0_13_6, nI_clamp (by omega)]; exact upd_step hz) (by rw [ec0_13_6]; exact fun a b h k => za_upd (hzb a b h k) k) (by omega) _ _ hO ls (lv_sub hl [1, 0, 2, 3] rfl)
  exact loop_5_1 (n + 1) 0 c0 (Nat.zero_le _) (fun _ h => absurd h (Nat.not_lt_zero _)) (fun _ _ h _ => h) (by omega) _ _ hO ls hl

theorem dX11_within_0 : decode cX11_within 0 = .ok (.iload_n 0, 1) := by decide +kernel
theorem dX11_within_1 : decode cX11_within 1 = .ok (.iload_n 1, 1) := by decide +kernel
theorem dX11_within_2 : decode cX11_within 2 = .ok (.if_icmp .lt 12, 3) := by decide +kernel
theorem dX11_within_5 : decode cX11_within 5 = .ok (.iload_n 0, 1) := by decide +kernel
theorem dX11_within_6 : decode cX11_within 6 = .ok (.iload_n 2, 1) := by decide +kernel
theorem dX11_within_7 : decode cX11_within 7 = .ok (.if_icmp .gt 7, 3) := by decide +kernel
theorem dX11_within_10 : decode cX11_within 10 = .ok (.iconst 1, 1) := by decide +kernel
theorem dX11_within_11 : decode cX11_within 11 = .ok (.goto 4, 3) := by decide +kernel
theorem dX11_within_14 : decode cX11_within 14 = .ok (.iconst 0, 1) := by decide +kernel
theorem dX11_within_15 : decode cX11_within 15 = .ok (.ireturn, 1) := by decide +kernel
def wq_c_X11_within : List Cond := Cond.code yX11_within cX11_within 3 (some .boolean) :: (([] : List Cond))
set_option maxHeartbeats 8000000 in
set_option maxRecDepth 100000 in
theorem c_X11_within (l : Launch) (D : va_G) (cy : Nat → ClassId) (ad : Nat → Nat) (g : Nat → va_E) {x : Int32} {y : Int32} {z : Int32}  : cMi l yX11_within wq_c_X11_within { frames := 0, cells := 0, slots := 0, locals := 0 } 0 0 0 0 D cy ad g [.int x, .int y, .int z] (fun r nw lu => (rng x y z ∧ r = 1 ∧ lu = []) ∨ ((¬ rng x y z) ∧ r = 0 ∧ lu = [])) := by
  refine cM_of (Qc := fun A => cQi (fun r nw lu => (rng x y z ∧ r = 1 ∧ lu = []) ∨ ((¬ rng x y z) ∧ r = 0 ∧ lu = [])) D 0 0 ad g A) (cc := cX11_within) (maxL := 3) (ret := (some .boolean)) (by decide) rfl (Nat.le_of_ble_eq_true rfl) ?_
  intro p e s m below meth c A hC hr hlk hnm hO ls hl
  have hC : CallFix p m c cX11_within 3 s [.int x, .int y, .int z].toArray wq_c_X11_within RX11 := hC
  obtain ⟨hx, hb, hml, hown, hts⟩ := id hC
  have hl : lv_has ls 3 [(0, .int x), (1, .int y), (2, .int z)] := hl
  refine lv_iload_n hx hb dX11_within_0 rfl (lv_at hl 0 rfl) ?_
  refine lv_iload_n hx hb dX11_within_1 rfl (lv_at hl 1 rfl) ?_
  refine lv_icmp_lt (tgt := 14) hx hb dX11_within_2 (by decide) (fun h_2_1 => ?_) (fun h_2_1 => ?_)
  · refine lv_iconst (v := 0) hx hb dX11_within_14 (by decide) ?_
    exact cg_iret (nw := fun _ => 0) hC hr hlk hO.same rfl (Nat.le_of_ble_eq_true rfl) (Nat.le_of_ble_eq_true rfl) (Or.inr ⟨fun q => absurd q.1 (Int32.not_le.mpr h_2_1), rfl, rfl⟩) dX11_within_15
  · refine lv_iload_n hx hb dX11_within_5 rfl (lv_at hl 0 rfl) ?_
    refine lv_iload_n hx hb dX11_within_6 rfl (lv_at hl 2 rfl) ?_
    refine lv_icmp_gt (tgt := 14) hx hb dX11_within_7 (by decide) (fun h_7_2 => ?_) (fun h_7_2 => ?_)
    · refine lv_iconst (v := 0) hx hb dX11_within_14 (by decide) ?_
      exact cg_iret (nw := fun _ => 0) hC hr hlk hO.same rfl (Nat.le_of_ble_eq_true rfl) (Nat.le_of_ble_eq_true rfl) (Or.inr ⟨fun q => absurd q.2 (Int32.not_le.mpr h_7_2), rfl, rfl⟩) dX11_within_15
    · refine lv_iconst (v := 1) hx hb dX11_within_10 (by decide) ?_
      refine lv_goto (tgt := 15) hx hb dX11_within_11 (by decide) ?_
      exact cg_iret (nw := fun _ => 0) hC hr hlk hO.same rfl (Nat.le_of_ble_eq_true rfl) (Nat.le_of_ble_eq_true rfl) (Or.inl ⟨⟨Int32.not_lt.mp h_2_1, Int32.not_lt.mp h_7_2⟩, rfl, rfl⟩) dX11_within_15

theorem dX12_isIn_0 : decode cX12_isIn 0 = .ok (.iload_n 0, 1) := by decide +kernel
theorem dX12_isIn_1 : decode cX12_isIn 1 = .ok (.iload_n 1, 1) := by decide +kernel
theorem dX12_isIn_2 : decode cX12_isIn 2 = .ok (.if_icmp .lt 12, 3) := by decide +kernel
theorem dX12_isIn_5 : decode cX12_isIn 5 = .ok (.iload_n 0, 1) := by decide +kernel
theorem dX12_isIn_6 : decode cX12_isIn 6 = .ok (.iload_n 2, 1) := by decide +kernel
theorem dX12_isIn_7 : decode cX12_isIn 7 = .ok (.if_icmp .gt 7, 3) := by decide +kernel
theorem dX12_isIn_10 : decode cX12_isIn 10 = .ok (.iconst 1, 1) := by decide +kernel
theorem dX12_isIn_11 : decode cX12_isIn 11 = .ok (.goto 4, 3) := by decide +kernel
theorem dX12_isIn_14 : decode cX12_isIn 14 = .ok (.iconst 0, 1) := by decide +kernel
theorem dX12_isIn_15 : decode cX12_isIn 15 = .ok (.ireturn, 1) := by decide +kernel
def wq_c_X12_isIn : List Cond := Cond.code yX12_isIn cX12_isIn 3 (some .boolean) :: (([] : List Cond))
set_option maxHeartbeats 8000000 in
set_option maxRecDepth 100000 in
theorem c_X12_isIn (l : Launch) (D : va_G) (cy : Nat → ClassId) (ad : Nat → Nat) (g : Nat → va_E) {x : Int32} {y : Int32} {z : Int32}  : cMi l yX12_isIn wq_c_X12_isIn { frames := 0, cells := 0, slots := 0, locals := 0 } 0 0 0 0 D cy ad g [.int x, .int y, .int z] (fun r nw lu => (rng x y z ∧ r = 1 ∧ lu = []) ∨ ((¬ rng x y z) ∧ r = 0 ∧ lu = [])) := by
  refine cM_of (Qc := fun A => cQi (fun r nw lu => (rng x y z ∧ r = 1 ∧ lu = []) ∨ ((¬ rng x y z) ∧ r = 0 ∧ lu = [])) D 0 0 ad g A) (cc := cX12_isIn) (maxL := 3) (ret := (some .boolean)) (by decide) rfl (Nat.le_of_ble_eq_true rfl) ?_
  intro p e s m below meth c A hC hr hlk hnm hO ls hl
  have hC : CallFix p m c cX12_isIn 3 s [.int x, .int y, .int z].toArray wq_c_X12_isIn RX12 := hC
  obtain ⟨hx, hb, hml, hown, hts⟩ := id hC
  have hl : lv_has ls 3 [(0, .int x), (1, .int y), (2, .int z)] := hl
  refine lv_iload_n hx hb dX12_isIn_0 rfl (lv_at hl 0 rfl) ?_
  refine lv_iload_n hx hb dX12_isIn_1 rfl (lv_at hl 1 rfl) ?_
  refine lv_icmp_lt (tgt := 14) hx hb dX12_isIn_2 (by decide) (fun h_2_1 => ?_) (fun h_2_1 => ?_)
  · refine lv_iconst (v := 0) hx hb dX12_isIn_14 (by decide) ?_
    exact cg_iret (nw := fun _ => 0) hC hr hlk hO.same rfl (Nat.le_of_ble_eq_true rfl) (Nat.le_of_ble_eq_true rfl) (Or.inr ⟨fun q => absurd q.1 (Int32.not_le.mpr h_2_1), rfl, rfl⟩) dX12_isIn_15
  · refine lv_iload_n hx hb dX12_isIn_5 rfl (lv_at hl 0 rfl) ?_
    refine lv_iload_n hx hb dX12_isIn_6 rfl (lv_at hl 2 rfl) ?_
    refine lv_icmp_gt (tgt := 14) hx hb dX12_isIn_7 (by decide) (fun h_7_2 => ?_) (fun h_7_2 => ?_)
    · refine lv_iconst (v := 0) hx hb dX12_isIn_14 (by decide) ?_
      exact cg_iret (nw := fun _ => 0) hC hr hlk hO.same rfl (Nat.le_of_ble_eq_true rfl) (Nat.le_of_ble_eq_true rfl) (Or.inr ⟨fun q => absurd q.2 (Int32.not_le.mpr h_7_2), rfl, rfl⟩) dX12_isIn_15
    · refine lv_iconst (v := 1) hx hb dX12_isIn_10 (by decide) ?_
      refine lv_goto (tgt := 15) hx hb dX12_isIn_11 (by decide) ?_
      exact cg_iret (nw := fun _ => 0) hC hr hlk hO.same rfl (Nat.le_of_ble_eq_true rfl) (Nat.le_of_ble_eq_true rfl) (Or.inl ⟨⟨Int32.not_lt.mp h_2_1, Int32.not_lt.mp h_7_2⟩, rfl, rfl⟩) dX12_isIn_15

theorem dX4_init_0 : decode cX4_init 0 = .ok (.aload_n 0, 1) := by decide +kernel
theorem dX4_init_1 : decode cX4_init 1 = .ok (.invokespecial 3, 3) := by decide +kernel
theorem dX4_init_4 : decode cX4_init 4 = .ok (.aload_n 0, 1) := by decide +kernel
theorem dX4_init_5 : decode cX4_init 5 = .ok (.sipush 300, 3) := by decide +kernel
theorem dX4_init_8 : decode cX4_init 8 = .ok (.newarray .int, 2) := by decide +kernel
theorem dX4_init_10 : decode cX4_init 10 = .ok (.putfield 11, 3) := by decide +kernel
theorem dX4_init_13 : decode cX4_init 13 = .ok (.aload_n 0, 1) := by decide +kernel
theorem dX4_init_14 : decode cX4_init 14 = .ok (.bipush 30, 2) := by decide +kernel
theorem dX4_init_16 : decode cX4_init 16 = .ok (.newarray .int, 2) := by decide +kernel
theorem dX4_init_18 : decode cX4_init 18 = .ok (.putfield 15, 3) := by decide +kernel
theorem dX4_init_21 : decode cX4_init 21 = .ok (.return_, 1) := by decide +kernel
def wq_c_X4_init : List Cond := Cond.code yX4_init cX4_init 1 none :: (([Cond.methodLink RX4 3 objectInit, Cond.instanceMethod objectInit, Cond.code objectInit ⟨#[0xb1]⟩ 1 none, Cond.arrayClass .int, Cond.fieldLink RX4 11 "CrowToll$Law" "step" "[I", Cond.fieldLink RX4 15 "CrowToll$Law" "stack" "[I"] : List Cond) ++ wsX40)
set_option maxHeartbeats 8000000 in
set_option maxRecDepth 100000 in
theorem c_X4_init (l : Launch) (D : va_G) (cy : Nat → ClassId) (ad : Nat → Nat) (g : Nat → va_E) {f0 : List Value} (o0 : g 0 = .inr (4, f0)) (f0_0 : f0[0]? = some (.null)) (f0_1 : f0[1]? = some (.int 0)) (f0_2 : f0[2]? = some (.int 0)) (f0_3 : f0[3]? = some (.int 0)) (f0_4 : f0[4]? = some (.null)) : cMv l yX4_init wq_c_X4_init { frames := 1, cells := 2, slots := 330, locals := 20 } 1 2 2 330 D cy ad g [.ref (ad 0)] (fun nw lu => lu = [(1, .inl (cy 0, 300, .inl (fun _ => 0))), (0, .inr (4, ((f0.set 0 (.ref (nw 0))).set 4 (.ref (nw 1))))), (2, .inl (cy 0, 30, .inl (fun _ => 0)))]) := by
  refine cM_of (Qc := fun A => cQv (fun nw lu => lu = [(1, .inl (cy 0, 300, .inl (fun _ => 0))), (0, .inr (4, ((f0.set 0 (.ref (nw 0))).set 4 (.ref (nw 1))))), (2, .inl (cy 0, 30, .inl (fun _ => 0)))]) D 1 2 ad g A) (cc := cX4_init) (maxL := 1) (ret := none) (by decide) rfl (Nat.le_of_ble_eq_true rfl) ?_
  intro p e s m below meth c A hC hr hlk hnm hO ls hl
  have hC : CallFix p m c cX4_init 1 s [.ref (ad 0)].toArray wq_c_X4_init RX4 := hC
  obtain ⟨hx, hb, hml, hown, hts⟩ := id hC
  have hl : lv_has ls 1 [(0, .ref (ad 0))] := hl
  have hnm : meth.name = "<init>" := hnm
  have i_X4 : ∀ w ∈ wsX40, w ∈ wq_c_X4_init := fun w h => List.mem_cons_of_mem _ (List.mem_append_right _ h)
  refine lv_aload_n hx hb dX4_init_0 rfl (lv_at hl 0 rfl) ?_
  refine cg_obj hC hl.1 (List.mem_of_getElem? (i := 1) rfl) (List.mem_of_getElem? (i := 2) rfl) (List.mem_of_getElem? (i := 3) rfl) dX4_init_1 (Nat.le_of_ble_eq_true rfl) (Nat.le_of_ble_eq_true rfl) ?_
  refine lv_aload_n hx hb dX4_init_4 rfl (lv_at hl 0 rfl) ?_
  refine lv_sipush (v := 300) hx hb dX4_init_5 (by decide) ?_
  refine cg_newa (atype := .int) hC hO rfl (List.mem_of_getElem? (i := 4) rfl) 0 rfl (fun _ h => by cases h) (a0 := (300, .inl (fun _ => 0))) (fun _ => rfl) (by decide) (N' := 300) (by decide) (Nat.le_of_ble_eq_true rfl) (Nat.le_of_ble_eq_true rfl) (Nat.le_of_ble_eq_true rfl) dX4_init_8 (fun nw_8_1 H hO => ?_)
  refine W.widen (k := 1) (n := 300) (Nat.le_of_ble_eq_true rfl) (Nat.le_of_ble_eq_true rfl) ?_
  have hO : cO D cy A s.heap s 2 (aext 1 nw_8_1 ad) (cup [(1, .inl (cy 0, 300, .inl (fun _ => 0)))] g) _ _ := hO
  refine cg_putF hC hO hnm 0 (by decide) o0 rfl i_X4 tyX4_ok nmX4 0 (by decide) (List.mem_of_getElem? (i := 5) rfl) rfl rfl rfl rfl (fs_lt f0_0) dX4_init_10 (fun H locs hO => ?_)
  have hO : cO D cy A s.heap s 2 (aext 1 nw_8_1 ad) (cup [(1, .inl (cy 0, 300, .inl (fun _ => 0))), (0, .inr (4, (f0.set 0 (.ref (nw_8_1 0)))))] g) _ _ := hO
  refine lv_aload_n hx hb dX4_init_13 rfl (lv_at hl 0 rfl) ?_
  refine lv_bipush (v := 30) hx hb dX4_init_14 (by decide) ?_
  refine cg_newa (atype := .int) hC hO rfl (List.mem_of_getElem? (i := 4) rfl) 0 rfl (fun _ h => by cases h) (a0 := (30, .inl (fun _ => 0))) (fun _ => rfl) (by decide) (N' := 30) (by decide) (Nat.le_of_ble_eq_true rfl) (Nat.le_of_ble_eq_true rfl) (Nat.le_of_ble_eq_true rfl) dX4_init_16 (fun nw_16_2 H hO => ?_)
  refine W.widen (k := 2) (n := 330) (Nat.le_of_ble_eq_true rfl) (Nat.le_of_ble_eq_true rfl) ?_
  have hO : cO D cy A s.heap s 3 (aext 2 nw_16_2 (aext 1 nw_8_1 ad)) (cup [(1, .inl (cy 0, 300, .inl (fun _ => 0))), (0, .inr (4, (f0.set 0 (.ref (nw_8_1 0))))), (2, .inl (cy 0, 30, .inl (fun _ => 0)))] g) _ _ := hO
  refine cg_putF hC hO hnm 0 (by decide) rfl rfl i_X4 tyX4_ok nmX4 4 (by decide) (List.mem_of_getElem? (i := 6) rfl) rfl rfl rfl rfl (fs_lt (fs_ne (by decide) f0_4)) dX4_init_18 (fun H locs hO => ?_)
  have hO : cO D cy A s.heap s 3 (aext 2 nw_16_2 (aext 1 nw_8_1 ad)) (cup [(1, .inl (cy 0, 300, .inl (fun _ => 0))), (0, .inr (4, ((f0.set 0 (.ref (nw_8_1 0))).set 4 (.ref (nw_16_2 0))))), (2, .inl (cy 0, 30, .inl (fun _ => 0)))] g) _ _ := hO
  exact cg_vret (nw := fun i => (aext 2 nw_16_2 (aext 1 nw_8_1 ad)) (1 + i)) hC hr hlk (hO.fold (k := 1) (n := 2) (ad := ad) (fun j hj => by match j, hj with | 0, _ => rfl)) (Nat.le_of_ble_eq_true rfl) (Nat.le_of_ble_eq_true rfl) rfl dX4_init_21

theorem dX0_init_0 : decode cX0_init 0 = .ok (.aload_n 0, 1) := by decide +kernel
theorem dX0_init_1 : decode cX0_init 1 = .ok (.invokespecial 3, 3) := by decide +kernel
theorem dX0_init_4 : decode cX0_init 4 = .ok (.aload_n 0, 1) := by decide +kernel
theorem dX0_init_5 : decode cX0_init 5 = .ok (.bipush 40, 2) := by decide +kernel
theorem dX0_init_7 : decode cX0_init 7 = .ok (.newarray .int, 2) := by decide +kernel
theorem dX0_init_9 : decode cX0_init 9 = .ok (.putfield 9, 3) := by decide +kernel
theorem dX0_init_12 : decode cX0_init 12 = .ok (.aload_n 0, 1) := by decide +kernel
theorem dX0_init_13 : decode cX0_init 13 = .ok (.bipush 40, 2) := by decide +kernel
theorem dX0_init_15 : decode cX0_init 15 = .ok (.newarray .int, 2) := by decide +kernel
theorem dX0_init_17 : decode cX0_init 17 = .ok (.putfield 15, 3) := by decide +kernel
theorem dX0_init_20 : decode cX0_init 20 = .ok (.aload_n 0, 1) := by decide +kernel
theorem dX0_init_21 : decode cX0_init 21 = .ok (.bipush 40, 2) := by decide +kernel
theorem dX0_init_23 : decode cX0_init 23 = .ok (.newarray .int, 2) := by decide +kernel
theorem dX0_init_25 : decode cX0_init 25 = .ok (.putfield 18, 3) := by decide +kernel
theorem dX0_init_28 : decode cX0_init 28 = .ok (.return_, 1) := by decide +kernel
def wq_c_X0_init : List Cond := Cond.code yX0_init cX0_init 1 none :: (([Cond.methodLink RX0 3 objectInit, Cond.instanceMethod objectInit, Cond.code objectInit ⟨#[0xb1]⟩ 1 none, Cond.arrayClass .int, Cond.fieldLink RX0 9 "CrowToll$Acts" "kind" "[I", Cond.fieldLink RX0 15 "CrowToll$Acts" "first" "[I", Cond.fieldLink RX0 18 "CrowToll$Acts" "second" "[I"] : List Cond) ++ wsX00)
set_option maxHeartbeats 8000000 in
set_option maxRecDepth 100000 in
theorem c_X0_init (l : Launch) (D : va_G) (cy : Nat → ClassId) (ad : Nat → Nat) (g : Nat → va_E) {f0 : List Value} (o0 : g 0 = .inr (0, f0)) (f0_0 : f0[0]? = some (.null)) (f0_1 : f0[1]? = some (.null)) (f0_2 : f0[2]? = some (.null)) (f0_3 : f0[3]? = some (.int 0)) (f0_4 : f0[4]? = some (.int 0)) : cMv l yX0_init wq_c_X0_init { frames := 1, cells := 3, slots := 120, locals := 20 } 1 3 3 120 D cy ad g [.ref (ad 0)] (fun nw lu => lu = [(1, .inl (cy 0, 40, .inl (fun _ => 0))), (0, .inr (0, (((f0.set 0 (.ref (nw 0))).set 1 (.ref (nw 1))).set 2 (.ref (nw 2))))), (2, .inl (cy 0, 40, .inl (fun _ => 0))), (3, .inl (cy 0, 40, .inl (fun _ => 0)))]) := by
  refine cM_of (Qc := fun A => cQv (fun nw lu => lu = [(1, .inl (cy 0, 40, .inl (fun _ => 0))), (0, .inr (0, (((f0.set 0 (.ref (nw 0))).set 1 (.ref (nw 1))).set 2 (.ref (nw 2))))), (2, .inl (cy 0, 40, .inl (fun _ => 0))), (3, .inl (cy 0, 40, .inl (fun _ => 0)))]) D 1 3 ad g A) (cc := cX0_init) (maxL := 1) (ret := none) (by decide) rfl (Nat.le_of_ble_eq_true rfl) ?_
  intro p e s m below meth c A hC hr hlk hnm hO ls hl
  have hC : CallFix p m c cX0_init 1 s [.ref (ad 0)].toArray wq_c_X0_init RX0 := hC
  obtain ⟨hx, hb, hml, hown, hts⟩ := id hC
  have hl : lv_has ls 1 [(0, .ref (ad 0))] := hl
  have hnm : meth.name = "<init>" := hnm
  have i_X0 : ∀ w ∈ wsX00, w ∈ wq_c_X0_init := fun w h => List.mem_cons_of_mem _ (List.mem_append_right _ h)
  refine lv_aload_n hx hb dX0_init_0 rfl (lv_at hl 0 rfl) ?_
  refine cg_obj hC hl.1 (List.mem_of_getElem? (i := 1) rfl) (List.mem_of_getElem? (i := 2) rfl) (List.mem_of_getElem? (i := 3) rfl) dX0_init_1 (Nat.le_of_ble_eq_true rfl) (Nat.le_of_ble_eq_true rfl) ?_
  refine lv_aload_n hx hb dX0_init_4 rfl (lv_at hl 0 rfl) ?_
  refine lv_bipush (v := 40) hx hb dX0_init_5 (by decide) ?_
  refine cg_newa (atype := .int) hC hO rfl (List.mem_of_getElem? (i := 4) rfl) 0 rfl (fun _ h => by cases h) (a0 := (40, .inl (fun _ => 0))) (fun _ => rfl) (by decide) (N' := 40) (by decide) (Nat.le_of_ble_eq_true rfl) (Nat.le_of_ble_eq_true rfl) (Nat.le_of_ble_eq_true rfl) dX0_init_7 (fun nw_7_1 H hO => ?_)
  refine W.widen (k := 1) (n := 40) (Nat.le_of_ble_eq_true rfl) (Nat.le_of_ble_eq_true rfl) ?_
  have hO : cO D cy A s.heap s 2 (aext 1 nw_7_1 ad) (cup [(1, .inl (cy 0, 40, .inl (fun _ => 0)))] g) _ _ := hO
  refine cg_putF hC hO hnm 0 (by decide) o0 rfl i_X0 tyX0_ok nmX0 0 (by decide) (List.mem_of_getElem? (i := 5) rfl) rfl rfl rfl rfl (fs_lt f0_0) dX0_init_9 (fun H locs hO => ?_)
  have hO : cO D cy A s.heap s 2 (aext 1 nw_7_1 ad) (cup [(1, .inl (cy 0, 40, .inl (fun _ => 0))), (0, .inr (0, (f0.set 0 (.ref (nw_7_1 0)))))] g) _ _ := hO
  refine lv_aload_n hx hb dX0_init_12 rfl (lv_at hl 0 rfl) ?_
  refine lv_bipush (v := 40) hx hb dX0_init_13 (by decide) ?_
  refine cg_newa (atype := .int) hC hO rfl (List.mem_of_getElem? (i := 4) rfl) 0 rfl (fun _ h => by cases h) (a0 := (40, .inl (fun _ => 0))) (fun _ => rfl) (by decide) (N' := 40) (by decide) (Nat.le_of_ble_eq_true rfl) (Nat.le_of_ble_eq_true rfl) (Nat.le_of_ble_eq_true rfl) dX0_init_15 (fun nw_15_2 H hO => ?_)
  refine W.widen (k := 2) (n := 80) (Nat.le_of_ble_eq_true rfl) (Nat.le_of_ble_eq_true rfl) ?_
  have hO : cO D cy A s.heap s 3 (aext 2 nw_15_2 (aext 1 nw_7_1 ad)) (cup [(1, .inl (cy 0, 40, .inl (fun _ => 0))), (0, .inr (0, (f0.set 0 (.ref (nw_7_1 0))))), (2, .inl (cy 0, 40, .inl (fun _ => 0)))] g) _ _ := hO
  refine cg_putF hC hO hnm 0 (by decide) rfl rfl i_X0 tyX0_ok nmX0 1 (by decide) (List.mem_of_getElem? (i := 6) rfl) rfl rfl rfl rfl (fs_lt (fs_ne (by decide) f0_1)) dX0_init_17 (fun H locs hO => ?_)
  have hO : cO D cy A s.heap s 3 (aext 2 nw_15_2 (aext 1 nw_7_1 ad)) (cup [(1, .inl (cy 0, 40, .inl (fun _ => 0))), (0, .inr (0, ((f0.set 0 (.ref (nw_7_1 0))).set 1 (.ref (nw_15_2 0))))), (2, .inl (cy 0, 40, .inl (fun _ => 0)))] g) _ _ := hO
  refine lv_aload_n hx hb dX0_init_20 rfl (lv_at hl 0 rfl) ?_
  refine lv_bipush (v := 40) hx hb dX0_init_21 (by decide) ?_
  refine cg_newa (atype := .int) hC hO rfl (List.mem_of_getElem? (i := 4) rfl) 0 rfl (fun _ h => by cases h) (a0 := (40, .inl (fun _ => 0))) (fun _ => rfl) (by decide) (N' := 40) (by decide) (Nat.le_of_ble_eq_true rfl) (Nat.le_of_ble_eq_true rfl) (Nat.le_of_ble_eq_true rfl) dX0_init_23 (fun nw_23_3 H hO => ?_)
  refine W.widen (k := 3) (n := 120) (Nat.le_of_ble_eq_true rfl) (Nat.le_of_ble_eq_true rfl) ?_
  have hO : cO D cy A s.heap s 4 (aext 3 nw_23_3 (aext 2 nw_15_2 (aext 1 nw_7_1 ad))) (cup [(1, .inl (cy 0, 40, .inl (fun _ => 0))), (0, .inr (0, ((f0.set 0 (.ref (nw_7_1 0))).set 1 (.ref (nw_15_2 0))))), (2, .inl (cy 0, 40, .inl (fun _ => 0))), (3, .inl (cy 0, 40, .inl (fun _ => 0)))] g) _ _ := hO
  refine cg_putF hC hO hnm 0 (by decide) rfl rfl i_X0 tyX0_ok nmX0 2 (by decide) (List.mem_of_getElem? (i := 7) rfl) rfl rfl rfl rfl (fs_lt (fs_ne (by decide) (fs_ne (by decide) f0_2))) dX0_init_25 (fun H locs hO => ?_)
  have hO : cO D cy A s.heap s 4 (aext 3 nw_23_3 (aext 2 nw_15_2 (aext 1 nw_7_1 ad))) (cup [(1, .inl (cy 0, 40, .inl (fun _ => 0))), (0, .inr (0, (((f0.set 0 (.ref (nw_7_1 0))).set 1 (.ref (nw_15_2 0))).set 2 (.ref (nw_23_3 0))))), (2, .inl (cy 0, 40, .inl (fun _ => 0))), (3, .inl (cy 0, 40, .inl (fun _ => 0)))] g) _ _ := hO
  exact cg_vret (nw := fun i => (aext 3 nw_23_3 (aext 2 nw_15_2 (aext 1 nw_7_1 ad))) (1 + i)) hC hr hlk (hO.fold (k := 1) (n := 3) (ad := ad) (fun j hj => by match j, hj with | 0, _ => rfl)) (Nat.le_of_ble_eq_true rfl) (Nat.le_of_ble_eq_true rfl) rfl dX0_init_28

theorem dX9_init_0 : decode cX9_init 0 = .ok (.aload_n 0, 1) := by decide +kernel
theorem dX9_init_1 : decode cX9_init 1 = .ok (.invokespecial 3, 3) := by decide +kernel
theorem dX9_init_4 : decode cX9_init 4 = .ok (.aload_n 0, 1) := by decide +kernel
theorem dX9_init_5 : decode cX9_init 5 = .ok (.bipush 24, 2) := by decide +kernel
theorem dX9_init_7 : decode cX9_init 7 = .ok (.newarray .int, 2) := by decide +kernel
theorem dX9_init_9 : decode cX9_init 9 = .ok (.putfield 9, 3) := by decide +kernel
theorem dX9_init_12 : decode cX9_init 12 = .ok (.aload_n 0, 1) := by decide +kernel
theorem dX9_init_13 : decode cX9_init 13 = .ok (.bipush 24, 2) := by decide +kernel
theorem dX9_init_15 : decode cX9_init 15 = .ok (.newarray .int, 2) := by decide +kernel
theorem dX9_init_17 : decode cX9_init 17 = .ok (.putfield 15, 3) := by decide +kernel
theorem dX9_init_20 : decode cX9_init 20 = .ok (.aload_n 0, 1) := by decide +kernel
theorem dX9_init_21 : decode cX9_init 21 = .ok (.iconst 5, 1) := by decide +kernel
theorem dX9_init_22 : decode cX9_init 22 = .ok (.newarray .int, 2) := by decide +kernel
theorem dX9_init_24 : decode cX9_init 24 = .ok (.putfield 18, 3) := by decide +kernel
theorem dX9_init_27 : decode cX9_init 27 = .ok (.return_, 1) := by decide +kernel
def wq_c_X9_init : List Cond := Cond.code yX9_init cX9_init 1 none :: (([Cond.methodLink RX9 3 objectInit, Cond.instanceMethod objectInit, Cond.code objectInit ⟨#[0xb1]⟩ 1 none, Cond.arrayClass .int, Cond.fieldLink RX9 9 "CrowToll$Stand" "minute" "[I", Cond.fieldLink RX9 15 "CrowToll$Stand" "sacks" "[I", Cond.fieldLink RX9 18 "CrowToll$Stand" "counts" "[I"] : List Cond) ++ wsX90)
set_option maxHeartbeats 8000000 in
set_option maxRecDepth 100000 in
theorem c_X9_init (l : Launch) (D : va_G) (cy : Nat → ClassId) (ad : Nat → Nat) (g : Nat → va_E) {f0 : List Value} (o0 : g 0 = .inr (9, f0)) (f0_0 : f0[0]? = some (.null)) (f0_1 : f0[1]? = some (.null)) (f0_2 : f0[2]? = some (.int 0)) (f0_3 : f0[3]? = some (.null)) (f0_4 : f0[4]? = some (.int 0)) : cMv l yX9_init wq_c_X9_init { frames := 1, cells := 3, slots := 53, locals := 20 } 1 3 3 53 D cy ad g [.ref (ad 0)] (fun nw lu => lu = [(1, .inl (cy 0, 24, .inl (fun _ => 0))), (0, .inr (9, (((f0.set 0 (.ref (nw 0))).set 1 (.ref (nw 1))).set 3 (.ref (nw 2))))), (2, .inl (cy 0, 24, .inl (fun _ => 0))), (3, .inl (cy 0, 5, .inl (fun _ => 0)))]) := by
  refine cM_of (Qc := fun A => cQv (fun nw lu => lu = [(1, .inl (cy 0, 24, .inl (fun _ => 0))), (0, .inr (9, (((f0.set 0 (.ref (nw 0))).set 1 (.ref (nw 1))).set 3 (.ref (nw 2))))), (2, .inl (cy 0, 24, .inl (fun _ => 0))), (3, .inl (cy 0, 5, .inl (fun _ => 0)))]) D 1 3 ad g A) (cc := cX9_init) (maxL := 1) (ret := none) (by decide) rfl (Nat.le_of_ble_eq_true rfl) ?_
  intro p e s m below meth c A hC hr hlk hnm hO ls hl
  have hC : CallFix p m c cX9_init 1 s [.ref (ad 0)].toArray wq_c_X9_init RX9 := hC
  obtain ⟨hx, hb, hml, hown, hts⟩ := id hC
  have hl : lv_has ls 1 [(0, .ref (ad 0))] := hl
  have hnm : meth.name = "<init>" := hnm
  have i_X9 : ∀ w ∈ wsX90, w ∈ wq_c_X9_init := fun w h => List.mem_cons_of_mem _ (List.mem_append_right _ h)
  refine lv_aload_n hx hb dX9_init_0 rfl (lv_at hl 0 rfl) ?_
  refine cg_obj hC hl.1 (List.mem_of_getElem? (i := 1) rfl) (List.mem_of_getElem? (i := 2) rfl) (List.mem_of_getElem? (i := 3) rfl) dX9_init_1 (Nat.le_of_ble_eq_true rfl) (Nat.le_of_ble_eq_true rfl) ?_
  refine lv_aload_n hx hb dX9_init_4 rfl (lv_at hl 0 rfl) ?_
  refine lv_bipush (v := 24) hx hb dX9_init_5 (by decide) ?_
  refine cg_newa (atype := .int) hC hO rfl (List.mem_of_getElem? (i := 4) rfl) 0 rfl (fun _ h => by cases h) (a0 := (24, .inl (fun _ => 0))) (fun _ => rfl) (by decide) (N' := 24) (by decide) (Nat.le_of_ble_eq_true rfl) (Nat.le_of_ble_eq_true rfl) (Nat.le_of_ble_eq_true rfl) dX9_init_7 (fun nw_7_1 H hO => ?_)
  refine W.widen (k := 1) (n := 24) (Nat.le_of_ble_eq_true rfl) (Nat.le_of_ble_eq_true rfl) ?_
  have hO : cO D cy A s.heap s 2 (aext 1 nw_7_1 ad) (cup [(1, .inl (cy 0, 24, .inl (fun _ => 0)))] g) _ _ := hO
  refine cg_putF hC hO hnm 0 (by decide) o0 rfl i_X9 tyX9_ok nmX9 0 (by decide) (List.mem_of_getElem? (i := 5) rfl) rfl rfl rfl rfl (fs_lt f0_0) dX9_init_9 (fun H locs hO => ?_)
  have hO : cO D cy A s.heap s 2 (aext 1 nw_7_1 ad) (cup [(1, .inl (cy 0, 24, .inl (fun _ => 0))), (0, .inr (9, (f0.set 0 (.ref (nw_7_1 0)))))] g) _ _ := hO
  refine lv_aload_n hx hb dX9_init_12 rfl (lv_at hl 0 rfl) ?_
  refine lv_bipush (v := 24) hx hb dX9_init_13 (by decide) ?_
  refine cg_newa (atype := .int) hC hO rfl (List.mem_of_getElem? (i := 4) rfl) 0 rfl (fun _ h => by cases h) (a0 := (24, .inl (fun _ => 0))) (fun _ => rfl) (by decide) (N' := 24) (by decide) (Nat.le_of_ble_eq_true rfl) (Nat.le_of_ble_eq_true rfl) (Nat.le_of_ble_eq_true rfl) dX9_init_15 (fun nw_15_2 H hO => ?_)
  refine W.widen (k := 2) (n := 48) (Nat.le_of_ble_eq_true rfl) (Nat.le_of_ble_eq_true rfl) ?_
  have hO : cO D cy A s.heap s 3 (aext 2 nw_15_2 (aext 1 nw_7_1 ad)) (cup [(1, .inl (cy 0, 24, .inl (fun _ => 0))), (0, .inr (9, (f0.set 0 (.ref (nw_7_1 0))))), (2, .inl (cy 0, 24, .inl (fun _ => 0)))] g) _ _ := hO
  refine cg_putF hC hO hnm 0 (by decide) rfl rfl i_X9 tyX9_ok nmX9 1 (by decide) (List.mem_of_getElem? (i := 6) rfl) rfl rfl rfl rfl (fs_lt (fs_ne (by decide) f0_1)) dX9_init_17 (fun H locs hO => ?_)
  have hO : cO D cy A s.heap s 3 (aext 2 nw_15_2 (aext 1 nw_7_1 ad)) (cup [(1, .inl (cy 0, 24, .inl (fun _ => 0))), (0, .inr (9, ((f0.set 0 (.ref (nw_7_1 0))).set 1 (.ref (nw_15_2 0))))), (2, .inl (cy 0, 24, .inl (fun _ => 0)))] g) _ _ := hO
  refine lv_aload_n hx hb dX9_init_20 rfl (lv_at hl 0 rfl) ?_
  refine lv_iconst (v := 5) hx hb dX9_init_21 (by decide) ?_
  refine cg_newa (atype := .int) hC hO rfl (List.mem_of_getElem? (i := 4) rfl) 0 rfl (fun _ h => by cases h) (a0 := (5, .inl (fun _ => 0))) (fun _ => rfl) (by decide) (N' := 5) (by decide) (Nat.le_of_ble_eq_true rfl) (Nat.le_of_ble_eq_true rfl) (Nat.le_of_ble_eq_true rfl) dX9_init_22 (fun nw_22_3 H hO => ?_)
  refine W.widen (k := 3) (n := 53) (Nat.le_of_ble_eq_true rfl) (Nat.le_of_ble_eq_true rfl) ?_
  have hO : cO D cy A s.heap s 4 (aext 3 nw_22_3 (aext 2 nw_15_2 (aext 1 nw_7_1 ad))) (cup [(1, .inl (cy 0, 24, .inl (fun _ => 0))), (0, .inr (9, ((f0.set 0 (.ref (nw_7_1 0))).set 1 (.ref (nw_15_2 0))))), (2, .inl (cy 0, 24, .inl (fun _ => 0))), (3, .inl (cy 0, 5, .inl (fun _ => 0)))] g) _ _ := hO
  refine cg_putF hC hO hnm 0 (by decide) rfl rfl i_X9 tyX9_ok nmX9 3 (by decide) (List.mem_of_getElem? (i := 7) rfl) rfl rfl rfl rfl (fs_lt (fs_ne (by decide) (fs_ne (by decide) f0_3))) dX9_init_24 (fun H locs hO => ?_)
  have hO : cO D cy A s.heap s 4 (aext 3 nw_22_3 (aext 2 nw_15_2 (aext 1 nw_7_1 ad))) (cup [(1, .inl (cy 0, 24, .inl (fun _ => 0))), (0, .inr (9, (((f0.set 0 (.ref (nw_7_1 0))).set 1 (.ref (nw_15_2 0))).set 3 (.ref (nw_22_3 0))))), (2, .inl (cy 0, 24, .inl (fun _ => 0))), (3, .inl (cy 0, 5, .inl (fun _ => 0)))] g) _ _ := hO
  exact cg_vret (nw := fun i => (aext 3 nw_22_3 (aext 2 nw_15_2 (aext 1 nw_7_1 ad))) (1 + i)) hC hr hlk (hO.fold (k := 1) (n := 3) (ad := ad) (fun j hj => by match j, hj with | 0, _ => rfl)) (Nat.le_of_ble_eq_true rfl) (Nat.le_of_ble_eq_true rfl) rfl dX9_init_27

theorem dX7_init_0 : decode cX7_init 0 = .ok (.aload_n 0, 1) := by decide +kernel
theorem dX7_init_1 : decode cX7_init 1 = .ok (.invokespecial 3, 3) := by decide +kernel
theorem dX7_init_4 : decode cX7_init 4 = .ok (.aload_n 0, 1) := by decide +kernel
theorem dX7_init_5 : decode cX7_init 5 = .ok (.iconst 5, 1) := by decide +kernel
theorem dX7_init_6 : decode cX7_init 6 = .ok (.newarray .long, 2) := by decide +kernel
theorem dX7_init_8 : decode cX7_init 8 = .ok (.putfield 9, 3) := by decide +kernel
theorem dX7_init_11 : decode cX7_init 11 = .ok (.aload_n 0, 1) := by decide +kernel
theorem dX7_init_12 : decode cX7_init 12 = .ok (.iconst 5, 1) := by decide +kernel
theorem dX7_init_13 : decode cX7_init 13 = .ok (.newarray .int, 2) := by decide +kernel
theorem dX7_init_15 : decode cX7_init 15 = .ok (.putfield 15, 3) := by decide +kernel
theorem dX7_init_18 : decode cX7_init 18 = .ok (.aload_n 0, 1) := by decide +kernel
theorem dX7_init_19 : decode cX7_init 19 = .ok (.iconst 5, 1) := by decide +kernel
theorem dX7_init_20 : decode cX7_init 20 = .ok (.newarray .int, 2) := by decide +kernel
theorem dX7_init_22 : decode cX7_init 22 = .ok (.putfield 19, 3) := by decide +kernel
theorem dX7_init_25 : decode cX7_init 25 = .ok (.aload_n 0, 1) := by decide +kernel
theorem dX7_init_26 : decode cX7_init 26 = .ok (.iconst 5, 1) := by decide +kernel
theorem dX7_init_27 : decode cX7_init 27 = .ok (.newarray .int, 2) := by decide +kernel
theorem dX7_init_29 : decode cX7_init 29 = .ok (.putfield 22, 3) := by decide +kernel
theorem dX7_init_32 : decode cX7_init 32 = .ok (.aload_n 0, 1) := by decide +kernel
theorem dX7_init_33 : decode cX7_init 33 = .ok (.iconst 5, 1) := by decide +kernel
theorem dX7_init_34 : decode cX7_init 34 = .ok (.newarray .int, 2) := by decide +kernel
theorem dX7_init_36 : decode cX7_init 36 = .ok (.putfield 25, 3) := by decide +kernel
theorem dX7_init_39 : decode cX7_init 39 = .ok (.aload_n 0, 1) := by decide +kernel
theorem dX7_init_40 : decode cX7_init 40 = .ok (.iconst 4, 1) := by decide +kernel
theorem dX7_init_41 : decode cX7_init 41 = .ok (.newarray .long, 2) := by decide +kernel
theorem dX7_init_43 : decode cX7_init 43 = .ok (.putfield 28, 3) := by decide +kernel
theorem dX7_init_46 : decode cX7_init 46 = .ok (.aload_n 0, 1) := by decide +kernel
theorem dX7_init_47 : decode cX7_init 47 = .ok (.iconst 4, 1) := by decide +kernel
theorem dX7_init_48 : decode cX7_init 48 = .ok (.newarray .int, 2) := by decide +kernel
theorem dX7_init_50 : decode cX7_init 50 = .ok (.putfield 31, 3) := by decide +kernel
theorem dX7_init_53 : decode cX7_init 53 = .ok (.aload_n 0, 1) := by decide +kernel
theorem dX7_init_54 : decode cX7_init 54 = .ok (.iconst 4, 1) := by decide +kernel
theorem dX7_init_55 : decode cX7_init 55 = .ok (.newarray .int, 2) := by decide +kernel
theorem dX7_init_57 : decode cX7_init 57 = .ok (.putfield 34, 3) := by decide +kernel
theorem dX7_init_60 : decode cX7_init 60 = .ok (.aload_n 0, 1) := by decide +kernel
theorem dX7_init_61 : decode cX7_init 61 = .ok (.bipush 20, 2) := by decide +kernel
theorem dX7_init_63 : decode cX7_init 63 = .ok (.newarray .int, 2) := by decide +kernel
theorem dX7_init_65 : decode cX7_init 65 = .ok (.putfield 37, 3) := by decide +kernel
theorem dX7_init_68 : decode cX7_init 68 = .ok (.aload_n 0, 1) := by decide +kernel
theorem dX7_init_69 : decode cX7_init 69 = .ok (.iconst 4, 1) := by decide +kernel
theorem dX7_init_70 : decode cX7_init 70 = .ok (.newarray .int, 2) := by decide +kernel
theorem dX7_init_72 : decode cX7_init 72 = .ok (.putfield 40, 3) := by decide +kernel
theorem dX7_init_75 : decode cX7_init 75 = .ok (.aload_n 0, 1) := by decide +kernel
theorem dX7_init_76 : decode cX7_init 76 = .ok (.bipush 12, 2) := by decide +kernel
theorem dX7_init_78 : decode cX7_init 78 = .ok (.newarray .long, 2) := by decide +kernel
theorem dX7_init_80 : decode cX7_init 80 = .ok (.putfield 43, 3) := by decide +kernel
theorem dX7_init_83 : decode cX7_init 83 = .ok (.aload_n 0, 1) := by decide +kernel
theorem dX7_init_84 : decode cX7_init 84 = .ok (.bipush 12, 2) := by decide +kernel
theorem dX7_init_86 : decode cX7_init 86 = .ok (.newarray .int, 2) := by decide +kernel
theorem dX7_init_88 : decode cX7_init 88 = .ok (.putfield 46, 3) := by decide +kernel
theorem dX7_init_91 : decode cX7_init 91 = .ok (.aload_n 0, 1) := by decide +kernel
theorem dX7_init_92 : decode cX7_init 92 = .ok (.bipush 12, 2) := by decide +kernel
theorem dX7_init_94 : decode cX7_init 94 = .ok (.newarray .int, 2) := by decide +kernel
theorem dX7_init_96 : decode cX7_init 96 = .ok (.putfield 49, 3) := by decide +kernel
theorem dX7_init_99 : decode cX7_init 99 = .ok (.aload_n 0, 1) := by decide +kernel
theorem dX7_init_100 : decode cX7_init 100 = .ok (.new 52, 3) := by decide +kernel
theorem dX7_init_103 : decode cX7_init 103 = .ok (.dup, 1) := by decide +kernel
theorem dX7_init_104 : decode cX7_init 104 = .ok (.invokespecial 54, 3) := by decide +kernel
theorem dX7_init_107 : decode cX7_init 107 = .ok (.putfield 55, 3) := by decide +kernel
theorem dX7_init_110 : decode cX7_init 110 = .ok (.return_, 1) := by decide +kernel
def wq_c_X7_init : List Cond := Cond.code yX7_init cX7_init 1 none :: (([Cond.methodLink RX7 3 objectInit, Cond.instanceMethod objectInit, Cond.code objectInit ⟨#[0xb1]⟩ 1 none, Cond.arrayClass .long, Cond.fieldLink RX7 9 "CrowToll$Road" "birdName" "[J", Cond.arrayClass .int, Cond.fieldLink RX7 15 "CrowToll$Road" "counts" "[I", Cond.fieldLink RX7 19 "CrowToll$Road" "gap" "[I", Cond.fieldLink RX7 22 "CrowToll$Road" "takes" "[I", Cond.fieldLink RX7 25 "CrowToll$Road" "seatOf" "[I", Cond.fieldLink RX7 28 "CrowToll$Road" "postName" "[J", Cond.fieldLink RX7 31 "CrowToll$Road" "at" "[I", Cond.fieldLink RX7 34 "CrowToll$Road" "toll" "[I", Cond.fieldLink RX7 37 "CrowToll$Road" "seat" "[I", Cond.fieldLink RX7 40 "CrowToll$Road" "seated" "[I", Cond.fieldLink RX7 43 "CrowToll$Road" "cartName" "[J", Cond.fieldLink RX7 46 "CrowToll$Road" "minute" "[I", Cond.fieldLink RX7 49 "CrowToll$Road" "sacks" "[I", Cond.classLink RX7 52 RX4, Cond.instantiable RX4 5, Cond.initialized RX4, Cond.code yX4_init cX4_init 1 none, Cond.methodLink RX4 3 objectInit, Cond.fieldLink RX4 11 "CrowToll$Law" "step" "[I", Cond.fieldLink RX4 15 "CrowToll$Law" "stack" "[I", Cond.instanceMethod yX4_init, Cond.fieldLink RX7 55 "CrowToll$Road" "law" "LCrowToll$Law;"] : List Cond) ++ wsX40 ++ wsX70)
set_option maxRecDepth 20000 in
theorem gr_c_X7_init_c_X4_init : GoodIn wq_c_X7_init wq_c_X4_init := List.forall_mem_cons.mpr ⟨⟨(List.mem_of_getElem? (i := 22) rfl), good_of_word rfl⟩, List.forall_mem_append.mpr ⟨List.forall_mem_cons.mpr ⟨⟨(List.mem_of_getElem? (i := 23) rfl), good_of_word rfl⟩, List.forall_mem_cons.mpr ⟨⟨(List.mem_of_getElem? (i := 2) rfl), good_of_word rfl⟩, List.forall_mem_cons.mpr ⟨⟨(List.mem_of_getElem? (i := 3) rfl), good_of_word rfl⟩, List.forall_mem_cons.mpr ⟨⟨(List.mem_of_getElem? (i := 6) rfl), good_of_word rfl⟩, List.forall_mem_cons.mpr ⟨⟨(List.mem_of_getElem? (i := 24) rfl), good_of_word rfl⟩, List.forall_mem_cons.mpr ⟨⟨(List.mem_of_getElem? (i := 25) rfl), good_of_word rfl⟩, (fun _ h => absurd h List.not_mem_nil)⟩⟩⟩⟩⟩⟩, fun w h => ⟨(fun w h => List.mem_cons_of_mem _ (List.mem_append_left _ (List.mem_append_right _ h))) w h, good_of_word (List.all_eq_true.mp gw_X4 w h)⟩⟩⟩
theorem gq_c_X7_init_c_X4_init : GoodIn wq_c_X7_init wq_c_X4_init := gr_c_X7_init_c_X4_init
set_option maxHeartbeats 8000000 in
set_option maxRecDepth 100000 in
theorem c_X7_init (l : Launch) (D : va_G) (cy : Nat → ClassId) (ad : Nat → Nat) (g : Nat → va_E) {f0 : List Value} (o0 : g 0 = .inr (7, f0)) (f0_0 : f0[0]? = some (.null)) (f0_1 : f0[1]? = some (.null)) (f0_2 : f0[2]? = some (.null)) (f0_3 : f0[3]? = some (.null)) (f0_4 : f0[4]? = some (.null)) (f0_5 : f0[5]? = some (.int 0)) (f0_6 : f0[6]? = some (.null)) (f0_7 : f0[7]? = some (.null)) (f0_8 : f0[8]? = some (.null)) (f0_9 : f0[9]? = some (.null)) (f0_10 : f0[10]? = some (.null)) (f0_11 : f0[11]? = some (.int 0)) (f0_12 : f0[12]? = some (.null)) (f0_13 : f0[13]? = some (.null)) (f0_14 : f0[14]? = some (.null)) (f0_15 : f0[15]? = some (.int 0)) (f0_16 : f0[16]? = some (.int 0)) (f0_17 : f0[17]? = some (.null)) : cMv l yX7_init wq_c_X7_init { frames := 2, cells := 16, slots := 432, locals := 40 } 1 16 16 432 D cy ad g [.ref (ad 0)] (fun nw lu => lu = [(1, .inl (cy 1, 5, .inr (.inl (fun _ => 0)))), (0, .inr (7, ((((((((((((((f0.set 0 (.ref (nw 0))).set 1 (.ref (nw 1))).set 2 (.ref (nw 2))).set 3 (.ref (nw 3))).set 4 (.ref (nw 4))).set 6 (.ref (nw 5))).set 7 (.ref (nw 6))).set 8 (.ref (nw 7))).set 9 (.ref (nw 8))).set 10 (.ref (nw 9))).set 12 (.ref (nw 10))).set 13 (.ref (nw 11))).set 14 (.ref (nw 12))).set 17 (.ref (nw 13))))), (2, .inl (cy 0, 5, .inl (fun _ => 0))), (3, .inl (cy 0, 5, .inl (fun _ => 0))), (4, .inl (cy 0, 5, .inl (fun _ => 0))), (5, .inl (cy 0, 5, .inl (fun _ => 0))), (6, .inl (cy 1, 4, .inr (.inl (fun _ => 0)))), (7, .inl (cy 0, 4, .inl (fun _ => 0))), (8, .inl (cy 0, 4, .inl (fun _ => 0))), (9, .inl (cy 0, 20, .inl (fun _ => 0))), (10, .inl (cy 0, 4, .inl (fun _ => 0))), (11, .inl (cy 1, 12, .inr (.inl (fun _ => 0)))), (12, .inl (cy 0, 12, .inl (fun _ => 0))), (13, .inl (cy 0, 12, .inl (fun _ => 0))), (14, .inr (4, [.ref (nw 14), .int 0, .int 0, .int 0, .ref (nw 15)])), (15, .inl (cy 0, 300, .inl (fun _ => 0))), (16, .inl (cy 0, 30, .inl (fun _ => 0)))]) := by
  refine cM_of (Qc := fun A => cQv (fun nw lu => lu = [(1, .inl (cy 1, 5, .inr (.inl (fun _ => 0)))), (0, .inr (7, ((((((((((((((f0.set 0 (.ref (nw 0))).set 1 (.ref (nw 1))).set 2 (.ref (nw 2))).set 3 (.ref (nw 3))).set 4 (.ref (nw 4))).set 6 (.ref (nw 5))).set 7 (.ref (nw 6))).set 8 (.ref (nw 7))).set 9 (.ref (nw 8))).set 10 (.ref (nw 9))).set 12 (.ref (nw 10))).set 13 (.ref (nw 11))).set 14 (.ref (nw 12))).set 17 (.ref (nw 13))))), (2, .inl (cy 0, 5, .inl (fun _ => 0))), (3, .inl (cy 0, 5, .inl (fun _ => 0))), (4, .inl (cy 0, 5, .inl (fun _ => 0))), (5, .inl (cy 0, 5, .inl (fun _ => 0))), (6, .inl (cy 1, 4, .inr (.inl (fun _ => 0)))), (7, .inl (cy 0, 4, .inl (fun _ => 0))), (8, .inl (cy 0, 4, .inl (fun _ => 0))), (9, .inl (cy 0, 20, .inl (fun _ => 0))), (10, .inl (cy 0, 4, .inl (fun _ => 0))), (11, .inl (cy 1, 12, .inr (.inl (fun _ => 0)))), (12, .inl (cy 0, 12, .inl (fun _ => 0))), (13, .inl (cy 0, 12, .inl (fun _ => 0))), (14, .inr (4, [.ref (nw 14), .int 0, .int 0, .int 0, .ref (nw 15)])), (15, .inl (cy 0, 300, .inl (fun _ => 0))), (16, .inl (cy 0, 30, .inl (fun _ => 0)))]) D 1 16 ad g A) (cc := cX7_init) (maxL := 1) (ret := none) (by decide) rfl (Nat.le_of_ble_eq_true rfl) ?_
  intro p e s m below meth c A hC hr hlk hnm hO ls hl
  have hC : CallFix p m c cX7_init 1 s [.ref (ad 0)].toArray wq_c_X7_init RX7 := hC
  obtain ⟨hx, hb, hml, hown, hts⟩ := id hC
  have hl : lv_has ls 1 [(0, .ref (ad 0))] := hl
  have hnm : meth.name = "<init>" := hnm
  have i_X4 : ∀ w ∈ wsX40, w ∈ wq_c_X7_init := fun w h => List.mem_cons_of_mem _ (List.mem_append_left _ (List.mem_append_right _ h))
  have i_X7 : ∀ w ∈ wsX70, w ∈ wq_c_X7_init := fun w h => List.mem_cons_of_mem _ (List.mem_append_right _ h)
  refine lv_aload_n hx hb dX7_init_0 rfl (lv_at hl 0 rfl) ?_
  refine cg_obj hC hl.1 (List.mem_of_getElem? (i := 1) rfl) (List.mem_of_getElem? (i := 2) rfl) (List.mem_of_getElem? (i := 3) rfl) dX7_init_1 (Nat.le_of_ble_eq_true rfl) (Nat.le_of_ble_eq_true rfl) ?_
  refine lv_aload_n hx hb dX7_init_4 rfl (lv_at hl 0 rfl) ?_
  refine lv_iconst (v := 5) hx hb dX7_init_5 (by decide) ?_
  refine cg_newa (atype := .long) hC hO rfl (List.mem_of_getElem? (i := 4) rfl) 1 rfl (fun _ h => by cases h) (a0 := (5, .inr (.inl (fun _ => 0)))) (fun _ => rfl) (by decide) (N' := 5) (by decide) (Nat.le_of_ble_eq_true rfl) (Nat.le_of_ble_eq_true rfl) (Nat.le_of_ble_eq_true rfl) dX7_init_6 (fun nw_6_1 H hO => ?_)
  refine W.widen (k := 1) (n := 5) (Nat.le_of_ble_eq_true rfl) (Nat.le_of_ble_eq_true rfl) ?_
  have hO : cO D cy A s.heap s 2 (aext 1 nw_6_1 ad) (cup [(1, .inl (cy 1, 5, .inr (.inl (fun _ => 0))))] g) _ _ := hO
  refine cg_putF hC hO hnm 0 (by decide) o0 rfl i_X7 tyX7_ok nmX7 0 (by decide) (List.mem_of_getElem? (i := 5) rfl) rfl rfl rfl rfl (fs_lt f0_0) dX7_init_8 (fun H locs hO => ?_)
  have hO : cO D cy A s.heap s 2 (aext 1 nw_6_1 ad) (cup [(1, .inl (cy 1, 5, .inr (.inl (fun _ => 0)))), (0, .inr (7, (f0.set 0 (.ref (nw_6_1 0)))))] g) _ _ := hO
  refine lv_aload_n hx hb dX7_init_11 rfl (lv_at hl 0 rfl) ?_
  refine lv_iconst (v := 5) hx hb dX7_init_12 (by decide) ?_
  refine cg_newa (atype := .int) hC hO rfl (List.mem_of_getElem? (i := 6) rfl) 0 rfl (fun _ h => by cases h) (a0 := (5, .inl (fun _ => 0))) (fun _ => rfl) (by decide) (N' := 5) (by decide) (Nat.le_of_ble_eq_true rfl) (Nat.le_of_ble_eq_true rfl) (Nat.le_of_ble_eq_true rfl) dX7_init_13 (fun nw_13_2 H hO => ?_)
  refine W.widen (k := 2) (n := 10) (Nat.le_of_ble_eq_true rfl) (Nat.le_of_ble_eq_true rfl) ?_
  have hO : cO D cy A s.heap s 3 (aext 2 nw_13_2 (aext 1 nw_6_1 ad)) (cup [(1, .inl (cy 1, 5, .inr (.inl (fun _ => 0)))), (0, .inr (7, (f0.set 0 (.ref (nw_6_1 0))))), (2, .inl (cy 0, 5, .inl (fun _ => 0)))] g) _ _ := hO
  refine cg_putF hC hO hnm 0 (by decide) rfl rfl i_X7 tyX7_ok nmX7 1 (by decide) (List.mem_of_getElem? (i := 7) rfl) rfl rfl rfl rfl (fs_lt (fs_ne (by decide) f0_1)) dX7_init_15 (fun H locs hO => ?_)
  have hO : cO D cy A s.heap s 3 (aext 2 nw_13_2 (aext 1 nw_6_1 ad)) (cup [(1, .inl (cy 1, 5, .inr (.inl (fun _ => 0)))), (0, .inr (7, ((f0.set 0 (.ref (nw_6_1 0))).set 1 (.ref (nw_13_2 0))))), (2, .inl (cy 0, 5, .inl (fun _ => 0)))] g) _ _ := hO
  refine lv_aload_n hx hb dX7_init_18 rfl (lv_at hl 0 rfl) ?_
  refine lv_iconst (v := 5) hx hb dX7_init_19 (by decide) ?_
  refine cg_newa (atype := .int) hC hO rfl (List.mem_of_getElem? (i := 6) rfl) 0 rfl (fun _ h => by cases h) (a0 := (5, .inl (fun _ => 0))) (fun _ => rfl) (by decide) (N' := 5) (by decide) (Nat.le_of_ble_eq_true rfl) (Nat.le_of_ble_eq_true rfl) (Nat.le_of_ble_eq_true rfl) dX7_init_20 (fun nw_20_3 H hO => ?_)
  refine W.widen (k := 3) (n := 15) (Nat.le_of_ble_eq_true rfl) (Nat.le_of_ble_eq_true rfl) ?_
  have hO : cO D cy A s.heap s 4 (aext 3 nw_20_3 (aext 2 nw_13_2 (aext 1 nw_6_1 ad))) (cup [(1, .inl (cy 1, 5, .inr (.inl (fun _ => 0)))), (0, .inr (7, ((f0.set 0 (.ref (nw_6_1 0))).set 1 (.ref (nw_13_2 0))))), (2, .inl (cy 0, 5, .inl (fun _ => 0))), (3, .inl (cy 0, 5, .inl (fun _ => 0)))] g) _ _ := hO
  refine cg_putF hC hO hnm 0 (by decide) rfl rfl i_X7 tyX7_ok nmX7 2 (by decide) (List.mem_of_getElem? (i := 8) rfl) rfl rfl rfl rfl (fs_lt (fs_ne (by decide) (fs_ne (by decide) f0_2))) dX7_init_22 (fun H locs hO => ?_)
  have hO : cO D cy A s.heap s 4 (aext 3 nw_20_3 (aext 2 nw_13_2 (aext 1 nw_6_1 ad))) (cup [(1, .inl (cy 1, 5, .inr (.inl (fun _ => 0)))), (0, .inr (7, (((f0.set 0 (.ref (nw_6_1 0))).set 1 (.ref (nw_13_2 0))).set 2 (.ref (nw_20_3 0))))), (2, .inl (cy 0, 5, .inl (fun _ => 0))), (3, .inl (cy 0, 5, .inl (fun _ => 0)))] g) _ _ := hO
  refine lv_aload_n hx hb dX7_init_25 rfl (lv_at hl 0 rfl) ?_
  refine lv_iconst (v := 5) hx hb dX7_init_26 (by decide) ?_
  refine cg_newa (atype := .int) hC hO rfl (List.mem_of_getElem? (i := 6) rfl) 0 rfl (fun _ h => by cases h) (a0 := (5, .inl (fun _ => 0))) (fun _ => rfl) (by decide) (N' := 5) (by decide) (Nat.le_of_ble_eq_true rfl) (Nat.le_of_ble_eq_true rfl) (Nat.le_of_ble_eq_true rfl) dX7_init_27 (fun nw_27_4 H hO => ?_)
  refine W.widen (k := 4) (n := 20) (Nat.le_of_ble_eq_true rfl) (Nat.le_of_ble_eq_true rfl) ?_
  have hO : cO D cy A s.heap s 5 (aext 4 nw_27_4 (aext 3 nw_20_3 (aext 2 nw_13_2 (aext 1 nw_6_1 ad)))) (cup [(1, .inl (cy 1, 5, .inr (.inl (fun _ => 0)))), (0, .inr (7, (((f0.set 0 (.ref (nw_6_1 0))).set 1 (.ref (nw_13_2 0))).set 2 (.ref (nw_20_3 0))))), (2, .inl (cy 0, 5, .inl (fun _ => 0))), (3, .inl (cy 0, 5, .inl (fun _ => 0))), (4, .inl (cy 0, 5, .inl (fun _ => 0)))] g) _ _ := hO
  refine cg_putF hC hO hnm 0 (by decide) rfl rfl i_X7 tyX7_ok nmX7 3 (by decide) (List.mem_of_getElem? (i := 9) rfl) rfl rfl rfl rfl (fs_lt (fs_ne (by decide) (fs_ne (by decide) (fs_ne (by decide) f0_3)))) dX7_init_29 (fun H locs hO => ?_)
  have hO : cO D cy A s.heap s 5 (aext 4 nw_27_4 (aext 3 nw_20_3 (aext 2 nw_13_2 (aext 1 nw_6_1 ad)))) (cup [(1, .inl (cy 1, 5, .inr (.inl (fun _ => 0)))), (0, .inr (7, ((((f0.set 0 (.ref (nw_6_1 0))).set 1 (.ref (nw_13_2 0))).set 2 (.ref (nw_20_3 0))).set 3 (.ref (nw_27_4 0))))), (2, .inl (cy 0, 5, .inl (fun _ => 0))), (3, .inl (cy 0, 5, .inl (fun _ => 0))), (4, .inl (cy 0, 5, .inl (fun _ => 0)))] g) _ _ := hO
  refine lv_aload_n hx hb dX7_init_32 rfl (lv_at hl 0 rfl) ?_
  refine lv_iconst (v := 5) hx hb dX7_init_33 (by decide) ?_
  refine cg_newa (atype := .int) hC hO rfl (List.mem_of_getElem? (i := 6) rfl) 0 rfl (fun _ h => by cases h) (a0 := (5, .inl (fun _ => 0))) (fun _ => rfl) (by decide) (N' := 5) (by decide) (Nat.le_of_ble_eq_true rfl) (Nat.le_of_ble_eq_true rfl) (Nat.le_of_ble_eq_true rfl) dX7_init_34 (fun nw_34_5 H hO => ?_)
  refine W.widen (k := 5) (n := 25) (Nat.le_of_ble_eq_true rfl) (Nat.le_of_ble_eq_true rfl) ?_
  have hO : cO D cy A s.heap s 6 (aext 5 nw_34_5 (aext 4 nw_27_4 (aext 3 nw_20_3 (aext 2 nw_13_2 (aext 1 nw_6_1 ad))))) (cup [(1, .inl (cy 1, 5, .inr (.inl (fun _ => 0)))), (0, .inr (7, ((((f0.set 0 (.ref (nw_6_1 0))).set 1 (.ref (nw_13_2 0))).set 2 (.ref (nw_20_3 0))).set 3 (.ref (nw_27_4 0))))), (2, .inl (cy 0, 5, .inl (fun _ => 0))), (3, .inl (cy 0, 5, .inl (fun _ => 0))), (4, .inl (cy 0, 5, .inl (fun _ => 0))), (5, .inl (cy 0, 5, .inl (fun _ => 0)))] g) _ _ := hO
  refine cg_putF hC hO hnm 0 (by decide) rfl rfl i_X7 tyX7_ok nmX7 4 (by decide) (List.mem_of_getElem? (i := 10) rfl) rfl rfl rfl rfl (fs_lt (fs_ne (by decide) (fs_ne (by decide) (fs_ne (by decide) (fs_ne (by decide) f0_4))))) dX7_init_36 (fun H locs hO => ?_)
  have hO : cO D cy A s.heap s 6 (aext 5 nw_34_5 (aext 4 nw_27_4 (aext 3 nw_20_3 (aext 2 nw_13_2 (aext 1 nw_6_1 ad))))) (cup [(1, .inl (cy 1, 5, .inr (.inl (fun _ => 0)))), (0, .inr (7, (((((f0.set 0 (.ref (nw_6_1 0))).set 1 (.ref (nw_13_2 0))).set 2 (.ref (nw_20_3 0))).set 3 (.ref (nw_27_4 0))).set 4 (.ref (nw_34_5 0))))), (2, .inl (cy 0, 5, .inl (fun _ => 0))), (3, .inl (cy 0, 5, .inl (fun _ => 0))), (4, .inl (cy 0, 5, .inl (fun _ => 0))), (5, .inl (cy 0, 5, .inl (fun _ => 0)))] g) _ _ := hO
  refine lv_aload_n hx hb dX7_init_39 rfl (lv_at hl 0 rfl) ?_
  refine lv_iconst (v := 4) hx hb dX7_init_40 (by decide) ?_
  refine cg_newa (atype := .long) hC hO rfl (List.mem_of_getElem? (i := 4) rfl) 1 rfl (fun _ h => by cases h) (a0 := (4, .inr (.inl (fun _ => 0)))) (fun _ => rfl) (by decide) (N' := 4) (by decide) (Nat.le_of_ble_eq_true rfl) (Nat.le_of_ble_eq_true rfl) (Nat.le_of_ble_eq_true rfl) dX7_init_41 (fun nw_41_6 H hO => ?_)
  refine W.widen (k := 6) (n := 29) (Nat.le_of_ble_eq_true rfl) (Nat.le_of_ble_eq_true rfl) ?_
  have hO : cO D cy A s.heap s 7 (aext 6 nw_41_6 (aext 5 nw_34_5 (aext 4 nw_27_4 (aext 3 nw_20_3 (aext 2 nw_13_2 (aext 1 nw_6_1 ad)))))) (cup [(1, .inl (cy 1, 5, .inr (.inl (fun _ => 0)))), (0, .inr (7, (((((f0.set 0 (.ref (nw_6_1 0))).set 1 (.ref (nw_13_2 0))).set 2 (.ref (nw_20_3 0))).set 3 (.ref (nw_27_4 0))).set 4 (.ref (nw_34_5 0))))), (2, .inl (cy 0, 5, .inl (fun _ => 0))), (3, .inl (cy 0, 5, .inl (fun _ => 0))), (4, .inl (cy 0, 5, .inl (fun _ => 0))), (5, .inl (cy 0, 5, .inl (fun _ => 0))), (6, .inl (cy 1, 4, .inr (.inl (fun _ => 0))))] g) _ _ := hO
  refine cg_putF hC hO hnm 0 (by decide) rfl rfl i_X7 tyX7_ok nmX7 6 (by decide) (List.mem_of_getElem? (i := 11) rfl) rfl rfl rfl rfl (fs_lt (fs_ne (by decide) (fs_ne (by decide) (fs_ne (by decide) (fs_ne (by decide) (fs_ne (by decide) f0_6)))))) dX7_init_43 (fun H locs hO => ?_)
  have hO : cO D cy A s.heap s 7 (aext 6 nw_41_6 (aext 5 nw_34_5 (aext 4 nw_27_4 (aext 3 nw_20_3 (aext 2 nw_13_2 (aext 1 nw_6_1 ad)))))) (cup [(1, .inl (cy 1, 5, .inr (.inl (fun _ => 0)))), (0, .inr (7, ((((((f0.set 0 (.ref (nw_6_1 0))).set 1 (.ref (nw_13_2 0))).set 2 (.ref (nw_20_3 0))).set 3 (.ref (nw_27_4 0))).set 4 (.ref (nw_34_5 0))).set 6 (.ref (nw_41_6 0))))), (2, .inl (cy 0, 5, .inl (fun _ => 0))), (3, .inl (cy 0, 5, .inl (fun _ => 0))), (4, .inl (cy 0, 5, .inl (fun _ => 0))), (5, .inl (cy 0, 5, .inl (fun _ => 0))), (6, .inl (cy 1, 4, .inr (.inl (fun _ => 0))))] g) _ _ := hO
  refine lv_aload_n hx hb dX7_init_46 rfl (lv_at hl 0 rfl) ?_
  refine lv_iconst (v := 4) hx hb dX7_init_47 (by decide) ?_
  refine cg_newa (atype := .int) hC hO rfl (List.mem_of_getElem? (i := 6) rfl) 0 rfl (fun _ h => by cases h) (a0 := (4, .inl (fun _ => 0))) (fun _ => rfl) (by decide) (N' := 4) (by decide) (Nat.le_of_ble_eq_true rfl) (Nat.le_of_ble_eq_true rfl) (Nat.le_of_ble_eq_true rfl) dX7_init_48 (fun nw_48_7 H hO => ?_)
  refine W.widen (k := 7) (n := 33) (Nat.le_of_ble_eq_true rfl) (Nat.le_of_ble_eq_true rfl) ?_
  have hO : cO D cy A s.heap s 8 (aext 7 nw_48_7 (aext 6 nw_41_6 (aext 5 nw_34_5 (aext 4 nw_27_4 (aext 3 nw_20_3 (aext 2 nw_13_2 (aext 1 nw_6_1 ad))))))) (cup [(1, .inl (cy 1, 5, .inr (.inl (fun _ => 0)))), (0, .inr (7, ((((((f0.set 0 (.ref (nw_6_1 0))).set 1 (.ref (nw_13_2 0))).set 2 (.ref (nw_20_3 0))).set 3 (.ref (nw_27_4 0))).set 4 (.ref (nw_34_5 0))).set 6 (.ref (nw_41_6 0))))), (2, .inl (cy 0, 5, .inl (fun _ => 0))), (3, .inl (cy 0, 5, .inl (fun _ => 0))), (4, .inl (cy 0, 5, .inl (fun _ => 0))), (5, .inl (cy 0, 5, .inl (fun _ => 0))), (6, .inl (cy 1, 4, .inr (.inl (fun _ => 0)))), (7, .inl (cy 0, 4, .inl (fun _ => 0)))] g) _ _ := hO
  refine cg_putF hC hO hnm 0 (by decide) rfl rfl i_X7 tyX7_ok nmX7 7 (by decide) (List.mem_of_getElem? (i := 12) rfl) rfl rfl rfl rfl (fs_lt (fs_ne (by decide) (fs_ne (by decide) (fs_ne (by decide) (fs_ne (by decide) (fs_ne (by decide) (fs_ne (by decide) f0_7))))))) dX7_init_50 (fun H locs hO => ?_)
  have hO : cO D cy A s.heap s 8 (aext 7 nw_48_7 (aext 6 nw_41_6 (aext 5 nw_34_5 (aext 4 nw_27_4 (aext 3 nw_20_3 (aext 2 nw_13_2 (aext 1 nw_6_1 ad))))))) (cup [(1, .inl (cy 1, 5, .inr (.inl (fun _ => 0)))), (0, .inr (7, (((((((f0.set 0 (.ref (nw_6_1 0))).set 1 (.ref (nw_13_2 0))).set 2 (.ref (nw_20_3 0))).set 3 (.ref (nw_27_4 0))).set 4 (.ref (nw_34_5 0))).set 6 (.ref (nw_41_6 0))).set 7 (.ref (nw_48_7 0))))), (2, .inl (cy 0, 5, .inl (fun _ => 0))), (3, .inl (cy 0, 5, .inl (fun _ => 0))), (4, .inl (cy 0, 5, .inl (fun _ => 0))), (5, .inl (cy 0, 5, .inl (fun _ => 0))), (6, .inl (cy 1, 4, .inr (.inl (fun _ => 0)))), (7, .inl (cy 0, 4, .inl (fun _ => 0)))] g) _ _ := hO
  refine lv_aload_n hx hb dX7_init_53 rfl (lv_at hl 0 rfl) ?_
  refine lv_iconst (v := 4) hx hb dX7_init_54 (by decide) ?_
  refine cg_newa (atype := .int) hC hO rfl (List.mem_of_getElem? (i := 6) rfl) 0 rfl (fun _ h => by cases h) (a0 := (4, .inl (fun _ => 0))) (fun _ => rfl) (by decide) (N' := 4) (by decide) (Nat.le_of_ble_eq_true rfl) (Nat.le_of_ble_eq_true rfl) (Nat.le_of_ble_eq_true rfl) dX7_init_55 (fun nw_55_8 H hO => ?_)
  refine W.widen (k := 8) (n := 37) (Nat.le_of_ble_eq_true rfl) (Nat.le_of_ble_eq_true rfl) ?_
  have hO : cO D cy A s.heap s 9 (aext 8 nw_55_8 (aext 7 nw_48_7 (aext 6 nw_41_6 (aext 5 nw_34_5 (aext 4 nw_27_4 (aext 3 nw_20_3 (aext 2 nw_13_2 (aext 1 nw_6_1 ad)))))))) (cup [(1, .inl (cy 1, 5, .inr (.inl (fun _ => 0)))), (0, .inr (7, (((((((f0.set 0 (.ref (nw_6_1 0))).set 1 (.ref (nw_13_2 0))).set 2 (.ref (nw_20_3 0))).set 3 (.ref (nw_27_4 0))).set 4 (.ref (nw_34_5 0))).set 6 (.ref (nw_41_6 0))).set 7 (.ref (nw_48_7 0))))), (2, .inl (cy 0, 5, .inl (fun _ => 0))), (3, .inl (cy 0, 5, .inl (fun _ => 0))), (4, .inl (cy 0, 5, .inl (fun _ => 0))), (5, .inl (cy 0, 5, .inl (fun _ => 0))), (6, .inl (cy 1, 4, .inr (.inl (fun _ => 0)))), (7, .inl (cy 0, 4, .inl (fun _ => 0))), (8, .inl (cy 0, 4, .inl (fun _ => 0)))] g) _ _ := hO
  refine cg_putF hC hO hnm 0 (by decide) rfl rfl i_X7 tyX7_ok nmX7 8 (by decide) (List.mem_of_getElem? (i := 13) rfl) rfl rfl rfl rfl (fs_lt (fs_ne (by decide) (fs_ne (by decide) (fs_ne (by decide) (fs_ne (by decide) (fs_ne (by decide) (fs_ne (by decide) (fs_ne (by decide) f0_8)))))))) dX7_init_57 (fun H locs hO => ?_)
  have hO : cO D cy A s.heap s 9 (aext 8 nw_55_8 (aext 7 nw_48_7 (aext 6 nw_41_6 (aext 5 nw_34_5 (aext 4 nw_27_4 (aext 3 nw_20_3 (aext 2 nw_13_2 (aext 1 nw_6_1 ad)))))))) (cup [(1, .inl (cy 1, 5, .inr (.inl (fun _ => 0)))), (0, .inr (7, ((((((((f0.set 0 (.ref (nw_6_1 0))).set 1 (.ref (nw_13_2 0))).set 2 (.ref (nw_20_3 0))).set 3 (.ref (nw_27_4 0))).set 4 (.ref (nw_34_5 0))).set 6 (.ref (nw_41_6 0))).set 7 (.ref (nw_48_7 0))).set 8 (.ref (nw_55_8 0))))), (2, .inl (cy 0, 5, .inl (fun _ => 0))), (3, .inl (cy 0, 5, .inl (fun _ => 0))), (4, .inl (cy 0, 5, .inl (fun _ => 0))), (5, .inl (cy 0, 5, .inl (fun _ => 0))), (6, .inl (cy 1, 4, .inr (.inl (fun _ => 0)))), (7, .inl (cy 0, 4, .inl (fun _ => 0))), (8, .inl (cy 0, 4, .inl (fun _ => 0)))] g) _ _ := hO
  refine lv_aload_n hx hb dX7_init_60 rfl (lv_at hl 0 rfl) ?_
  refine lv_bipush (v := 20) hx hb dX7_init_61 (by decide) ?_
  refine cg_newa (atype := .int) hC hO rfl (List.mem_of_getElem? (i := 6) rfl) 0 rfl (fun _ h => by cases h) (a0 := (20, .inl (fun _ => 0))) (fun _ => rfl) (by decide) (N' := 20) (by decide) (Nat.le_of_ble_eq_true rfl) (Nat.le_of_ble_eq_true rfl) (Nat.le_of_ble_eq_true rfl) dX7_init_63 (fun nw_63_9 H hO => ?_)
  refine W.widen (k := 9) (n := 57) (Nat.le_of_ble_eq_true rfl) (Nat.le_of_ble_eq_true rfl) ?_
  have hO : cO D cy A s.heap s 10 (aext 9 nw_63_9 (aext 8 nw_55_8 (aext 7 nw_48_7 (aext 6 nw_41_6 (aext 5 nw_34_5 (aext 4 nw_27_4 (aext 3 nw_20_3 (aext 2 nw_13_2 (aext 1 nw_6_1 ad))))))))) (cup [(1, .inl (cy 1, 5, .inr (.inl (fun _ => 0)))), (0, .inr (7, ((((((((f0.set 0 (.ref (nw_6_1 0))).set 1 (.ref (nw_13_2 0))).set 2 (.ref (nw_20_3 0))).set 3 (.ref (nw_27_4 0))).set 4 (.ref (nw_34_5 0))).set 6 (.ref (nw_41_6 0))).set 7 (.ref (nw_48_7 0))).set 8 (.ref (nw_55_8 0))))), (2, .inl (cy 0, 5, .inl (fun _ => 0))), (3, .inl (cy 0, 5, .inl (fun _ => 0))), (4, .inl (cy 0, 5, .inl (fun _ => 0))), (5, .inl (cy 0, 5, .inl (fun _ => 0))), (6, .inl (cy 1, 4, .inr (.inl (fun _ => 0)))), (7, .inl (cy 0, 4, .inl (fun _ => 0))), (8, .inl (cy 0, 4, .inl (fun _ => 0))), (9, .inl (cy 0, 20, .inl (fun _ => 0)))] g) _ _ := hO
  refine cg_putF hC hO hnm 0 (by decide) rfl rfl i_X7 tyX7_ok nmX7 9 (by decide) (List.mem_of_getElem? (i := 14) rfl) rfl rfl rfl rfl (fs_lt (fs_ne (by decide) (fs_ne (by decide) (fs_ne (by decide) (fs_ne (by decide) (fs_ne (by decide) (fs_ne (by decide) (fs_ne (by decide) (fs_ne (by decide) f0_9))))))))) dX7_init_65 (fun H locs hO => ?_)
  have hO : cO D cy A s.heap s 10 (aext 9 nw_63_9 (aext 8 nw_55_8 (aext 7 nw_48_7 (aext 6 nw_41_6 (aext 5 nw_34_5 (aext 4 nw_27_4 (aext 3 nw_20_3 (aext 2 nw_13_2 (aext 1 nw_6_1 ad))))))))) (cup [(1, .inl (cy 1, 5, .inr (.inl (fun _ => 0)))), (0, .inr (7, (((((((((f0.set 0 (.ref (nw_6_1 0))).set 1 (.ref (nw_13_2 0))).set 2 (.ref (nw_20_3 0))).set 3 (.ref (nw_27_4 0))).set 4 (.ref (nw_34_5 0))).set 6 (.ref (nw_41_6 0))).set 7 (.ref (nw_48_7 0))).set 8 (.ref (nw_55_8 0))).set 9 (.ref (nw_63_9 0))))), (2, .inl (cy 0, 5, .inl (fun _ => 0))), (3, .inl (cy 0, 5, .inl (fun _ => 0))), (4, .inl (cy 0, 5, .inl (fun _ => 0))), (5, .inl (cy 0, 5, .inl (fun _ => 0))), (6, .inl (cy 1, 4, .inr (.inl (fun _ => 0)))), (7, .inl (cy 0, 4, .inl (fun _ => 0))), (8, .inl (cy 0, 4, .inl (fun _ => 0))), (9, .inl (cy 0, 20, .inl (fun _ => 0)))] g) _ _ := hO
  refine lv_aload_n hx hb dX7_init_68 rfl (lv_at hl 0 rfl) ?_
  refine lv_iconst (v := 4) hx hb dX7_init_69 (by decide) ?_
  refine cg_newa (atype := .int) hC hO rfl (List.mem_of_getElem? (i := 6) rfl) 0 rfl (fun _ h => by cases h) (a0 := (4, .inl (fun _ => 0))) (fun _ => rfl) (by decide) (N' := 4) (by decide) (Nat.le_of_ble_eq_true rfl) (Nat.le_of_ble_eq_true rfl) (Nat.le_of_ble_eq_true rfl) dX7_init_70 (fun nw_70_10 H hO => ?_)
  refine W.widen (k := 10) (n := 61) (Nat.le_of_ble_eq_true rfl) (Nat.le_of_ble_eq_true rfl) ?_
  have hO : cO D cy A s.heap s 11 (aext 10 nw_70_10 (aext 9 nw_63_9 (aext 8 nw_55_8 (aext 7 nw_48_7 (aext 6 nw_41_6 (aext 5 nw_34_5 (aext 4 nw_27_4 (aext 3 nw_20_3 (aext 2 nw_13_2 (aext 1 nw_6_1 ad)))))))))) (cup [(1, .inl (cy 1, 5, .inr (.inl (fun _ => 0)))), (0, .inr (7, (((((((((f0.set 0 (.ref (nw_6_1 0))).set 1 (.ref (nw_13_2 0))).set 2 (.ref (nw_20_3 0))).set 3 (.ref (nw_27_4 0))).set 4 (.ref (nw_34_5 0))).set 6 (.ref (nw_41_6 0))).set 7 (.ref (nw_48_7 0))).set 8 (.ref (nw_55_8 0))).set 9 (.ref (nw_63_9 0))))), (2, .inl (cy 0, 5, .inl (fun _ => 0))), (3, .inl (cy 0, 5, .inl (fun _ => 0))), (4, .inl (cy 0, 5, .inl (fun _ => 0))), (5, .inl (cy 0, 5, .inl (fun _ => 0))), (6, .inl (cy 1, 4, .inr (.inl (fun _ => 0)))), (7, .inl (cy 0, 4, .inl (fun _ => 0))), (8, .inl (cy 0, 4, .inl (fun _ => 0))), (9, .inl (cy 0, 20, .inl (fun _ => 0))), (10, .inl (cy 0, 4, .inl (fun _ => 0)))] g) _ _ := hO
  refine cg_putF hC hO hnm 0 (by decide) rfl rfl i_X7 tyX7_ok nmX7 10 (by decide) (List.mem_of_getElem? (i := 15) rfl) rfl rfl rfl rfl (fs_lt (fs_ne (by decide) (fs_ne (by decide) (fs_ne (by decide) (fs_ne (by decide) (fs_ne (by decide) (fs_ne (by decide) (fs_ne (by decide) (fs_ne (by decide) (fs_ne (by decide) f0_10)))))))))) dX7_init_72 (fun H locs hO => ?_)
  have hO : cO D cy A s.heap s 11 (aext 10 nw_70_10 (aext 9 nw_63_9 (aext 8 nw_55_8 (aext 7 nw_48_7 (aext 6 nw_41_6 (aext 5 nw_34_5 (aext 4 nw_27_4 (aext 3 nw_20_3 (aext 2 nw_13_2 (aext 1 nw_6_1 ad)))))))))) (cup [(1, .inl (cy 1, 5, .inr (.inl (fun _ => 0)))), (0, .inr (7, ((((((((((f0.set 0 (.ref (nw_6_1 0))).set 1 (.ref (nw_13_2 0))).set 2 (.ref (nw_20_3 0))).set 3 (.ref (nw_27_4 0))).set 4 (.ref (nw_34_5 0))).set 6 (.ref (nw_41_6 0))).set 7 (.ref (nw_48_7 0))).set 8 (.ref (nw_55_8 0))).set 9 (.ref (nw_63_9 0))).set 10 (.ref (nw_70_10 0))))), (2, .inl (cy 0, 5, .inl (fun _ => 0))), (3, .inl (cy 0, 5, .inl (fun _ => 0))), (4, .inl (cy 0, 5, .inl (fun _ => 0))), (5, .inl (cy 0, 5, .inl (fun _ => 0))), (6, .inl (cy 1, 4, .inr (.inl (fun _ => 0)))), (7, .inl (cy 0, 4, .inl (fun _ => 0))), (8, .inl (cy 0, 4, .inl (fun _ => 0))), (9, .inl (cy 0, 20, .inl (fun _ => 0))), (10, .inl (cy 0, 4, .inl (fun _ => 0)))] g) _ _ := hO
  refine lv_aload_n hx hb dX7_init_75 rfl (lv_at hl 0 rfl) ?_
  refine lv_bipush (v := 12) hx hb dX7_init_76 (by decide) ?_
  refine cg_newa (atype := .long) hC hO rfl (List.mem_of_getElem? (i := 4) rfl) 1 rfl (fun _ h => by cases h) (a0 := (12, .inr (.inl (fun _ => 0)))) (fun _ => rfl) (by decide) (N' := 12) (by decide) (Nat.le_of_ble_eq_true rfl) (Nat.le_of_ble_eq_true rfl) (Nat.le_of_ble_eq_true rfl) dX7_init_78 (fun nw_78_11 H hO => ?_)
  refine W.widen (k := 11) (n := 73) (Nat.le_of_ble_eq_true rfl) (Nat.le_of_ble_eq_true rfl) ?_
  have hO : cO D cy A s.heap s 12 (aext 11 nw_78_11 (aext 10 nw_70_10 (aext 9 nw_63_9 (aext 8 nw_55_8 (aext 7 nw_48_7 (aext 6 nw_41_6 (aext 5 nw_34_5 (aext 4 nw_27_4 (aext 3 nw_20_3 (aext 2 nw_13_2 (aext 1 nw_6_1 ad))))))))))) (cup [(1, .inl (cy 1, 5, .inr (.inl (fun _ => 0)))), (0, .inr (7, ((((((((((f0.set 0 (.ref (nw_6_1 0))).set 1 (.ref (nw_13_2 0))).set 2 (.ref (nw_20_3 0))).set 3 (.ref (nw_27_4 0))).set 4 (.ref (nw_34_5 0))).set 6 (.ref (nw_41_6 0))).set 7 (.ref (nw_48_7 0))).set 8 (.ref (nw_55_8 0))).set 9 (.ref (nw_63_9 0))).set 10 (.ref (nw_70_10 0))))), (2, .inl (cy 0, 5, .inl (fun _ => 0))), (3, .inl (cy 0, 5, .inl (fun _ => 0))), (4, .inl (cy 0, 5, .inl (fun _ => 0))), (5, .inl (cy 0, 5, .inl (fun _ => 0))), (6, .inl (cy 1, 4, .inr (.inl (fun _ => 0)))), (7, .inl (cy 0, 4, .inl (fun _ => 0))), (8, .inl (cy 0, 4, .inl (fun _ => 0))), (9, .inl (cy 0, 20, .inl (fun _ => 0))), (10, .inl (cy 0, 4, .inl (fun _ => 0))), (11, .inl (cy 1, 12, .inr (.inl (fun _ => 0))))] g) _ _ := hO
  refine cg_putF hC hO hnm 0 (by decide) rfl rfl i_X7 tyX7_ok nmX7 12 (by decide) (List.mem_of_getElem? (i := 16) rfl) rfl rfl rfl rfl (fs_lt (fs_ne (by decide) (fs_ne (by decide) (fs_ne (by decide) (fs_ne (by decide) (fs_ne (by decide) (fs_ne (by decide) (fs_ne (by decide) (fs_ne (by decide) (fs_ne (by decide) (fs_ne (by decide) f0_12))))))))))) dX7_init_80 (fun H locs hO => ?_)
  have hO : cO D cy A s.heap s 12 (aext 11 nw_78_11 (aext 10 nw_70_10 (aext 9 nw_63_9 (aext 8 nw_55_8 (aext 7 nw_48_7 (aext 6 nw_41_6 (aext 5 nw_34_5 (aext 4 nw_27_4 (aext 3 nw_20_3 (aext 2 nw_13_2 (aext 1 nw_6_1 ad))))))))))) (cup [(1, .inl (cy 1, 5, .inr (.inl (fun _ => 0)))), (0, .inr (7, (((((((((((f0.set 0 (.ref (nw_6_1 0))).set 1 (.ref (nw_13_2 0))).set 2 (.ref (nw_20_3 0))).set 3 (.ref (nw_27_4 0))).set 4 (.ref (nw_34_5 0))).set 6 (.ref (nw_41_6 0))).set 7 (.ref (nw_48_7 0))).set 8 (.ref (nw_55_8 0))).set 9 (.ref (nw_63_9 0))).set 10 (.ref (nw_70_10 0))).set 12 (.ref (nw_78_11 0))))), (2, .inl (cy 0, 5, .inl (fun _ => 0))), (3, .inl (cy 0, 5, .inl (fun _ => 0))), (4, .inl (cy 0, 5, .inl (fun _ => 0))), (5, .inl (cy 0, 5, .inl (fun _ => 0))), (6, .inl (cy 1, 4, .inr (.inl (fun _ => 0)))), (7, .inl (cy 0, 4, .inl (fun _ => 0))), (8, .inl (cy 0, 4, .inl (fun _ => 0))), (9, .inl (cy 0, 20, .inl (fun _ => 0))), (10, .inl (cy 0, 4, .inl (fun _ => 0))), (11, .inl (cy 1, 12, .inr (.inl (fun _ => 0))))] g) _ _ := hO
  refine lv_aload_n hx hb dX7_init_83 rfl (lv_at hl 0 rfl) ?_
  refine lv_bipush (v := 12) hx hb dX7_init_84 (by decide) ?_
  refine cg_newa (atype := .int) hC hO rfl (List.mem_of_getElem? (i := 6) rfl) 0 rfl (fun _ h => by cases h) (a0 := (12, .inl (fun _ => 0))) (fun _ => rfl) (by decide) (N' := 12) (by decide) (Nat.le_of_ble_eq_true rfl) (Nat.le_of_ble_eq_true rfl) (Nat.le_of_ble_eq_true rfl) dX7_init_86 (fun nw_86_12 H hO => ?_)
  refine W.widen (k := 12) (n := 85) (Nat.le_of_ble_eq_true rfl) (Nat.le_of_ble_eq_true rfl) ?_
  have hO : cO D cy A s.heap s 13 (aext 12 nw_86_12 (aext 11 nw_78_11 (aext 10 nw_70_10 (aext 9 nw_63_9 (aext 8 nw_55_8 (aext 7 nw_48_7 (aext 6 nw_41_6 (aext 5 nw_34_5 (aext 4 nw_27_4 (aext 3 nw_20_3 (aext 2 nw_13_2 (aext 1 nw_6_1 ad)))))))))))) (cup [(1, .inl (cy 1, 5, .inr (.inl (fun _ => 0)))), (0, .inr (7, (((((((((((f0.set 0 (.ref (nw_6_1 0))).set 1 (.ref (nw_13_2 0))).set 2 (.ref (nw_20_3 0))).set 3 (.ref (nw_27_4 0))).set 4 (.ref (nw_34_5 0))).set 6 (.ref (nw_41_6 0))).set 7 (.ref (nw_48_7 0))).set 8 (.ref (nw_55_8 0))).set 9 (.ref (nw_63_9 0))).set 10 (.ref (nw_70_10 0))).set 12 (.ref (nw_78_11 0))))), (2, .inl (cy 0, 5, .inl (fun _ => 0))), (3, .inl (cy 0, 5, .inl (fun _ => 0))), (4, .inl (cy 0, 5, .inl (fun _ => 0))), (5, .inl (cy 0, 5, .inl (fun _ => 0))), (6, .inl (cy 1, 4, .inr (.inl (fun _ => 0)))), (7, .inl (cy 0, 4, .inl (fun _ => 0))), (8, .inl (cy 0, 4, .inl (fun _ => 0))), (9, .inl (cy 0, 20, .inl (fun _ => 0))), (10, .inl (cy 0, 4, .inl (fun _ => 0))), (11, .inl (cy 1, 12, .inr (.inl (fun _ => 0)))), (12, .inl (cy 0, 12, .inl (fun _ => 0)))] g) _ _ := hO
  refine cg_putF hC hO hnm 0 (by decide) rfl rfl i_X7 tyX7_ok nmX7 13 (by decide) (List.mem_of_getElem? (i := 17) rfl) rfl rfl rfl rfl (fs_lt (fs_ne (by decide) (fs_ne (by decide) (fs_ne (by decide) (fs_ne (by decide) (fs_ne (by decide) (fs_ne (by decide) (fs_ne (by decide) (fs_ne (by decide) (fs_ne (by decide) (fs_ne (by decide) (fs_ne (by decide) f0_13)))))))))))) dX7_init_88 (fun H locs hO => ?_)
  have hO : cO D cy A s.heap s 13 (aext 12 nw_86_12 (aext 11 nw_78_11 (aext 10 nw_70_10 (aext 9 nw_63_9 (aext 8 nw_55_8 (aext 7 nw_48_7 (aext 6 nw_41_6 (aext 5 nw_34_5 (aext 4 nw_27_4 (aext 3 nw_20_3 (aext 2 nw_13_2 (aext 1 nw_6_1 ad)))))))))))) (cup [(1, .inl (cy 1, 5, .inr (.inl (fun _ => 0)))), (0, .inr (7, ((((((((((((f0.set 0 (.ref (nw_6_1 0))).set 1 (.ref (nw_13_2 0))).set 2 (.ref (nw_20_3 0))).set 3 (.ref (nw_27_4 0))).set 4 (.ref (nw_34_5 0))).set 6 (.ref (nw_41_6 0))).set 7 (.ref (nw_48_7 0))).set 8 (.ref (nw_55_8 0))).set 9 (.ref (nw_63_9 0))).set 10 (.ref (nw_70_10 0))).set 12 (.ref (nw_78_11 0))).set 13 (.ref (nw_86_12 0))))), (2, .inl (cy 0, 5, .inl (fun _ => 0))), (3, .inl (cy 0, 5, .inl (fun _ => 0))), (4, .inl (cy 0, 5, .inl (fun _ => 0))), (5, .inl (cy 0, 5, .inl (fun _ => 0))), (6, .inl (cy 1, 4, .inr (.inl (fun _ => 0)))), (7, .inl (cy 0, 4, .inl (fun _ => 0))), (8, .inl (cy 0, 4, .inl (fun _ => 0))), (9, .inl (cy 0, 20, .inl (fun _ => 0))), (10, .inl (cy 0, 4, .inl (fun _ => 0))), (11, .inl (cy 1, 12, .inr (.inl (fun _ => 0)))), (12, .inl (cy 0, 12, .inl (fun _ => 0)))] g) _ _ := hO
  refine lv_aload_n hx hb dX7_init_91 rfl (lv_at hl 0 rfl) ?_
  refine lv_bipush (v := 12) hx hb dX7_init_92 (by decide) ?_
  refine cg_newa (atype := .int) hC hO rfl (List.mem_of_getElem? (i := 6) rfl) 0 rfl (fun _ h => by cases h) (a0 := (12, .inl (fun _ => 0))) (fun _ => rfl) (by decide) (N' := 12) (by decide) (Nat.le_of_ble_eq_true rfl) (Nat.le_of_ble_eq_true rfl) (Nat.le_of_ble_eq_true rfl) dX7_init_94 (fun nw_94_13 H hO => ?_)
  refine W.widen (k := 13) (n := 97) (Nat.le_of_ble_eq_true rfl) (Nat.le_of_ble_eq_true rfl) ?_
  have hO : cO D cy A s.heap s 14 (aext 13 nw_94_13 (aext 12 nw_86_12 (aext 11 nw_78_11 (aext 10 nw_70_10 (aext 9 nw_63_9 (aext 8 nw_55_8 (aext 7 nw_48_7 (aext 6 nw_41_6 (aext 5 nw_34_5 (aext 4 nw_27_4 (aext 3 nw_20_3 (aext 2 nw_13_2 (aext 1 nw_6_1 ad))))))))))))) (cup [(1, .inl (cy 1, 5, .inr (.inl (fun _ => 0)))), (0, .inr (7, ((((((((((((f0.set 0 (.ref (nw_6_1 0))).set 1 (.ref (nw_13_2 0))).set 2 (.ref (nw_20_3 0))).set 3 (.ref (nw_27_4 0))).set 4 (.ref (nw_34_5 0))).set 6 (.ref (nw_41_6 0))).set 7 (.ref (nw_48_7 0))).set 8 (.ref (nw_55_8 0))).set 9 (.ref (nw_63_9 0))).set 10 (.ref (nw_70_10 0))).set 12 (.ref (nw_78_11 0))).set 13 (.ref (nw_86_12 0))))), (2, .inl (cy 0, 5, .inl (fun _ => 0))), (3, .inl (cy 0, 5, .inl (fun _ => 0))), (4, .inl (cy 0, 5, .inl (fun _ => 0))), (5, .inl (cy 0, 5, .inl (fun _ => 0))), (6, .inl (cy 1, 4, .inr (.inl (fun _ => 0)))), (7, .inl (cy 0, 4, .inl (fun _ => 0))), (8, .inl (cy 0, 4, .inl (fun _ => 0))), (9, .inl (cy 0, 20, .inl (fun _ => 0))), (10, .inl (cy 0, 4, .inl (fun _ => 0))), (11, .inl (cy 1, 12, .inr (.inl (fun _ => 0)))), (12, .inl (cy 0, 12, .inl (fun _ => 0))), (13, .inl (cy 0, 12, .inl (fun _ => 0)))] g) _ _ := hO
  refine cg_putF hC hO hnm 0 (by decide) rfl rfl i_X7 tyX7_ok nmX7 14 (by decide) (List.mem_of_getElem? (i := 18) rfl) rfl rfl rfl rfl (fs_lt (fs_ne (by decide) (fs_ne (by decide) (fs_ne (by decide) (fs_ne (by decide) (fs_ne (by decide) (fs_ne (by decide) (fs_ne (by decide) (fs_ne (by decide) (fs_ne (by decide) (fs_ne (by decide) (fs_ne (by decide) (fs_ne (by decide) f0_14))))))))))))) dX7_init_96 (fun H locs hO => ?_)
  have hO : cO D cy A s.heap s 14 (aext 13 nw_94_13 (aext 12 nw_86_12 (aext 11 nw_78_11 (aext 10 nw_70_10 (aext 9 nw_63_9 (aext 8 nw_55_8 (aext 7 nw_48_7 (aext 6 nw_41_6 (aext 5 nw_34_5 (aext 4 nw_27_4 (aext 3 nw_20_3 (aext 2 nw_13_2 (aext 1 nw_6_1 ad))))))))))))) (cup [(1, .inl (cy 1, 5, .inr (.inl (fun _ => 0)))), (0, .inr (7, (((((((((((((f0.set 0 (.ref (nw_6_1 0))).set 1 (.ref (nw_13_2 0))).set 2 (.ref (nw_20_3 0))).set 3 (.ref (nw_27_4 0))).set 4 (.ref (nw_34_5 0))).set 6 (.ref (nw_41_6 0))).set 7 (.ref (nw_48_7 0))).set 8 (.ref (nw_55_8 0))).set 9 (.ref (nw_63_9 0))).set 10 (.ref (nw_70_10 0))).set 12 (.ref (nw_78_11 0))).set 13 (.ref (nw_86_12 0))).set 14 (.ref (nw_94_13 0))))), (2, .inl (cy 0, 5, .inl (fun _ => 0))), (3, .inl (cy 0, 5, .inl (fun _ => 0))), (4, .inl (cy 0, 5, .inl (fun _ => 0))), (5, .inl (cy 0, 5, .inl (fun _ => 0))), (6, .inl (cy 1, 4, .inr (.inl (fun _ => 0)))), (7, .inl (cy 0, 4, .inl (fun _ => 0))), (8, .inl (cy 0, 4, .inl (fun _ => 0))), (9, .inl (cy 0, 20, .inl (fun _ => 0))), (10, .inl (cy 0, 4, .inl (fun _ => 0))), (11, .inl (cy 1, 12, .inr (.inl (fun _ => 0)))), (12, .inl (cy 0, 12, .inl (fun _ => 0))), (13, .inl (cy 0, 12, .inl (fun _ => 0)))] g) _ _ := hO
  refine lv_aload_n hx hb dX7_init_99 rfl (lv_at hl 0 rfl) ?_
  refine cg_new hC hO 4 rfl i_X4 tyX4_ok (List.mem_of_getElem? (i := 19) rfl) (List.mem_of_getElem? (i := 20) rfl) (List.mem_of_getElem? (i := 21) rfl) (fs := [.null, .int 0, .int 0, .int 0, .null]) (dv_X4) (Nat.le_of_ble_eq_true rfl) (Nat.le_of_ble_eq_true rfl) dX7_init_100 (fun nw_100_14 H hO => ?_)
  refine W.widen (k := 14) (n := 102) (Nat.le_of_ble_eq_true rfl) (Nat.le_of_ble_eq_true rfl) ?_
  have hO : cO D cy A s.heap s 15 (aext 14 nw_100_14 (aext 13 nw_94_13 (aext 12 nw_86_12 (aext 11 nw_78_11 (aext 10 nw_70_10 (aext 9 nw_63_9 (aext 8 nw_55_8 (aext 7 nw_48_7 (aext 6 nw_41_6 (aext 5 nw_34_5 (aext 4 nw_27_4 (aext 3 nw_20_3 (aext 2 nw_13_2 (aext 1 nw_6_1 ad)))))))))))))) (cup [(1, .inl (cy 1, 5, .inr (.inl (fun _ => 0)))), (0, .inr (7, (((((((((((((f0.set 0 (.ref (nw_6_1 0))).set 1 (.ref (nw_13_2 0))).set 2 (.ref (nw_20_3 0))).set 3 (.ref (nw_27_4 0))).set 4 (.ref (nw_34_5 0))).set 6 (.ref (nw_41_6 0))).set 7 (.ref (nw_48_7 0))).set 8 (.ref (nw_55_8 0))).set 9 (.ref (nw_63_9 0))).set 10 (.ref (nw_70_10 0))).set 12 (.ref (nw_78_11 0))).set 13 (.ref (nw_86_12 0))).set 14 (.ref (nw_94_13 0))))), (2, .inl (cy 0, 5, .inl (fun _ => 0))), (3, .inl (cy 0, 5, .inl (fun _ => 0))), (4, .inl (cy 0, 5, .inl (fun _ => 0))), (5, .inl (cy 0, 5, .inl (fun _ => 0))), (6, .inl (cy 1, 4, .inr (.inl (fun _ => 0)))), (7, .inl (cy 0, 4, .inl (fun _ => 0))), (8, .inl (cy 0, 4, .inl (fun _ => 0))), (9, .inl (cy 0, 20, .inl (fun _ => 0))), (10, .inl (cy 0, 4, .inl (fun _ => 0))), (11, .inl (cy 1, 12, .inr (.inl (fun _ => 0)))), (12, .inl (cy 0, 12, .inl (fun _ => 0))), (13, .inl (cy 0, 12, .inl (fun _ => 0))), (14, .inr (4, [.null, .int 0, .int 0, .int 0, .null]))] g) _ _ := hO
  refine lv_dup hx hb dX7_init_103 rfl ?_
  refine cg_IN (As := []) (rest := [.ref (nw_100_14 0), .ref (ad 0)]) (mc := 2) (ms := 330) (rm := { frames := 1, cells := 2, slots := 330, locals := 20 }) hC hl.1 hO [14] rfl (c_X4_init l D cy _ _ (f0 := [.null, .int 0, .int 0, .int 0, .null]) rfl rfl rfl rfl rfl rfl) gq_c_X7_init_c_X4_init rfl rfl rfl (List.mem_of_getElem? (i := 21) rfl) (host := "CrowToll") (nestL_mem_2) (List.mem_of_getElem? (i := 26) rfl) rfl 0 (by decide +kernel) ⟨Nat.le_of_ble_eq_true rfl, Nat.le_of_ble_eq_true rfl⟩ rfl rfl (Nat.le_of_ble_eq_true rfl) dX7_init_104 ⟨Nat.le_of_ble_eq_true rfl, Nat.le_of_ble_eq_true rfl⟩ (fun nw_104_15 l_104_16 H locs hw hO => ?_)
  obtain rfl := hw
  have hO : cO D cy A s.heap s 17 (aext 15 nw_104_15 (aext 14 nw_100_14 (aext 13 nw_94_13 (aext 12 nw_86_12 (aext 11 nw_78_11 (aext 10 nw_70_10 (aext 9 nw_63_9 (aext 8 nw_55_8 (aext 7 nw_48_7 (aext 6 nw_41_6 (aext 5 nw_34_5 (aext 4 nw_27_4 (aext 3 nw_20_3 (aext 2 nw_13_2 (aext 1 nw_6_1 ad))))))))))))))) (cup [(1, .inl (cy 1, 5, .inr (.inl (fun _ => 0)))), (0, .inr (7, (((((((((((((f0.set 0 (.ref (nw_6_1 0))).set 1 (.ref (nw_13_2 0))).set 2 (.ref (nw_20_3 0))).set 3 (.ref (nw_27_4 0))).set 4 (.ref (nw_34_5 0))).set 6 (.ref (nw_41_6 0))).set 7 (.ref (nw_48_7 0))).set 8 (.ref (nw_55_8 0))).set 9 (.ref (nw_63_9 0))).set 10 (.ref (nw_70_10 0))).set 12 (.ref (nw_78_11 0))).set 13 (.ref (nw_86_12 0))).set 14 (.ref (nw_94_13 0))))), (2, .inl (cy 0, 5, .inl (fun _ => 0))), (3, .inl (cy 0, 5, .inl (fun _ => 0))), (4, .inl (cy 0, 5, .inl (fun _ => 0))), (5, .inl (cy 0, 5, .inl (fun _ => 0))), (6, .inl (cy 1, 4, .inr (.inl (fun _ => 0)))), (7, .inl (cy 0, 4, .inl (fun _ => 0))), (8, .inl (cy 0, 4, .inl (fun _ => 0))), (9, .inl (cy 0, 20, .inl (fun _ => 0))), (10, .inl (cy 0, 4, .inl (fun _ => 0))), (11, .inl (cy 1, 12, .inr (.inl (fun _ => 0)))), (12, .inl (cy 0, 12, .inl (fun _ => 0))), (13, .inl (cy 0, 12, .inl (fun _ => 0))), (14, .inr (4, [.ref (nw_104_15 0), .int 0, .int 0, .int 0, .ref (nw_104_15 1)])), (15, .inl (cy 0, 300, .inl (fun _ => 0))), (16, .inl (cy 0, 30, .inl (fun _ => 0)))] g) _ _ := hO rfl rfl
  refine W.widen (k := 16) (n := 432) (Nat.le_of_ble_eq_true rfl) (Nat.le_of_ble_eq_true rfl) ?_
  refine cg_putF hC hO hnm 0 (by decide) rfl rfl i_X7 tyX7_ok nmX7 17 (by decide) (List.mem_of_getElem? (i := 27) rfl) rfl rfl rfl rfl (fs_lt (fs_ne (by decide) (fs_ne (by decide) (fs_ne (by decide) (fs_ne (by decide) (fs_ne (by decide) (fs_ne (by decide) (fs_ne (by decide) (fs_ne (by decide) (fs_ne (by decide) (fs_ne (by decide) (fs_ne (by decide) (fs_ne (by decide) (fs_ne (by decide) f0_17)))))))))))))) dX7_init_107 (fun H locs hO => ?_)
  have hO : cO D cy A s.heap s 17 (aext 15 nw_104_15 (aext 14 nw_100_14 (aext 13 nw_94_13 (aext 12 nw_86_12 (aext 11 nw_78_11 (aext 10 nw_70_10 (aext 9 nw_63_9 (aext 8 nw_55_8 (aext 7 nw_48_7 (aext 6 nw_41_6 (aext 5 nw_34_5 (aext 4 nw_27_4 (aext 3 nw_20_3 (aext 2 nw_13_2 (aext 1 nw_6_1 ad))))))))))))))) (cup [(1, .inl (cy 1, 5, .inr (.inl (fun _ => 0)))), (0, .inr (7, ((((((((((((((f0.set 0 (.ref (nw_6_1 0))).set 1 (.ref (nw_13_2 0))).set 2 (.ref (nw_20_3 0))).set 3 (.ref (nw_27_4 0))).set 4 (.ref (nw_34_5 0))).set 6 (.ref (nw_41_6 0))).set 7 (.ref (nw_48_7 0))).set 8 (.ref (nw_55_8 0))).set 9 (.ref (nw_63_9 0))).set 10 (.ref (nw_70_10 0))).set 12 (.ref (nw_78_11 0))).set 13 (.ref (nw_86_12 0))).set 14 (.ref (nw_94_13 0))).set 17 (.ref (nw_100_14 0))))), (2, .inl (cy 0, 5, .inl (fun _ => 0))), (3, .inl (cy 0, 5, .inl (fun _ => 0))), (4, .inl (cy 0, 5, .inl (fun _ => 0))), (5, .inl (cy 0, 5, .inl (fun _ => 0))), (6, .inl (cy 1, 4, .inr (.inl (fun _ => 0)))), (7, .inl (cy 0, 4, .inl (fun _ => 0))), (8, .inl (cy 0, 4, .inl (fun _ => 0))), (9, .inl (cy 0, 20, .inl (fun _ => 0))), (10, .inl (cy 0, 4, .inl (fun _ => 0))), (11, .inl (cy 1, 12, .inr (.inl (fun _ => 0)))), (12, .inl (cy 0, 12, .inl (fun _ => 0))), (13, .inl (cy 0, 12, .inl (fun _ => 0))), (14, .inr (4, [.ref (nw_104_15 0), .int 0, .int 0, .int 0, .ref (nw_104_15 1)])), (15, .inl (cy 0, 300, .inl (fun _ => 0))), (16, .inl (cy 0, 30, .inl (fun _ => 0)))] g) _ _ := hO
  exact cg_vret (nw := fun i => (aext 15 nw_104_15 (aext 14 nw_100_14 (aext 13 nw_94_13 (aext 12 nw_86_12 (aext 11 nw_78_11 (aext 10 nw_70_10 (aext 9 nw_63_9 (aext 8 nw_55_8 (aext 7 nw_48_7 (aext 6 nw_41_6 (aext 5 nw_34_5 (aext 4 nw_27_4 (aext 3 nw_20_3 (aext 2 nw_13_2 (aext 1 nw_6_1 ad))))))))))))))) (1 + i)) hC hr hlk (hO.fold (k := 1) (n := 16) (ad := ad) (fun j hj => by match j, hj with | 0, _ => rfl)) (Nat.le_of_ble_eq_true rfl) (Nat.le_of_ble_eq_true rfl) rfl dX7_init_110

theorem dX6_init_0 : decode cX6_init 0 = .ok (.aload_n 0, 1) := by decide +kernel
theorem dX6_init_1 : decode cX6_init 1 = .ok (.invokespecial 3, 3) := by decide +kernel
theorem dX6_init_4 : decode cX6_init 4 = .ok (.aload_n 0, 1) := by decide +kernel
theorem dX6_init_5 : decode cX6_init 5 = .ok (.new 9, 3) := by decide +kernel
theorem dX6_init_8 : decode cX6_init 8 = .ok (.dup, 1) := by decide +kernel
theorem dX6_init_9 : decode cX6_init 9 = .ok (.invokespecial 11, 3) := by decide +kernel
theorem dX6_init_12 : decode cX6_init 12 = .ok (.putfield 12, 3) := by decide +kernel
theorem dX6_init_15 : decode cX6_init 15 = .ok (.aload_n 0, 1) := by decide +kernel
theorem dX6_init_16 : decode cX6_init 16 = .ok (.iconst (-1), 1) := by decide +kernel
theorem dX6_init_17 : decode cX6_init 17 = .ok (.putfield 18, 3) := by decide +kernel
theorem dX6_init_20 : decode cX6_init 20 = .ok (.aload_n 0, 1) := by decide +kernel
theorem dX6_init_21 : decode cX6_init 21 = .ok (.iconst 0, 1) := by decide +kernel
theorem dX6_init_22 : decode cX6_init 22 = .ok (.newarray .int, 2) := by decide +kernel
theorem dX6_init_24 : decode cX6_init 24 = .ok (.putfield 22, 3) := by decide +kernel
theorem dX6_init_27 : decode cX6_init 27 = .ok (.return_, 1) := by decide +kernel
def wq_c_X6_init : List Cond := Cond.code yX6_init cX6_init 1 none :: (([Cond.methodLink RX6 3 objectInit, Cond.instanceMethod objectInit, Cond.code objectInit ⟨#[0xb1]⟩ 1 none, Cond.classLink RX6 9 RX7, Cond.instantiable RX7 18, Cond.initialized RX7, Cond.code yX7_init cX7_init 1 none, Cond.methodLink RX7 3 objectInit, Cond.arrayClass .long, Cond.fieldLink RX7 9 "CrowToll$Road" "birdName" "[J", Cond.arrayClass .int, Cond.fieldLink RX7 15 "CrowToll$Road" "counts" "[I", Cond.fieldLink RX7 19 "CrowToll$Road" "gap" "[I", Cond.fieldLink RX7 22 "CrowToll$Road" "takes" "[I", Cond.fieldLink RX7 25 "CrowToll$Road" "seatOf" "[I", Cond.fieldLink RX7 28 "CrowToll$Road" "postName" "[J", Cond.fieldLink RX7 31 "CrowToll$Road" "at" "[I", Cond.fieldLink RX7 34 "CrowToll$Road" "toll" "[I", Cond.fieldLink RX7 37 "CrowToll$Road" "seat" "[I", Cond.fieldLink RX7 40 "CrowToll$Road" "seated" "[I", Cond.fieldLink RX7 43 "CrowToll$Road" "cartName" "[J", Cond.fieldLink RX7 46 "CrowToll$Road" "minute" "[I", Cond.fieldLink RX7 49 "CrowToll$Road" "sacks" "[I", Cond.classLink RX7 52 RX4, Cond.instantiable RX4 5, Cond.initialized RX4, Cond.code yX4_init cX4_init 1 none, Cond.methodLink RX4 3 objectInit, Cond.fieldLink RX4 11 "CrowToll$Law" "step" "[I", Cond.fieldLink RX4 15 "CrowToll$Law" "stack" "[I", Cond.instanceMethod yX4_init, Cond.fieldLink RX7 55 "CrowToll$Road" "law" "LCrowToll$Law;", Cond.instanceMethod yX7_init, Cond.fieldLink RX6 12 "CrowToll$Reader" "draft" "LCrowToll$Road;", Cond.fieldLink RX6 18 "CrowToll$Reader" "faultPlace" "I", Cond.fieldLink RX6 22 "CrowToll$Reader" "text" "[I"] : List Cond) ++ wsX40 ++ wsX60 ++ wsX70)
set_option maxRecDepth 20000 in
theorem gr_c_X6_init_c_X7_init : GoodIn wq_c_X6_init wq_c_X7_init := List.forall_mem_cons.mpr ⟨⟨(List.mem_of_getElem? (i := 7) rfl), good_of_word rfl⟩, List.forall_mem_append.mpr ⟨List.forall_mem_append.mpr ⟨List.forall_mem_cons.mpr ⟨⟨(List.mem_of_getElem? (i := 8) rfl), good_of_word rfl⟩, List.forall_mem_cons.mpr ⟨⟨(List.mem_of_getElem? (i := 2) rfl), good_of_word rfl⟩, List.forall_mem_cons.mpr ⟨⟨(List.mem_of_getElem? (i := 3) rfl), good_of_word rfl⟩, List.forall_mem_cons.mpr ⟨⟨(List.mem_of_getElem? (i := 9) rfl), good_of_word rfl⟩, List.forall_mem_cons.mpr ⟨⟨(List.mem_of_getElem? (i := 10) rfl), good_of_word rfl⟩, List.forall_mem_cons.mpr ⟨⟨(List.mem_of_getElem? (i := 11) rfl), good_of_word rfl⟩, List.forall_mem_cons.mpr ⟨⟨(List.mem_of_getElem? (i := 12) rfl), good_of_word rfl⟩, List.forall_mem_cons.mpr ⟨⟨(List.mem_of_getElem? (i := 13) rfl), good_of_word rfl⟩, List.forall_mem_cons.mpr ⟨⟨(List.mem_of_getElem? (i := 14) rfl), good_of_word rfl⟩, List.forall_mem_cons.mpr ⟨⟨(List.mem_of_getElem? (i := 15) rfl), good_of_word rfl⟩, List.forall_mem_cons.mpr ⟨⟨(List.mem_of_getElem? (i := 16) rfl), good_of_word rfl⟩, List.forall_mem_cons.mpr ⟨⟨(List.mem_of_getElem? (i := 17) rfl), good_of_word rfl⟩, List.forall_mem_cons.mpr ⟨⟨(List.mem_of_getElem? (i := 18) rfl), good_of_word rfl⟩, List.forall_mem_cons.mpr ⟨⟨(List.mem_of_getElem? (i := 19) rfl), good_of_word rfl⟩, List.forall_mem_cons.mpr ⟨⟨(List.mem_of_getElem? (i := 20) rfl), good_of_word rfl⟩, List.forall_mem_cons.mpr ⟨⟨(List.mem_of_getElem? (i := 21) rfl), good_of_word rfl⟩, List.forall_mem_cons.mpr ⟨⟨(List.mem_of_getElem? (i := 22) rfl), good_of_word rfl⟩, List.forall_mem_cons.mpr ⟨⟨(List.mem_of_getElem? (i := 23) rfl), good_of_word rfl⟩, List.forall_mem_cons.mpr ⟨⟨(List.mem_of_getElem? (i := 24) rfl), good_of_word rfl⟩, List.forall_mem_cons.mpr ⟨⟨(List.mem_of_getElem? (i := 25) rfl), good_of_word rfl⟩, List.forall_mem_cons.mpr ⟨⟨(List.mem_of_getElem? (i := 26) rfl), good_of_word rfl⟩, List.forall_mem_cons.mpr ⟨⟨(List.mem_of_getElem? (i := 27) rfl), good_of_word rfl⟩, List.forall_mem_cons.mpr ⟨⟨(List.mem_of_getElem? (i := 28) rfl), good_of_word rfl⟩, List.forall_mem_cons.mpr ⟨⟨(List.mem_of_getElem? (i := 29) rfl), good_of_word rfl⟩, List.forall_mem_cons.mpr ⟨⟨(List.mem_of_getElem? (i := 30) rfl), good_of_word rfl⟩, List.forall_mem_cons.mpr ⟨⟨(List.mem_of_getElem? (i := 31) rfl), good_of_word rfl⟩, List.forall_mem_cons.mpr ⟨⟨(List.mem_of_getElem? (i := 32) rfl), good_of_word rfl⟩, (fun _ h => absurd h List.not_mem_nil)⟩⟩⟩⟩⟩⟩⟩⟩⟩⟩⟩⟩⟩⟩⟩⟩⟩⟩⟩⟩⟩⟩⟩⟩⟩⟩⟩, fun w h => ⟨(fun w h => List.mem_cons_of_mem _ (List.mem_append_left _ (List.mem_append_left _ (List.mem_append_right _ h)))) w h, good_of_word (List.all_eq_true.mp gw_X4 w h)⟩⟩, fun w h => ⟨(fun w h => List.mem_cons_of_mem _ (List.mem_append_right _ h)) w h, good_of_word (List.all_eq_true.mp gw_X7 w h)⟩⟩⟩
theorem gq_c_X6_init_c_X7_init : GoodIn wq_c_X6_init wq_c_X7_init := gr_c_X6_init_c_X7_init
set_option maxHeartbeats 8000000 in
set_option maxRecDepth 100000 in
theorem c_X6_init (l : Launch) (D : va_G) (cy : Nat → ClassId) (ad : Nat → Nat) (g : Nat → va_E) {f0 : List Value} (o0 : g 0 = .inr (6, f0)) (f0_0 : f0[0]? = some (.null)) (f0_1 : f0[1]? = some (.int 0)) (f0_2 : f0[2]? = some (.int 0)) (f0_3 : f0[3]? = some (.null)) (f0_4 : f0[4]? = some (.int 0)) (f0_5 : f0[5]? = some (.int 0)) (f0_6 : f0[6]? = some (.int 0)) (f0_7 : f0[7]? = some (.int 0)) (f0_8 : f0[8]? = some (.int 0)) (f0_9 : f0[9]? = some (.int 0)) (f0_10 : f0[10]? = some (.int 0)) (f0_11 : f0[11]? = some (.long 0)) : cMv l yX6_init wq_c_X6_init { frames := 3, cells := 18, slots := 450, locals := 60 } 1 18 18 450 D cy ad g [.ref (ad 0)] (fun nw lu => lu = [(1, .inr (7, [.ref (nw 1), .ref (nw 2), .ref (nw 3), .ref (nw 4), .ref (nw 5), .int 0, .ref (nw 6), .ref (nw 7), .ref (nw 8), .ref (nw 9), .ref (nw 10), .int 0, .ref (nw 11), .ref (nw 12), .ref (nw 13), .int 0, .int 0, .ref (nw 14)])), (2, .inl (cy 1, 5, .inr (.inl (fun _ => 0)))), (3, .inl (cy 0, 5, .inl (fun _ => 0))), (4, .inl (cy 0, 5, .inl (fun _ => 0))), (5, .inl (cy 0, 5, .inl (fun _ => 0))), (6, .inl (cy 0, 5, .inl (fun _ => 0))), (7, .inl (cy 1, 4, .inr (.inl (fun _ => 0)))), (8, .inl (cy 0, 4, .inl (fun _ => 0))), (9, .inl (cy 0, 4, .inl (fun _ => 0))), (10, .inl (cy 0, 20, .inl (fun _ => 0))), (11, .inl (cy 0, 4, .inl (fun _ => 0))), (12, .inl (cy 1, 12, .inr (.inl (fun _ => 0)))), (13, .inl (cy 0, 12, .inl (fun _ => 0))), (14, .inl (cy 0, 12, .inl (fun _ => 0))), (15, .inr (4, [.ref (nw 15), .int 0, .int 0, .int 0, .ref (nw 16)])), (16, .inl (cy 0, 300, .inl (fun _ => 0))), (17, .inl (cy 0, 30, .inl (fun _ => 0))), (0, .inr (6, (((f0.set 0 (.ref (nw 0))).set 2 (.int (-1))).set 3 (.ref (nw 17))))), (18, .inl (cy 0, 0, .inl (fun _ => 0)))]) := by
  refine cM_of (Qc := fun A => cQv (fun nw lu => lu = [(1, .inr (7, [.ref (nw 1), .ref (nw 2), .ref (nw 3), .ref (nw 4), .ref (nw 5), .int 0, .ref (nw 6), .ref (nw 7), .ref (nw 8), .ref (nw 9), .ref (nw 10), .int 0, .ref (nw 11), .ref (nw 12), .ref (nw 13), .int 0, .int 0, .ref (nw 14)])), (2, .inl (cy 1, 5, .inr (.inl (fun _ => 0)))), (3, .inl (cy 0, 5, .inl (fun _ => 0))), (4, .inl (cy 0, 5, .inl (fun _ => 0))), (5, .inl (cy 0, 5, .inl (fun _ => 0))), (6, .inl (cy 0, 5, .inl (fun _ => 0))), (7, .inl (cy 1, 4, .inr (.inl (fun _ => 0)))), (8, .inl (cy 0, 4, .inl (fun _ => 0))), (9, .inl (cy 0, 4, .inl (fun _ => 0))), (10, .inl (cy 0, 20, .inl (fun _ => 0))), (11, .inl (cy 0, 4, .inl (fun _ => 0))), (12, .inl (cy 1, 12, .inr (.inl (fun _ => 0)))), (13, .inl (cy 0, 12, .inl (fun _ => 0))), (14, .inl (cy 0, 12, .inl (fun _ => 0))), (15, .inr (4, [.ref (nw 15), .int 0, .int 0, .int 0, .ref (nw 16)])), (16, .inl (cy 0, 300, .inl (fun _ => 0))), (17, .inl (cy 0, 30, .inl (fun _ => 0))), (0, .inr (6, (((f0.set 0 (.ref (nw 0))).set 2 (.int (-1))).set 3 (.ref (nw 17))))), (18, .inl (cy 0, 0, .inl (fun _ => 0)))]) D 1 18 ad g A) (cc := cX6_init) (maxL := 1) (ret := none) (by decide) rfl (Nat.le_of_ble_eq_true rfl) ?_
  intro p e s m below meth c A hC hr hlk hnm hO ls hl
  have hC : CallFix p m c cX6_init 1 s [.ref (ad 0)].toArray wq_c_X6_init RX6 := hC
  obtain ⟨hx, hb, hml, hown, hts⟩ := id hC
  have hl : lv_has ls 1 [(0, .ref (ad 0))] := hl
  have hnm : meth.name = "<init>" := hnm
  have i_X4 : ∀ w ∈ wsX40, w ∈ wq_c_X6_init := fun w h => List.mem_cons_of_mem _ (List.mem_append_left _ (List.mem_append_left _ (List.mem_append_right _ h)))
  have i_X6 : ∀ w ∈ wsX60, w ∈ wq_c_X6_init := fun w h => List.mem_cons_of_mem _ (List.mem_append_left _ (List.mem_append_right _ h))
  have i_X7 : ∀ w ∈ wsX70, w ∈ wq_c_X6_init := fun w h => List.mem_cons_of_mem _ (List.mem_append_right _ h)
  refine lv_aload_n hx hb dX6_init_0 rfl (lv_at hl 0 rfl) ?_
  refine cg_obj hC hl.1 (List.mem_of_getElem? (i := 1) rfl) (List.mem_of_getElem? (i := 2) rfl) (List.mem_of_getElem? (i := 3) rfl) dX6_init_1 (Nat.le_of_ble_eq_true rfl) (Nat.le_of_ble_eq_true rfl) ?_
  refine lv_aload_n hx hb dX6_init_4 rfl (lv_at hl 0 rfl) ?_
  refine cg_new hC hO 7 rfl i_X7 tyX7_ok (List.mem_of_getElem? (i := 4) rfl) (List.mem_of_getElem? (i := 5) rfl) (List.mem_of_getElem? (i := 6) rfl) (fs := [.null, .null, .null, .null, .null, .int 0, .null, .null, .null, .null, .null, .int 0, .null, .null, .null, .int 0, .int 0, .null]) (dv_X7) (Nat.le_of_ble_eq_true rfl) (Nat.le_of_ble_eq_true rfl) dX6_init_5 (fun nw_5_1 H hO => ?_)
  refine W.widen (k := 1) (n := 18) (Nat.le_of_ble_eq_true rfl) (Nat.le_of_ble_eq_true rfl) ?_
  have hO : cO D cy A s.heap s 2 (aext 1 nw_5_1 ad) (cup [(1, .inr (7, [.null, .null, .null, .null, .null, .int 0, .null, .null, .null, .null, .null, .int 0, .null, .null, .null, .int 0, .int 0, .null]))] g) _ _ := hO
  refine lv_dup hx hb dX6_init_8 rfl ?_
  refine cg_IN (As := []) (rest := [.ref (nw_5_1 0), .ref (ad 0)]) (mc := 16) (ms := 432) (rm := { frames := 2, cells := 16, slots := 432, locals := 40 }) hC hl.1 hO [1] rfl (c_X7_init l D cy _ _ (f0 := [.null, .null, .null, .null, .null, .int 0, .null, .null, .null, .null, .null, .int 0, .null, .null, .null, .int 0, .int 0, .null]) rfl rfl rfl rfl rfl rfl rfl rfl rfl rfl rfl rfl rfl rfl rfl rfl rfl rfl rfl) gq_c_X6_init_c_X7_init rfl rfl rfl (List.mem_of_getElem? (i := 6) rfl) (host := "CrowToll") (nestL_mem_1) (List.mem_of_getElem? (i := 33) rfl) rfl 0 (by decide +kernel) ⟨Nat.le_of_ble_eq_true rfl, Nat.le_of_ble_eq_true rfl⟩ rfl rfl (Nat.le_of_ble_eq_true rfl) dX6_init_9 ⟨Nat.le_of_ble_eq_true rfl, Nat.le_of_ble_eq_true rfl⟩ (fun nw_9_2 l_9_3 H locs hw hO => ?_)
  obtain rfl := hw
  have hO : cO D cy A s.heap s 18 (aext 2 nw_9_2 (aext 1 nw_5_1 ad)) (cup [(1, .inr (7, [.ref (nw_9_2 0), .ref (nw_9_2 1), .ref (nw_9_2 2), .ref (nw_9_2 3), .ref (nw_9_2 4), .int 0, .ref (nw_9_2 5), .ref (nw_9_2 6), .ref (nw_9_2 7), .ref (nw_9_2 8), .ref (nw_9_2 9), .int 0, .ref (nw_9_2 10), .ref (nw_9_2 11), .ref (nw_9_2 12), .int 0, .int 0, .ref (nw_9_2 13)])), (2, .inl (cy 1, 5, .inr (.inl (fun _ => 0)))), (3, .inl (cy 0, 5, .inl (fun _ => 0))), (4, .inl (cy 0, 5, .inl (fun _ => 0))), (5, .inl (cy 0, 5, .inl (fun _ => 0))), (6, .inl (cy 0, 5, .inl (fun _ => 0))), (7, .inl (cy 1, 4, .inr (.inl (fun _ => 0)))), (8, .inl (cy 0, 4, .inl (fun _ => 0))), (9, .inl (cy 0, 4, .inl (fun _ => 0))), (10, .inl (cy 0, 20, .inl (fun _ => 0))), (11, .inl (cy 0, 4, .inl (fun _ => 0))), (12, .inl (cy 1, 12, .inr (.inl (fun _ => 0)))), (13, .inl (cy 0, 12, .inl (fun _ => 0))), (14, .inl (cy 0, 12, .inl (fun _ => 0))), (15, .inr (4, [.ref (nw_9_2 14), .int 0, .int 0, .int 0, .ref (nw_9_2 15)])), (16, .inl (cy 0, 300, .inl (fun _ => 0))), (17, .inl (cy 0, 30, .inl (fun _ => 0)))] g) _ _ := hO rfl rfl
  refine W.widen (k := 17) (n := 450) (Nat.le_of_ble_eq_true rfl) (Nat.le_of_ble_eq_true rfl) ?_
  refine cg_putF hC hO hnm 0 (by decide) o0 rfl i_X6 tyX6_ok nmX6 0 (by decide) (List.mem_of_getElem? (i := 34) rfl) rfl rfl rfl rfl (fs_lt f0_0) dX6_init_12 (fun H locs hO => ?_)
  have hO : cO D cy A s.heap s 18 (aext 2 nw_9_2 (aext 1 nw_5_1 ad)) (cup [(1, .inr (7, [.ref (nw_9_2 0), .ref (nw_9_2 1), .ref (nw_9_2 2), .ref (nw_9_2 3), .ref (nw_9_2 4), .int 0, .ref (nw_9_2 5), .ref (nw_9_2 6), .ref (nw_9_2 7), .ref (nw_9_2 8), .ref (nw_9_2 9), .int 0, .ref (nw_9_2 10), .ref (nw_9_2 11), .ref (nw_9_2 12), .int 0, .int 0, .ref (nw_9_2 13)])), (2, .inl (cy 1, 5, .inr (.inl (fun _ => 0)))), (3, .inl (cy 0, 5, .inl (fun _ => 0))), (4, .inl (cy 0, 5, .inl (fun _ => 0))), (5, .inl (cy 0, 5, .inl (fun _ => 0))), (6, .inl (cy 0, 5, .inl (fun _ => 0))), (7, .inl (cy 1, 4, .inr (.inl (fun _ => 0)))), (8, .inl (cy 0, 4, .inl (fun _ => 0))), (9, .inl (cy 0, 4, .inl (fun _ => 0))), (10, .inl (cy 0, 20, .inl (fun _ => 0))), (11, .inl (cy 0, 4, .inl (fun _ => 0))), (12, .inl (cy 1, 12, .inr (.inl (fun _ => 0)))), (13, .inl (cy 0, 12, .inl (fun _ => 0))), (14, .inl (cy 0, 12, .inl (fun _ => 0))), (15, .inr (4, [.ref (nw_9_2 14), .int 0, .int 0, .int 0, .ref (nw_9_2 15)])), (16, .inl (cy 0, 300, .inl (fun _ => 0))), (17, .inl (cy 0, 30, .inl (fun _ => 0))), (0, .inr (6, (f0.set 0 (.ref (nw_5_1 0)))))] g) _ _ := hO
  refine lv_aload_n hx hb dX6_init_15 rfl (lv_at hl 0 rfl) ?_
  refine lv_iconst (v := (-1)) hx hb dX6_init_16 (by decide) ?_
  refine cg_put hC hO 0 (by decide) rfl rfl i_X6 tyX6_ok nmX6 2 (by decide) (List.mem_of_getElem? (i := 35) rfl) rfl rfl rfl (fs_lt (fs_ne (by decide) f0_2)) dX6_init_17 (fun H locs hO => ?_)
  have hO : cO D cy A s.heap s 18 (aext 2 nw_9_2 (aext 1 nw_5_1 ad)) (cup [(1, .inr (7, [.ref (nw_9_2 0), .ref (nw_9_2 1), .ref (nw_9_2 2), .ref (nw_9_2 3), .ref (nw_9_2 4), .int 0, .ref (nw_9_2 5), .ref (nw_9_2 6), .ref (nw_9_2 7), .ref (nw_9_2 8), .ref (nw_9_2 9), .int 0, .ref (nw_9_2 10), .ref (nw_9_2 11), .ref (nw_9_2 12), .int 0, .int 0, .ref (nw_9_2 13)])), (2, .inl (cy 1, 5, .inr (.inl (fun _ => 0)))), (3, .inl (cy 0, 5, .inl (fun _ => 0))), (4, .inl (cy 0, 5, .inl (fun _ => 0))), (5, .inl (cy 0, 5, .inl (fun _ => 0))), (6, .inl (cy 0, 5, .inl (fun _ => 0))), (7, .inl (cy 1, 4, .inr (.inl (fun _ => 0)))), (8, .inl (cy 0, 4, .inl (fun _ => 0))), (9, .inl (cy 0, 4, .inl (fun _ => 0))), (10, .inl (cy 0, 20, .inl (fun _ => 0))), (11, .inl (cy 0, 4, .inl (fun _ => 0))), (12, .inl (cy 1, 12, .inr (.inl (fun _ => 0)))), (13, .inl (cy 0, 12, .inl (fun _ => 0))), (14, .inl (cy 0, 12, .inl (fun _ => 0))), (15, .inr (4, [.ref (nw_9_2 14), .int 0, .int 0, .int 0, .ref (nw_9_2 15)])), (16, .inl (cy 0, 300, .inl (fun _ => 0))), (17, .inl (cy 0, 30, .inl (fun _ => 0))), (0, .inr (6, ((f0.set 0 (.ref (nw_5_1 0))).set 2 (.int (-1)))))] g) _ _ := hO
  refine lv_aload_n hx hb dX6_init_20 rfl (lv_at hl 0 rfl) ?_
  refine lv_iconst (v := 0) hx hb dX6_init_21 (by decide) ?_
  refine cg_newa (atype := .int) hC hO rfl (List.mem_of_getElem? (i := 11) rfl) 0 rfl (fun _ h => by cases h) (a0 := (0, .inl (fun _ => 0))) (fun _ => rfl) (by decide) (N' := 0) (by decide) (Nat.le_of_ble_eq_true rfl) (Nat.le_of_ble_eq_true rfl) (Nat.le_of_ble_eq_true rfl) dX6_init_22 (fun nw_22_5 H hO => ?_)
  refine W.widen (k := 18) (n := 450) (Nat.le_of_ble_eq_true rfl) (Nat.le_of_ble_eq_true rfl) ?_
  have hO : cO D cy A s.heap s 19 (aext 18 nw_22_5 (aext 2 nw_9_2 (aext 1 nw_5_1 ad))) (cup [(1, .inr (7, [.ref (nw_9_2 0), .ref (nw_9_2 1), .ref (nw_9_2 2), .ref (nw_9_2 3), .ref (nw_9_2 4), .int 0, .ref (nw_9_2 5), .ref (nw_9_2 6), .ref (nw_9_2 7), .ref (nw_9_2 8), .ref (nw_9_2 9), .int 0, .ref (nw_9_2 10), .ref (nw_9_2 11), .ref (nw_9_2 12), .int 0, .int 0, .ref (nw_9_2 13)])), (2, .inl (cy 1, 5, .inr (.inl (fun _ => 0)))), (3, .inl (cy 0, 5, .inl (fun _ => 0))), (4, .inl (cy 0, 5, .inl (fun _ => 0))), (5, .inl (cy 0, 5, .inl (fun _ => 0))), (6, .inl (cy 0, 5, .inl (fun _ => 0))), (7, .inl (cy 1, 4, .inr (.inl (fun _ => 0)))), (8, .inl (cy 0, 4, .inl (fun _ => 0))), (9, .inl (cy 0, 4, .inl (fun _ => 0))), (10, .inl (cy 0, 20, .inl (fun _ => 0))), (11, .inl (cy 0, 4, .inl (fun _ => 0))), (12, .inl (cy 1, 12, .inr (.inl (fun _ => 0)))), (13, .inl (cy 0, 12, .inl (fun _ => 0))), (14, .inl (cy 0, 12, .inl (fun _ => 0))), (15, .inr (4, [.ref (nw_9_2 14), .int 0, .int 0, .int 0, .ref (nw_9_2 15)])), (16, .inl (cy 0, 300, .inl (fun _ => 0))), (17, .inl (cy 0, 30, .inl (fun _ => 0))), (0, .inr (6, ((f0.set 0 (.ref (nw_5_1 0))).set 2 (.int (-1))))), (18, .inl (cy 0, 0, .inl (fun _ => 0)))] g) _ _ := hO
  refine cg_put hC hO 0 (by decide) rfl rfl i_X6 tyX6_ok nmX6 3 (by decide) (List.mem_of_getElem? (i := 36) rfl) rfl rfl rfl (fs_lt (fs_ne (by decide) (fs_ne (by decide) f0_3))) dX6_init_24 (fun H locs hO => ?_)
  have hO : cO D cy A s.heap s 19 (aext 18 nw_22_5 (aext 2 nw_9_2 (aext 1 nw_5_1 ad))) (cup [(1, .inr (7, [.ref (nw_9_2 0), .ref (nw_9_2 1), .ref (nw_9_2 2), .ref (nw_9_2 3), .ref (nw_9_2 4), .int 0, .ref (nw_9_2 5), .ref (nw_9_2 6), .ref (nw_9_2 7), .ref (nw_9_2 8), .ref (nw_9_2 9), .int 0, .ref (nw_9_2 10), .ref (nw_9_2 11), .ref (nw_9_2 12), .int 0, .int 0, .ref (nw_9_2 13)])), (2, .inl (cy 1, 5, .inr (.inl (fun _ => 0)))), (3, .inl (cy 0, 5, .inl (fun _ => 0))), (4, .inl (cy 0, 5, .inl (fun _ => 0))), (5, .inl (cy 0, 5, .inl (fun _ => 0))), (6, .inl (cy 0, 5, .inl (fun _ => 0))), (7, .inl (cy 1, 4, .inr (.inl (fun _ => 0)))), (8, .inl (cy 0, 4, .inl (fun _ => 0))), (9, .inl (cy 0, 4, .inl (fun _ => 0))), (10, .inl (cy 0, 20, .inl (fun _ => 0))), (11, .inl (cy 0, 4, .inl (fun _ => 0))), (12, .inl (cy 1, 12, .inr (.inl (fun _ => 0)))), (13, .inl (cy 0, 12, .inl (fun _ => 0))), (14, .inl (cy 0, 12, .inl (fun _ => 0))), (15, .inr (4, [.ref (nw_9_2 14), .int 0, .int 0, .int 0, .ref (nw_9_2 15)])), (16, .inl (cy 0, 300, .inl (fun _ => 0))), (17, .inl (cy 0, 30, .inl (fun _ => 0))), (0, .inr (6, (((f0.set 0 (.ref (nw_5_1 0))).set 2 (.int (-1))).set 3 (.ref (nw_22_5 0))))), (18, .inl (cy 0, 0, .inl (fun _ => 0)))] g) _ _ := hO
  exact cg_vret (nw := fun i => (aext 18 nw_22_5 (aext 2 nw_9_2 (aext 1 nw_5_1 ad))) (1 + i)) hC hr hlk (hO.fold (k := 1) (n := 18) (ad := ad) (fun j hj => by match j, hj with | 0, _ => rfl)) (Nat.le_of_ble_eq_true rfl) (Nat.le_of_ble_eq_true rfl) rfl dX6_init_27

theorem dX5_init_0 : decode cX5_init 0 = .ok (.aload_n 0, 1) := by decide +kernel
theorem dX5_init_1 : decode cX5_init 1 = .ok (.invokespecial 3, 3) := by decide +kernel
theorem dX5_init_4 : decode cX5_init 4 = .ok (.aload_n 0, 1) := by decide +kernel
theorem dX5_init_5 : decode cX5_init 5 = .ok (.bipush 80, 2) := by decide +kernel
theorem dX5_init_7 : decode cX5_init 7 = .ok (.newarray .int, 2) := by decide +kernel
theorem dX5_init_9 : decode cX5_init 9 = .ok (.putfield 9, 3) := by decide +kernel
theorem dX5_init_12 : decode cX5_init 12 = .ok (.aload_n 0, 1) := by decide +kernel
theorem dX5_init_13 : decode cX5_init 13 = .ok (.bipush 80, 2) := by decide +kernel
theorem dX5_init_15 : decode cX5_init 15 = .ok (.newarray .int, 2) := by decide +kernel
theorem dX5_init_17 : decode cX5_init 17 = .ok (.putfield 15, 3) := by decide +kernel
theorem dX5_init_20 : decode cX5_init 20 = .ok (.aload_n 0, 1) := by decide +kernel
theorem dX5_init_21 : decode cX5_init 21 = .ok (.aload_n 1, 1) := by decide +kernel
theorem dX5_init_22 : decode cX5_init 22 = .ok (.putfield 18, 3) := by decide +kernel
theorem dX5_init_25 : decode cX5_init 25 = .ok (.return_, 1) := by decide +kernel
def wq_c_X5_init : List Cond := Cond.code yX5_init cX5_init 2 none :: (([Cond.methodLink RX5 3 objectInit, Cond.instanceMethod objectInit, Cond.code objectInit ⟨#[0xb1]⟩ 1 none, Cond.arrayClass .int, Cond.fieldLink RX5 9 "CrowToll$Prices" "sacksKnown" "[I", Cond.fieldLink RX5 15 "CrowToll$Prices" "known" "[I", Cond.fieldLink RX5 18 "CrowToll$Prices" "road" "LCrowToll$Road;"] : List Cond) ++ wsX50)
set_option maxHeartbeats 8000000 in
set_option maxRecDepth 100000 in
theorem c_X5_init (l : Launch) (D : va_G) (cy : Nat → ClassId) (ad : Nat → Nat) (g : Nat → va_E) {f0 : List Value} {f1 : List Value} (o0 : g 0 = .inr (5, f0)) (f0_0 : f0[0]? = some (.null)) (f0_1 : f0[1]? = some (.null)) (f0_2 : f0[2]? = some (.null)) (o1 : g 1 = .inr (7, f1)) : cMv l yX5_init wq_c_X5_init { frames := 1, cells := 2, slots := 160, locals := 20 } 2 2 2 160 D cy ad g [.ref (ad 0), .ref (ad 1)] (fun nw lu => lu = [(2, .inl (cy 0, 80, .inl (fun _ => 0))), (0, .inr (5, (((f0.set 1 (.ref (nw 0))).set 2 (.ref (nw 1))).set 0 (.ref (ad 1))))), (3, .inl (cy 0, 80, .inl (fun _ => 0)))]) := by
  refine cM_of (Qc := fun A => cQv (fun nw lu => lu = [(2, .inl (cy 0, 80, .inl (fun _ => 0))), (0, .inr (5, (((f0.set 1 (.ref (nw 0))).set 2 (.ref (nw 1))).set 0 (.ref (ad 1))))), (3, .inl (cy 0, 80, .inl (fun _ => 0)))]) D 2 2 ad g A) (cc := cX5_init) (maxL := 2) (ret := none) (by decide) rfl (Nat.le_of_ble_eq_true rfl) ?_
  intro p e s m below meth c A hC hr hlk hnm hO ls hl
  have hC : CallFix p m c cX5_init 2 s [.ref (ad 0), .ref (ad 1)].toArray wq_c_X5_init RX5 := hC
  obtain ⟨hx, hb, hml, hown, hts⟩ := id hC
  have hl : lv_has ls 2 [(0, .ref (ad 0)), (1, .ref (ad 1))] := hl
  have hnm : meth.name = "<init>" := hnm
  have i_X5 : ∀ w ∈ wsX50, w ∈ wq_c_X5_init := fun w h => List.mem_cons_of_mem _ (List.mem_append_right _ h)
  refine lv_aload_n hx hb dX5_init_0 rfl (lv_at hl 0 rfl) ?_
  refine cg_obj hC hl.1 (List.mem_of_getElem? (i := 1) rfl) (List.mem_of_getElem? (i := 2) rfl) (List.mem_of_getElem? (i := 3) rfl) dX5_init_1 (Nat.le_of_ble_eq_true rfl) (Nat.le_of_ble_eq_true rfl) ?_
  refine lv_aload_n hx hb dX5_init_4 rfl (lv_at hl 0 rfl) ?_
  refine lv_bipush (v := 80) hx hb dX5_init_5 (by decide) ?_
  refine cg_newa (atype := .int) hC hO rfl (List.mem_of_getElem? (i := 4) rfl) 0 rfl (fun _ h => by cases h) (a0 := (80, .inl (fun _ => 0))) (fun _ => rfl) (by decide) (N' := 80) (by decide) (Nat.le_of_ble_eq_true rfl) (Nat.le_of_ble_eq_true rfl) (Nat.le_of_ble_eq_true rfl) dX5_init_7 (fun nw_7_1 H hO => ?_)
  refine W.widen (k := 1) (n := 80) (Nat.le_of_ble_eq_true rfl) (Nat.le_of_ble_eq_true rfl) ?_
  have hO : cO D cy A s.heap s 3 (aext 2 nw_7_1 ad) (cup [(2, .inl (cy 0, 80, .inl (fun _ => 0)))] g) _ _ := hO
  refine cg_putF hC hO hnm 0 (by decide) o0 rfl i_X5 tyX5_ok nmX5 1 (by decide) (List.mem_of_getElem? (i := 5) rfl) rfl rfl rfl rfl (fs_lt f0_1) dX5_init_9 (fun H locs hO => ?_)
  have hO : cO D cy A s.heap s 3 (aext 2 nw_7_1 ad) (cup [(2, .inl (cy 0, 80, .inl (fun _ => 0))), (0, .inr (5, (f0.set 1 (.ref (nw_7_1 0)))))] g) _ _ := hO
  refine lv_aload_n hx hb dX5_init_12 rfl (lv_at hl 0 rfl) ?_
  refine lv_bipush (v := 80) hx hb dX5_init_13 (by decide) ?_
  refine cg_newa (atype := .int) hC hO rfl (List.mem_of_getElem? (i := 4) rfl) 0 rfl (fun _ h => by cases h) (a0 := (80, .inl (fun _ => 0))) (fun _ => rfl) (by decide) (N' := 80) (by decide) (Nat.le_of_ble_eq_true rfl) (Nat.le_of_ble_eq_true rfl) (Nat.le_of_ble_eq_true rfl) dX5_init_15 (fun nw_15_2 H hO => ?_)
  refine W.widen (k := 2) (n := 160) (Nat.le_of_ble_eq_true rfl) (Nat.le_of_ble_eq_true rfl) ?_
  have hO : cO D cy A s.heap s 4 (aext 3 nw_15_2 (aext 2 nw_7_1 ad)) (cup [(2, .inl (cy 0, 80, .inl (fun _ => 0))), (0, .inr (5, (f0.set 1 (.ref (nw_7_1 0))))), (3, .inl (cy 0, 80, .inl (fun _ => 0)))] g) _ _ := hO
  refine cg_putF hC hO hnm 0 (by decide) rfl rfl i_X5 tyX5_ok nmX5 2 (by decide) (List.mem_of_getElem? (i := 6) rfl) rfl rfl rfl rfl (fs_lt (fs_ne (by decide) f0_2)) dX5_init_17 (fun H locs hO => ?_)
  have hO : cO D cy A s.heap s 4 (aext 3 nw_15_2 (aext 2 nw_7_1 ad)) (cup [(2, .inl (cy 0, 80, .inl (fun _ => 0))), (0, .inr (5, ((f0.set 1 (.ref (nw_7_1 0))).set 2 (.ref (nw_15_2 0))))), (3, .inl (cy 0, 80, .inl (fun _ => 0)))] g) _ _ := hO
  refine lv_aload_n hx hb dX5_init_20 rfl (lv_at hl 0 rfl) ?_
  refine lv_aload_n hx hb dX5_init_21 rfl (lv_at hl 1 rfl) ?_
  refine cg_putF hC hO hnm 0 (by decide) rfl rfl i_X5 tyX5_ok nmX5 0 (by decide) (List.mem_of_getElem? (i := 7) rfl) rfl rfl rfl rfl (fs_lt (fs_ne (by decide) (fs_ne (by decide) f0_0))) dX5_init_22 (fun H locs hO => ?_)
  have hO : cO D cy A s.heap s 4 (aext 3 nw_15_2 (aext 2 nw_7_1 ad)) (cup [(2, .inl (cy 0, 80, .inl (fun _ => 0))), (0, .inr (5, (((f0.set 1 (.ref (nw_7_1 0))).set 2 (.ref (nw_15_2 0))).set 0 (.ref (ad 1))))), (3, .inl (cy 0, 80, .inl (fun _ => 0)))] g) _ _ := hO
  exact cg_vret (nw := fun i => (aext 3 nw_15_2 (aext 2 nw_7_1 ad)) (2 + i)) hC hr hlk (hO.fold (k := 2) (n := 2) (ad := ad) (fun j hj => by match j, hj with | 0, _ => rfl | 1, _ => rfl)) (Nat.le_of_ble_eq_true rfl) (Nat.le_of_ble_eq_true rfl) rfl dX5_init_25

theorem dX10_init_0 : decode cX10_init 0 = .ok (.aload_n 0, 1) := by decide +kernel
theorem dX10_init_1 : decode cX10_init 1 = .ok (.invokespecial 3, 3) := by decide +kernel
theorem dX10_init_4 : decode cX10_init 4 = .ok (.aload_n 0, 1) := by decide +kernel
theorem dX10_init_5 : decode cX10_init 5 = .ok (.iconst 5, 1) := by decide +kernel
theorem dX10_init_6 : decode cX10_init 6 = .ok (.newarray .int, 2) := by decide +kernel
theorem dX10_init_8 : decode cX10_init 8 = .ok (.putfield 9, 3) := by decide +kernel
theorem dX10_init_11 : decode cX10_init 11 = .ok (.aload_n 0, 1) := by decide +kernel
theorem dX10_init_12 : decode cX10_init 12 = .ok (.bipush 20, 2) := by decide +kernel
theorem dX10_init_14 : decode cX10_init 14 = .ok (.newarray .int, 2) := by decide +kernel
theorem dX10_init_16 : decode cX10_init 16 = .ok (.putfield 15, 3) := by decide +kernel
theorem dX10_init_19 : decode cX10_init 19 = .ok (.aload_n 0, 1) := by decide +kernel
theorem dX10_init_20 : decode cX10_init 20 = .ok (.iconst 4, 1) := by decide +kernel
theorem dX10_init_21 : decode cX10_init 21 = .ok (.newarray .int, 2) := by decide +kernel
theorem dX10_init_23 : decode cX10_init 23 = .ok (.putfield 18, 3) := by decide +kernel
theorem dX10_init_26 : decode cX10_init 26 = .ok (.aload_n 0, 1) := by decide +kernel
theorem dX10_init_27 : decode cX10_init 27 = .ok (.iconst 5, 1) := by decide +kernel
theorem dX10_init_28 : decode cX10_init 28 = .ok (.newarray .int, 2) := by decide +kernel
theorem dX10_init_30 : decode cX10_init 30 = .ok (.putfield 21, 3) := by decide +kernel
theorem dX10_init_33 : decode cX10_init 33 = .ok (.aload_n 0, 1) := by decide +kernel
theorem dX10_init_34 : decode cX10_init 34 = .ok (.iconst 5, 1) := by decide +kernel
theorem dX10_init_35 : decode cX10_init 35 = .ok (.newarray .int, 2) := by decide +kernel
theorem dX10_init_37 : decode cX10_init 37 = .ok (.putfield 24, 3) := by decide +kernel
theorem dX10_init_40 : decode cX10_init 40 = .ok (.aload_n 0, 1) := by decide +kernel
theorem dX10_init_41 : decode cX10_init 41 = .ok (.iconst 5, 1) := by decide +kernel
theorem dX10_init_42 : decode cX10_init 42 = .ok (.newarray .int, 2) := by decide +kernel
theorem dX10_init_44 : decode cX10_init 44 = .ok (.putfield 27, 3) := by decide +kernel
theorem dX10_init_47 : decode cX10_init 47 = .ok (.aload_n 0, 1) := by decide +kernel
theorem dX10_init_48 : decode cX10_init 48 = .ok (.iconst 5, 1) := by decide +kernel
theorem dX10_init_49 : decode cX10_init 49 = .ok (.newarray .int, 2) := by decide +kernel
theorem dX10_init_51 : decode cX10_init 51 = .ok (.putfield 30, 3) := by decide +kernel
theorem dX10_init_54 : decode cX10_init 54 = .ok (.aload_n 0, 1) := by decide +kernel
theorem dX10_init_55 : decode cX10_init 55 = .ok (.aload_n 1, 1) := by decide +kernel
theorem dX10_init_56 : decode cX10_init 56 = .ok (.putfield 33, 3) := by decide +kernel
theorem dX10_init_59 : decode cX10_init 59 = .ok (.return_, 1) := by decide +kernel
def wq_c_X10_init : List Cond := Cond.code yX10_init cX10_init 2 none :: (([Cond.methodLink RX10 3 objectInit, Cond.instanceMethod objectInit, Cond.code objectInit ⟨#[0xb1]⟩ 1 none, Cond.arrayClass .int, Cond.fieldLink RX10 9 "CrowToll$Watch" "limit" "[I", Cond.fieldLink RX10 15 "CrowToll$Watch" "seat" "[I", Cond.fieldLink RX10 18 "CrowToll$Watch" "seated" "[I", Cond.fieldLink RX10 21 "CrowToll$Watch" "count" "[I", Cond.fieldLink RX10 24 "CrowToll$Watch" "total" "[I", Cond.fieldLink RX10 27 "CrowToll$Watch" "lookedAt" "[I", Cond.fieldLink RX10 30 "CrowToll$Watch" "countedAt" "[I", Cond.fieldLink RX10 33 "CrowToll$Watch" "road" "LCrowToll$Road;"] : List Cond) ++ wsX100)
set_option maxHeartbeats 8000000 in
set_option maxRecDepth 100000 in
theorem c_X10_init (l : Launch) (D : va_G) (cy : Nat → ClassId) (ad : Nat → Nat) (g : Nat → va_E) {f0 : List Value} {f1 : List Value} (o0 : g 0 = .inr (10, f0)) (f0_0 : f0[0]? = some (.null)) (f0_1 : f0[1]? = some (.null)) (f0_2 : f0[2]? = some (.null)) (f0_3 : f0[3]? = some (.null)) (f0_4 : f0[4]? = some (.null)) (f0_5 : f0[5]? = some (.null)) (f0_6 : f0[6]? = some (.null)) (f0_7 : f0[7]? = some (.null)) (o1 : g 1 = .inr (7, f1)) : cMv l yX10_init wq_c_X10_init { frames := 1, cells := 7, slots := 49, locals := 20 } 2 7 7 49 D cy ad g [.ref (ad 0), .ref (ad 1)] (fun nw lu => lu = [(2, .inl (cy 0, 5, .inl (fun _ => 0))), (0, .inr (10, ((((((((f0.set 1 (.ref (nw 0))).set 2 (.ref (nw 1))).set 3 (.ref (nw 2))).set 4 (.ref (nw 3))).set 5 (.ref (nw 4))).set 6 (.ref (nw 5))).set 7 (.ref (nw 6))).set 0 (.ref (ad 1))))), (3, .inl (cy 0, 20, .inl (fun _ => 0))), (4, .inl (cy 0, 4, .inl (fun _ => 0))), (5, .inl (cy 0, 5, .inl (fun _ => 0))), (6, .inl (cy 0, 5, .inl (fun _ => 0))), (7, .inl (cy 0, 5, .inl (fun _ => 0))), (8, .inl (cy 0, 5, .inl (fun _ => 0)))]) := by
  refine cM_of (Qc := fun A => cQv (fun nw lu => lu = [(2, .inl (cy 0, 5, .inl (fun _ => 0))), (0, .inr (10, ((((((((f0.set 1 (.ref (nw 0))).set 2 (.ref (nw 1))).set 3 (.ref (nw 2))).set 4 (.ref (nw 3))).set 5 (.ref (nw 4))).set 6 (.ref (nw 5))).set 7 (.ref (nw 6))).set 0 (.ref (ad 1))))), (3, .inl (cy 0, 20, .inl (fun _ => 0))), (4, .inl (cy 0, 4, .inl (fun _ => 0))), (5, .inl (cy 0, 5, .inl (fun _ => 0))), (6, .inl (cy 0, 5, .inl (fun _ => 0))), (7, .inl (cy 0, 5, .inl (fun _ => 0))), (8, .inl (cy 0, 5, .inl (fun _ => 0)))]) D 2 7 ad g A) (cc := cX10_init) (maxL := 2) (ret := none) (by decide) rfl (Nat.le_of_ble_eq_true rfl) ?_
  intro p e s m below meth c A hC hr hlk hnm hO ls hl
  have hC : CallFix p m c cX10_init 2 s [.ref (ad 0), .ref (ad 1)].toArray wq_c_X10_init RX10 := hC
  obtain ⟨hx, hb, hml, hown, hts⟩ := id hC
  have hl : lv_has ls 2 [(0, .ref (ad 0)), (1, .ref (ad 1))] := hl
  have hnm : meth.name = "<init>" := hnm
  have i_X10 : ∀ w ∈ wsX100, w ∈ wq_c_X10_init := fun w h => List.mem_cons_of_mem _ (List.mem_append_right _ h)
  refine lv_aload_n hx hb dX10_init_0 rfl (lv_at hl 0 rfl) ?_
  refine cg_obj hC hl.1 (List.mem_of_getElem? (i := 1) rfl) (List.mem_of_getElem? (i := 2) rfl) (List.mem_of_getElem? (i := 3) rfl) dX10_init_1 (Nat.le_of_ble_eq_true rfl) (Nat.le_of_ble_eq_true rfl) ?_
  refine lv_aload_n hx hb dX10_init_4 rfl (lv_at hl 0 rfl) ?_
  refine lv_iconst (v := 5) hx hb dX10_init_5 (by decide) ?_
  refine cg_newa (atype := .int) hC hO rfl (List.mem_of_getElem? (i := 4) rfl) 0 rfl (fun _ h => by cases h) (a0 := (5, .inl (fun _ => 0))) (fun _ => rfl) (by decide) (N' := 5) (by decide) (Nat.le_of_ble_eq_true rfl) (Nat.le_of_ble_eq_true rfl) (Nat.le_of_ble_eq_true rfl) dX10_init_6 (fun nw_6_1 H hO => ?_)
  refine W.widen (k := 1) (n := 5) (Nat.le_of_ble_eq_true rfl) (Nat.le_of_ble_eq_true rfl) ?_
  have hO : cO D cy A s.heap s 3 (aext 2 nw_6_1 ad) (cup [(2, .inl (cy 0, 5, .inl (fun _ => 0)))] g) _ _ := hO
  refine cg_putF hC hO hnm 0 (by decide) o0 rfl i_X10 tyX10_ok nmX10 1 (by decide) (List.mem_of_getElem? (i := 5) rfl) rfl rfl rfl rfl (fs_lt f0_1) dX10_init_8 (fun H locs hO => ?_)
  have hO : cO D cy A s.heap s 3 (aext 2 nw_6_1 ad) (cup [(2, .inl (cy 0, 5, .inl (fun _ => 0))), (0, .inr (10, (f0.set 1 (.ref (nw_6_1 0)))))] g) _ _ := hO
  refine lv_aload_n hx hb dX10_init_11 rfl (lv_at hl 0 rfl) ?_
  refine lv_bipush (v := 20) hx hb dX10_init_12 (by decide) ?_
  refine cg_newa (atype := .int) hC hO rfl (List.mem_of_getElem? (i := 4) rfl) 0 rfl (fun _ h => by cases h) (a0 := (20, .inl (fun _ => 0))) (fun _ => rfl) (by decide) (N' := 20) (by decide) (Nat.le_of_ble_eq_true rfl) (Nat.le_of_ble_eq_true rfl) (Nat.le_of_ble_eq_true rfl) dX10_init_14 (fun nw_14_2 H hO => ?_)
  refine W.widen (k := 2) (n := 25) (Nat.le_of_ble_eq_true rfl) (Nat.le_of_ble_eq_true rfl) ?_
  have hO : cO D cy A s.heap s 4 (aext 3 nw_14_2 (aext 2 nw_6_1 ad)) (cup [(2, .inl (cy 0, 5, .inl (fun _ => 0))), (0, .inr (10, (f0.set 1 (.ref (nw_6_1 0))))), (3, .inl (cy 0, 20, .inl (fun _ => 0)))] g) _ _ := hO
  refine cg_putF hC hO hnm 0 (by decide) rfl rfl i_X10 tyX10_ok nmX10 2 (by decide) (List.mem_of_getElem? (i := 6) rfl) rfl rfl rfl rfl (fs_lt (fs_ne (by decide) f0_2)) dX10_init_16 (fun H locs hO => ?_)
  have hO : cO D cy A s.heap s 4 (aext 3 nw_14_2 (aext 2 nw_6_1 ad)) (cup [(2, .inl (cy 0, 5, .inl (fun _ => 0))), (0, .inr (10, ((f0.set 1 (.ref (nw_6_1 0))).set 2 (.ref (nw_14_2 0))))), (3, .inl (cy 0, 20, .inl (fun _ => 0)))] g) _ _ := hO
  refine lv_aload_n hx hb dX10_init_19 rfl (lv_at hl 0 rfl) ?_
  refine lv_iconst (v := 4) hx hb dX10_init_20 (by decide) ?_
  refine cg_newa (atype := .int) hC hO rfl (List.mem_of_getElem? (i := 4) rfl) 0 rfl (fun _ h => by cases h) (a0 := (4, .inl (fun _ => 0))) (fun _ => rfl) (by decide) (N' := 4) (by decide) (Nat.le_of_ble_eq_true rfl) (Nat.le_of_ble_eq_true rfl) (Nat.le_of_ble_eq_true rfl) dX10_init_21 (fun nw_21_3 H hO => ?_)
  refine W.widen (k := 3) (n := 29) (Nat.le_of_ble_eq_true rfl) (Nat.le_of_ble_eq_true rfl) ?_
  have hO : cO D cy A s.heap s 5 (aext 4 nw_21_3 (aext 3 nw_14_2 (aext 2 nw_6_1 ad))) (cup [(2, .inl (cy 0, 5, .inl (fun _ => 0))), (0, .inr (10, ((f0.set 1 (.ref (nw_6_1 0))).set 2 (.ref (nw_14_2 0))))), (3, .inl (cy 0, 20, .inl (fun _ => 0))), (4, .inl (cy 0, 4, .inl (fun _ => 0)))] g) _ _ := hO
  refine cg_putF hC hO hnm 0 (by decide) rfl rfl i_X10 tyX10_ok nmX10 3 (by decide) (List.mem_of_getElem? (i := 7) rfl) rfl rfl rfl rfl (fs_lt (fs_ne (by decide) (fs_ne (by decide) f0_3))) dX10_init_23 (fun H locs hO => ?_)
  have hO : cO D cy A s.heap s 5 (aext 4 nw_21_3 (aext 3 nw_14_2 (aext 2 nw_6_1 ad))) (cup [(2, .inl (cy 0, 5, .inl (fun _ => 0))), (0, .inr (10, (((f0.set 1 (.ref (nw_6_1 0))).set 2 (.ref (nw_14_2 0))).set 3 (.ref (nw_21_3 0))))), (3, .inl (cy 0, 20, .inl (fun _ => 0))), (4, .inl (cy 0, 4, .inl (fun _ => 0)))] g) _ _ := hO
  refine lv_aload_n hx hb dX10_init_26 rfl (lv_at hl 0 rfl) ?_
  refine lv_iconst (v := 5) hx hb dX10_init_27 (by decide) ?_
  refine cg_newa (atype := .int) hC hO rfl (List.mem_of_getElem? (i := 4) rfl) 0 rfl (fun _ h => by cases h) (a0 := (5, .inl (fun _ => 0))) (fun _ => rfl) (by decide) (N' := 5) (by decide) (Nat.le_of_ble_eq_true rfl) (Nat.le_of_ble_eq_true rfl) (Nat.le_of_ble_eq_true rfl) dX10_init_28 (fun nw_28_4 H hO => ?_)
  refine W.widen (k := 4) (n := 34) (Nat.le_of_ble_eq_true rfl) (Nat.le_of_ble_eq_true rfl) ?_
  have hO : cO D cy A s.heap s 6 (aext 5 nw_28_4 (aext 4 nw_21_3 (aext 3 nw_14_2 (aext 2 nw_6_1 ad)))) (cup [(2, .inl (cy 0, 5, .inl (fun _ => 0))), (0, .inr (10, (((f0.set 1 (.ref (nw_6_1 0))).set 2 (.ref (nw_14_2 0))).set 3 (.ref (nw_21_3 0))))), (3, .inl (cy 0, 20, .inl (fun _ => 0))), (4, .inl (cy 0, 4, .inl (fun _ => 0))), (5, .inl (cy 0, 5, .inl (fun _ => 0)))] g) _ _ := hO
  refine cg_putF hC hO hnm 0 (by decide) rfl rfl i_X10 tyX10_ok nmX10 4 (by decide) (List.mem_of_getElem? (i := 8) rfl) rfl rfl rfl rfl (fs_lt (fs_ne (by decide) (fs_ne (by decide) (fs_ne (by decide) f0_4)))) dX10_init_30 (fun H locs hO => ?_)
  have hO : cO D cy A s.heap s 6 (aext 5 nw_28_4 (aext 4 nw_21_3 (aext 3 nw_14_2 (aext 2 nw_6_1 ad)))) (cup [(2, .inl (cy 0, 5, .inl (fun _ => 0))), (0, .inr (10, ((((f0.set 1 (.ref (nw_6_1 0))).set 2 (.ref (nw_14_2 0))).set 3 (.ref (nw_21_3 0))).set 4 (.ref (nw_28_4 0))))), (3, .inl (cy 0, 20, .inl (fun _ => 0))), (4, .inl (cy 0, 4, .inl (fun _ => 0))), (5, .inl (cy 0, 5, .inl (fun _ => 0)))] g) _ _ := hO
  refine lv_aload_n hx hb dX10_init_33 rfl (lv_at hl 0 rfl) ?_
  refine lv_iconst (v := 5) hx hb dX10_init_34 (by decide) ?_
  refine cg_newa (atype := .int) hC hO rfl (List.mem_of_getElem? (i := 4) rfl) 0 rfl (fun _ h => by cases h) (a0 := (5, .inl (fun _ => 0))) (fun _ => rfl) (by decide) (N' := 5) (by decide) (Nat.le_of_ble_eq_true rfl) (Nat.le_of_ble_eq_true rfl) (Nat.le_of_ble_eq_true rfl) dX10_init_35 (fun nw_35_5 H hO => ?_)
  refine W.widen (k := 5) (n := 39) (Nat.le_of_ble_eq_true rfl) (Nat.le_of_ble_eq_true rfl) ?_
  have hO : cO D cy A s.heap s 7 (aext 6 nw_35_5 (aext 5 nw_28_4 (aext 4 nw_21_3 (aext 3 nw_14_2 (aext 2 nw_6_1 ad))))) (cup [(2, .inl (cy 0, 5, .inl (fun _ => 0))), (0, .inr (10, ((((f0.set 1 (.ref (nw_6_1 0))).set 2 (.ref (nw_14_2 0))).set 3 (.ref (nw_21_3 0))).set 4 (.ref (nw_28_4 0))))), (3, .inl (cy 0, 20, .inl (fun _ => 0))), (4, .inl (cy 0, 4, .inl (fun _ => 0))), (5, .inl (cy 0, 5, .inl (fun _ => 0))), (6, .inl (cy 0, 5, .inl (fun _ => 0)))] g) _ _ := hO
  refine cg_putF hC hO hnm 0 (by decide) rfl rfl i_X10 tyX10_ok nmX10 5 (by decide) (List.mem_of_getElem? (i := 9) rfl) rfl rfl rfl rfl (fs_lt (fs_ne (by decide) (fs_ne (by decide) (fs_ne (by decide) (fs_ne (by decide) f0_5))))) dX10_init_37 (fun H locs hO => ?_)
  have hO : cO D cy A s.heap s 7 (aext 6 nw_35_5 (aext 5 nw_28_4 (aext 4 nw_21_3 (aext 3 nw_14_2 (aext 2 nw_6_1 ad))))) (cup [(2, .inl (cy 0, 5, .inl (fun _ => 0))), (0, .inr (10, (((((f0.set 1 (.ref (nw_6_1 0))).set 2 (.ref (nw_14_2 0))).set 3 (.ref (nw_21_3 0))).set 4 (.ref (nw_28_4 0))).set 5 (.ref (nw_35_5 0))))), (3, .inl (cy 0, 20, .inl (fun _ => 0))), (4, .inl (cy 0, 4, .inl (fun _ => 0))), (5, .inl (cy 0, 5, .inl (fun _ => 0))), (6, .inl (cy 0, 5, .inl (fun _ => 0)))] g) _ _ := hO
  refine lv_aload_n hx hb dX10_init_40 rfl (lv_at hl 0 rfl) ?_
  refine lv_iconst (v := 5) hx hb dX10_init_41 (by decide) ?_
  refine cg_newa (atype := .int) hC hO rfl (List.mem_of_getElem? (i := 4) rfl) 0 rfl (fun _ h => by cases h) (a0 := (5, .inl (fun _ => 0))) (fun _ => rfl) (by decide) (N' := 5) (by decide) (Nat.le_of_ble_eq_true rfl) (Nat.le_of_ble_eq_true rfl) (Nat.le_of_ble_eq_true rfl) dX10_init_42 (fun nw_42_6 H hO => ?_)
  refine W.widen (k := 6) (n := 44) (Nat.le_of_ble_eq_true rfl) (Nat.le_of_ble_eq_true rfl) ?_
  have hO : cO D cy A s.heap s 8 (aext 7 nw_42_6 (aext 6 nw_35_5 (aext 5 nw_28_4 (aext 4 nw_21_3 (aext 3 nw_14_2 (aext 2 nw_6_1 ad)))))) (cup [(2, .inl (cy 0, 5, .inl (fun _ => 0))), (0, .inr (10, (((((f0.set 1 (.ref (nw_6_1 0))).set 2 (.ref (nw_14_2 0))).set 3 (.ref (nw_21_3 0))).set 4 (.ref (nw_28_4 0))).set 5 (.ref (nw_35_5 0))))), (3, .inl (cy 0, 20, .inl (fun _ => 0))), (4, .inl (cy 0, 4, .inl (fun _ => 0))), (5, .inl (cy 0, 5, .inl (fun _ => 0))), (6, .inl (cy 0, 5, .inl (fun _ => 0))), (7, .inl (cy 0, 5, .inl (fun _ => 0)))] g) _ _ := hO
  refine cg_putF hC hO hnm 0 (by decide) rfl rfl i_X10 tyX10_ok nmX10 6 (by decide) (List.mem_of_getElem? (i := 10) rfl) rfl rfl rfl rfl (fs_lt (fs_ne (by decide) (fs_ne (by decide) (fs_ne (by decide) (fs_ne (by decide) (fs_ne (by decide) f0_6)))))) dX10_init_44 (fun H locs hO => ?_)
  have hO : cO D cy A s.heap s 8 (aext 7 nw_42_6 (aext 6 nw_35_5 (aext 5 nw_28_4 (aext 4 nw_21_3 (aext 3 nw_14_2 (aext 2 nw_6_1 ad)))))) (cup [(2, .inl (cy 0, 5, .inl (fun _ => 0))), (0, .inr (10, ((((((f0.set 1 (.ref (nw_6_1 0))).set 2 (.ref (nw_14_2 0))).set 3 (.ref (nw_21_3 0))).set 4 (.ref (nw_28_4 0))).set 5 (.ref (nw_35_5 0))).set 6 (.ref (nw_42_6 0))))), (3, .inl (cy 0, 20, .inl (fun _ => 0))), (4, .inl (cy 0, 4, .inl (fun _ => 0))), (5, .inl (cy 0, 5, .inl (fun _ => 0))), (6, .inl (cy 0, 5, .inl (fun _ => 0))), (7, .inl (cy 0, 5, .inl (fun _ => 0)))] g) _ _ := hO
  refine lv_aload_n hx hb dX10_init_47 rfl (lv_at hl 0 rfl) ?_
  refine lv_iconst (v := 5) hx hb dX10_init_48 (by decide) ?_
  refine cg_newa (atype := .int) hC hO rfl (List.mem_of_getElem? (i := 4) rfl) 0 rfl (fun _ h => by cases h) (a0 := (5, .inl (fun _ => 0))) (fun _ => rfl) (by decide) (N' := 5) (by decide) (Nat.le_of_ble_eq_true rfl) (Nat.le_of_ble_eq_true rfl) (Nat.le_of_ble_eq_true rfl) dX10_init_49 (fun nw_49_7 H hO => ?_)
  refine W.widen (k := 7) (n := 49) (Nat.le_of_ble_eq_true rfl) (Nat.le_of_ble_eq_true rfl) ?_
  have hO : cO D cy A s.heap s 9 (aext 8 nw_49_7 (aext 7 nw_42_6 (aext 6 nw_35_5 (aext 5 nw_28_4 (aext 4 nw_21_3 (aext 3 nw_14_2 (aext 2 nw_6_1 ad))))))) (cup [(2, .inl (cy 0, 5, .inl (fun _ => 0))), (0, .inr (10, ((((((f0.set 1 (.ref (nw_6_1 0))).set 2 (.ref (nw_14_2 0))).set 3 (.ref (nw_21_3 0))).set 4 (.ref (nw_28_4 0))).set 5 (.ref (nw_35_5 0))).set 6 (.ref (nw_42_6 0))))), (3, .inl (cy 0, 20, .inl (fun _ => 0))), (4, .inl (cy 0, 4, .inl (fun _ => 0))), (5, .inl (cy 0, 5, .inl (fun _ => 0))), (6, .inl (cy 0, 5, .inl (fun _ => 0))), (7, .inl (cy 0, 5, .inl (fun _ => 0))), (8, .inl (cy 0, 5, .inl (fun _ => 0)))] g) _ _ := hO
  refine cg_putF hC hO hnm 0 (by decide) rfl rfl i_X10 tyX10_ok nmX10 7 (by decide) (List.mem_of_getElem? (i := 11) rfl) rfl rfl rfl rfl (fs_lt (fs_ne (by decide) (fs_ne (by decide) (fs_ne (by decide) (fs_ne (by decide) (fs_ne (by decide) (fs_ne (by decide) f0_7))))))) dX10_init_51 (fun H locs hO => ?_)
  have hO : cO D cy A s.heap s 9 (aext 8 nw_49_7 (aext 7 nw_42_6 (aext 6 nw_35_5 (aext 5 nw_28_4 (aext 4 nw_21_3 (aext 3 nw_14_2 (aext 2 nw_6_1 ad))))))) (cup [(2, .inl (cy 0, 5, .inl (fun _ => 0))), (0, .inr (10, (((((((f0.set 1 (.ref (nw_6_1 0))).set 2 (.ref (nw_14_2 0))).set 3 (.ref (nw_21_3 0))).set 4 (.ref (nw_28_4 0))).set 5 (.ref (nw_35_5 0))).set 6 (.ref (nw_42_6 0))).set 7 (.ref (nw_49_7 0))))), (3, .inl (cy 0, 20, .inl (fun _ => 0))), (4, .inl (cy 0, 4, .inl (fun _ => 0))), (5, .inl (cy 0, 5, .inl (fun _ => 0))), (6, .inl (cy 0, 5, .inl (fun _ => 0))), (7, .inl (cy 0, 5, .inl (fun _ => 0))), (8, .inl (cy 0, 5, .inl (fun _ => 0)))] g) _ _ := hO
  refine lv_aload_n hx hb dX10_init_54 rfl (lv_at hl 0 rfl) ?_
  refine lv_aload_n hx hb dX10_init_55 rfl (lv_at hl 1 rfl) ?_
  refine cg_putF hC hO hnm 0 (by decide) rfl rfl i_X10 tyX10_ok nmX10 0 (by decide) (List.mem_of_getElem? (i := 12) rfl) rfl rfl rfl rfl (fs_lt (fs_ne (by decide) (fs_ne (by decide) (fs_ne (by decide) (fs_ne (by decide) (fs_ne (by decide) (fs_ne (by decide) (fs_ne (by decide) f0_0)))))))) dX10_init_56 (fun H locs hO => ?_)
  have hO : cO D cy A s.heap s 9 (aext 8 nw_49_7 (aext 7 nw_42_6 (aext 6 nw_35_5 (aext 5 nw_28_4 (aext 4 nw_21_3 (aext 3 nw_14_2 (aext 2 nw_6_1 ad))))))) (cup [(2, .inl (cy 0, 5, .inl (fun _ => 0))), (0, .inr (10, ((((((((f0.set 1 (.ref (nw_6_1 0))).set 2 (.ref (nw_14_2 0))).set 3 (.ref (nw_21_3 0))).set 4 (.ref (nw_28_4 0))).set 5 (.ref (nw_35_5 0))).set 6 (.ref (nw_42_6 0))).set 7 (.ref (nw_49_7 0))).set 0 (.ref (ad 1))))), (3, .inl (cy 0, 20, .inl (fun _ => 0))), (4, .inl (cy 0, 4, .inl (fun _ => 0))), (5, .inl (cy 0, 5, .inl (fun _ => 0))), (6, .inl (cy 0, 5, .inl (fun _ => 0))), (7, .inl (cy 0, 5, .inl (fun _ => 0))), (8, .inl (cy 0, 5, .inl (fun _ => 0)))] g) _ _ := hO
  exact cg_vret (nw := fun i => (aext 8 nw_49_7 (aext 7 nw_42_6 (aext 6 nw_35_5 (aext 5 nw_28_4 (aext 4 nw_21_3 (aext 3 nw_14_2 (aext 2 nw_6_1 ad))))))) (2 + i)) hC hr hlk (hO.fold (k := 2) (n := 7) (ad := ad) (fun j hj => by match j, hj with | 0, _ => rfl | 1, _ => rfl)) (Nat.le_of_ble_eq_true rfl) (Nat.le_of_ble_eq_true rfl) rfl dX10_init_59

theorem dX8_init_0 : decode cX8_init 0 = .ok (.aload_n 0, 1) := by decide +kernel
theorem dX8_init_1 : decode cX8_init 1 = .ok (.invokespecial 3, 3) := by decide +kernel
theorem dX8_init_4 : decode cX8_init 4 = .ok (.aload_n 0, 1) := by decide +kernel
theorem dX8_init_5 : decode cX8_init 5 = .ok (.bipush 30, 2) := by decide +kernel
theorem dX8_init_7 : decode cX8_init 7 = .ok (.newarray .int, 2) := by decide +kernel
theorem dX8_init_9 : decode cX8_init 9 = .ok (.putfield 9, 3) := by decide +kernel
theorem dX8_init_12 : decode cX8_init 12 = .ok (.aload_n 0, 1) := by decide +kernel
theorem dX8_init_13 : decode cX8_init 13 = .ok (.bipush 30, 2) := by decide +kernel
theorem dX8_init_15 : decode cX8_init 15 = .ok (.newarray .int, 2) := by decide +kernel
theorem dX8_init_17 : decode cX8_init 17 = .ok (.putfield 15, 3) := by decide +kernel
theorem dX8_init_20 : decode cX8_init 20 = .ok (.aload_n 0, 1) := by decide +kernel
theorem dX8_init_21 : decode cX8_init 21 = .ok (.bipush 30, 2) := by decide +kernel
theorem dX8_init_23 : decode cX8_init 23 = .ok (.newarray .int, 2) := by decide +kernel
theorem dX8_init_25 : decode cX8_init 25 = .ok (.putfield 18, 3) := by decide +kernel
theorem dX8_init_28 : decode cX8_init 28 = .ok (.aload_n 0, 1) := by decide +kernel
theorem dX8_init_29 : decode cX8_init 29 = .ok (.bipush 30, 2) := by decide +kernel
theorem dX8_init_31 : decode cX8_init 31 = .ok (.newarray .int, 2) := by decide +kernel
theorem dX8_init_33 : decode cX8_init 33 = .ok (.putfield 21, 3) := by decide +kernel
theorem dX8_init_36 : decode cX8_init 36 = .ok (.aload_n 0, 1) := by decide +kernel
theorem dX8_init_37 : decode cX8_init 37 = .ok (.bipush 30, 2) := by decide +kernel
theorem dX8_init_39 : decode cX8_init 39 = .ok (.newarray .int, 2) := by decide +kernel
theorem dX8_init_41 : decode cX8_init 41 = .ok (.putfield 24, 3) := by decide +kernel
theorem dX8_init_44 : decode cX8_init 44 = .ok (.aload_n 0, 1) := by decide +kernel
theorem dX8_init_45 : decode cX8_init 45 = .ok (.bipush 12, 2) := by decide +kernel
theorem dX8_init_47 : decode cX8_init 47 = .ok (.newarray .int, 2) := by decide +kernel
theorem dX8_init_49 : decode cX8_init 49 = .ok (.putfield 27, 3) := by decide +kernel
theorem dX8_init_52 : decode cX8_init 52 = .ok (.aload_n 0, 1) := by decide +kernel
theorem dX8_init_53 : decode cX8_init 53 = .ok (.sipush 180, 3) := by decide +kernel
theorem dX8_init_56 : decode cX8_init 56 = .ok (.newarray .int, 2) := by decide +kernel
theorem dX8_init_58 : decode cX8_init 58 = .ok (.putfield 32, 3) := by decide +kernel
theorem dX8_init_61 : decode cX8_init 61 = .ok (.aload_n 0, 1) := by decide +kernel
theorem dX8_init_62 : decode cX8_init 62 = .ok (.bipush 30, 2) := by decide +kernel
theorem dX8_init_64 : decode cX8_init 64 = .ok (.newarray .int, 2) := by decide +kernel
theorem dX8_init_66 : decode cX8_init 66 = .ok (.putfield 35, 3) := by decide +kernel
theorem dX8_init_69 : decode cX8_init 69 = .ok (.aload_n 0, 1) := by decide +kernel
theorem dX8_init_70 : decode cX8_init 70 = .ok (.aload_n 1, 1) := by decide +kernel
theorem dX8_init_71 : decode cX8_init 71 = .ok (.putfield 38, 3) := by decide +kernel
theorem dX8_init_74 : decode cX8_init 74 = .ok (.aload_n 0, 1) := by decide +kernel
theorem dX8_init_75 : decode cX8_init 75 = .ok (.new 30, 3) := by decide +kernel
theorem dX8_init_78 : decode cX8_init 78 = .ok (.dup, 1) := by decide +kernel
theorem dX8_init_79 : decode cX8_init 79 = .ok (.aload_n 1, 1) := by decide +kernel
theorem dX8_init_80 : decode cX8_init 80 = .ok (.invokespecial 42, 3) := by decide +kernel
theorem dX8_init_83 : decode cX8_init 83 = .ok (.putfield 45, 3) := by decide +kernel
theorem dX8_init_86 : decode cX8_init 86 = .ok (.return_, 1) := by decide +kernel
def wq_c_X8_init : List Cond := Cond.code yX8_init cX8_init 2 none :: (([Cond.methodLink RX8 3 objectInit, Cond.instanceMethod objectInit, Cond.code objectInit ⟨#[0xb1]⟩ 1 none, Cond.arrayClass .int, Cond.fieldLink RX8 9 "CrowToll$Sights" "minute" "[I", Cond.fieldLink RX8 15 "CrowToll$Sights" "bird" "[I", Cond.fieldLink RX8 18 "CrowToll$Sights" "count" "[I", Cond.fieldLink RX8 21 "CrowToll$Sights" "toldAt" "[I", Cond.fieldLink RX8 24 "CrowToll$Sights" "untoldAt" "[I", Cond.fieldLink RX8 27 "CrowToll$Sights" "order" "[I", Cond.fieldLink RX8 32 "CrowToll$Sights" "saved" "[I", Cond.fieldLink RX8 35 "CrowToll$Sights" "due" "[I", Cond.fieldLink RX8 38 "CrowToll$Sights" "road" "LCrowToll$Road;", Cond.classLink RX8 30 RX10, Cond.instantiable RX10 8, Cond.initialized RX10, Cond.code yX10_init cX10_init 2 none, Cond.methodLink RX10 3 objectInit, Cond.fieldLink RX10 9 "CrowToll$Watch" "limit" "[I", Cond.fieldLink RX10 15 "CrowToll$Watch" "seat" "[I", Cond.fieldLink RX10 18 "CrowToll$Watch" "seated" "[I", Cond.fieldLink RX10 21 "CrowToll$Watch" "count" "[I", Cond.fieldLink RX10 24 "CrowToll$Watch" "total" "[I", Cond.fieldLink RX10 27 "CrowToll$Watch" "lookedAt" "[I", Cond.fieldLink RX10 30 "CrowToll$Watch" "countedAt" "[I", Cond.fieldLink RX10 33 "CrowToll$Watch" "road" "LCrowToll$Road;", Cond.instanceMethod yX10_init, Cond.methodLink RX8 42 yX10_init, Cond.fieldLink RX8 45 "CrowToll$Sights" "watch" "LCrowToll$Watch;"] : List Cond) ++ wsX80 ++ wsX100)
set_option maxRecDepth 20000 in
theorem gr_c_X8_init_c_X10_init : GoodIn wq_c_X8_init wq_c_X10_init := List.forall_mem_cons.mpr ⟨⟨(List.mem_of_getElem? (i := 17) rfl), good_of_word rfl⟩, List.forall_mem_append.mpr ⟨List.forall_mem_cons.mpr ⟨⟨(List.mem_of_getElem? (i := 18) rfl), good_of_word rfl⟩, List.forall_mem_cons.mpr ⟨⟨(List.mem_of_getElem? (i := 2) rfl), good_of_word rfl⟩, List.forall_mem_cons.mpr ⟨⟨(List.mem_of_getElem? (i := 3) rfl), good_of_word rfl⟩, List.forall_mem_cons.mpr ⟨⟨(List.mem_of_getElem? (i := 4) rfl), good_of_word rfl⟩, List.forall_mem_cons.mpr ⟨⟨(List.mem_of_getElem? (i := 19) rfl), good_of_word rfl⟩, List.forall_mem_cons.mpr ⟨⟨(List.mem_of_getElem? (i := 20) rfl), good_of_word rfl⟩, List.forall_mem_cons.mpr ⟨⟨(List.mem_of_getElem? (i := 21) rfl), good_of_word rfl⟩, List.forall_mem_cons.mpr ⟨⟨(List.mem_of_getElem? (i := 22) rfl), good_of_word rfl⟩, List.forall_mem_cons.mpr ⟨⟨(List.mem_of_getElem? (i := 23) rfl), good_of_word rfl⟩, List.forall_mem_cons.mpr ⟨⟨(List.mem_of_getElem? (i := 24) rfl), good_of_word rfl⟩, List.forall_mem_cons.mpr ⟨⟨(List.mem_of_getElem? (i := 25) rfl), good_of_word rfl⟩, List.forall_mem_cons.mpr ⟨⟨(List.mem_of_getElem? (i := 26) rfl), good_of_word rfl⟩, (fun _ h => absurd h List.not_mem_nil)⟩⟩⟩⟩⟩⟩⟩⟩⟩⟩⟩⟩, fun w h => ⟨(fun w h => List.mem_cons_of_mem _ (List.mem_append_right _ h)) w h, good_of_word (List.all_eq_true.mp gw_X10 w h)⟩⟩⟩
theorem gq_c_X8_init_c_X10_init : GoodIn wq_c_X8_init wq_c_X10_init := gr_c_X8_init_c_X10_init
set_option maxHeartbeats 8000000 in
set_option maxRecDepth 100000 in
theorem c_X8_init (l : Launch) (D : va_G) (cy : Nat → ClassId) (ad : Nat → Nat) (g : Nat → va_E) {f0 : List Value} {f1 : List Value} (o0 : g 0 = .inr (8, f0)) (f0_0 : f0[0]? = some (.null)) (f0_1 : f0[1]? = some (.null)) (f0_2 : f0[2]? = some (.null)) (f0_3 : f0[3]? = some (.null)) (f0_4 : f0[4]? = some (.null)) (f0_5 : f0[5]? = some (.null)) (f0_6 : f0[6]? = some (.null)) (f0_7 : f0[7]? = some (.int 0)) (f0_8 : f0[8]? = some (.int 0)) (f0_9 : f0[9]? = some (.null)) (f0_10 : f0[10]? = some (.null)) (f0_11 : f0[11]? = some (.int 0)) (f0_12 : f0[12]? = some (.null)) (f0_13 : f0[13]? = some (.int 0)) (f0_14 : f0[14]? = some (.int 0)) (f0_15 : f0[15]? = some (.int 0)) (o1 : g 1 = .inr (7, f1)) : cMv l yX8_init wq_c_X8_init { frames := 2, cells := 16, slots := 429, locals := 41 } 2 16 16 429 D cy ad g [.ref (ad 0), .ref (ad 1)] (fun nw lu => lu = [(2, .inl (cy 0, 30, .inl (fun _ => 0))), (0, .inr (8, ((((((((((f0.set 2 (.ref (nw 0))).set 3 (.ref (nw 1))).set 4 (.ref (nw 2))).set 5 (.ref (nw 3))).set 6 (.ref (nw 4))).set 9 (.ref (nw 5))).set 10 (.ref (nw 6))).set 12 (.ref (nw 7))).set 0 (.ref (ad 1))).set 1 (.ref (nw 8))))), (3, .inl (cy 0, 30, .inl (fun _ => 0))), (4, .inl (cy 0, 30, .inl (fun _ => 0))), (5, .inl (cy 0, 30, .inl (fun _ => 0))), (6, .inl (cy 0, 30, .inl (fun _ => 0))), (7, .inl (cy 0, 12, .inl (fun _ => 0))), (8, .inl (cy 0, 180, .inl (fun _ => 0))), (9, .inl (cy 0, 30, .inl (fun _ => 0))), (10, .inr (10, [.ref (ad 1), .ref (nw 9), .ref (nw 10), .ref (nw 11), .ref (nw 12), .ref (nw 13), .ref (nw 14), .ref (nw 15)])), (11, .inl (cy 0, 5, .inl (fun _ => 0))), (12, .inl (cy 0, 20, .inl (fun _ => 0))), (13, .inl (cy 0, 4, .inl (fun _ => 0))), (14, .inl (cy 0, 5, .inl (fun _ => 0))), (15, .inl (cy 0, 5, .inl (fun _ => 0))), (16, .inl (cy 0, 5, .inl (fun _ => 0))), (17, .inl (cy 0, 5, .inl (fun _ => 0)))]) := by
  refine cM_of (Qc := fun A => cQv (fun nw lu => lu = [(2, .inl (cy 0, 30, .inl (fun _ => 0))), (0, .inr (8, ((((((((((f0.set 2 (.ref (nw 0))).set 3 (.ref (nw 1))).set 4 (.ref (nw 2))).set 5 (.ref (nw 3))).set 6 (.ref (nw 4))).set 9 (.ref (nw 5))).set 10 (.ref (nw 6))).set 12 (.ref (nw 7))).set 0 (.ref (ad 1))).set 1 (.ref (nw 8))))), (3, .inl (cy 0, 30, .inl (fun _ => 0))), (4, .inl (cy 0, 30, .inl (fun _ => 0))), (5, .inl (cy 0, 30, .inl (fun _ => 0))), (6, .inl (cy 0, 30, .inl (fun _ => 0))), (7, .inl (cy 0, 12, .inl (fun _ => 0))), (8, .inl (cy 0, 180, .inl (fun _ => 0))), (9, .inl (cy 0, 30, .inl (fun _ => 0))), (10, .inr (10, [.ref (ad 1), .ref (nw 9), .ref (nw 10), .ref (nw 11), .ref (nw 12), .ref (nw 13), .ref (nw 14), .ref (nw 15)])), (11, .inl (cy 0, 5, .inl (fun _ => 0))), (12, .inl (cy 0, 20, .inl (fun _ => 0))), (13, .inl (cy 0, 4, .inl (fun _ => 0))), (14, .inl (cy 0, 5, .inl (fun _ => 0))), (15, .inl (cy 0, 5, .inl (fun _ => 0))), (16, .inl (cy 0, 5, .inl (fun _ => 0))), (17, .inl (cy 0, 5, .inl (fun _ => 0)))]) D 2 16 ad g A) (cc := cX8_init) (maxL := 2) (ret := none) (by decide) rfl (Nat.le_of_ble_eq_true rfl) ?_
  intro p e s m below meth c A hC hr hlk hnm hO ls hl
  have hC : CallFix p m c cX8_init 2 s [.ref (ad 0), .ref (ad 1)].toArray wq_c_X8_init RX8 := hC
  obtain ⟨hx, hb, hml, hown, hts⟩ := id hC
  have hl : lv_has ls 2 [(0, .ref (ad 0)), (1, .ref (ad 1))] := hl
  have hnm : meth.name = "<init>" := hnm
  have i_X10 : ∀ w ∈ wsX100, w ∈ wq_c_X8_init := fun w h => List.mem_cons_of_mem _ (List.mem_append_right _ h)
  have i_X8 : ∀ w ∈ wsX80, w ∈ wq_c_X8_init := fun w h => List.mem_cons_of_mem _ (List.mem_append_left _ (List.mem_append_right _ h))
  refine lv_aload_n hx hb dX8_init_0 rfl (lv_at hl 0 rfl) ?_
  refine cg_obj hC hl.1 (List.mem_of_getElem? (i := 1) rfl) (List.mem_of_getElem? (i := 2) rfl) (List.mem_of_getElem? (i := 3) rfl) dX8_init_1 (Nat.le_of_ble_eq_true rfl) (Nat.le_of_ble_eq_true rfl) ?_
  refine lv_aload_n hx hb dX8_init_4 rfl (lv_at hl 0 rfl) ?_
  refine lv_bipush (v := 30) hx hb dX8_init_5 (by decide) ?_
  refine cg_newa (atype := .int) hC hO rfl (List.mem_of_getElem? (i := 4) rfl) 0 rfl (fun _ h => by cases h) (a0 := (30, .inl (fun _ => 0))) (fun _ => rfl) (by decide) (N' := 30) (by decide) (Nat.le_of_ble_eq_true rfl) (Nat.le_of_ble_eq_true rfl) (Nat.le_of_ble_eq_true rfl) dX8_init_7 (fun nw_7_1 H hO => ?_)
  refine W.widen (k := 1) (n := 30) (Nat.le_of_ble_eq_true rfl) (Nat.le_of_ble_eq_true rfl) ?_
  have hO : cO D cy A s.heap s 3 (aext 2 nw_7_1 ad) (cup [(2, .inl (cy 0, 30, .inl (fun _ => 0)))] g) _ _ := hO
  refine cg_putF hC hO hnm 0 (by decide) o0 rfl i_X8 tyX8_ok nmX8 2 (by decide) (List.mem_of_getElem? (i := 5) rfl) rfl rfl rfl rfl (fs_lt f0_2) dX8_init_9 (fun H locs hO => ?_)
  have hO : cO D cy A s.heap s 3 (aext 2 nw_7_1 ad) (cup [(2, .inl (cy 0, 30, .inl (fun _ => 0))), (0, .inr (8, (f0.set 2 (.ref (nw_7_1 0)))))] g) _ _ := hO
  refine lv_aload_n hx hb dX8_init_12 rfl (lv_at hl 0 rfl) ?_
  refine lv_bipush (v := 30) hx hb dX8_init_13 (by decide) ?_
  refine cg_newa (atype := .int) hC hO rfl (List.mem_of_getElem? (i := 4) rfl) 0 rfl (fun _ h => by cases h) (a0 := (30, .inl (fun _ => 0))) (fun _ => rfl) (by decide) (N' := 30) (by decide) (Nat.le_of_ble_eq_true rfl) (Nat.le_of_ble_eq_true rfl) (Nat.le_of_ble_eq_true rfl) dX8_init_15 (fun nw_15_2 H hO => ?_)
  refine W.widen (k := 2) (n := 60) (Nat.le_of_ble_eq_true rfl) (Nat.le_of_ble_eq_true rfl) ?_
  have hO : cO D cy A s.heap s 4 (aext 3 nw_15_2 (aext 2 nw_7_1 ad)) (cup [(2, .inl (cy 0, 30, .inl (fun _ => 0))), (0, .inr (8, (f0.set 2 (.ref (nw_7_1 0))))), (3, .inl (cy 0, 30, .inl (fun _ => 0)))] g) _ _ := hO
  refine cg_putF hC hO hnm 0 (by decide) rfl rfl i_X8 tyX8_ok nmX8 3 (by decide) (List.mem_of_getElem? (i := 6) rfl) rfl rfl rfl rfl (fs_lt (fs_ne (by decide) f0_3)) dX8_init_17 (fun H locs hO => ?_)
  have hO : cO D cy A s.heap s 4 (aext 3 nw_15_2 (aext 2 nw_7_1 ad)) (cup [(2, .inl (cy 0, 30, .inl (fun _ => 0))), (0, .inr (8, ((f0.set 2 (.ref (nw_7_1 0))).set 3 (.ref (nw_15_2 0))))), (3, .inl (cy 0, 30, .inl (fun _ => 0)))] g) _ _ := hO
  refine lv_aload_n hx hb dX8_init_20 rfl (lv_at hl 0 rfl) ?_
  refine lv_bipush (v := 30) hx hb dX8_init_21 (by decide) ?_
  refine cg_newa (atype := .int) hC hO rfl (List.mem_of_getElem? (i := 4) rfl) 0 rfl (fun _ h => by cases h) (a0 := (30, .inl (fun _ => 0))) (fun _ => rfl) (by decide) (N' := 30) (by decide) (Nat.le_of_ble_eq_true rfl) (Nat.le_of_ble_eq_true rfl) (Nat.le_of_ble_eq_true rfl) dX8_init_23 (fun nw_23_3 H hO => ?_)
  refine W.widen (k := 3) (n := 90) (Nat.le_of_ble_eq_true rfl) (Nat.le_of_ble_eq_true rfl) ?_
  have hO : cO D cy A s.heap s 5 (aext 4 nw_23_3 (aext 3 nw_15_2 (aext 2 nw_7_1 ad))) (cup [(2, .inl (cy 0, 30, .inl (fun _ => 0))), (0, .inr (8, ((f0.set 2 (.ref (nw_7_1 0))).set 3 (.ref (nw_15_2 0))))), (3, .inl (cy 0, 30, .inl (fun _ => 0))), (4, .inl (cy 0, 30, .inl (fun _ => 0)))] g) _ _ := hO
  refine cg_putF hC hO hnm 0 (by decide) rfl rfl i_X8 tyX8_ok nmX8 4 (by decide) (List.mem_of_getElem? (i := 7) rfl) rfl rfl rfl rfl (fs_lt (fs_ne (by decide) (fs_ne (by decide) f0_4))) dX8_init_25 (fun H locs hO => ?_)
  have hO : cO D cy A s.heap s 5 (aext 4 nw_23_3 (aext 3 nw_15_2 (aext 2 nw_7_1 ad))) (cup [(2, .inl (cy 0, 30, .inl (fun _ => 0))), (0, .inr (8, (((f0.set 2 (.ref (nw_7_1 0))).set 3 (.ref (nw_15_2 0))).set 4 (.ref (nw_23_3 0))))), (3, .inl (cy 0, 30, .inl (fun _ => 0))), (4, .inl (cy 0, 30, .inl (fun _ => 0)))] g) _ _ := hO
  refine lv_aload_n hx hb dX8_init_28 rfl (lv_at hl 0 rfl) ?_
  refine lv_bipush (v := 30) hx hb dX8_init_29 (by decide) ?_
  refine cg_newa (atype := .int) hC hO rfl (List.mem_of_getElem? (i := 4) rfl) 0 rfl (fun _ h => by cases h) (a0 := (30, .inl (fun _ => 0))) (fun _ => rfl) (by decide) (N' := 30) (by decide) (Nat.le_of_ble_eq_true rfl) (Nat.le_of_ble_eq_true rfl) (Nat.le_of_ble_eq_true rfl) dX8_init_31 (fun nw_31_4 H hO => ?_)
  refine W.widen (k := 4) (n := 120) (Nat.le_of_ble_eq_true rfl) (Nat.le_of_ble_eq_true rfl) ?_
  have hO : cO D cy A s.heap s 6 (aext 5 nw_31_4 (aext 4 nw_23_3 (aext 3 nw_15_2 (aext 2 nw_7_1 ad)))) (cup [(2, .inl (cy 0, 30, .inl (fun _ => 0))), (0, .inr (8, (((f0.set 2 (.ref (nw_7_1 0))).set 3 (.ref (nw_15_2 0))).set 4 (.ref (nw_23_3 0))))), (3, .inl (cy 0, 30, .inl (fun _ => 0))), (4, .inl (cy 0, 30, .inl (fun _ => 0))), (5, .inl (cy 0, 30, .inl (fun _ => 0)))] g) _ _ := hO
  refine cg_putF hC hO hnm 0 (by decide) rfl rfl i_X8 tyX8_ok nmX8 5 (by decide) (List.mem_of_getElem? (i := 8) rfl) rfl rfl rfl rfl (fs_lt (fs_ne (by decide) (fs_ne (by decide) (fs_ne (by decide) f0_5)))) dX8_init_33 (fun H locs hO => ?_)
  have hO : cO D cy A s.heap s 6 (aext 5 nw_31_4 (aext 4 nw_23_3 (aext 3 nw_15_2 (aext 2 nw_7_1 ad)))) (cup [(2, .inl (cy 0, 30, .inl (fun _ => 0))), (0, .inr (8, ((((f0.set 2 (.ref (nw_7_1 0))).set 3 (.ref (nw_15_2 0))).set 4 (.ref (nw_23_3 0))).set 5 (.ref (nw_31_4 0))))), (3, .inl (cy 0, 30, .inl (fun _ => 0))), (4, .inl (cy 0, 30, .inl (fun _ => 0))), (5, .inl (cy 0, 30, .inl (fun _ => 0)))] g) _ _ := hO
  refine lv_aload_n hx hb dX8_init_36 rfl (lv_at hl 0 rfl) ?_
  refine lv_bipush (v := 30) hx hb dX8_init_37 (by decide) ?_
  refine cg_newa (atype := .int) hC hO rfl (List.mem_of_getElem? (i := 4) rfl) 0 rfl (fun _ h => by cases h) (a0 := (30, .inl (fun _ => 0))) (fun _ => rfl) (by decide) (N' := 30) (by decide) (Nat.le_of_ble_eq_true rfl) (Nat.le_of_ble_eq_true rfl) (Nat.le_of_ble_eq_true rfl) dX8_init_39 (fun nw_39_5 H hO => ?_)
  refine W.widen (k := 5) (n := 150) (Nat.le_of_ble_eq_true rfl) (Nat.le_of_ble_eq_true rfl) ?_
  have hO : cO D cy A s.heap s 7 (aext 6 nw_39_5 (aext 5 nw_31_4 (aext 4 nw_23_3 (aext 3 nw_15_2 (aext 2 nw_7_1 ad))))) (cup [(2, .inl (cy 0, 30, .inl (fun _ => 0))), (0, .inr (8, ((((f0.set 2 (.ref (nw_7_1 0))).set 3 (.ref (nw_15_2 0))).set 4 (.ref (nw_23_3 0))).set 5 (.ref (nw_31_4 0))))), (3, .inl (cy 0, 30, .inl (fun _ => 0))), (4, .inl (cy 0, 30, .inl (fun _ => 0))), (5, .inl (cy 0, 30, .inl (fun _ => 0))), (6, .inl (cy 0, 30, .inl (fun _ => 0)))] g) _ _ := hO
  refine cg_putF hC hO hnm 0 (by decide) rfl rfl i_X8 tyX8_ok nmX8 6 (by decide) (List.mem_of_getElem? (i := 9) rfl) rfl rfl rfl rfl (fs_lt (fs_ne (by decide) (fs_ne (by decide) (fs_ne (by decide) (fs_ne (by decide) f0_6))))) dX8_init_41 (fun H locs hO => ?_)
  have hO : cO D cy A s.heap s 7 (aext 6 nw_39_5 (aext 5 nw_31_4 (aext 4 nw_23_3 (aext 3 nw_15_2 (aext 2 nw_7_1 ad))))) (cup [(2, .inl (cy 0, 30, .inl (fun _ => 0))), (0, .inr (8, (((((f0.set 2 (.ref (nw_7_1 0))).set 3 (.ref (nw_15_2 0))).set 4 (.ref (nw_23_3 0))).set 5 (.ref (nw_31_4 0))).set 6 (.ref (nw_39_5 0))))), (3, .inl (cy 0, 30, .inl (fun _ => 0))), (4, .inl (cy 0, 30, .inl (fun _ => 0))), (5, .inl (cy 0, 30, .inl (fun _ => 0))), (6, .inl (cy 0, 30, .inl (fun _ => 0)))] g) _ _ := hO
  refine lv_aload_n hx hb dX8_init_44 rfl (lv_at hl 0 rfl) ?_
  refine lv_bipush (v := 12) hx hb dX8_init_45 (by decide) ?_
  refine cg_newa (atype := .int) hC hO rfl (List.mem_of_getElem? (i := 4) rfl) 0 rfl (fun _ h => by cases h) (a0 := (12, .inl (fun _ => 0))) (fun _ => rfl) (by decide) (N' := 12) (by decide) (Nat.le_of_ble_eq_true rfl) (Nat.le_of_ble_eq_true rfl) (Nat.le_of_ble_eq_true rfl) dX8_init_47 (fun nw_47_6 H hO => ?_)
  refine W.widen (k := 6) (n := 162) (Nat.le_of_ble_eq_true rfl) (Nat.le_of_ble_eq_true rfl) ?_
  have hO : cO D cy A s.heap s 8 (aext 7 nw_47_6 (aext 6 nw_39_5 (aext 5 nw_31_4 (aext 4 nw_23_3 (aext 3 nw_15_2 (aext 2 nw_7_1 ad)))))) (cup [(2, .inl (cy 0, 30, .inl (fun _ => 0))), (0, .inr (8, (((((f0.set 2 (.ref (nw_7_1 0))).set 3 (.ref (nw_15_2 0))).set 4 (.ref (nw_23_3 0))).set 5 (.ref (nw_31_4 0))).set 6 (.ref (nw_39_5 0))))), (3, .inl (cy 0, 30, .inl (fun _ => 0))), (4, .inl (cy 0, 30, .inl (fun _ => 0))), (5, .inl (cy 0, 30, .inl (fun _ => 0))), (6, .inl (cy 0, 30, .inl (fun _ => 0))), (7, .inl (cy 0, 12, .inl (fun _ => 0)))] g) _ _ := hO
  refine cg_putF hC hO hnm 0 (by decide) rfl rfl i_X8 tyX8_ok nmX8 9 (by decide) (List.mem_of_getElem? (i := 10) rfl) rfl rfl rfl rfl (fs_lt (fs_ne (by decide) (fs_ne (by decide) (fs_ne (by decide) (fs_ne (by decide) (fs_ne (by decide) f0_9)))))) dX8_init_49 (fun H locs hO => ?_)
  have hO : cO D cy A s.heap s 8 (aext 7 nw_47_6 (aext 6 nw_39_5 (aext 5 nw_31_4 (aext 4 nw_23_3 (aext 3 nw_15_2 (aext 2 nw_7_1 ad)))))) (cup [(2, .inl (cy 0, 30, .inl (fun _ => 0))), (0, .inr (8, ((((((f0.set 2 (.ref (nw_7_1 0))).set 3 (.ref (nw_15_2 0))).set 4 (.ref (nw_23_3 0))).set 5 (.ref (nw_31_4 0))).set 6 (.ref (nw_39_5 0))).set 9 (.ref (nw_47_6 0))))), (3, .inl (cy 0, 30, .inl (fun _ => 0))), (4, .inl (cy 0, 30, .inl (fun _ => 0))), (5, .inl (cy 0, 30, .inl (fun _ => 0))), (6, .inl (cy 0, 30, .inl (fun _ => 0))), (7, .inl (cy 0, 12, .inl (fun _ => 0)))] g) _ _ := hO
  refine lv_aload_n hx hb dX8_init_52 rfl (lv_at hl 0 rfl) ?_
  refine lv_sipush (v := 180) hx hb dX8_init_53 (by decide) ?_
  refine cg_newa (atype := .int) hC hO rfl (List.mem_of_getElem? (i := 4) rfl) 0 rfl (fun _ h => by cases h) (a0 := (180, .inl (fun _ => 0))) (fun _ => rfl) (by decide) (N' := 180) (by decide) (Nat.le_of_ble_eq_true rfl) (Nat.le_of_ble_eq_true rfl) (Nat.le_of_ble_eq_true rfl) dX8_init_56 (fun nw_56_7 H hO => ?_)
  refine W.widen (k := 7) (n := 342) (Nat.le_of_ble_eq_true rfl) (Nat.le_of_ble_eq_true rfl) ?_
  have hO : cO D cy A s.heap s 9 (aext 8 nw_56_7 (aext 7 nw_47_6 (aext 6 nw_39_5 (aext 5 nw_31_4 (aext 4 nw_23_3 (aext 3 nw_15_2 (aext 2 nw_7_1 ad))))))) (cup [(2, .inl (cy 0, 30, .inl (fun _ => 0))), (0, .inr (8, ((((((f0.set 2 (.ref (nw_7_1 0))).set 3 (.ref (nw_15_2 0))).set 4 (.ref (nw_23_3 0))).set 5 (.ref (nw_31_4 0))).set 6 (.ref (nw_39_5 0))).set 9 (.ref (nw_47_6 0))))), (3, .inl (cy 0, 30, .inl (fun _ => 0))), (4, .inl (cy 0, 30, .inl (fun _ => 0))), (5, .inl (cy 0, 30, .inl (fun _ => 0))), (6, .inl (cy 0, 30, .inl (fun _ => 0))), (7, .inl (cy 0, 12, .inl (fun _ => 0))), (8, .inl (cy 0, 180, .inl (fun _ => 0)))] g) _ _ := hO
  refine cg_putF hC hO hnm 0 (by decide) rfl rfl i_X8 tyX8_ok nmX8 10 (by decide) (List.mem_of_getElem? (i := 11) rfl) rfl rfl rfl rfl (fs_lt (fs_ne (by decide) (fs_ne (by decide) (fs_ne (by decide) (fs_ne (by decide) (fs_ne (by decide) (fs_ne (by decide) f0_10))))))) dX8_init_58 (fun H locs hO => ?_)
  have hO : cO D cy A s.heap s 9 (aext 8 nw_56_7 (aext 7 nw_47_6 (aext 6 nw_39_5 (aext 5 nw_31_4 (aext 4 nw_23_3 (aext 3 nw_15_2 (aext 2 nw_7_1 ad))))))) (cup [(2, .inl (cy 0, 30, .inl (fun _ => 0))), (0, .inr (8, (((((((f0.set 2 (.ref (nw_7_1 0))).set 3 (.ref (nw_15_2 0))).set 4 (.ref (nw_23_3 0))).set 5 (.ref (nw_31_4 0))).set 6 (.ref (nw_39_5 0))).set 9 (.ref (nw_47_6 0))).set 10 (.ref (nw_56_7 0))))), (3, .inl (cy 0, 30, .inl (fun _ => 0))), (4, .inl (cy 0, 30, .inl (fun _ => 0))), (5, .inl (cy 0, 30, .inl (fun _ => 0))), (6, .inl (cy 0, 30, .inl (fun _ => 0))), (7, .inl (cy 0, 12, .inl (fun _ => 0))), (8, .inl (cy 0, 180, .inl (fun _ => 0)))] g) _ _ := hO
  refine lv_aload_n hx hb dX8_init_61 rfl (lv_at hl 0 rfl) ?_
  refine lv_bipush (v := 30) hx hb dX8_init_62 (by decide) ?_
  refine cg_newa (atype := .int) hC hO rfl (List.mem_of_getElem? (i := 4) rfl) 0 rfl (fun _ h => by cases h) (a0 := (30, .inl (fun _ => 0))) (fun _ => rfl) (by decide) (N' := 30) (by decide) (Nat.le_of_ble_eq_true rfl) (Nat.le_of_ble_eq_true rfl) (Nat.le_of_ble_eq_true rfl) dX8_init_64 (fun nw_64_8 H hO => ?_)
  refine W.widen (k := 8) (n := 372) (Nat.le_of_ble_eq_true rfl) (Nat.le_of_ble_eq_true rfl) ?_
  have hO : cO D cy A s.heap s 10 (aext 9 nw_64_8 (aext 8 nw_56_7 (aext 7 nw_47_6 (aext 6 nw_39_5 (aext 5 nw_31_4 (aext 4 nw_23_3 (aext 3 nw_15_2 (aext 2 nw_7_1 ad)))))))) (cup [(2, .inl (cy 0, 30, .inl (fun _ => 0))), (0, .inr (8, (((((((f0.set 2 (.ref (nw_7_1 0))).set 3 (.ref (nw_15_2 0))).set 4 (.ref (nw_23_3 0))).set 5 (.ref (nw_31_4 0))).set 6 (.ref (nw_39_5 0))).set 9 (.ref (nw_47_6 0))).set 10 (.ref (nw_56_7 0))))), (3, .inl (cy 0, 30, .inl (fun _ => 0))), (4, .inl (cy 0, 30, .inl (fun _ => 0))), (5, .inl (cy 0, 30, .inl (fun _ => 0))), (6, .inl (cy 0, 30, .inl (fun _ => 0))), (7, .inl (cy 0, 12, .inl (fun _ => 0))), (8, .inl (cy 0, 180, .inl (fun _ => 0))), (9, .inl (cy 0, 30, .inl (fun _ => 0)))] g) _ _ := hO
  refine cg_putF hC hO hnm 0 (by decide) rfl rfl i_X8 tyX8_ok nmX8 12 (by decide) (List.mem_of_getElem? (i := 12) rfl) rfl rfl rfl rfl (fs_lt (fs_ne (by decide) (fs_ne (by decide) (fs_ne (by decide) (fs_ne (by decide) (fs_ne (by decide) (fs_ne (by decide) (fs_ne (by decide) f0_12)))))))) dX8_init_66 (fun H locs hO => ?_)
  have hO : cO D cy A s.heap s 10 (aext 9 nw_64_8 (aext 8 nw_56_7 (aext 7 nw_47_6 (aext 6 nw_39_5 (aext 5 nw_31_4 (aext 4 nw_23_3 (aext 3 nw_15_2 (aext 2 nw_7_1 ad)))))))) (cup [(2, .inl (cy 0, 30, .inl (fun _ => 0))), (0, .inr (8, ((((((((f0.set 2 (.ref (nw_7_1 0))).set 3 (.ref (nw_15_2 0))).set 4 (.ref (nw_23_3 0))).set 5 (.ref (nw_31_4 0))).set 6 (.ref (nw_39_5 0))).set 9 (.ref (nw_47_6 0))).set 10 (.ref (nw_56_7 0))).set 12 (.ref (nw_64_8 0))))), (3, .inl (cy 0, 30, .inl (fun _ => 0))), (4, .inl (cy 0, 30, .inl (fun _ => 0))), (5, .inl (cy 0, 30, .inl (fun _ => 0))), (6, .inl (cy 0, 30, .inl (fun _ => 0))), (7, .inl (cy 0, 12, .inl (fun _ => 0))), (8, .inl (cy 0, 180, .inl (fun _ => 0))), (9, .inl (cy 0, 30, .inl (fun _ => 0)))] g) _ _ := hO
  refine lv_aload_n hx hb dX8_init_69 rfl (lv_at hl 0 rfl) ?_
  refine lv_aload_n hx hb dX8_init_70 rfl (lv_at hl 1 rfl) ?_
  refine cg_putF hC hO hnm 0 (by decide) rfl rfl i_X8 tyX8_ok nmX8 0 (by decide) (List.mem_of_getElem? (i := 13) rfl) rfl rfl rfl rfl (fs_lt (fs_ne (by decide) (fs_ne (by decide) (fs_ne (by decide) (fs_ne (by decide) (fs_ne (by decide) (fs_ne (by decide) (fs_ne (by decide) (fs_ne (by decide) f0_0))))))))) dX8_init_71 (fun H locs hO => ?_)
  have hO : cO D cy A s.heap s 10 (aext 9 nw_64_8 (aext 8 nw_56_7 (aext 7 nw_47_6 (aext 6 nw_39_5 (aext 5 nw_31_4 (aext 4 nw_23_3 (aext 3 nw_15_2 (aext 2 nw_7_1 ad)))))))) (cup [(2, .inl (cy 0, 30, .inl (fun _ => 0))), (0, .inr (8, (((((((((f0.set 2 (.ref (nw_7_1 0))).set 3 (.ref (nw_15_2 0))).set 4 (.ref (nw_23_3 0))).set 5 (.ref (nw_31_4 0))).set 6 (.ref (nw_39_5 0))).set 9 (.ref (nw_47_6 0))).set 10 (.ref (nw_56_7 0))).set 12 (.ref (nw_64_8 0))).set 0 (.ref (ad 1))))), (3, .inl (cy 0, 30, .inl (fun _ => 0))), (4, .inl (cy 0, 30, .inl (fun _ => 0))), (5, .inl (cy 0, 30, .inl (fun _ => 0))), (6, .inl (cy 0, 30, .inl (fun _ => 0))), (7, .inl (cy 0, 12, .inl (fun _ => 0))), (8, .inl (cy 0, 180, .inl (fun _ => 0))), (9, .inl (cy 0, 30, .inl (fun _ => 0)))] g) _ _ := hO
  refine lv_aload_n hx hb dX8_init_74 rfl (lv_at hl 0 rfl) ?_
  refine cg_new hC hO 10 rfl i_X10 tyX10_ok (List.mem_of_getElem? (i := 14) rfl) (List.mem_of_getElem? (i := 15) rfl) (List.mem_of_getElem? (i := 16) rfl) (fs := [.null, .null, .null, .null, .null, .null, .null, .null]) (dv_X10) (Nat.le_of_ble_eq_true rfl) (Nat.le_of_ble_eq_true rfl) dX8_init_75 (fun nw_75_9 H hO => ?_)
  refine W.widen (k := 9) (n := 380) (Nat.le_of_ble_eq_true rfl) (Nat.le_of_ble_eq_true rfl) ?_
  have hO : cO D cy A s.heap s 11 (aext 10 nw_75_9 (aext 9 nw_64_8 (aext 8 nw_56_7 (aext 7 nw_47_6 (aext 6 nw_39_5 (aext 5 nw_31_4 (aext 4 nw_23_3 (aext 3 nw_15_2 (aext 2 nw_7_1 ad))))))))) (cup [(2, .inl (cy 0, 30, .inl (fun _ => 0))), (0, .inr (8, (((((((((f0.set 2 (.ref (nw_7_1 0))).set 3 (.ref (nw_15_2 0))).set 4 (.ref (nw_23_3 0))).set 5 (.ref (nw_31_4 0))).set 6 (.ref (nw_39_5 0))).set 9 (.ref (nw_47_6 0))).set 10 (.ref (nw_56_7 0))).set 12 (.ref (nw_64_8 0))).set 0 (.ref (ad 1))))), (3, .inl (cy 0, 30, .inl (fun _ => 0))), (4, .inl (cy 0, 30, .inl (fun _ => 0))), (5, .inl (cy 0, 30, .inl (fun _ => 0))), (6, .inl (cy 0, 30, .inl (fun _ => 0))), (7, .inl (cy 0, 12, .inl (fun _ => 0))), (8, .inl (cy 0, 180, .inl (fun _ => 0))), (9, .inl (cy 0, 30, .inl (fun _ => 0))), (10, .inr (10, [.null, .null, .null, .null, .null, .null, .null, .null]))] g) _ _ := hO
  refine lv_dup hx hb dX8_init_78 rfl ?_
  refine lv_aload_n hx hb dX8_init_79 rfl (lv_at hl 1 rfl) ?_
  refine cg_I (As := [.ref (ad 1)]) (rest := [.ref (nw_75_9 0), .ref (ad 0)]) (mc := 7) (ms := 49) (rm := { frames := 1, cells := 7, slots := 49, locals := 20 }) hC hl.1 hO [10, 1] rfl (c_X10_init l D cy _ _ (f0 := [.null, .null, .null, .null, .null, .null, .null, .null]) (f1 := f1) rfl rfl rfl rfl rfl rfl rfl rfl rfl o1) gq_c_X8_init_c_X10_init rfl rfl rfl (List.mem_of_getElem? (i := 16) rfl) (List.mem_of_getElem? (i := 28) rfl) (List.mem_of_getElem? (i := 27) rfl) rfl 1 (by decide +kernel) ⟨Nat.le_of_ble_eq_true rfl, Nat.le_of_ble_eq_true rfl⟩ rfl rfl (Nat.le_of_ble_eq_true rfl) dX8_init_80 ⟨Nat.le_of_ble_eq_true rfl, Nat.le_of_ble_eq_true rfl⟩ (fun nw_80_10 l_80_11 H locs hw hO => ?_)
  obtain rfl := hw
  have hO : cO D cy A s.heap s 18 (aext 11 nw_80_10 (aext 10 nw_75_9 (aext 9 nw_64_8 (aext 8 nw_56_7 (aext 7 nw_47_6 (aext 6 nw_39_5 (aext 5 nw_31_4 (aext 4 nw_23_3 (aext 3 nw_15_2 (aext 2 nw_7_1 ad)))))))))) (cup [(2, .inl (cy 0, 30, .inl (fun _ => 0))), (0, .inr (8, (((((((((f0.set 2 (.ref (nw_7_1 0))).set 3 (.ref (nw_15_2 0))).set 4 (.ref (nw_23_3 0))).set 5 (.ref (nw_31_4 0))).set 6 (.ref (nw_39_5 0))).set 9 (.ref (nw_47_6 0))).set 10 (.ref (nw_56_7 0))).set 12 (.ref (nw_64_8 0))).set 0 (.ref (ad 1))))), (3, .inl (cy 0, 30, .inl (fun _ => 0))), (4, .inl (cy 0, 30, .inl (fun _ => 0))), (5, .inl (cy 0, 30, .inl (fun _ => 0))), (6, .inl (cy 0, 30, .inl (fun _ => 0))), (7, .inl (cy 0, 12, .inl (fun _ => 0))), (8, .inl (cy 0, 180, .inl (fun _ => 0))), (9, .inl (cy 0, 30, .inl (fun _ => 0))), (10, .inr (10, [.ref (ad 1), .ref (nw_80_10 0), .ref (nw_80_10 1), .ref (nw_80_10 2), .ref (nw_80_10 3), .ref (nw_80_10 4), .ref (nw_80_10 5), .ref (nw_80_10 6)])), (11, .inl (cy 0, 5, .inl (fun _ => 0))), (12, .inl (cy 0, 20, .inl (fun _ => 0))), (13, .inl (cy 0, 4, .inl (fun _ => 0))), (14, .inl (cy 0, 5, .inl (fun _ => 0))), (15, .inl (cy 0, 5, .inl (fun _ => 0))), (16, .inl (cy 0, 5, .inl (fun _ => 0))), (17, .inl (cy 0, 5, .inl (fun _ => 0)))] g) _ _ := hO rfl rfl
  refine W.widen (k := 16) (n := 429) (Nat.le_of_ble_eq_true rfl) (Nat.le_of_ble_eq_true rfl) ?_
  refine cg_putF hC hO hnm 0 (by decide) rfl rfl i_X8 tyX8_ok nmX8 1 (by decide) (List.mem_of_getElem? (i := 29) rfl) rfl rfl rfl rfl (fs_lt (fs_ne (by decide) (fs_ne (by decide) (fs_ne (by decide) (fs_ne (by decide) (fs_ne (by decide) (fs_ne (by decide) (fs_ne (by decide) (fs_ne (by decide) (fs_ne (by decide) f0_1)))))))))) dX8_init_83 (fun H locs hO => ?_)
  have hO : cO D cy A s.heap s 18 (aext 11 nw_80_10 (aext 10 nw_75_9 (aext 9 nw_64_8 (aext 8 nw_56_7 (aext 7 nw_47_6 (aext 6 nw_39_5 (aext 5 nw_31_4 (aext 4 nw_23_3 (aext 3 nw_15_2 (aext 2 nw_7_1 ad)))))))))) (cup [(2, .inl (cy 0, 30, .inl (fun _ => 0))), (0, .inr (8, ((((((((((f0.set 2 (.ref (nw_7_1 0))).set 3 (.ref (nw_15_2 0))).set 4 (.ref (nw_23_3 0))).set 5 (.ref (nw_31_4 0))).set 6 (.ref (nw_39_5 0))).set 9 (.ref (nw_47_6 0))).set 10 (.ref (nw_56_7 0))).set 12 (.ref (nw_64_8 0))).set 0 (.ref (ad 1))).set 1 (.ref (nw_75_9 0))))), (3, .inl (cy 0, 30, .inl (fun _ => 0))), (4, .inl (cy 0, 30, .inl (fun _ => 0))), (5, .inl (cy 0, 30, .inl (fun _ => 0))), (6, .inl (cy 0, 30, .inl (fun _ => 0))), (7, .inl (cy 0, 12, .inl (fun _ => 0))), (8, .inl (cy 0, 180, .inl (fun _ => 0))), (9, .inl (cy 0, 30, .inl (fun _ => 0))), (10, .inr (10, [.ref (ad 1), .ref (nw_80_10 0), .ref (nw_80_10 1), .ref (nw_80_10 2), .ref (nw_80_10 3), .ref (nw_80_10 4), .ref (nw_80_10 5), .ref (nw_80_10 6)])), (11, .inl (cy 0, 5, .inl (fun _ => 0))), (12, .inl (cy 0, 20, .inl (fun _ => 0))), (13, .inl (cy 0, 4, .inl (fun _ => 0))), (14, .inl (cy 0, 5, .inl (fun _ => 0))), (15, .inl (cy 0, 5, .inl (fun _ => 0))), (16, .inl (cy 0, 5, .inl (fun _ => 0))), (17, .inl (cy 0, 5, .inl (fun _ => 0)))] g) _ _ := hO
  exact cg_vret (nw := fun i => (aext 11 nw_80_10 (aext 10 nw_75_9 (aext 9 nw_64_8 (aext 8 nw_56_7 (aext 7 nw_47_6 (aext 6 nw_39_5 (aext 5 nw_31_4 (aext 4 nw_23_3 (aext 3 nw_15_2 (aext 2 nw_7_1 ad)))))))))) (2 + i)) hC hr hlk (hO.fold (k := 2) (n := 16) (ad := ad) (fun j hj => by match j, hj with | 0, _ => rfl | 1, _ => rfl)) (Nat.le_of_ble_eq_true rfl) (Nat.le_of_ble_eq_true rfl) rfl dX8_init_86

theorem dX1_init_0 : decode cX1_init 0 = .ok (.aload_n 0, 1) := by decide +kernel
theorem dX1_init_1 : decode cX1_init 1 = .ok (.invokespecial 3, 3) := by decide +kernel
theorem dX1_init_4 : decode cX1_init 4 = .ok (.aload_n 0, 1) := by decide +kernel
theorem dX1_init_5 : decode cX1_init 5 = .ok (.bipush 96, 2) := by decide +kernel
theorem dX1_init_7 : decode cX1_init 7 = .ok (.newarray .int, 2) := by decide +kernel
theorem dX1_init_9 : decode cX1_init 9 = .ok (.putfield 9, 3) := by decide +kernel
theorem dX1_init_12 : decode cX1_init 12 = .ok (.aload_n 0, 1) := by decide +kernel
theorem dX1_init_13 : decode cX1_init 13 = .ok (.bipush 96, 2) := by decide +kernel
theorem dX1_init_15 : decode cX1_init 15 = .ok (.newarray .int, 2) := by decide +kernel
theorem dX1_init_17 : decode cX1_init 17 = .ok (.putfield 15, 3) := by decide +kernel
theorem dX1_init_20 : decode cX1_init 20 = .ok (.aload_n 0, 1) := by decide +kernel
theorem dX1_init_21 : decode cX1_init 21 = .ok (.bipush 24, 2) := by decide +kernel
theorem dX1_init_23 : decode cX1_init 23 = .ok (.newarray .int, 2) := by decide +kernel
theorem dX1_init_25 : decode cX1_init 25 = .ok (.putfield 18, 3) := by decide +kernel
theorem dX1_init_28 : decode cX1_init 28 = .ok (.aload_n 0, 1) := by decide +kernel
theorem dX1_init_29 : decode cX1_init 29 = .ok (.aload_n 1, 1) := by decide +kernel
theorem dX1_init_30 : decode cX1_init 30 = .ok (.putfield 21, 3) := by decide +kernel
theorem dX1_init_33 : decode cX1_init 33 = .ok (.aload_n 0, 1) := by decide +kernel
theorem dX1_init_34 : decode cX1_init 34 = .ok (.aload_n 2, 1) := by decide +kernel
theorem dX1_init_35 : decode cX1_init 35 = .ok (.putfield 25, 3) := by decide +kernel
theorem dX1_init_38 : decode cX1_init 38 = .ok (.aload_n 0, 1) := by decide +kernel
theorem dX1_init_39 : decode cX1_init 39 = .ok (.aload_n 3, 1) := by decide +kernel
theorem dX1_init_40 : decode cX1_init 40 = .ok (.putfield 29, 3) := by decide +kernel
theorem dX1_init_43 : decode cX1_init 43 = .ok (.aload_n 0, 1) := by decide +kernel
theorem dX1_init_44 : decode cX1_init 44 = .ok (.new 33, 3) := by decide +kernel
theorem dX1_init_47 : decode cX1_init 47 = .ok (.dup, 1) := by decide +kernel
theorem dX1_init_48 : decode cX1_init 48 = .ok (.aload_n 1, 1) := by decide +kernel
theorem dX1_init_49 : decode cX1_init 49 = .ok (.invokespecial 35, 3) := by decide +kernel
theorem dX1_init_52 : decode cX1_init 52 = .ok (.putfield 38, 3) := by decide +kernel
theorem dX1_init_55 : decode cX1_init 55 = .ok (.aload_n 0, 1) := by decide +kernel
theorem dX1_init_56 : decode cX1_init 56 = .ok (.getfield 9, 3) := by decide +kernel
theorem dX1_init_59 : decode cX1_init 59 = .ok (.iconst (-1), 1) := by decide +kernel
theorem dX1_init_60 : decode cX1_init 60 = .ok (.invokestatic 42, 3) := by decide +kernel
theorem dX1_init_63 : decode cX1_init 63 = .ok (.return_, 1) := by decide +kernel
def wq_c_X1_init : List Cond := Cond.code yX1_init cX1_init 4 none :: (([Cond.methodLink RX1 3 objectInit, Cond.instanceMethod objectInit, Cond.code objectInit ⟨#[0xb1]⟩ 1 none, Cond.arrayClass .int, Cond.fieldLink RX1 9 "CrowToll$Day" "counter" "[I", Cond.fieldLink RX1 15 "CrowToll$Day" "paid" "[I", Cond.fieldLink RX1 18 "CrowToll$Day" "order" "[I", Cond.fieldLink RX1 21 "CrowToll$Day" "road" "LCrowToll$Road;", Cond.fieldLink RX1 25 "CrowToll$Day" "stand" "LCrowToll$Stand;", Cond.fieldLink RX1 29 "CrowToll$Day" "prices" "LCrowToll$Prices;", Cond.classLink RX1 33 RX10, Cond.instantiable RX10 8, Cond.initialized RX10, Cond.code yX10_init cX10_init 2 none, Cond.methodLink RX10 3 objectInit, Cond.fieldLink RX10 9 "CrowToll$Watch" "limit" "[I", Cond.fieldLink RX10 15 "CrowToll$Watch" "seat" "[I", Cond.fieldLink RX10 18 "CrowToll$Watch" "seated" "[I", Cond.fieldLink RX10 21 "CrowToll$Watch" "count" "[I", Cond.fieldLink RX10 24 "CrowToll$Watch" "total" "[I", Cond.fieldLink RX10 27 "CrowToll$Watch" "lookedAt" "[I", Cond.fieldLink RX10 30 "CrowToll$Watch" "countedAt" "[I", Cond.fieldLink RX10 33 "CrowToll$Watch" "road" "LCrowToll$Road;", Cond.instanceMethod yX10_init, Cond.methodLink RX1 35 yX10_init, Cond.fieldLink RX1 38 "CrowToll$Day" "watch" "LCrowToll$Watch;", Cond.methodLink RX1 42 yJ7_fill_53178, Cond.static yJ7_fill_53178, Cond.initialized RJ7, Cond.code yJ7_fill_53178 cJ7_fill_53178 4 none] : List Cond) ++ wsX10 ++ wsX100)
set_option maxRecDepth 20000 in
theorem gr_c_X1_init_c_X10_init : GoodIn wq_c_X1_init wq_c_X10_init := List.forall_mem_cons.mpr ⟨⟨(List.mem_of_getElem? (i := 14) rfl), good_of_word rfl⟩, List.forall_mem_append.mpr ⟨List.forall_mem_cons.mpr ⟨⟨(List.mem_of_getElem? (i := 15) rfl), good_of_word rfl⟩, List.forall_mem_cons.mpr ⟨⟨(List.mem_of_getElem? (i := 2) rfl), good_of_word rfl⟩, List.forall_mem_cons.mpr ⟨⟨(List.mem_of_getElem? (i := 3) rfl), good_of_word rfl⟩, List.forall_mem_cons.mpr ⟨⟨(List.mem_of_getElem? (i := 4) rfl), good_of_word rfl⟩, List.forall_mem_cons.mpr ⟨⟨(List.mem_of_getElem? (i := 16) rfl), good_of_word rfl⟩, List.forall_mem_cons.mpr ⟨⟨(List.mem_of_getElem? (i := 17) rfl), good_of_word rfl⟩, List.forall_mem_cons.mpr ⟨⟨(List.mem_of_getElem? (i := 18) rfl), good_of_word rfl⟩, List.forall_mem_cons.mpr ⟨⟨(List.mem_of_getElem? (i := 19) rfl), good_of_word rfl⟩, List.forall_mem_cons.mpr ⟨⟨(List.mem_of_getElem? (i := 20) rfl), good_of_word rfl⟩, List.forall_mem_cons.mpr ⟨⟨(List.mem_of_getElem? (i := 21) rfl), good_of_word rfl⟩, List.forall_mem_cons.mpr ⟨⟨(List.mem_of_getElem? (i := 22) rfl), good_of_word rfl⟩, List.forall_mem_cons.mpr ⟨⟨(List.mem_of_getElem? (i := 23) rfl), good_of_word rfl⟩, (fun _ h => absurd h List.not_mem_nil)⟩⟩⟩⟩⟩⟩⟩⟩⟩⟩⟩⟩, fun w h => ⟨(fun w h => List.mem_cons_of_mem _ (List.mem_append_right _ h)) w h, good_of_word (List.all_eq_true.mp gw_X10 w h)⟩⟩⟩
theorem gq_c_X1_init_c_X10_init : GoodIn wq_c_X1_init wq_c_X10_init := gr_c_X1_init_c_X10_init
set_option maxRecDepth 20000 in
theorem gr_c_X1_init_c_J7_fill_53178 : GoodIn wq_c_X1_init wq_c_J7_fill_53178 := List.forall_mem_cons.mpr ⟨⟨(List.mem_of_getElem? (i := 30) rfl), good_of_word rfl⟩, (fun _ h => absurd h List.not_mem_nil)⟩
set_option maxRecDepth 20000 in
theorem gq_c_X1_init_c_J7_fill_53178_42 : GoodIn wq_c_X1_init (va_wsS RX1 42 yJ7_fill_53178 wq_c_J7_fill_53178) := goodIn_app (List.forall_mem_cons.mpr ⟨⟨(List.mem_of_getElem? (i := 27) rfl), good_of_word rfl⟩, List.forall_mem_cons.mpr ⟨⟨(List.mem_of_getElem? (i := 28) rfl), good_of_word rfl⟩, List.forall_mem_cons.mpr ⟨⟨(List.mem_of_getElem? (i := 29) rfl), good_of_word rfl⟩, (fun _ h => absurd h List.not_mem_nil)⟩⟩⟩) gr_c_X1_init_c_J7_fill_53178
set_option maxHeartbeats 8000000 in
set_option maxRecDepth 100000 in
theorem c_X1_init (l : Launch) (D : va_G) (cy : Nat → ClassId) (ad : Nat → Nat) (g : Nat → va_E) {f0 : List Value} {f1 : List Value} {f2 : List Value} {f3 : List Value} (o0 : g 0 = .inr (1, f0)) (f0_0 : f0[0]? = some (.null)) (f0_1 : f0[1]? = some (.null)) (f0_2 : f0[2]? = some (.null)) (f0_3 : f0[3]? = some (.null)) (f0_4 : f0[4]? = some (.null)) (f0_5 : f0[5]? = some (.null)) (f0_6 : f0[6]? = some (.null)) (o1 : g 1 = .inr (7, f1)) (o2 : g 2 = .inr (9, f2)) (o3 : g 3 = .inr (5, f3)) : cMv l yX1_init wq_c_X1_init { frames := 2, cells := 11, slots := 273, locals := 41 } 4 11 11 273 D cy ad g [.ref (ad 0), .ref (ad 1), .ref (ad 2), .ref (ad 3)] (fun nw lu => ∃ (cz_60_11 : Nat → Int32), lu = [(4, .inl (cy 0, 96, .inl cz_60_11)), (0, .inr (1, (((((((f0.set 4 (.ref (nw 0))).set 5 (.ref (nw 1))).set 6 (.ref (nw 2))).set 0 (.ref (ad 1))).set 1 (.ref (ad 2))).set 2 (.ref (ad 3))).set 3 (.ref (nw 3))))), (5, .inl (cy 0, 96, .inl (fun _ => 0))), (6, .inl (cy 0, 24, .inl (fun _ => 0))), (7, .inr (10, [.ref (ad 1), .ref (nw 4), .ref (nw 5), .ref (nw 6), .ref (nw 7), .ref (nw 8), .ref (nw 9), .ref (nw 10)])), (8, .inl (cy 0, 5, .inl (fun _ => 0))), (9, .inl (cy 0, 20, .inl (fun _ => 0))), (10, .inl (cy 0, 4, .inl (fun _ => 0))), (11, .inl (cy 0, 5, .inl (fun _ => 0))), (12, .inl (cy 0, 5, .inl (fun _ => 0))), (13, .inl (cy 0, 5, .inl (fun _ => 0))), (14, .inl (cy 0, 5, .inl (fun _ => 0)))]) := by
  refine cM_of (Qc := fun A => cQv (fun nw lu => ∃ (cz_60_11 : Nat → Int32), lu = [(4, .inl (cy 0, 96, .inl cz_60_11)), (0, .inr (1, (((((((f0.set 4 (.ref (nw 0))).set 5 (.ref (nw 1))).set 6 (.ref (nw 2))).set 0 (.ref (ad 1))).set 1 (.ref (ad 2))).set 2 (.ref (ad 3))).set 3 (.ref (nw 3))))), (5, .inl (cy 0, 96, .inl (fun _ => 0))), (6, .inl (cy 0, 24, .inl (fun _ => 0))), (7, .inr (10, [.ref (ad 1), .ref (nw 4), .ref (nw 5), .ref (nw 6), .ref (nw 7), .ref (nw 8), .ref (nw 9), .ref (nw 10)])), (8, .inl (cy 0, 5, .inl (fun _ => 0))), (9, .inl (cy 0, 20, .inl (fun _ => 0))), (10, .inl (cy 0, 4, .inl (fun _ => 0))), (11, .inl (cy 0, 5, .inl (fun _ => 0))), (12, .inl (cy 0, 5, .inl (fun _ => 0))), (13, .inl (cy 0, 5, .inl (fun _ => 0))), (14, .inl (cy 0, 5, .inl (fun _ => 0)))]) D 4 11 ad g A) (cc := cX1_init) (maxL := 4) (ret := none) (by decide) rfl (Nat.le_of_ble_eq_true rfl) ?_
  intro p e s m below meth c A hC hr hlk hnm hO ls hl
  have hC : CallFix p m c cX1_init 4 s [.ref (ad 0), .ref (ad 1), .ref (ad 2), .ref (ad 3)].toArray wq_c_X1_init RX1 := hC
  obtain ⟨hx, hb, hml, hown, hts⟩ := id hC
  have hl : lv_has ls 4 [(0, .ref (ad 0)), (1, .ref (ad 1)), (2, .ref (ad 2)), (3, .ref (ad 3))] := hl
  have hnm : meth.name = "<init>" := hnm
  have i_X1 : ∀ w ∈ wsX10, w ∈ wq_c_X1_init := fun w h => List.mem_cons_of_mem _ (List.mem_append_left _ (List.mem_append_right _ h))
  have i_X10 : ∀ w ∈ wsX100, w ∈ wq_c_X1_init := fun w h => List.mem_cons_of_mem _ (List.mem_append_right _ h)
  refine lv_aload_n hx hb dX1_init_0 rfl (lv_at hl 0 rfl) ?_
  refine cg_obj hC hl.1 (List.mem_of_getElem? (i := 1) rfl) (List.mem_of_getElem? (i := 2) rfl) (List.mem_of_getElem? (i := 3) rfl) dX1_init_1 (Nat.le_of_ble_eq_true rfl) (Nat.le_of_ble_eq_true rfl) ?_
  refine lv_aload_n hx hb dX1_init_4 rfl (lv_at hl 0 rfl) ?_
  refine lv_bipush (v := 96) hx hb dX1_init_5 (by decide) ?_
  refine cg_newa (atype := .int) hC hO rfl (List.mem_of_getElem? (i := 4) rfl) 0 rfl (fun _ h => by cases h) (a0 := (96, .inl (fun _ => 0))) (fun _ => rfl) (by decide) (N' := 96) (by decide) (Nat.le_of_ble_eq_true rfl) (Nat.le_of_ble_eq_true rfl) (Nat.le_of_ble_eq_true rfl) dX1_init_7 (fun nw_7_1 H hO => ?_)
  refine W.widen (k := 1) (n := 96) (Nat.le_of_ble_eq_true rfl) (Nat.le_of_ble_eq_true rfl) ?_
  have hO : cO D cy A s.heap s 5 (aext 4 nw_7_1 ad) (cup [(4, .inl (cy 0, 96, .inl (fun _ => 0)))] g) _ _ := hO
  refine cg_putF hC hO hnm 0 (by decide) o0 rfl i_X1 tyX1_ok nmX1 4 (by decide) (List.mem_of_getElem? (i := 5) rfl) rfl rfl rfl rfl (fs_lt f0_4) dX1_init_9 (fun H locs hO => ?_)
  have hO : cO D cy A s.heap s 5 (aext 4 nw_7_1 ad) (cup [(4, .inl (cy 0, 96, .inl (fun _ => 0))), (0, .inr (1, (f0.set 4 (.ref (nw_7_1 0)))))] g) _ _ := hO
  refine lv_aload_n hx hb dX1_init_12 rfl (lv_at hl 0 rfl) ?_
  refine lv_bipush (v := 96) hx hb dX1_init_13 (by decide) ?_
  refine cg_newa (atype := .int) hC hO rfl (List.mem_of_getElem? (i := 4) rfl) 0 rfl (fun _ h => by cases h) (a0 := (96, .inl (fun _ => 0))) (fun _ => rfl) (by decide) (N' := 96) (by decide) (Nat.le_of_ble_eq_true rfl) (Nat.le_of_ble_eq_true rfl) (Nat.le_of_ble_eq_true rfl) dX1_init_15 (fun nw_15_2 H hO => ?_)
  refine W.widen (k := 2) (n := 192) (Nat.le_of_ble_eq_true rfl) (Nat.le_of_ble_eq_true rfl) ?_
  have hO : cO D cy A s.heap s 6 (aext 5 nw_15_2 (aext 4 nw_7_1 ad)) (cup [(4, .inl (cy 0, 96, .inl (fun _ => 0))), (0, .inr (1, (f0.set 4 (.ref (nw_7_1 0))))), (5, .inl (cy 0, 96, .inl (fun _ => 0)))] g) _ _ := hO
  refine cg_putF hC hO hnm 0 (by decide) rfl rfl i_X1 tyX1_ok nmX1 5 (by decide) (List.mem_of_getElem? (i := 6) rfl) rfl rfl rfl rfl (fs_lt (fs_ne (by decide) f0_5)) dX1_init_17 (fun H locs hO => ?_)
  have hO : cO D cy A s.heap s 6 (aext 5 nw_15_2 (aext 4 nw_7_1 ad)) (cup [(4, .inl (cy 0, 96, .inl (fun _ => 0))), (0, .inr (1, ((f0.set 4 (.ref (nw_7_1 0))).set 5 (.ref (nw_15_2 0))))), (5, .inl (cy 0, 96, .inl (fun _ => 0)))] g) _ _ := hO
  refine lv_aload_n hx hb dX1_init_20 rfl (lv_at hl 0 rfl) ?_
  refine lv_bipush (v := 24) hx hb dX1_init_21 (by decide) ?_
  refine cg_newa (atype := .int) hC hO rfl (List.mem_of_getElem? (i := 4) rfl) 0 rfl (fun _ h => by cases h) (a0 := (24, .inl (fun _ => 0))) (fun _ => rfl) (by decide) (N' := 24) (by decide) (Nat.le_of_ble_eq_true rfl) (Nat.le_of_ble_eq_true rfl) (Nat.le_of_ble_eq_true rfl) dX1_init_23 (fun nw_23_3 H hO => ?_)
  refine W.widen (k := 3) (n := 216) (Nat.le_of_ble_eq_true rfl) (Nat.le_of_ble_eq_true rfl) ?_
  have hO : cO D cy A s.heap s 7 (aext 6 nw_23_3 (aext 5 nw_15_2 (aext 4 nw_7_1 ad))) (cup [(4, .inl (cy 0, 96, .inl (fun _ => 0))), (0, .inr (1, ((f0.set 4 (.ref (nw_7_1 0))).set 5 (.ref (nw_15_2 0))))), (5, .inl (cy 0, 96, .inl (fun _ => 0))), (6, .inl (cy 0, 24, .inl (fun _ => 0)))] g) _ _ := hO
  refine cg_putF hC hO hnm 0 (by decide) rfl rfl i_X1 tyX1_ok nmX1 6 (by decide) (List.mem_of_getElem? (i := 7) rfl) rfl rfl rfl rfl (fs_lt (fs_ne (by decide) (fs_ne (by decide) f0_6))) dX1_init_25 (fun H locs hO => ?_)
  have hO : cO D cy A s.heap s 7 (aext 6 nw_23_3 (aext 5 nw_15_2 (aext 4 nw_7_1 ad))) (cup [(4, .inl (cy 0, 96, .inl (fun _ => 0))), (0, .inr (1, (((f0.set 4 (.ref (nw_7_1 0))).set 5 (.ref (nw_15_2 0))).set 6 (.ref (nw_23_3 0))))), (5, .inl (cy 0, 96, .inl (fun _ => 0))), (6, .inl (cy 0, 24, .inl (fun _ => 0)))] g) _ _ := hO
  refine lv_aload_n hx hb dX1_init_28 rfl (lv_at hl 0 rfl) ?_
  refine lv_aload_n hx hb dX1_init_29 rfl (lv_at hl 1 rfl) ?_
  refine cg_putF hC hO hnm 0 (by decide) rfl rfl i_X1 tyX1_ok nmX1 0 (by decide) (List.mem_of_getElem? (i := 8) rfl) rfl rfl rfl rfl (fs_lt (fs_ne (by decide) (fs_ne (by decide) (fs_ne (by decide) f0_0)))) dX1_init_30 (fun H locs hO => ?_)
  have hO : cO D cy A s.heap s 7 (aext 6 nw_23_3 (aext 5 nw_15_2 (aext 4 nw_7_1 ad))) (cup [(4, .inl (cy 0, 96, .inl (fun _ => 0))), (0, .inr (1, ((((f0.set 4 (.ref (nw_7_1 0))).set 5 (.ref (nw_15_2 0))).set 6 (.ref (nw_23_3 0))).set 0 (.ref (ad 1))))), (5, .inl (cy 0, 96, .inl (fun _ => 0))), (6, .inl (cy 0, 24, .inl (fun _ => 0)))] g) _ _ := hO
  refine lv_aload_n hx hb dX1_init_33 rfl (lv_at hl 0 rfl) ?_
  refine lv_aload_n hx hb dX1_init_34 rfl (lv_at hl 2 rfl) ?_
  refine cg_putF hC hO hnm 0 (by decide) rfl rfl i_X1 tyX1_ok nmX1 1 (by decide) (List.mem_of_getElem? (i := 9) rfl) rfl rfl rfl rfl (fs_lt (fs_ne (by decide) (fs_ne (by decide) (fs_ne (by decide) (fs_ne (by decide) f0_1))))) dX1_init_35 (fun H locs hO => ?_)
  have hO : cO D cy A s.heap s 7 (aext 6 nw_23_3 (aext 5 nw_15_2 (aext 4 nw_7_1 ad))) (cup [(4, .inl (cy 0, 96, .inl (fun _ => 0))), (0, .inr (1, (((((f0.set 4 (.ref (nw_7_1 0))).set 5 (.ref (nw_15_2 0))).set 6 (.ref (nw_23_3 0))).set 0 (.ref (ad 1))).set 1 (.ref (ad 2))))), (5, .inl (cy 0, 96, .inl (fun _ => 0))), (6, .inl (cy 0, 24, .inl (fun _ => 0)))] g) _ _ := hO
  refine lv_aload_n hx hb dX1_init_38 rfl (lv_at hl 0 rfl) ?_
  refine lv_aload_n hx hb dX1_init_39 rfl (lv_at hl 3 rfl) ?_
  refine cg_putF hC hO hnm 0 (by decide) rfl rfl i_X1 tyX1_ok nmX1 2 (by decide) (List.mem_of_getElem? (i := 10) rfl) rfl rfl rfl rfl (fs_lt (fs_ne (by decide) (fs_ne (by decide) (fs_ne (by decide) (fs_ne (by decide) (fs_ne (by decide) f0_2)))))) dX1_init_40 (fun H locs hO => ?_)
  have hO : cO D cy A s.heap s 7 (aext 6 nw_23_3 (aext 5 nw_15_2 (aext 4 nw_7_1 ad))) (cup [(4, .inl (cy 0, 96, .inl (fun _ => 0))), (0, .inr (1, ((((((f0.set 4 (.ref (nw_7_1 0))).set 5 (.ref (nw_15_2 0))).set 6 (.ref (nw_23_3 0))).set 0 (.ref (ad 1))).set 1 (.ref (ad 2))).set 2 (.ref (ad 3))))), (5, .inl (cy 0, 96, .inl (fun _ => 0))), (6, .inl (cy 0, 24, .inl (fun _ => 0)))] g) _ _ := hO
  refine lv_aload_n hx hb dX1_init_43 rfl (lv_at hl 0 rfl) ?_
  refine cg_new hC hO 10 rfl i_X10 tyX10_ok (List.mem_of_getElem? (i := 11) rfl) (List.mem_of_getElem? (i := 12) rfl) (List.mem_of_getElem? (i := 13) rfl) (fs := [.null, .null, .null, .null, .null, .null, .null, .null]) (dv_X10) (Nat.le_of_ble_eq_true rfl) (Nat.le_of_ble_eq_true rfl) dX1_init_44 (fun nw_44_4 H hO => ?_)
  refine W.widen (k := 4) (n := 224) (Nat.le_of_ble_eq_true rfl) (Nat.le_of_ble_eq_true rfl) ?_
  have hO : cO D cy A s.heap s 8 (aext 7 nw_44_4 (aext 6 nw_23_3 (aext 5 nw_15_2 (aext 4 nw_7_1 ad)))) (cup [(4, .inl (cy 0, 96, .inl (fun _ => 0))), (0, .inr (1, ((((((f0.set 4 (.ref (nw_7_1 0))).set 5 (.ref (nw_15_2 0))).set 6 (.ref (nw_23_3 0))).set 0 (.ref (ad 1))).set 1 (.ref (ad 2))).set 2 (.ref (ad 3))))), (5, .inl (cy 0, 96, .inl (fun _ => 0))), (6, .inl (cy 0, 24, .inl (fun _ => 0))), (7, .inr (10, [.null, .null, .null, .null, .null, .null, .null, .null]))] g) _ _ := hO
  refine lv_dup hx hb dX1_init_47 rfl ?_
  refine lv_aload_n hx hb dX1_init_48 rfl (lv_at hl 1 rfl) ?_
  refine cg_I (As := [.ref (ad 1)]) (rest := [.ref (nw_44_4 0), .ref (ad 0)]) (mc := 7) (ms := 49) (rm := { frames := 1, cells := 7, slots := 49, locals := 20 }) hC hl.1 hO [7, 1] rfl (c_X10_init l D cy _ _ (f0 := [.null, .null, .null, .null, .null, .null, .null, .null]) (f1 := f1) rfl rfl rfl rfl rfl rfl rfl rfl rfl o1) gq_c_X1_init_c_X10_init rfl rfl rfl (List.mem_of_getElem? (i := 13) rfl) (List.mem_of_getElem? (i := 25) rfl) (List.mem_of_getElem? (i := 24) rfl) rfl 1 (by decide +kernel) ⟨Nat.le_of_ble_eq_true rfl, Nat.le_of_ble_eq_true rfl⟩ rfl rfl (Nat.le_of_ble_eq_true rfl) dX1_init_49 ⟨Nat.le_of_ble_eq_true rfl, Nat.le_of_ble_eq_true rfl⟩ (fun nw_49_5 l_49_6 H locs hw hO => ?_)
  obtain rfl := hw
  have hO : cO D cy A s.heap s 15 (aext 8 nw_49_5 (aext 7 nw_44_4 (aext 6 nw_23_3 (aext 5 nw_15_2 (aext 4 nw_7_1 ad))))) (cup [(4, .inl (cy 0, 96, .inl (fun _ => 0))), (0, .inr (1, ((((((f0.set 4 (.ref (nw_7_1 0))).set 5 (.ref (nw_15_2 0))).set 6 (.ref (nw_23_3 0))).set 0 (.ref (ad 1))).set 1 (.ref (ad 2))).set 2 (.ref (ad 3))))), (5, .inl (cy 0, 96, .inl (fun _ => 0))), (6, .inl (cy 0, 24, .inl (fun _ => 0))), (7, .inr (10, [.ref (ad 1), .ref (nw_49_5 0), .ref (nw_49_5 1), .ref (nw_49_5 2), .ref (nw_49_5 3), .ref (nw_49_5 4), .ref (nw_49_5 5), .ref (nw_49_5 6)])), (8, .inl (cy 0, 5, .inl (fun _ => 0))), (9, .inl (cy 0, 20, .inl (fun _ => 0))), (10, .inl (cy 0, 4, .inl (fun _ => 0))), (11, .inl (cy 0, 5, .inl (fun _ => 0))), (12, .inl (cy 0, 5, .inl (fun _ => 0))), (13, .inl (cy 0, 5, .inl (fun _ => 0))), (14, .inl (cy 0, 5, .inl (fun _ => 0)))] g) _ _ := hO rfl rfl
  refine W.widen (k := 11) (n := 273) (Nat.le_of_ble_eq_true rfl) (Nat.le_of_ble_eq_true rfl) ?_
  refine cg_putF hC hO hnm 0 (by decide) rfl rfl i_X1 tyX1_ok nmX1 3 (by decide) (List.mem_of_getElem? (i := 26) rfl) rfl rfl rfl rfl (fs_lt (fs_ne (by decide) (fs_ne (by decide) (fs_ne (by decide) (fs_ne (by decide) (fs_ne (by decide) (fs_ne (by decide) f0_3))))))) dX1_init_52 (fun H locs hO => ?_)
  have hO : cO D cy A s.heap s 15 (aext 8 nw_49_5 (aext 7 nw_44_4 (aext 6 nw_23_3 (aext 5 nw_15_2 (aext 4 nw_7_1 ad))))) (cup [(4, .inl (cy 0, 96, .inl (fun _ => 0))), (0, .inr (1, (((((((f0.set 4 (.ref (nw_7_1 0))).set 5 (.ref (nw_15_2 0))).set 6 (.ref (nw_23_3 0))).set 0 (.ref (ad 1))).set 1 (.ref (ad 2))).set 2 (.ref (ad 3))).set 3 (.ref (nw_44_4 0))))), (5, .inl (cy 0, 96, .inl (fun _ => 0))), (6, .inl (cy 0, 24, .inl (fun _ => 0))), (7, .inr (10, [.ref (ad 1), .ref (nw_49_5 0), .ref (nw_49_5 1), .ref (nw_49_5 2), .ref (nw_49_5 3), .ref (nw_49_5 4), .ref (nw_49_5 5), .ref (nw_49_5 6)])), (8, .inl (cy 0, 5, .inl (fun _ => 0))), (9, .inl (cy 0, 20, .inl (fun _ => 0))), (10, .inl (cy 0, 4, .inl (fun _ => 0))), (11, .inl (cy 0, 5, .inl (fun _ => 0))), (12, .inl (cy 0, 5, .inl (fun _ => 0))), (13, .inl (cy 0, 5, .inl (fun _ => 0))), (14, .inl (cy 0, 5, .inl (fun _ => 0)))] g) _ _ := hO
  refine lv_aload_n hx hb dX1_init_55 rfl (lv_at hl 0 rfl) ?_
  refine cg_get hC hO 0 (by decide) rfl rfl i_X1 4 (by decide) (List.mem_of_getElem? (i := 5) rfl) (fs_ne (by decide) (fs_ne (by decide) (fs_ne (by decide) (fs_ne (by decide) (fs_ne (by decide) (fs_ne (by decide) (fs_eq f0_4))))))) dX1_init_56 ?_
  refine lv_iconst (v := (-1)) hx hb dX1_init_59 (by decide) ?_
  refine cg_Sv (As := [.ref (nw_7_1 0), .int (-1)]) (rest := []) (mc := 0) (ms := 0) (rm := { frames := 0, cells := 0, slots := 0, locals := 0 }) hC hl.1 hO [4] rfl (c_J7_fill_53178 l D cy _ _ (n := 96) (c0 := (fun _ => 0)) (x := (-1)) rfl (by decide)) gq_c_X1_init_c_J7_fill_53178_42 rfl rfl rfl 2 (by decide +kernel) ⟨Nat.le_of_ble_eq_true rfl, Nat.le_of_ble_eq_true rfl⟩ rfl rfl (Nat.le_of_ble_eq_true rfl) dX1_init_60 ⟨Nat.le_of_ble_eq_true rfl, Nat.le_of_ble_eq_true rfl⟩ (fun nw_60_8 l_60_9 H locs hw hO => ?_)
  obtain ⟨cz_60_11, -, rfl⟩ := hw
  have hO : cO D cy A s.heap s 15 (aext 8 nw_49_5 (aext 7 nw_44_4 (aext 6 nw_23_3 (aext 5 nw_15_2 (aext 4 nw_7_1 ad))))) (cup [(4, .inl (cy 0, 96, .inl cz_60_11)), (0, .inr (1, (((((((f0.set 4 (.ref (nw_7_1 0))).set 5 (.ref (nw_15_2 0))).set 6 (.ref (nw_23_3 0))).set 0 (.ref (ad 1))).set 1 (.ref (ad 2))).set 2 (.ref (ad 3))).set 3 (.ref (nw_44_4 0))))), (5, .inl (cy 0, 96, .inl (fun _ => 0))), (6, .inl (cy 0, 24, .inl (fun _ => 0))), (7, .inr (10, [.ref (ad 1), .ref (nw_49_5 0), .ref (nw_49_5 1), .ref (nw_49_5 2), .ref (nw_49_5 3), .ref (nw_49_5 4), .ref (nw_49_5 5), .ref (nw_49_5 6)])), (8, .inl (cy 0, 5, .inl (fun _ => 0))), (9, .inl (cy 0, 20, .inl (fun _ => 0))), (10, .inl (cy 0, 4, .inl (fun _ => 0))), (11, .inl (cy 0, 5, .inl (fun _ => 0))), (12, .inl (cy 0, 5, .inl (fun _ => 0))), (13, .inl (cy 0, 5, .inl (fun _ => 0))), (14, .inl (cy 0, 5, .inl (fun _ => 0)))] g) _ _ := hO
  exact cg_vret (nw := fun i => (aext 8 nw_49_5 (aext 7 nw_44_4 (aext 6 nw_23_3 (aext 5 nw_15_2 (aext 4 nw_7_1 ad))))) (4 + i)) hC hr hlk (hO.fold (k := 4) (n := 11) (ad := ad) (fun j hj => by match j, hj with | 0, _ => rfl | 1, _ => rfl | 2, _ => rfl | 3, _ => rfl)) (Nat.le_of_ble_eq_true rfl) (Nat.le_of_ble_eq_true rfl) (⟨cz_60_11, rfl⟩) dX1_init_63

theorem dX2_init_0 : decode cX2_init 0 = .ok (.aload_n 0, 1) := by decide +kernel
theorem dX2_init_1 : decode cX2_init 1 = .ok (.invokespecial 3, 3) := by decide +kernel
theorem dX2_init_4 : decode cX2_init 4 = .ok (.aload_n 0, 1) := by decide +kernel
theorem dX2_init_5 : decode cX2_init 5 = .ok (.bipush 24, 2) := by decide +kernel
theorem dX2_init_7 : decode cX2_init 7 = .ok (.newarray .int, 2) := by decide +kernel
theorem dX2_init_9 : decode cX2_init 9 = .ok (.putfield 9, 3) := by decide +kernel
theorem dX2_init_12 : decode cX2_init 12 = .ok (.aload_n 0, 1) := by decide +kernel
theorem dX2_init_13 : decode cX2_init 13 = .ok (.bipush 24, 2) := by decide +kernel
theorem dX2_init_15 : decode cX2_init 15 = .ok (.newarray .int, 2) := by decide +kernel
theorem dX2_init_17 : decode cX2_init 17 = .ok (.putfield 15, 3) := by decide +kernel
theorem dX2_init_20 : decode cX2_init 20 = .ok (.aload_n 0, 1) := by decide +kernel
theorem dX2_init_21 : decode cX2_init 21 = .ok (.bipush 24, 2) := by decide +kernel
theorem dX2_init_23 : decode cX2_init 23 = .ok (.newarray .int, 2) := by decide +kernel
theorem dX2_init_25 : decode cX2_init 25 = .ok (.putfield 18, 3) := by decide +kernel
theorem dX2_init_28 : decode cX2_init 28 = .ok (.aload_n 0, 1) := by decide +kernel
theorem dX2_init_29 : decode cX2_init 29 = .ok (.iconst 3, 1) := by decide +kernel
theorem dX2_init_30 : decode cX2_init 30 = .ok (.newarray .int, 2) := by decide +kernel
theorem dX2_init_32 : decode cX2_init 32 = .ok (.putfield 21, 3) := by decide +kernel
theorem dX2_init_35 : decode cX2_init 35 = .ok (.aload_n 0, 1) := by decide +kernel
theorem dX2_init_36 : decode cX2_init 36 = .ok (.bipush 24, 2) := by decide +kernel
theorem dX2_init_38 : decode cX2_init 38 = .ok (.newarray .int, 2) := by decide +kernel
theorem dX2_init_40 : decode cX2_init 40 = .ok (.putfield 24, 3) := by decide +kernel
theorem dX2_init_43 : decode cX2_init 43 = .ok (.aload_n 0, 1) := by decide +kernel
theorem dX2_init_44 : decode cX2_init 44 = .ok (.aload_n 1, 1) := by decide +kernel
theorem dX2_init_45 : decode cX2_init 45 = .ok (.putfield 27, 3) := by decide +kernel
theorem dX2_init_48 : decode cX2_init 48 = .ok (.aload_n 0, 1) := by decide +kernel
theorem dX2_init_49 : decode cX2_init 49 = .ok (.aload_n 2, 1) := by decide +kernel
theorem dX2_init_50 : decode cX2_init 50 = .ok (.putfield 31, 3) := by decide +kernel
theorem dX2_init_53 : decode cX2_init 53 = .ok (.aload_n 0, 1) := by decide +kernel
theorem dX2_init_54 : decode cX2_init 54 = .ok (.aload_n 3, 1) := by decide +kernel
theorem dX2_init_55 : decode cX2_init 55 = .ok (.putfield 35, 3) := by decide +kernel
theorem dX2_init_58 : decode cX2_init 58 = .ok (.aload_n 0, 1) := by decide +kernel
theorem dX2_init_59 : decode cX2_init 59 = .ok (.new 39, 3) := by decide +kernel
theorem dX2_init_62 : decode cX2_init 62 = .ok (.dup, 1) := by decide +kernel
theorem dX2_init_63 : decode cX2_init 63 = .ok (.aload_n 1, 1) := by decide +kernel
theorem dX2_init_64 : decode cX2_init 64 = .ok (.invokespecial 41, 3) := by decide +kernel
theorem dX2_init_67 : decode cX2_init 67 = .ok (.putfield 44, 3) := by decide +kernel
theorem dX2_init_70 : decode cX2_init 70 = .ok (.return_, 1) := by decide +kernel
def wq_c_X2_init : List Cond := Cond.code yX2_init cX2_init 4 none :: (([Cond.methodLink RX2 3 objectInit, Cond.instanceMethod objectInit, Cond.code objectInit ⟨#[0xb1]⟩ 1 none, Cond.arrayClass .int, Cond.fieldLink RX2 9 "CrowToll$Drivers" "order" "[I", Cond.fieldLink RX2 15 "CrowToll$Drivers" "who" "[I", Cond.fieldLink RX2 18 "CrowToll$Drivers" "when" "[I", Cond.fieldLink RX2 21 "CrowToll$Drivers" "chosen" "[I", Cond.fieldLink RX2 24 "CrowToll$Drivers" "later" "[I", Cond.fieldLink RX2 27 "CrowToll$Drivers" "road" "LCrowToll$Road;", Cond.fieldLink RX2 31 "CrowToll$Drivers" "stand" "LCrowToll$Stand;", Cond.fieldLink RX2 35 "CrowToll$Drivers" "prices" "LCrowToll$Prices;", Cond.classLink RX2 39 RX10, Cond.instantiable RX10 8, Cond.initialized RX10, Cond.code yX10_init cX10_init 2 none, Cond.methodLink RX10 3 objectInit, Cond.fieldLink RX10 9 "CrowToll$Watch" "limit" "[I", Cond.fieldLink RX10 15 "CrowToll$Watch" "seat" "[I", Cond.fieldLink RX10 18 "CrowToll$Watch" "seated" "[I", Cond.fieldLink RX10 21 "CrowToll$Watch" "count" "[I", Cond.fieldLink RX10 24 "CrowToll$Watch" "total" "[I", Cond.fieldLink RX10 27 "CrowToll$Watch" "lookedAt" "[I", Cond.fieldLink RX10 30 "CrowToll$Watch" "countedAt" "[I", Cond.fieldLink RX10 33 "CrowToll$Watch" "road" "LCrowToll$Road;", Cond.instanceMethod yX10_init, Cond.methodLink RX2 41 yX10_init, Cond.fieldLink RX2 44 "CrowToll$Drivers" "watch" "LCrowToll$Watch;"] : List Cond) ++ wsX20 ++ wsX100)
set_option maxRecDepth 20000 in
theorem gr_c_X2_init_c_X10_init : GoodIn wq_c_X2_init wq_c_X10_init := List.forall_mem_cons.mpr ⟨⟨(List.mem_of_getElem? (i := 16) rfl), good_of_word rfl⟩, List.forall_mem_append.mpr ⟨List.forall_mem_cons.mpr ⟨⟨(List.mem_of_getElem? (i := 17) rfl), good_of_word rfl⟩, List.forall_mem_cons.mpr ⟨⟨(List.mem_of_getElem? (i := 2) rfl), good_of_word rfl⟩, List.forall_mem_cons.mpr ⟨⟨(List.mem_of_getElem? (i := 3) rfl), good_of_word rfl⟩, List.forall_mem_cons.mpr ⟨⟨(List.mem_of_getElem? (i := 4) rfl), good_of_word rfl⟩, List.forall_mem_cons.mpr ⟨⟨(List.mem_of_getElem? (i := 18) rfl), good_of_word rfl⟩, List.forall_mem_cons.mpr ⟨⟨(List.mem_of_getElem? (i := 19) rfl), good_of_word rfl⟩, List.forall_mem_cons.mpr ⟨⟨(List.mem_of_getElem? (i := 20) rfl), good_of_word rfl⟩, List.forall_mem_cons.mpr ⟨⟨(List.mem_of_getElem? (i := 21) rfl), good_of_word rfl⟩, List.forall_mem_cons.mpr ⟨⟨(List.mem_of_getElem? (i := 22) rfl), good_of_word rfl⟩, List.forall_mem_cons.mpr ⟨⟨(List.mem_of_getElem? (i := 23) rfl), good_of_word rfl⟩, List.forall_mem_cons.mpr ⟨⟨(List.mem_of_getElem? (i := 24) rfl), good_of_word rfl⟩, List.forall_mem_cons.mpr ⟨⟨(List.mem_of_getElem? (i := 25) rfl), good_of_word rfl⟩, (fun _ h => absurd h List.not_mem_nil)⟩⟩⟩⟩⟩⟩⟩⟩⟩⟩⟩⟩, fun w h => ⟨(fun w h => List.mem_cons_of_mem _ (List.mem_append_right _ h)) w h, good_of_word (List.all_eq_true.mp gw_X10 w h)⟩⟩⟩
theorem gq_c_X2_init_c_X10_init : GoodIn wq_c_X2_init wq_c_X10_init := gr_c_X2_init_c_X10_init
set_option maxHeartbeats 8000000 in
set_option maxRecDepth 100000 in
theorem c_X2_init (l : Launch) (D : va_G) (cy : Nat → ClassId) (ad : Nat → Nat) (g : Nat → va_E) {f0 : List Value} {f1 : List Value} {f2 : List Value} {f3 : List Value} (o0 : g 0 = .inr (2, f0)) (f0_0 : f0[0]? = some (.null)) (f0_1 : f0[1]? = some (.null)) (f0_2 : f0[2]? = some (.null)) (f0_3 : f0[3]? = some (.null)) (f0_4 : f0[4]? = some (.null)) (f0_5 : f0[5]? = some (.int 0)) (f0_6 : f0[6]? = some (.null)) (f0_7 : f0[7]? = some (.null)) (f0_8 : f0[8]? = some (.null)) (f0_9 : f0[9]? = some (.null)) (f0_10 : f0[10]? = some (.int 0)) (o1 : g 1 = .inr (7, f1)) (o2 : g 2 = .inr (9, f2)) (o3 : g 3 = .inr (5, f3)) : cMv l yX2_init wq_c_X2_init { frames := 2, cells := 13, slots := 156, locals := 41 } 4 13 13 156 D cy ad g [.ref (ad 0), .ref (ad 1), .ref (ad 2), .ref (ad 3)] (fun nw lu => lu = [(4, .inl (cy 0, 24, .inl (fun _ => 0))), (0, .inr (2, (((((((((f0.set 4 (.ref (nw 0))).set 6 (.ref (nw 1))).set 7 (.ref (nw 2))).set 8 (.ref (nw 3))).set 9 (.ref (nw 4))).set 0 (.ref (ad 1))).set 1 (.ref (ad 2))).set 2 (.ref (ad 3))).set 3 (.ref (nw 5))))), (5, .inl (cy 0, 24, .inl (fun _ => 0))), (6, .inl (cy 0, 24, .inl (fun _ => 0))), (7, .inl (cy 0, 3, .inl (fun _ => 0))), (8, .inl (cy 0, 24, .inl (fun _ => 0))), (9, .inr (10, [.ref (ad 1), .ref (nw 6), .ref (nw 7), .ref (nw 8), .ref (nw 9), .ref (nw 10), .ref (nw 11), .ref (nw 12)])), (10, .inl (cy 0, 5, .inl (fun _ => 0))), (11, .inl (cy 0, 20, .inl (fun _ => 0))), (12, .inl (cy 0, 4, .inl (fun _ => 0))), (13, .inl (cy 0, 5, .inl (fun _ => 0))), (14, .inl (cy 0, 5, .inl (fun _ => 0))), (15, .inl (cy 0, 5, .inl (fun _ => 0))), (16, .inl (cy 0, 5, .inl (fun _ => 0)))]) := by
  refine cM_of (Qc := fun A => cQv (fun nw lu => lu = [(4, .inl (cy 0, 24, .inl (fun _ => 0))), (0, .inr (2, (((((((((f0.set 4 (.ref (nw 0))).set 6 (.ref (nw 1))).set 7 (.ref (nw 2))).set 8 (.ref (nw 3))).set 9 (.ref (nw 4))).set 0 (.ref (ad 1))).set 1 (.ref (ad 2))).set 2 (.ref (ad 3))).set 3 (.ref (nw 5))))), (5, .inl (cy 0, 24, .inl (fun _ => 0))), (6, .inl (cy 0, 24, .inl (fun _ => 0))), (7, .inl (cy 0, 3, .inl (fun _ => 0))), (8, .inl (cy 0, 24, .inl (fun _ => 0))), (9, .inr (10, [.ref (ad 1), .ref (nw 6), .ref (nw 7), .ref (nw 8), .ref (nw 9), .ref (nw 10), .ref (nw 11), .ref (nw 12)])), (10, .inl (cy 0, 5, .inl (fun _ => 0))), (11, .inl (cy 0, 20, .inl (fun _ => 0))), (12, .inl (cy 0, 4, .inl (fun _ => 0))), (13, .inl (cy 0, 5, .inl (fun _ => 0))), (14, .inl (cy 0, 5, .inl (fun _ => 0))), (15, .inl (cy 0, 5, .inl (fun _ => 0))), (16, .inl (cy 0, 5, .inl (fun _ => 0)))]) D 4 13 ad g A) (cc := cX2_init) (maxL := 4) (ret := none) (by decide) rfl (Nat.le_of_ble_eq_true rfl) ?_
  intro p e s m below meth c A hC hr hlk hnm hO ls hl
  have hC : CallFix p m c cX2_init 4 s [.ref (ad 0), .ref (ad 1), .ref (ad 2), .ref (ad 3)].toArray wq_c_X2_init RX2 := hC
  obtain ⟨hx, hb, hml, hown, hts⟩ := id hC
  have hl : lv_has ls 4 [(0, .ref (ad 0)), (1, .ref (ad 1)), (2, .ref (ad 2)), (3, .ref (ad 3))] := hl
  have hnm : meth.name = "<init>" := hnm
  have i_X10 : ∀ w ∈ wsX100, w ∈ wq_c_X2_init := fun w h => List.mem_cons_of_mem _ (List.mem_append_right _ h)
  have i_X2 : ∀ w ∈ wsX20, w ∈ wq_c_X2_init := fun w h => List.mem_cons_of_mem _ (List.mem_append_left _ (List.mem_append_right _ h))
  refine lv_aload_n hx hb dX2_init_0 rfl (lv_at hl 0 rfl) ?_
  refine cg_obj hC hl.1 (List.mem_of_getElem? (i := 1) rfl) (List.mem_of_getElem? (i := 2) rfl) (List.mem_of_getElem? (i := 3) rfl) dX2_init_1 (Nat.le_of_ble_eq_true rfl) (Nat.le_of_ble_eq_true rfl) ?_
  refine lv_aload_n hx hb dX2_init_4 rfl (lv_at hl 0 rfl) ?_
  refine lv_bipush (v := 24) hx hb dX2_init_5 (by decide) ?_
  refine cg_newa (atype := .int) hC hO rfl (List.mem_of_getElem? (i := 4) rfl) 0 rfl (fun _ h => by cases h) (a0 := (24, .inl (fun _ => 0))) (fun _ => rfl) (by decide) (N' := 24) (by decide) (Nat.le_of_ble_eq_true rfl) (Nat.le_of_ble_eq_true rfl) (Nat.le_of_ble_eq_true rfl) dX2_init_7 (fun nw_7_1 H hO => ?_)
  refine W.widen (k := 1) (n := 24) (Nat.le_of_ble_eq_true rfl) (Nat.le_of_ble_eq_true rfl) ?_
  have hO : cO D cy A s.heap s 5 (aext 4 nw_7_1 ad) (cup [(4, .inl (cy 0, 24, .inl (fun _ => 0)))] g) _ _ := hO
  refine cg_putF hC hO hnm 0 (by decide) o0 rfl i_X2 tyX2_ok nmX2 4 (by decide) (List.mem_of_getElem? (i := 5) rfl) rfl rfl rfl rfl (fs_lt f0_4) dX2_init_9 (fun H locs hO => ?_)
  have hO : cO D cy A s.heap s 5 (aext 4 nw_7_1 ad) (cup [(4, .inl (cy 0, 24, .inl (fun _ => 0))), (0, .inr (2, (f0.set 4 (.ref (nw_7_1 0)))))] g) _ _ := hO
  refine lv_aload_n hx hb dX2_init_12 rfl (lv_at hl 0 rfl) ?_
  refine lv_bipush (v := 24) hx hb dX2_init_13 (by decide) ?_
  refine cg_newa (atype := .int) hC hO rfl (List.mem_of_getElem? (i := 4) rfl) 0 rfl (fun _ h => by cases h) (a0 := (24, .inl (fun _ => 0))) (fun _ => rfl) (by decide) (N' := 24) (by decide) (Nat.le_of_ble_eq_true rfl) (Nat.le_of_ble_eq_true rfl) (Nat.le_of_ble_eq_true rfl) dX2_init_15 (fun nw_15_2 H hO => ?_)
  refine W.widen (k := 2) (n := 48) (Nat.le_of_ble_eq_true rfl) (Nat.le_of_ble_eq_true rfl) ?_
  have hO : cO D cy A s.heap s 6 (aext 5 nw_15_2 (aext 4 nw_7_1 ad)) (cup [(4, .inl (cy 0, 24, .inl (fun _ => 0))), (0, .inr (2, (f0.set 4 (.ref (nw_7_1 0))))), (5, .inl (cy 0, 24, .inl (fun _ => 0)))] g) _ _ := hO
  refine cg_putF hC hO hnm 0 (by decide) rfl rfl i_X2 tyX2_ok nmX2 6 (by decide) (List.mem_of_getElem? (i := 6) rfl) rfl rfl rfl rfl (fs_lt (fs_ne (by decide) f0_6)) dX2_init_17 (fun H locs hO => ?_)
  have hO : cO D cy A s.heap s 6 (aext 5 nw_15_2 (aext 4 nw_7_1 ad)) (cup [(4, .inl (cy 0, 24, .inl (fun _ => 0))), (0, .inr (2, ((f0.set 4 (.ref (nw_7_1 0))).set 6 (.ref (nw_15_2 0))))), (5, .inl (cy 0, 24, .inl (fun _ => 0)))] g) _ _ := hO
  refine lv_aload_n hx hb dX2_init_20 rfl (lv_at hl 0 rfl) ?_
  refine lv_bipush (v := 24) hx hb dX2_init_21 (by decide) ?_
  refine cg_newa (atype := .int) hC hO rfl (List.mem_of_getElem? (i := 4) rfl) 0 rfl (fun _ h => by cases h) (a0 := (24, .inl (fun _ => 0))) (fun _ => rfl) (by decide) (N' := 24) (by decide) (Nat.le_of_ble_eq_true rfl) (Nat.le_of_ble_eq_true rfl) (Nat.le_of_ble_eq_true rfl) dX2_init_23 (fun nw_23_3 H hO => ?_)
  refine W.widen (k := 3) (n := 72) (Nat.le_of_ble_eq_true rfl) (Nat.le_of_ble_eq_true rfl) ?_
  have hO : cO D cy A s.heap s 7 (aext 6 nw_23_3 (aext 5 nw_15_2 (aext 4 nw_7_1 ad))) (cup [(4, .inl (cy 0, 24, .inl (fun _ => 0))), (0, .inr (2, ((f0.set 4 (.ref (nw_7_1 0))).set 6 (.ref (nw_15_2 0))))), (5, .inl (cy 0, 24, .inl (fun _ => 0))), (6, .inl (cy 0, 24, .inl (fun _ => 0)))] g) _ _ := hO
  refine cg_putF hC hO hnm 0 (by decide) rfl rfl i_X2 tyX2_ok nmX2 7 (by decide) (List.mem_of_getElem? (i := 7) rfl) rfl rfl rfl rfl (fs_lt (fs_ne (by decide) (fs_ne (by decide) f0_7))) dX2_init_25 (fun H locs hO => ?_)
  have hO : cO D cy A s.heap s 7 (aext 6 nw_23_3 (aext 5 nw_15_2 (aext 4 nw_7_1 ad))) (cup [(4, .inl (cy 0, 24, .inl (fun _ => 0))), (0, .inr (2, (((f0.set 4 (.ref (nw_7_1 0))).set 6 (.ref (nw_15_2 0))).set 7 (.ref (nw_23_3 0))))), (5, .inl (cy 0, 24, .inl (fun _ => 0))), (6, .inl (cy 0, 24, .inl (fun _ => 0)))] g) _ _ := hO
  refine lv_aload_n hx hb dX2_init_28 rfl (lv_at hl 0 rfl) ?_
  refine lv_iconst (v := 3) hx hb dX2_init_29 (by decide) ?_
  refine cg_newa (atype := .int) hC hO rfl (List.mem_of_getElem? (i := 4) rfl) 0 rfl (fun _ h => by cases h) (a0 := (3, .inl (fun _ => 0))) (fun _ => rfl) (by decide) (N' := 3) (by decide) (Nat.le_of_ble_eq_true rfl) (Nat.le_of_ble_eq_true rfl) (Nat.le_of_ble_eq_true rfl) dX2_init_30 (fun nw_30_4 H hO => ?_)
  refine W.widen (k := 4) (n := 75) (Nat.le_of_ble_eq_true rfl) (Nat.le_of_ble_eq_true rfl) ?_
  have hO : cO D cy A s.heap s 8 (aext 7 nw_30_4 (aext 6 nw_23_3 (aext 5 nw_15_2 (aext 4 nw_7_1 ad)))) (cup [(4, .inl (cy 0, 24, .inl (fun _ => 0))), (0, .inr (2, (((f0.set 4 (.ref (nw_7_1 0))).set 6 (.ref (nw_15_2 0))).set 7 (.ref (nw_23_3 0))))), (5, .inl (cy 0, 24, .inl (fun _ => 0))), (6, .inl (cy 0, 24, .inl (fun _ => 0))), (7, .inl (cy 0, 3, .inl (fun _ => 0)))] g) _ _ := hO
  refine cg_putF hC hO hnm 0 (by decide) rfl rfl i_X2 tyX2_ok nmX2 8 (by decide) (List.mem_of_getElem? (i := 8) rfl) rfl rfl rfl rfl (fs_lt (fs_ne (by decide) (fs_ne (by decide) (fs_ne (by decide) f0_8)))) dX2_init_32 (fun H locs hO => ?_)
  have hO : cO D cy A s.heap s 8 (aext 7 nw_30_4 (aext 6 nw_23_3 (aext 5 nw_15_2 (aext 4 nw_7_1 ad)))) (cup [(4, .inl (cy 0, 24, .inl (fun _ => 0))), (0, .inr (2, ((((f0.set 4 (.ref (nw_7_1 0))).set 6 (.ref (nw_15_2 0))).set 7 (.ref (nw_23_3 0))).set 8 (.ref (nw_30_4 0))))), (5, .inl (cy 0, 24, .inl (fun _ => 0))), (6, .inl (cy 0, 24, .inl (fun _ => 0))), (7, .inl (cy 0, 3, .inl (fun _ => 0)))] g) _ _ := hO
  refine lv_aload_n hx hb dX2_init_35 rfl (lv_at hl 0 rfl) ?_
  refine lv_bipush (v := 24) hx hb dX2_init_36 (by decide) ?_
  refine cg_newa (atype := .int) hC hO rfl (List.mem_of_getElem? (i := 4) rfl) 0 rfl (fun _ h => by cases h) (a0 := (24, .inl (fun _ => 0))) (fun _ => rfl) (by decide) (N' := 24) (by decide) (Nat.le_of_ble_eq_true rfl) (Nat.le_of_ble_eq_true rfl) (Nat.le_of_ble_eq_true rfl) dX2_init_38 (fun nw_38_5 H hO => ?_)
  refine W.widen (k := 5) (n := 99) (Nat.le_of_ble_eq_true rfl) (Nat.le_of_ble_eq_true rfl) ?_
  have hO : cO D cy A s.heap s 9 (aext 8 nw_38_5 (aext 7 nw_30_4 (aext 6 nw_23_3 (aext 5 nw_15_2 (aext 4 nw_7_1 ad))))) (cup [(4, .inl (cy 0, 24, .inl (fun _ => 0))), (0, .inr (2, ((((f0.set 4 (.ref (nw_7_1 0))).set 6 (.ref (nw_15_2 0))).set 7 (.ref (nw_23_3 0))).set 8 (.ref (nw_30_4 0))))), (5, .inl (cy 0, 24, .inl (fun _ => 0))), (6, .inl (cy 0, 24, .inl (fun _ => 0))), (7, .inl (cy 0, 3, .inl (fun _ => 0))), (8, .inl (cy 0, 24, .inl (fun _ => 0)))] g) _ _ := hO
  refine cg_putF hC hO hnm 0 (by decide) rfl rfl i_X2 tyX2_ok nmX2 9 (by decide) (List.mem_of_getElem? (i := 9) rfl) rfl rfl rfl rfl (fs_lt (fs_ne (by decide) (fs_ne (by decide) (fs_ne (by decide) (fs_ne (by decide) f0_9))))) dX2_init_40 (fun H locs hO => ?_)
  have hO : cO D cy A s.heap s 9 (aext 8 nw_38_5 (aext 7 nw_30_4 (aext 6 nw_23_3 (aext 5 nw_15_2 (aext 4 nw_7_1 ad))))) (cup [(4, .inl (cy 0, 24, .inl (fun _ => 0))), (0, .inr (2, (((((f0.set 4 (.ref (nw_7_1 0))).set 6 (.ref (nw_15_2 0))).set 7 (.ref (nw_23_3 0))).set 8 (.ref (nw_30_4 0))).set 9 (.ref (nw_38_5 0))))), (5, .inl (cy 0, 24, .inl (fun _ => 0))), (6, .inl (cy 0, 24, .inl (fun _ => 0))), (7, .inl (cy 0, 3, .inl (fun _ => 0))), (8, .inl (cy 0, 24, .inl (fun _ => 0)))] g) _ _ := hO
  refine lv_aload_n hx hb dX2_init_43 rfl (lv_at hl 0 rfl) ?_
  refine lv_aload_n hx hb dX2_init_44 rfl (lv_at hl 1 rfl) ?_
  refine cg_putF hC hO hnm 0 (by decide) rfl rfl i_X2 tyX2_ok nmX2 0 (by decide) (List.mem_of_getElem? (i := 10) rfl) rfl rfl rfl rfl (fs_lt (fs_ne (by decide) (fs_ne (by decide) (fs_ne (by decide) (fs_ne (by decide) (fs_ne (by decide) f0_0)))))) dX2_init_45 (fun H locs hO => ?_)
  have hO : cO D cy A s.heap s 9 (aext 8 nw_38_5 (aext 7 nw_30_4 (aext 6 nw_23_3 (aext 5 nw_15_2 (aext 4 nw_7_1 ad))))) (cup [(4, .inl (cy 0, 24, .inl (fun _ => 0))), (0, .inr (2, ((((((f0.set 4 (.ref (nw_7_1 0))).set 6 (.ref (nw_15_2 0))).set 7 (.ref (nw_23_3 0))).set 8 (.ref (nw_30_4 0))).set 9 (.ref (nw_38_5 0))).set 0 (.ref (ad 1))))), (5, .inl (cy 0, 24, .inl (fun _ => 0))), (6, .inl (cy 0, 24, .inl (fun _ => 0))), (7, .inl (cy 0, 3, .inl (fun _ => 0))), (8, .inl (cy 0, 24, .inl (fun _ => 0)))] g) _ _ := hO
  refine lv_aload_n hx hb dX2_init_48 rfl (lv_at hl 0 rfl) ?_
  refine lv_aload_n hx hb dX2_init_49 rfl (lv_at hl 2 rfl) ?_
  refine cg_putF hC hO hnm 0 (by decide) rfl rfl i_X2 tyX2_ok nmX2 1 (by decide) (List.mem_of_getElem? (i := 11) rfl) rfl rfl rfl rfl (fs_lt (fs_ne (by decide) (fs_ne (by decide) (fs_ne (by decide) (fs_ne (by decide) (fs_ne (by decide) (fs_ne (by decide) f0_1))))))) dX2_init_50 (fun H locs hO => ?_)
  have hO : cO D cy A s.heap s 9 (aext 8 nw_38_5 (aext 7 nw_30_4 (aext 6 nw_23_3 (aext 5 nw_15_2 (aext 4 nw_7_1 ad))))) (cup [(4, .inl (cy 0, 24, .inl (fun _ => 0))), (0, .inr (2, (((((((f0.set 4 (.ref (nw_7_1 0))).set 6 (.ref (nw_15_2 0))).set 7 (.ref (nw_23_3 0))).set 8 (.ref (nw_30_4 0))).set 9 (.ref (nw_38_5 0))).set 0 (.ref (ad 1))).set 1 (.ref (ad 2))))), (5, .inl (cy 0, 24, .inl (fun _ => 0))), (6, .inl (cy 0, 24, .inl (fun _ => 0))), (7, .inl (cy 0, 3, .inl (fun _ => 0))), (8, .inl (cy 0, 24, .inl (fun _ => 0)))] g) _ _ := hO
  refine lv_aload_n hx hb dX2_init_53 rfl (lv_at hl 0 rfl) ?_
  refine lv_aload_n hx hb dX2_init_54 rfl (lv_at hl 3 rfl) ?_
  refine cg_putF hC hO hnm 0 (by decide) rfl rfl i_X2 tyX2_ok nmX2 2 (by decide) (List.mem_of_getElem? (i := 12) rfl) rfl rfl rfl rfl (fs_lt (fs_ne (by decide) (fs_ne (by decide) (fs_ne (by decide) (fs_ne (by decide) (fs_ne (by decide) (fs_ne (by decide) (fs_ne (by decide) f0_2)))))))) dX2_init_55 (fun H locs hO => ?_)
  have hO : cO D cy A s.heap s 9 (aext 8 nw_38_5 (aext 7 nw_30_4 (aext 6 nw_23_3 (aext 5 nw_15_2 (aext 4 nw_7_1 ad))))) (cup [(4, .inl (cy 0, 24, .inl (fun _ => 0))), (0, .inr (2, ((((((((f0.set 4 (.ref (nw_7_1 0))).set 6 (.ref (nw_15_2 0))).set 7 (.ref (nw_23_3 0))).set 8 (.ref (nw_30_4 0))).set 9 (.ref (nw_38_5 0))).set 0 (.ref (ad 1))).set 1 (.ref (ad 2))).set 2 (.ref (ad 3))))), (5, .inl (cy 0, 24, .inl (fun _ => 0))), (6, .inl (cy 0, 24, .inl (fun _ => 0))), (7, .inl (cy 0, 3, .inl (fun _ => 0))), (8, .inl (cy 0, 24, .inl (fun _ => 0)))] g) _ _ := hO
  refine lv_aload_n hx hb dX2_init_58 rfl (lv_at hl 0 rfl) ?_
  refine cg_new hC hO 10 rfl i_X10 tyX10_ok (List.mem_of_getElem? (i := 13) rfl) (List.mem_of_getElem? (i := 14) rfl) (List.mem_of_getElem? (i := 15) rfl) (fs := [.null, .null, .null, .null, .null, .null, .null, .null]) (dv_X10) (Nat.le_of_ble_eq_true rfl) (Nat.le_of_ble_eq_true rfl) dX2_init_59 (fun nw_59_6 H hO => ?_)
  refine W.widen (k := 6) (n := 107) (Nat.le_of_ble_eq_true rfl) (Nat.le_of_ble_eq_true rfl) ?_
  have hO : cO D cy A s.heap s 10 (aext 9 nw_59_6 (aext 8 nw_38_5 (aext 7 nw_30_4 (aext 6 nw_23_3 (aext 5 nw_15_2 (aext 4 nw_7_1 ad)))))) (cup [(4, .inl (cy 0, 24, .inl (fun _ => 0))), (0, .inr (2, ((((((((f0.set 4 (.ref (nw_7_1 0))).set 6 (.ref (nw_15_2 0))).set 7 (.ref (nw_23_3 0))).set 8 (.ref (nw_30_4 0))).set 9 (.ref (nw_38_5 0))).set 0 (.ref (ad 1))).set 1 (.ref (ad 2))).set 2 (.ref (ad 3))))), (5, .inl (cy 0, 24, .inl (fun _ => 0))), (6, .inl (cy 0, 24, .inl (fun _ => 0))), (7, .inl (cy 0, 3, .inl (fun _ => 0))), (8, .inl (cy 0, 24, .inl (fun _ => 0))), (9, .inr (10, [.null, .null, .null, .null, .null, .null, .null, .null]))] g) _ _ := hO
  refine lv_dup hx hb dX2_init_62 rfl ?_
  refine lv_aload_n hx hb dX2_init_63 rfl (lv_at hl 1 rfl) ?_
  refine cg_I (As := [.ref (ad 1)]) (rest := [.ref (nw_59_6 0), .ref (ad 0)]) (mc := 7) (ms := 49) (rm := { frames := 1, cells := 7, slots := 49, locals := 20 }) hC hl.1 hO [9, 1] rfl (c_X10_init l D cy _ _ (f0 := [.null, .null, .null, .null, .null, .null, .null, .null]) (f1 := f1) rfl rfl rfl rfl rfl rfl rfl rfl rfl o1) gq_c_X2_init_c_X10_init rfl rfl rfl (List.mem_of_getElem? (i := 15) rfl) (List.mem_of_getElem? (i := 27) rfl) (List.mem_of_getElem? (i := 26) rfl) rfl 1 (by decide +kernel) ⟨Nat.le_of_ble_eq_true rfl, Nat.le_of_ble_eq_true rfl⟩ rfl rfl (Nat.le_of_ble_eq_true rfl) dX2_init_64 ⟨Nat.le_of_ble_eq_true rfl, Nat.le_of_ble_eq_true rfl⟩ (fun nw_64_7 l_64_8 H locs hw hO => ?_)
  obtain rfl := hw
  have hO : cO D cy A s.heap s 17 (aext 10 nw_64_7 (aext 9 nw_59_6 (aext 8 nw_38_5 (aext 7 nw_30_4 (aext 6 nw_23_3 (aext 5 nw_15_2 (aext 4 nw_7_1 ad))))))) (cup [(4, .inl (cy 0, 24, .inl (fun _ => 0))), (0, .inr (2, ((((((((f0.set 4 (.ref (nw_7_1 0))).set 6 (.ref (nw_15_2 0))).set 7 (.ref (nw_23_3 0))).set 8 (.ref (nw_30_4 0))).set 9 (.ref (nw_38_5 0))).set 0 (.ref (ad 1))).set 1 (.ref (ad 2))).set 2 (.ref (ad 3))))), (5, .inl (cy 0, 24, .inl (fun _ => 0))), (6, .inl (cy 0, 24, .inl (fun _ => 0))), (7, .inl (cy 0, 3, .inl (fun _ => 0))), (8, .inl (cy 0, 24, .inl (fun _ => 0))), (9, .inr (10, [.ref (ad 1), .ref (nw_64_7 0), .ref (nw_64_7 1), .ref (nw_64_7 2), .ref (nw_64_7 3), .ref (nw_64_7 4), .ref (nw_64_7 5), .ref (nw_64_7 6)])), (10, .inl (cy 0, 5, .inl (fun _ => 0))), (11, .inl (cy 0, 20, .inl (fun _ => 0))), (12, .inl (cy 0, 4, .inl (fun _ => 0))), (13, .inl (cy 0, 5, .inl (fun _ => 0))), (14, .inl (cy 0, 5, .inl (fun _ => 0))), (15, .inl (cy 0, 5, .inl (fun _ => 0))), (16, .inl (cy 0, 5, .inl (fun _ => 0)))] g) _ _ := hO rfl rfl
  refine W.widen (k := 13) (n := 156) (Nat.le_of_ble_eq_true rfl) (Nat.le_of_ble_eq_true rfl) ?_
  refine cg_putF hC hO hnm 0 (by decide) rfl rfl i_X2 tyX2_ok nmX2 3 (by decide) (List.mem_of_getElem? (i := 28) rfl) rfl rfl rfl rfl (fs_lt (fs_ne (by decide) (fs_ne (by decide) (fs_ne (by decide) (fs_ne (by decide) (fs_ne (by decide) (fs_ne (by decide) (fs_ne (by decide) (fs_ne (by decide) f0_3))))))))) dX2_init_67 (fun H locs hO => ?_)
  have hO : cO D cy A s.heap s 17 (aext 10 nw_64_7 (aext 9 nw_59_6 (aext 8 nw_38_5 (aext 7 nw_30_4 (aext 6 nw_23_3 (aext 5 nw_15_2 (aext 4 nw_7_1 ad))))))) (cup [(4, .inl (cy 0, 24, .inl (fun _ => 0))), (0, .inr (2, (((((((((f0.set 4 (.ref (nw_7_1 0))).set 6 (.ref (nw_15_2 0))).set 7 (.ref (nw_23_3 0))).set 8 (.ref (nw_30_4 0))).set 9 (.ref (nw_38_5 0))).set 0 (.ref (ad 1))).set 1 (.ref (ad 2))).set 2 (.ref (ad 3))).set 3 (.ref (nw_59_6 0))))), (5, .inl (cy 0, 24, .inl (fun _ => 0))), (6, .inl (cy 0, 24, .inl (fun _ => 0))), (7, .inl (cy 0, 3, .inl (fun _ => 0))), (8, .inl (cy 0, 24, .inl (fun _ => 0))), (9, .inr (10, [.ref (ad 1), .ref (nw_64_7 0), .ref (nw_64_7 1), .ref (nw_64_7 2), .ref (nw_64_7 3), .ref (nw_64_7 4), .ref (nw_64_7 5), .ref (nw_64_7 6)])), (10, .inl (cy 0, 5, .inl (fun _ => 0))), (11, .inl (cy 0, 20, .inl (fun _ => 0))), (12, .inl (cy 0, 4, .inl (fun _ => 0))), (13, .inl (cy 0, 5, .inl (fun _ => 0))), (14, .inl (cy 0, 5, .inl (fun _ => 0))), (15, .inl (cy 0, 5, .inl (fun _ => 0))), (16, .inl (cy 0, 5, .inl (fun _ => 0)))] g) _ _ := hO
  exact cg_vret (nw := fun i => (aext 10 nw_64_7 (aext 9 nw_59_6 (aext 8 nw_38_5 (aext 7 nw_30_4 (aext 6 nw_23_3 (aext 5 nw_15_2 (aext 4 nw_7_1 ad))))))) (4 + i)) hC hr hlk (hO.fold (k := 4) (n := 13) (ad := ad) (fun j hj => by match j, hj with | 0, _ => rfl | 1, _ => rfl | 2, _ => rfl | 3, _ => rfl)) (Nat.le_of_ble_eq_true rfl) (Nat.le_of_ble_eq_true rfl) rfl dX2_init_70

theorem dX3_init_0 : decode cX3_init 0 = .ok (.aload_n 0, 1) := by decide +kernel
theorem dX3_init_1 : decode cX3_init 1 = .ok (.invokespecial 3, 3) := by decide +kernel
theorem dX3_init_4 : decode cX3_init 4 = .ok (.aload_n 0, 1) := by decide +kernel
theorem dX3_init_5 : decode cX3_init 5 = .ok (.bipush 24, 2) := by decide +kernel
theorem dX3_init_7 : decode cX3_init 7 = .ok (.newarray .int, 2) := by decide +kernel
theorem dX3_init_9 : decode cX3_init 9 = .ok (.putfield 9, 3) := by decide +kernel
theorem dX3_init_12 : decode cX3_init 12 = .ok (.aload_n 0, 1) := by decide +kernel
theorem dX3_init_13 : decode cX3_init 13 = .ok (.iconst 5, 1) := by decide +kernel
theorem dX3_init_14 : decode cX3_init 14 = .ok (.newarray .int, 2) := by decide +kernel
theorem dX3_init_16 : decode cX3_init 16 = .ok (.putfield 15, 3) := by decide +kernel
theorem dX3_init_19 : decode cX3_init 19 = .ok (.aload_n 0, 1) := by decide +kernel
theorem dX3_init_20 : decode cX3_init 20 = .ok (.sipush 128, 3) := by decide +kernel
theorem dX3_init_23 : decode cX3_init 23 = .ok (.newarray .int, 2) := by decide +kernel
theorem dX3_init_25 : decode cX3_init 25 = .ok (.putfield 18, 3) := by decide +kernel
theorem dX3_init_28 : decode cX3_init 28 = .ok (.aload_n 0, 1) := by decide +kernel
theorem dX3_init_29 : decode cX3_init 29 = .ok (.iconst 5, 1) := by decide +kernel
theorem dX3_init_30 : decode cX3_init 30 = .ok (.newarray .int, 2) := by decide +kernel
theorem dX3_init_32 : decode cX3_init 32 = .ok (.putfield 21, 3) := by decide +kernel
theorem dX3_init_35 : decode cX3_init 35 = .ok (.aload_n 0, 1) := by decide +kernel
theorem dX3_init_36 : decode cX3_init 36 = .ok (.aload_n 1, 1) := by decide +kernel
theorem dX3_init_37 : decode cX3_init 37 = .ok (.putfield 24, 3) := by decide +kernel
theorem dX3_init_40 : decode cX3_init 40 = .ok (.aload_n 0, 1) := by decide +kernel
theorem dX3_init_41 : decode cX3_init 41 = .ok (.aload_n 2, 1) := by decide +kernel
theorem dX3_init_42 : decode cX3_init 42 = .ok (.putfield 28, 3) := by decide +kernel
theorem dX3_init_45 : decode cX3_init 45 = .ok (.aload_n 0, 1) := by decide +kernel
theorem dX3_init_46 : decode cX3_init 46 = .ok (.aload_n 3, 1) := by decide +kernel
theorem dX3_init_47 : decode cX3_init 47 = .ok (.putfield 32, 3) := by decide +kernel
theorem dX3_init_50 : decode cX3_init 50 = .ok (.aload_n 0, 1) := by decide +kernel
theorem dX3_init_51 : decode cX3_init 51 = .ok (.new 36, 3) := by decide +kernel
theorem dX3_init_54 : decode cX3_init 54 = .ok (.dup, 1) := by decide +kernel
theorem dX3_init_55 : decode cX3_init 55 = .ok (.aload_n 1, 1) := by decide +kernel
theorem dX3_init_56 : decode cX3_init 56 = .ok (.invokespecial 38, 3) := by decide +kernel
theorem dX3_init_59 : decode cX3_init 59 = .ok (.putfield 41, 3) := by decide +kernel
theorem dX3_init_62 : decode cX3_init 62 = .ok (.return_, 1) := by decide +kernel
def wq_c_X3_init : List Cond := Cond.code yX3_init cX3_init 4 none :: (([Cond.methodLink RX3 3 objectInit, Cond.instanceMethod objectInit, Cond.code objectInit ⟨#[0xb1]⟩ 1 none, Cond.arrayClass .int, Cond.fieldLink RX3 9 "CrowToll$Keepers" "order" "[I", Cond.fieldLink RX3 15 "CrowToll$Keepers" "way" "[I", Cond.fieldLink RX3 18 "CrowToll$Keepers" "taken" "[I", Cond.fieldLink RX3 21 "CrowToll$Keepers" "best" "[I", Cond.fieldLink RX3 24 "CrowToll$Keepers" "road" "LCrowToll$Road;", Cond.fieldLink RX3 28 "CrowToll$Keepers" "stand" "LCrowToll$Stand;", Cond.fieldLink RX3 32 "CrowToll$Keepers" "prices" "LCrowToll$Prices;", Cond.classLink RX3 36 RX10, Cond.instantiable RX10 8, Cond.initialized RX10, Cond.code yX10_init cX10_init 2 none, Cond.methodLink RX10 3 objectInit, Cond.fieldLink RX10 9 "CrowToll$Watch" "limit" "[I", Cond.fieldLink RX10 15 "CrowToll$Watch" "seat" "[I", Cond.fieldLink RX10 18 "CrowToll$Watch" "seated" "[I", Cond.fieldLink RX10 21 "CrowToll$Watch" "count" "[I", Cond.fieldLink RX10 24 "CrowToll$Watch" "total" "[I", Cond.fieldLink RX10 27 "CrowToll$Watch" "lookedAt" "[I", Cond.fieldLink RX10 30 "CrowToll$Watch" "countedAt" "[I", Cond.fieldLink RX10 33 "CrowToll$Watch" "road" "LCrowToll$Road;", Cond.instanceMethod yX10_init, Cond.methodLink RX3 38 yX10_init, Cond.fieldLink RX3 41 "CrowToll$Keepers" "watch" "LCrowToll$Watch;"] : List Cond) ++ wsX30 ++ wsX100)
set_option maxRecDepth 20000 in
theorem gr_c_X3_init_c_X10_init : GoodIn wq_c_X3_init wq_c_X10_init := List.forall_mem_cons.mpr ⟨⟨(List.mem_of_getElem? (i := 15) rfl), good_of_word rfl⟩, List.forall_mem_append.mpr ⟨List.forall_mem_cons.mpr ⟨⟨(List.mem_of_getElem? (i := 16) rfl), good_of_word rfl⟩, List.forall_mem_cons.mpr ⟨⟨(List.mem_of_getElem? (i := 2) rfl), good_of_word rfl⟩, List.forall_mem_cons.mpr ⟨⟨(List.mem_of_getElem? (i := 3) rfl), good_of_word rfl⟩, List.forall_mem_cons.mpr ⟨⟨(List.mem_of_getElem? (i := 4) rfl), good_of_word rfl⟩, List.forall_mem_cons.mpr ⟨⟨(List.mem_of_getElem? (i := 17) rfl), good_of_word rfl⟩, List.forall_mem_cons.mpr ⟨⟨(List.mem_of_getElem? (i := 18) rfl), good_of_word rfl⟩, List.forall_mem_cons.mpr ⟨⟨(List.mem_of_getElem? (i := 19) rfl), good_of_word rfl⟩, List.forall_mem_cons.mpr ⟨⟨(List.mem_of_getElem? (i := 20) rfl), good_of_word rfl⟩, List.forall_mem_cons.mpr ⟨⟨(List.mem_of_getElem? (i := 21) rfl), good_of_word rfl⟩, List.forall_mem_cons.mpr ⟨⟨(List.mem_of_getElem? (i := 22) rfl), good_of_word rfl⟩, List.forall_mem_cons.mpr ⟨⟨(List.mem_of_getElem? (i := 23) rfl), good_of_word rfl⟩, List.forall_mem_cons.mpr ⟨⟨(List.mem_of_getElem? (i := 24) rfl), good_of_word rfl⟩, (fun _ h => absurd h List.not_mem_nil)⟩⟩⟩⟩⟩⟩⟩⟩⟩⟩⟩⟩, fun w h => ⟨(fun w h => List.mem_cons_of_mem _ (List.mem_append_right _ h)) w h, good_of_word (List.all_eq_true.mp gw_X10 w h)⟩⟩⟩
theorem gq_c_X3_init_c_X10_init : GoodIn wq_c_X3_init wq_c_X10_init := gr_c_X3_init_c_X10_init
set_option maxHeartbeats 8000000 in
set_option maxRecDepth 100000 in
theorem c_X3_init (l : Launch) (D : va_G) (cy : Nat → ClassId) (ad : Nat → Nat) (g : Nat → va_E) {f0 : List Value} {f1 : List Value} {f2 : List Value} {f3 : List Value} (o0 : g 0 = .inr (3, f0)) (f0_0 : f0[0]? = some (.null)) (f0_1 : f0[1]? = some (.null)) (f0_2 : f0[2]? = some (.null)) (f0_3 : f0[3]? = some (.null)) (f0_4 : f0[4]? = some (.null)) (f0_5 : f0[5]? = some (.int 0)) (f0_6 : f0[6]? = some (.null)) (f0_7 : f0[7]? = some (.null)) (f0_8 : f0[8]? = some (.null)) (o1 : g 1 = .inr (7, f1)) (o2 : g 2 = .inr (9, f2)) (o3 : g 3 = .inr (5, f3)) : cMv l yX3_init wq_c_X3_init { frames := 2, cells := 12, slots := 219, locals := 41 } 4 12 12 219 D cy ad g [.ref (ad 0), .ref (ad 1), .ref (ad 2), .ref (ad 3)] (fun nw lu => lu = [(4, .inl (cy 0, 24, .inl (fun _ => 0))), (0, .inr (3, ((((((((f0.set 4 (.ref (nw 0))).set 6 (.ref (nw 1))).set 7 (.ref (nw 2))).set 8 (.ref (nw 3))).set 0 (.ref (ad 1))).set 1 (.ref (ad 2))).set 2 (.ref (ad 3))).set 3 (.ref (nw 4))))), (5, .inl (cy 0, 5, .inl (fun _ => 0))), (6, .inl (cy 0, 128, .inl (fun _ => 0))), (7, .inl (cy 0, 5, .inl (fun _ => 0))), (8, .inr (10, [.ref (ad 1), .ref (nw 5), .ref (nw 6), .ref (nw 7), .ref (nw 8), .ref (nw 9), .ref (nw 10), .ref (nw 11)])), (9, .inl (cy 0, 5, .inl (fun _ => 0))), (10, .inl (cy 0, 20, .inl (fun _ => 0))), (11, .inl (cy 0, 4, .inl (fun _ => 0))), (12, .inl (cy 0, 5, .inl (fun _ => 0))), (13, .inl (cy 0, 5, .inl (fun _ => 0))), (14, .inl (cy 0, 5, .inl (fun _ => 0))), (15, .inl (cy 0, 5, .inl (fun _ => 0)))]) := by
  refine cM_of (Qc := fun A => cQv (fun nw lu => lu = [(4, .inl (cy 0, 24, .inl (fun _ => 0))), (0, .inr (3, ((((((((f0.set 4 (.ref (nw 0))).set 6 (.ref (nw 1))).set 7 (.ref (nw 2))).set 8 (.ref (nw 3))).set 0 (.ref (ad 1))).set 1 (.ref (ad 2))).set 2 (.ref (ad 3))).set 3 (.ref (nw 4))))), (5, .inl (cy 0, 5, .inl (fun _ => 0))), (6, .inl (cy 0, 128, .inl (fun _ => 0))), (7, .inl (cy 0, 5, .inl (fun _ => 0))), (8, .inr (10, [.ref (ad 1), .ref (nw 5), .ref (nw 6), .ref (nw 7), .ref (nw 8), .ref (nw 9), .ref (nw 10), .ref (nw 11)])), (9, .inl (cy 0, 5, .inl (fun _ => 0))), (10, .inl (cy 0, 20, .inl (fun _ => 0))), (11, .inl (cy 0, 4, .inl (fun _ => 0))), (12, .inl (cy 0, 5, .inl (fun _ => 0))), (13, .inl (cy 0, 5, .inl (fun _ => 0))), (14, .inl (cy 0, 5, .inl (fun _ => 0))), (15, .inl (cy 0, 5, .inl (fun _ => 0)))]) D 4 12 ad g A) (cc := cX3_init) (maxL := 4) (ret := none) (by decide) rfl (Nat.le_of_ble_eq_true rfl) ?_
  intro p e s m below meth c A hC hr hlk hnm hO ls hl
  have hC : CallFix p m c cX3_init 4 s [.ref (ad 0), .ref (ad 1), .ref (ad 2), .ref (ad 3)].toArray wq_c_X3_init RX3 := hC
  obtain ⟨hx, hb, hml, hown, hts⟩ := id hC
  have hl : lv_has ls 4 [(0, .ref (ad 0)), (1, .ref (ad 1)), (2, .ref (ad 2)), (3, .ref (ad 3))] := hl
  have hnm : meth.name = "<init>" := hnm
  have i_X10 : ∀ w ∈ wsX100, w ∈ wq_c_X3_init := fun w h => List.mem_cons_of_mem _ (List.mem_append_right _ h)
  have i_X3 : ∀ w ∈ wsX30, w ∈ wq_c_X3_init := fun w h => List.mem_cons_of_mem _ (List.mem_append_left _ (List.mem_append_right _ h))
  refine lv_aload_n hx hb dX3_init_0 rfl (lv_at hl 0 rfl) ?_
  refine cg_obj hC hl.1 (List.mem_of_getElem? (i := 1) rfl) (List.mem_of_getElem? (i := 2) rfl) (List.mem_of_getElem? (i := 3) rfl) dX3_init_1 (Nat.le_of_ble_eq_true rfl) (Nat.le_of_ble_eq_true rfl) ?_
  refine lv_aload_n hx hb dX3_init_4 rfl (lv_at hl 0 rfl) ?_
  refine lv_bipush (v := 24) hx hb dX3_init_5 (by decide) ?_
  refine cg_newa (atype := .int) hC hO rfl (List.mem_of_getElem? (i := 4) rfl) 0 rfl (fun _ h => by cases h) (a0 := (24, .inl (fun _ => 0))) (fun _ => rfl) (by decide) (N' := 24) (by decide) (Nat.le_of_ble_eq_true rfl) (Nat.le_of_ble_eq_true rfl) (Nat.le_of_ble_eq_true rfl) dX3_init_7 (fun nw_7_1 H hO => ?_)
  refine W.widen (k := 1) (n := 24) (Nat.le_of_ble_eq_true rfl) (Nat.le_of_ble_eq_true rfl) ?_
  have hO : cO D cy A s.heap s 5 (aext 4 nw_7_1 ad) (cup [(4, .inl (cy 0, 24, .inl (fun _ => 0)))] g) _ _ := hO
  refine cg_putF hC hO hnm 0 (by decide) o0 rfl i_X3 tyX3_ok nmX3 4 (by decide) (List.mem_of_getElem? (i := 5) rfl) rfl rfl rfl rfl (fs_lt f0_4) dX3_init_9 (fun H locs hO => ?_)
  have hO : cO D cy A s.heap s 5 (aext 4 nw_7_1 ad) (cup [(4, .inl (cy 0, 24, .inl (fun _ => 0))), (0, .inr (3, (f0.set 4 (.ref (nw_7_1 0)))))] g) _ _ := hO
  refine lv_aload_n hx hb dX3_init_12 rfl (lv_at hl 0 rfl) ?_
  refine lv_iconst (v := 5) hx hb dX3_init_13 (by decide) ?_
  refine cg_newa (atype := .int) hC hO rfl (List.mem_of_getElem? (i := 4) rfl) 0 rfl (fun _ h => by cases h) (a0 := (5, .inl (fun _ => 0))) (fun _ => rfl) (by decide) (N' := 5) (by decide) (Nat.le_of_ble_eq_true rfl) (Nat.le_of_ble_eq_true rfl) (Nat.le_of_ble_eq_true rfl) dX3_init_14 (fun nw_14_2 H hO => ?_)
  refine W.widen (k := 2) (n := 29) (Nat.le_of_ble_eq_true rfl) (Nat.le_of_ble_eq_true rfl) ?_
  have hO : cO D cy A s.heap s 6 (aext 5 nw_14_2 (aext 4 nw_7_1 ad)) (cup [(4, .inl (cy 0, 24, .inl (fun _ => 0))), (0, .inr (3, (f0.set 4 (.ref (nw_7_1 0))))), (5, .inl (cy 0, 5, .inl (fun _ => 0)))] g) _ _ := hO
  refine cg_putF hC hO hnm 0 (by decide) rfl rfl i_X3 tyX3_ok nmX3 6 (by decide) (List.mem_of_getElem? (i := 6) rfl) rfl rfl rfl rfl (fs_lt (fs_ne (by decide) f0_6)) dX3_init_16 (fun H locs hO => ?_)
  have hO : cO D cy A s.heap s 6 (aext 5 nw_14_2 (aext 4 nw_7_1 ad)) (cup [(4, .inl (cy 0, 24, .inl (fun _ => 0))), (0, .inr (3, ((f0.set 4 (.ref (nw_7_1 0))).set 6 (.ref (nw_14_2 0))))), (5, .inl (cy 0, 5, .inl (fun _ => 0)))] g) _ _ := hO
  refine lv_aload_n hx hb dX3_init_19 rfl (lv_at hl 0 rfl) ?_
  refine lv_sipush (v := 128) hx hb dX3_init_20 (by decide) ?_
  refine cg_newa (atype := .int) hC hO rfl (List.mem_of_getElem? (i := 4) rfl) 0 rfl (fun _ h => by cases h) (a0 := (128, .inl (fun _ => 0))) (fun _ => rfl) (by decide) (N' := 128) (by decide) (Nat.le_of_ble_eq_true rfl) (Nat.le_of_ble_eq_true rfl) (Nat.le_of_ble_eq_true rfl) dX3_init_23 (fun nw_23_3 H hO => ?_)
  refine W.widen (k := 3) (n := 157) (Nat.le_of_ble_eq_true rfl) (Nat.le_of_ble_eq_true rfl) ?_
  have hO : cO D cy A s.heap s 7 (aext 6 nw_23_3 (aext 5 nw_14_2 (aext 4 nw_7_1 ad))) (cup [(4, .inl (cy 0, 24, .inl (fun _ => 0))), (0, .inr (3, ((f0.set 4 (.ref (nw_7_1 0))).set 6 (.ref (nw_14_2 0))))), (5, .inl (cy 0, 5, .inl (fun _ => 0))), (6, .inl (cy 0, 128, .inl (fun _ => 0)))] g) _ _ := hO
  refine cg_putF hC hO hnm 0 (by decide) rfl rfl i_X3 tyX3_ok nmX3 7 (by decide) (List.mem_of_getElem? (i := 7) rfl) rfl rfl rfl rfl (fs_lt (fs_ne (by decide) (fs_ne (by decide) f0_7))) dX3_init_25 (fun H locs hO => ?_)
  have hO : cO D cy A s.heap s 7 (aext 6 nw_23_3 (aext 5 nw_14_2 (aext 4 nw_7_1 ad))) (cup [(4, .inl (cy 0, 24, .inl (fun _ => 0))), (0, .inr (3, (((f0.set 4 (.ref (nw_7_1 0))).set 6 (.ref (nw_14_2 0))).set 7 (.ref (nw_23_3 0))))), (5, .inl (cy 0, 5, .inl (fun _ => 0))), (6, .inl (cy 0, 128, .inl (fun _ => 0)))] g) _ _ := hO
  refine lv_aload_n hx hb dX3_init_28 rfl (lv_at hl 0 rfl) ?_
  refine lv_iconst (v := 5) hx hb dX3_init_29 (by decide) ?_
  refine cg_newa (atype := .int) hC hO rfl (List.mem_of_getElem? (i := 4) rfl) 0 rfl (fun _ h => by cases h) (a0 := (5, .inl (fun _ => 0))) (fun _ => rfl) (by decide) (N' := 5) (by decide) (Nat.le_of_ble_eq_true rfl) (Nat.le_of_ble_eq_true rfl) (Nat.le_of_ble_eq_true rfl) dX3_init_30 (fun nw_30_4 H hO => ?_)
  refine W.widen (k := 4) (n := 162) (Nat.le_of_ble_eq_true rfl) (Nat.le_of_ble_eq_true rfl) ?_
  have hO : cO D cy A s.heap s 8 (aext 7 nw_30_4 (aext 6 nw_23_3 (aext 5 nw_14_2 (aext 4 nw_7_1 ad)))) (cup [(4, .inl (cy 0, 24, .inl (fun _ => 0))), (0, .inr (3, (((f0.set 4 (.ref (nw_7_1 0))).set 6 (.ref (nw_14_2 0))).set 7 (.ref (nw_23_3 0))))), (5, .inl (cy 0, 5, .inl (fun _ => 0))), (6, .inl (cy 0, 128, .inl (fun _ => 0))), (7, .inl (cy 0, 5, .inl (fun _ => 0)))] g) _ _ := hO
  refine cg_putF hC hO hnm 0 (by decide) rfl rfl i_X3 tyX3_ok nmX3 8 (by decide) (List.mem_of_getElem? (i := 8) rfl) rfl rfl rfl rfl (fs_lt (fs_ne (by decide) (fs_ne (by decide) (fs_ne (by decide) f0_8)))) dX3_init_32 (fun H locs hO => ?_)
  have hO : cO D cy A s.heap s 8 (aext 7 nw_30_4 (aext 6 nw_23_3 (aext 5 nw_14_2 (aext 4 nw_7_1 ad)))) (cup [(4, .inl (cy 0, 24, .inl (fun _ => 0))), (0, .inr (3, ((((f0.set 4 (.ref (nw_7_1 0))).set 6 (.ref (nw_14_2 0))).set 7 (.ref (nw_23_3 0))).set 8 (.ref (nw_30_4 0))))), (5, .inl (cy 0, 5, .inl (fun _ => 0))), (6, .inl (cy 0, 128, .inl (fun _ => 0))), (7, .inl (cy 0, 5, .inl (fun _ => 0)))] g) _ _ := hO
  refine lv_aload_n hx hb dX3_init_35 rfl (lv_at hl 0 rfl) ?_
  refine lv_aload_n hx hb dX3_init_36 rfl (lv_at hl 1 rfl) ?_
  refine cg_putF hC hO hnm 0 (by decide) rfl rfl i_X3 tyX3_ok nmX3 0 (by decide) (List.mem_of_getElem? (i := 9) rfl) rfl rfl rfl rfl (fs_lt (fs_ne (by decide) (fs_ne (by decide) (fs_ne (by decide) (fs_ne (by decide) f0_0))))) dX3_init_37 (fun H locs hO => ?_)
  have hO : cO D cy A s.heap s 8 (aext 7 nw_30_4 (aext 6 nw_23_3 (aext 5 nw_14_2 (aext 4 nw_7_1 ad)))) (cup [(4, .inl (cy 0, 24, .inl (fun _ => 0))), (0, .inr (3, (((((f0.set 4 (.ref (nw_7_1 0))).set 6 (.ref (nw_14_2 0))).set 7 (.ref (nw_23_3 0))).set 8 (.ref (nw_30_4 0))).set 0 (.ref (ad 1))))), (5, .inl (cy 0, 5, .inl (fun _ => 0))), (6, .inl (cy 0, 128, .inl (fun _ => 0))), (7, .inl (cy 0, 5, .inl (fun _ => 0)))] g) _ _ := hO
  refine lv_aload_n hx hb dX3_init_40 rfl (lv_at hl 0 rfl) ?_
  refine lv_aload_n hx hb dX3_init_41 rfl (lv_at hl 2 rfl) ?_
  refine cg_putF hC hO hnm 0 (by decide) rfl rfl i_X3 tyX3_ok nmX3 1 (by decide) (List.mem_of_getElem? (i := 10) rfl) rfl rfl rfl rfl (fs_lt (fs_ne (by decide) (fs_ne (by decide) (fs_ne (by decide) (fs_ne (by decide) (fs_ne (by decide) f0_1)))))) dX3_init_42 (fun H locs hO => ?_)
  have hO : cO D cy A s.heap s 8 (aext 7 nw_30_4 (aext 6 nw_23_3 (aext 5 nw_14_2 (aext 4 nw_7_1 ad)))) (cup [(4, .inl (cy 0, 24, .inl (fun _ => 0))), (0, .inr (3, ((((((f0.set 4 (.ref (nw_7_1 0))).set 6 (.ref (nw_14_2 0))).set 7 (.ref (nw_23_3 0))).set 8 (.ref (nw_30_4 0))).set 0 (.ref (ad 1))).set 1 (.ref (ad 2))))), (5, .inl (cy 0, 5, .inl (fun _ => 0))), (6, .inl (cy 0, 128, .inl (fun _ => 0))), (7, .inl (cy 0, 5, .inl (fun _ => 0)))] g) _ _ := hO
  refine lv_aload_n hx hb dX3_init_45 rfl (lv_at hl 0 rfl) ?_
  refine lv_aload_n hx hb dX3_init_46 rfl (lv_at hl 3 rfl) ?_
  refine cg_putF hC hO hnm 0 (by decide) rfl rfl i_X3 tyX3_ok nmX3 2 (by decide) (List.mem_of_getElem? (i := 11) rfl) rfl rfl rfl rfl (fs_lt (fs_ne (by decide) (fs_ne (by decide) (fs_ne (by decide) (fs_ne (by decide) (fs_ne (by decide) (fs_ne (by decide) f0_2))))))) dX3_init_47 (fun H locs hO => ?_)
  have hO : cO D cy A s.heap s 8 (aext 7 nw_30_4 (aext 6 nw_23_3 (aext 5 nw_14_2 (aext 4 nw_7_1 ad)))) (cup [(4, .inl (cy 0, 24, .inl (fun _ => 0))), (0, .inr (3, (((((((f0.set 4 (.ref (nw_7_1 0))).set 6 (.ref (nw_14_2 0))).set 7 (.ref (nw_23_3 0))).set 8 (.ref (nw_30_4 0))).set 0 (.ref (ad 1))).set 1 (.ref (ad 2))).set 2 (.ref (ad 3))))), (5, .inl (cy 0, 5, .inl (fun _ => 0))), (6, .inl (cy 0, 128, .inl (fun _ => 0))), (7, .inl (cy 0, 5, .inl (fun _ => 0)))] g) _ _ := hO
  refine lv_aload_n hx hb dX3_init_50 rfl (lv_at hl 0 rfl) ?_
  refine cg_new hC hO 10 rfl i_X10 tyX10_ok (List.mem_of_getElem? (i := 12) rfl) (List.mem_of_getElem? (i := 13) rfl) (List.mem_of_getElem? (i := 14) rfl) (fs := [.null, .null, .null, .null, .null, .null, .null, .null]) (dv_X10) (Nat.le_of_ble_eq_true rfl) (Nat.le_of_ble_eq_true rfl) dX3_init_51 (fun nw_51_5 H hO => ?_)
  refine W.widen (k := 5) (n := 170) (Nat.le_of_ble_eq_true rfl) (Nat.le_of_ble_eq_true rfl) ?_
  have hO : cO D cy A s.heap s 9 (aext 8 nw_51_5 (aext 7 nw_30_4 (aext 6 nw_23_3 (aext 5 nw_14_2 (aext 4 nw_7_1 ad))))) (cup [(4, .inl (cy 0, 24, .inl (fun _ => 0))), (0, .inr (3, (((((((f0.set 4 (.ref (nw_7_1 0))).set 6 (.ref (nw_14_2 0))).set 7 (.ref (nw_23_3 0))).set 8 (.ref (nw_30_4 0))).set 0 (.ref (ad 1))).set 1 (.ref (ad 2))).set 2 (.ref (ad 3))))), (5, .inl (cy 0, 5, .inl (fun _ => 0))), (6, .inl (cy 0, 128, .inl (fun _ => 0))), (7, .inl (cy 0, 5, .inl (fun _ => 0))), (8, .inr (10, [.null, .null, .null, .null, .null, .null, .null, .null]))] g) _ _ := hO
  refine lv_dup hx hb dX3_init_54 rfl ?_
  refine lv_aload_n hx hb dX3_init_55 rfl (lv_at hl 1 rfl) ?_
  refine cg_I (As := [.ref (ad 1)]) (rest := [.ref (nw_51_5 0), .ref (ad 0)]) (mc := 7) (ms := 49) (rm := { frames := 1, cells := 7, slots := 49, locals := 20 }) hC hl.1 hO [8, 1] rfl (c_X10_init l D cy _ _ (f0 := [.null, .null, .null, .null, .null, .null, .null, .null]) (f1 := f1) rfl rfl rfl rfl rfl rfl rfl rfl rfl o1) gq_c_X3_init_c_X10_init rfl rfl rfl (List.mem_of_getElem? (i := 14) rfl) (List.mem_of_getElem? (i := 26) rfl) (List.mem_of_getElem? (i := 25) rfl) rfl 1 (by decide +kernel) ⟨Nat.le_of_ble_eq_true rfl, Nat.le_of_ble_eq_true rfl⟩ rfl rfl (Nat.le_of_ble_eq_true rfl) dX3_init_56 ⟨Nat.le_of_ble_eq_true rfl, Nat.le_of_ble_eq_true rfl⟩ (fun nw_56_6 l_56_7 H locs hw hO => ?_)
  obtain rfl := hw
  have hO : cO D cy A s.heap s 16 (aext 9 nw_56_6 (aext 8 nw_51_5 (aext 7 nw_30_4 (aext 6 nw_23_3 (aext 5 nw_14_2 (aext 4 nw_7_1 ad)))))) (cup [(4, .inl (cy 0, 24, .inl (fun _ => 0))), (0, .inr (3, (((((((f0.set 4 (.ref (nw_7_1 0))).set 6 (.ref (nw_14_2 0))).set 7 (.ref (nw_23_3 0))).set 8 (.ref (nw_30_4 0))).set 0 (.ref (ad 1))).set 1 (.ref (ad 2))).set 2 (.ref (ad 3))))), (5, .inl (cy 0, 5, .inl (fun _ => 0))), (6, .inl (cy 0, 128, .inl (fun _ => 0))), (7, .inl (cy 0, 5, .inl (fun _ => 0))), (8, .inr (10, [.ref (ad 1), .ref (nw_56_6 0), .ref (nw_56_6 1), .ref (nw_56_6 2), .ref (nw_56_6 3), .ref (nw_56_6 4), .ref (nw_56_6 5), .ref (nw_56_6 6)])), (9, .inl (cy 0, 5, .inl (fun _ => 0))), (10, .inl (cy 0, 20, .inl (fun _ => 0))), (11, .inl (cy 0, 4, .inl (fun _ => 0))), (12, .inl (cy 0, 5, .inl (fun _ => 0))), (13, .inl (cy 0, 5, .inl (fun _ => 0))), (14, .inl (cy 0, 5, .inl (fun _ => 0))), (15, .inl (cy 0, 5, .inl (fun _ => 0)))] g) _ _ := hO rfl rfl
  refine W.widen (k := 12) (n := 219) (Nat.le_of_ble_eq_true rfl) (Nat.le_of_ble_eq_true rfl) ?_
  refine cg_putF hC hO hnm 0 (by decide) rfl rfl i_X3 tyX3_ok nmX3 3 (by decide) (List.mem_of_getElem? (i := 27) rfl) rfl rfl rfl rfl (fs_lt (fs_ne (by decide) (fs_ne (by decide) (fs_ne (by decide) (fs_ne (by decide) (fs_ne (by decide) (fs_ne (by decide) (fs_ne (by decide) f0_3)))))))) dX3_init_59 (fun H locs hO => ?_)
  have hO : cO D cy A s.heap s 16 (aext 9 nw_56_6 (aext 8 nw_51_5 (aext 7 nw_30_4 (aext 6 nw_23_3 (aext 5 nw_14_2 (aext 4 nw_7_1 ad)))))) (cup [(4, .inl (cy 0, 24, .inl (fun _ => 0))), (0, .inr (3, ((((((((f0.set 4 (.ref (nw_7_1 0))).set 6 (.ref (nw_14_2 0))).set 7 (.ref (nw_23_3 0))).set 8 (.ref (nw_30_4 0))).set 0 (.ref (ad 1))).set 1 (.ref (ad 2))).set 2 (.ref (ad 3))).set 3 (.ref (nw_51_5 0))))), (5, .inl (cy 0, 5, .inl (fun _ => 0))), (6, .inl (cy 0, 128, .inl (fun _ => 0))), (7, .inl (cy 0, 5, .inl (fun _ => 0))), (8, .inr (10, [.ref (ad 1), .ref (nw_56_6 0), .ref (nw_56_6 1), .ref (nw_56_6 2), .ref (nw_56_6 3), .ref (nw_56_6 4), .ref (nw_56_6 5), .ref (nw_56_6 6)])), (9, .inl (cy 0, 5, .inl (fun _ => 0))), (10, .inl (cy 0, 20, .inl (fun _ => 0))), (11, .inl (cy 0, 4, .inl (fun _ => 0))), (12, .inl (cy 0, 5, .inl (fun _ => 0))), (13, .inl (cy 0, 5, .inl (fun _ => 0))), (14, .inl (cy 0, 5, .inl (fun _ => 0))), (15, .inl (cy 0, 5, .inl (fun _ => 0)))] g) _ _ := hO
  exact cg_vret (nw := fun i => (aext 9 nw_56_6 (aext 8 nw_51_5 (aext 7 nw_30_4 (aext 6 nw_23_3 (aext 5 nw_14_2 (aext 4 nw_7_1 ad)))))) (4 + i)) hC hr hlk (hO.fold (k := 4) (n := 12) (ad := ad) (fun j hj => by match j, hj with | 0, _ => rfl | 1, _ => rfl | 2, _ => rfl | 3, _ => rfl)) (Nat.le_of_ble_eq_true rfl) (Nat.le_of_ble_eq_true rfl) rfl dX3_init_62

theorem dX4_clear_0 : decode cX4_clear 0 = .ok (.aload_n 0, 1) := by decide +kernel
theorem dX4_clear_1 : decode cX4_clear 1 = .ok (.iconst 0, 1) := by decide +kernel
theorem dX4_clear_2 : decode cX4_clear 2 = .ok (.putfield 18, 3) := by decide +kernel
theorem dX4_clear_5 : decode cX4_clear 5 = .ok (.aload_n 0, 1) := by decide +kernel
theorem dX4_clear_6 : decode cX4_clear 6 = .ok (.iconst 0, 1) := by decide +kernel
theorem dX4_clear_7 : decode cX4_clear 7 = .ok (.putfield 22, 3) := by decide +kernel
theorem dX4_clear_10 : decode cX4_clear 10 = .ok (.aload_n 0, 1) := by decide +kernel
theorem dX4_clear_11 : decode cX4_clear 11 = .ok (.iconst 0, 1) := by decide +kernel
theorem dX4_clear_12 : decode cX4_clear 12 = .ok (.putfield 25, 3) := by decide +kernel
theorem dX4_clear_15 : decode cX4_clear 15 = .ok (.return_, 1) := by decide +kernel
def wq_c_X4_clear : List Cond := Cond.code yX4_clear cX4_clear 1 none :: (([Cond.fieldLink RX4 18 "CrowToll$Law" "steps" "I", Cond.fieldLink RX4 22 "CrowToll$Law" "units" "I", Cond.fieldLink RX4 25 "CrowToll$Law" "isTold" "Z"] : List Cond) ++ wsX40)
set_option maxHeartbeats 8000000 in
set_option maxRecDepth 100000 in
theorem c_X4_clear (l : Launch) (D : va_G) (cy : Nat → ClassId) (ad : Nat → Nat) (g : Nat → va_E) {f0 : List Value} {x : Int32} {y : Int32} {z : Int32} (o0 : g 0 = .inr (4, f0)) (f0_1 : f0[1]? = some (.int x)) (f0_2 : f0[2]? = some (.int y)) (f0_3 : f0[3]? = some (.int z)) : cMv l yX4_clear wq_c_X4_clear { frames := 0, cells := 0, slots := 0, locals := 0 } 1 0 0 0 D cy ad g [.ref (ad 0)] (fun nw lu => lu = [(0, .inr (4, (((f0.set 1 (.int 0)).set 2 (.int 0)).set 3 (.int 0))))]) := by
  refine cM_of (Qc := fun A => cQv (fun nw lu => lu = [(0, .inr (4, (((f0.set 1 (.int 0)).set 2 (.int 0)).set 3 (.int 0))))]) D 1 0 ad g A) (cc := cX4_clear) (maxL := 1) (ret := none) (by decide) rfl (Nat.le_of_ble_eq_true rfl) ?_
  intro p e s m below meth c A hC hr hlk hnm hO ls hl
  have hC : CallFix p m c cX4_clear 1 s [.ref (ad 0)].toArray wq_c_X4_clear RX4 := hC
  obtain ⟨hx, hb, hml, hown, hts⟩ := id hC
  have hl : lv_has ls 1 [(0, .ref (ad 0))] := hl
  have i_X4 : ∀ w ∈ wsX40, w ∈ wq_c_X4_clear := fun w h => List.mem_cons_of_mem _ (List.mem_append_right _ h)
  refine lv_aload_n hx hb dX4_clear_0 rfl (lv_at hl 0 rfl) ?_
  refine lv_iconst (v := 0) hx hb dX4_clear_1 (by decide) ?_
  refine cg_put hC hO 0 (by decide) o0 rfl i_X4 tyX4_ok nmX4 1 (by decide) (List.mem_of_getElem? (i := 1) rfl) rfl rfl rfl (fs_lt f0_1) dX4_clear_2 (fun H locs hO => ?_)
  have hO : cO D cy A s.heap s 1 ad (cup [(0, .inr (4, (f0.set 1 (.int 0))))] g) _ _ := hO
  refine lv_aload_n hx hb dX4_clear_5 rfl (lv_at hl 0 rfl) ?_
  refine lv_iconst (v := 0) hx hb dX4_clear_6 (by decide) ?_
  refine cg_put hC hO 0 (by decide) rfl rfl i_X4 tyX4_ok nmX4 2 (by decide) (List.mem_of_getElem? (i := 2) rfl) rfl rfl rfl (fs_lt (fs_ne (by decide) f0_2)) dX4_clear_7 (fun H locs hO => ?_)
  have hO : cO D cy A s.heap s 1 ad (cup [(0, .inr (4, ((f0.set 1 (.int 0)).set 2 (.int 0))))] g) _ _ := hO
  refine lv_aload_n hx hb dX4_clear_10 rfl (lv_at hl 0 rfl) ?_
  refine lv_iconst (v := 0) hx hb dX4_clear_11 (by decide) ?_
  refine cg_put hC hO 0 (by decide) rfl rfl i_X4 tyX4_ok nmX4 3 (by decide) (List.mem_of_getElem? (i := 3) rfl) rfl rfl rfl (fs_lt (fs_ne (by decide) (fs_ne (by decide) f0_3))) dX4_clear_12 (fun H locs hO => ?_)
  have hO : cO D cy A s.heap s 1 ad (cup [(0, .inr (4, (((f0.set 1 (.int 0)).set 2 (.int 0)).set 3 (.int 0))))] g) _ _ := hO
  exact cg_vret (nw := fun _ => 0) hC hr hlk hO.same (Nat.le_of_ble_eq_true rfl) (Nat.le_of_ble_eq_true rfl) rfl dX4_clear_15

theorem dX7_clear_0 : decode cX7_clear 0 = .ok (.aload_n 0, 1) := by decide +kernel
theorem dX7_clear_1 : decode cX7_clear 1 = .ok (.iconst 0, 1) := by decide +kernel
theorem dX7_clear_2 : decode cX7_clear 2 = .ok (.putfield 59, 3) := by decide +kernel
theorem dX7_clear_5 : decode cX7_clear 5 = .ok (.aload_n 0, 1) := by decide +kernel
theorem dX7_clear_6 : decode cX7_clear 6 = .ok (.iconst 0, 1) := by decide +kernel
theorem dX7_clear_7 : decode cX7_clear 7 = .ok (.putfield 63, 3) := by decide +kernel
theorem dX7_clear_10 : decode cX7_clear 10 = .ok (.aload_n 0, 1) := by decide +kernel
theorem dX7_clear_11 : decode cX7_clear 11 = .ok (.iconst 0, 1) := by decide +kernel
theorem dX7_clear_12 : decode cX7_clear 12 = .ok (.putfield 66, 3) := by decide +kernel
theorem dX7_clear_15 : decode cX7_clear 15 = .ok (.aload_n 0, 1) := by decide +kernel
theorem dX7_clear_16 : decode cX7_clear 16 = .ok (.iconst 0, 1) := by decide +kernel
theorem dX7_clear_17 : decode cX7_clear 17 = .ok (.putfield 69, 3) := by decide +kernel
theorem dX7_clear_20 : decode cX7_clear 20 = .ok (.aload_n 0, 1) := by decide +kernel
theorem dX7_clear_21 : decode cX7_clear 21 = .ok (.getfield 25, 3) := by decide +kernel
theorem dX7_clear_24 : decode cX7_clear 24 = .ok (.iconst (-1), 1) := by decide +kernel
theorem dX7_clear_25 : decode cX7_clear 25 = .ok (.invokestatic 72, 3) := by decide +kernel
theorem dX7_clear_28 : decode cX7_clear 28 = .ok (.aload_n 0, 1) := by decide +kernel
theorem dX7_clear_29 : decode cX7_clear 29 = .ok (.getfield 40, 3) := by decide +kernel
theorem dX7_clear_32 : decode cX7_clear 32 = .ok (.iconst 0, 1) := by decide +kernel
theorem dX7_clear_33 : decode cX7_clear 33 = .ok (.invokestatic 72, 3) := by decide +kernel
theorem dX7_clear_36 : decode cX7_clear 36 = .ok (.aload_n 0, 1) := by decide +kernel
theorem dX7_clear_37 : decode cX7_clear 37 = .ok (.getfield 55, 3) := by decide +kernel
theorem dX7_clear_40 : decode cX7_clear 40 = .ok (.invokevirtual 78, 3) := by decide +kernel
theorem dX7_clear_43 : decode cX7_clear 43 = .ok (.return_, 1) := by decide +kernel
def wq_c_X7_clear : List Cond := Cond.code yX7_clear cX7_clear 1 none :: (([Cond.fieldLink RX7 59 "CrowToll$Road" "birds" "I", Cond.fieldLink RX7 63 "CrowToll$Road" "posts" "I", Cond.fieldLink RX7 66 "CrowToll$Road" "carts" "I", Cond.fieldLink RX7 69 "CrowToll$Road" "maybe" "I", Cond.fieldLink RX7 25 "CrowToll$Road" "seatOf" "[I", Cond.methodLink RX7 72 yJ7_fill_53178, Cond.static yJ7_fill_53178, Cond.initialized RJ7, Cond.code yJ7_fill_53178 cJ7_fill_53178 4 none, Cond.fieldLink RX7 40 "CrowToll$Road" "seated" "[I", Cond.fieldLink RX7 55 "CrowToll$Road" "law" "LCrowToll$Law;", Cond.methodLink RX7 78 yX4_clear, Cond.instanceMethod yX4_clear, Cond.selects RX4 yX4_clear yX4_clear, Cond.initialized RX4, Cond.code yX4_clear cX4_clear 1 none, Cond.fieldLink RX4 18 "CrowToll$Law" "steps" "I", Cond.fieldLink RX4 22 "CrowToll$Law" "units" "I", Cond.fieldLink RX4 25 "CrowToll$Law" "isTold" "Z"] : List Cond) ++ wsX40 ++ wsX70)
set_option maxRecDepth 20000 in
theorem gr_c_X7_clear_c_J7_fill_53178 : GoodIn wq_c_X7_clear wq_c_J7_fill_53178 := List.forall_mem_cons.mpr ⟨⟨(List.mem_of_getElem? (i := 9) rfl), good_of_word rfl⟩, (fun _ h => absurd h List.not_mem_nil)⟩
set_option maxRecDepth 20000 in
theorem gq_c_X7_clear_c_J7_fill_53178_72 : GoodIn wq_c_X7_clear (va_wsS RX7 72 yJ7_fill_53178 wq_c_J7_fill_53178) := goodIn_app (List.forall_mem_cons.mpr ⟨⟨(List.mem_of_getElem? (i := 6) rfl), good_of_word rfl⟩, List.forall_mem_cons.mpr ⟨⟨(List.mem_of_getElem? (i := 7) rfl), good_of_word rfl⟩, List.forall_mem_cons.mpr ⟨⟨(List.mem_of_getElem? (i := 8) rfl), good_of_word rfl⟩, (fun _ h => absurd h List.not_mem_nil)⟩⟩⟩) gr_c_X7_clear_c_J7_fill_53178
set_option maxRecDepth 20000 in
theorem gr_c_X7_clear_c_X4_clear : GoodIn wq_c_X7_clear wq_c_X4_clear := List.forall_mem_cons.mpr ⟨⟨(List.mem_of_getElem? (i := 16) rfl), good_of_word rfl⟩, List.forall_mem_append.mpr ⟨List.forall_mem_cons.mpr ⟨⟨(List.mem_of_getElem? (i := 17) rfl), good_of_word rfl⟩, List.forall_mem_cons.mpr ⟨⟨(List.mem_of_getElem? (i := 18) rfl), good_of_word rfl⟩, List.forall_mem_cons.mpr ⟨⟨(List.mem_of_getElem? (i := 19) rfl), good_of_word rfl⟩, (fun _ h => absurd h List.not_mem_nil)⟩⟩⟩, fun w h => ⟨(fun w h => List.mem_cons_of_mem _ (List.mem_append_left _ (List.mem_append_right _ h))) w h, good_of_word (List.all_eq_true.mp gw_X4 w h)⟩⟩⟩
set_option maxRecDepth 20000 in
theorem gq_c_X7_clear_c_X4_clear_78 : GoodIn wq_c_X7_clear (wsV RX7 78 RX4 yX4_clear wq_c_X4_clear) := goodIn_app (List.forall_mem_cons.mpr ⟨⟨(List.mem_of_getElem? (i := 12) rfl), good_of_word rfl⟩, List.forall_mem_cons.mpr ⟨⟨(List.mem_of_getElem? (i := 13) rfl), good_of_word rfl⟩, List.forall_mem_cons.mpr ⟨⟨(List.mem_of_getElem? (i := 14) rfl), good_of_word rfl⟩, List.forall_mem_cons.mpr ⟨⟨(List.mem_of_getElem? (i := 15) rfl), good_of_word rfl⟩, (fun _ h => absurd h List.not_mem_nil)⟩⟩⟩⟩) gr_c_X7_clear_c_X4_clear
set_option maxHeartbeats 8000000 in
set_option maxRecDepth 100000 in
theorem c_X7_clear (l : Launch) (D : va_G) (cy : Nat → ClassId) (ad : Nat → Nat) (g : Nat → va_E) {f0 : List Value} {x1 : Int32} {x2 : Int32} {x3 : Int32} {x4 : Int32} {c1 : Nat → Int32} {c2 : Nat → Int32} {f3 : List Value} {x : Int32} {y : Int32} {z : Int32} (o0 : g 0 = .inr (7, f0)) (f0_5 : f0[5]? = some (.int x1)) (f0_11 : f0[11]? = some (.int x2)) (f0_16 : f0[16]? = some (.int x3)) (f0_15 : f0[15]? = some (.int x4)) (f0_4 : f0[4]? = some (.ref (ad 1))) (f0_10 : f0[10]? = some (.ref (ad 2))) (f0_17 : f0[17]? = some (.ref (ad 3))) (a1 : g 1 = .inl (cy 0, 5, .inl c1)) (a2 : g 2 = .inl (cy 0, 4, .inl c2)) (o3 : g 3 = .inr (4, f3)) (f3_1 : f3[1]? = some (.int x)) (f3_2 : f3[2]? = some (.int y)) (f3_3 : f3[3]? = some (.int z)) : cMv l yX7_clear wq_c_X7_clear { frames := 1, cells := 0, slots := 0, locals := 23 } 4 0 0 0 D cy ad g [.ref (ad 0)] (fun nw lu => ∃ (cz_25_4 : Nat → Int32) (cz_33_8 : Nat → Int32), (za (-1) 3 c1 → za (-1) 3 cz_25_4) ∧ (za 0 5 c2 → za 0 5 cz_33_8) ∧ lu = [(0, .inr (7, ((((f0.set 5 (.int 0)).set 11 (.int 0)).set 16 (.int 0)).set 15 (.int 0)))), (1, .inl (cy 0, 5, .inl cz_25_4)), (2, .inl (cy 0, 4, .inl cz_33_8)), (3, .inr (4, (((f3.set 1 (.int 0)).set 2 (.int 0)).set 3 (.int 0))))]) := by
  refine cM_of (Qc := fun A => cQv (fun nw lu => ∃ (cz_25_4 : Nat → Int32) (cz_33_8 : Nat → Int32), (za (-1) 3 c1 → za (-1) 3 cz_25_4) ∧ (za 0 5 c2 → za 0 5 cz_33_8) ∧ lu = [(0, .inr (7, ((((f0.set 5 (.int 0)).set 11 (.int 0)).set 16 (.int 0)).set 15 (.int 0)))), (1, .inl (cy 0, 5, .inl cz_25_4)), (2, .inl (cy 0, 4, .inl cz_33_8)), (3, .inr (4, (((f3.set 1 (.int 0)).set 2 (.int 0)).set 3 (.int 0))))]) D 4 0 ad g A) (cc := cX7_clear) (maxL := 1) (ret := none) (by decide) rfl (Nat.le_of_ble_eq_true rfl) ?_
  intro p e s m below meth c A hC hr hlk hnm hO ls hl
  have hC : CallFix p m c cX7_clear 1 s [.ref (ad 0)].toArray wq_c_X7_clear RX7 := hC
  obtain ⟨hx, hb, hml, hown, hts⟩ := id hC
  have hl : lv_has ls 1 [(0, .ref (ad 0))] := hl
  have i_X4 : ∀ w ∈ wsX40, w ∈ wq_c_X7_clear := fun w h => List.mem_cons_of_mem _ (List.mem_append_left _ (List.mem_append_right _ h))
  have i_X7 : ∀ w ∈ wsX70, w ∈ wq_c_X7_clear := fun w h => List.mem_cons_of_mem _ (List.mem_append_right _ h)
  refine lv_aload_n hx hb dX7_clear_0 rfl (lv_at hl 0 rfl) ?_
  refine lv_iconst (v := 0) hx hb dX7_clear_1 (by decide) ?_
  refine cg_put hC hO 0 (by decide) o0 rfl i_X7 tyX7_ok nmX7 5 (by decide) (List.mem_of_getElem? (i := 1) rfl) rfl rfl rfl (fs_lt f0_5) dX7_clear_2 (fun H locs hO => ?_)
  have hO : cO D cy A s.heap s 4 ad (cup [(0, .inr (7, (f0.set 5 (.int 0))))] g) _ _ := hO
  refine lv_aload_n hx hb dX7_clear_5 rfl (lv_at hl 0 rfl) ?_
  refine lv_iconst (v := 0) hx hb dX7_clear_6 (by decide) ?_
  refine cg_put hC hO 0 (by decide) rfl rfl i_X7 tyX7_ok nmX7 11 (by decide) (List.mem_of_getElem? (i := 2) rfl) rfl rfl rfl (fs_lt (fs_ne (by decide) f0_11)) dX7_clear_7 (fun H locs hO => ?_)
  have hO : cO D cy A s.heap s 4 ad (cup [(0, .inr (7, ((f0.set 5 (.int 0)).set 11 (.int 0))))] g) _ _ := hO
  refine lv_aload_n hx hb dX7_clear_10 rfl (lv_at hl 0 rfl) ?_
  refine lv_iconst (v := 0) hx hb dX7_clear_11 (by decide) ?_
  refine cg_put hC hO 0 (by decide) rfl rfl i_X7 tyX7_ok nmX7 16 (by decide) (List.mem_of_getElem? (i := 3) rfl) rfl rfl rfl (fs_lt (fs_ne (by decide) (fs_ne (by decide) f0_16))) dX7_clear_12 (fun H locs hO => ?_)
  have hO : cO D cy A s.heap s 4 ad (cup [(0, .inr (7, (((f0.set 5 (.int 0)).set 11 (.int 0)).set 16 (.int 0))))] g) _ _ := hO
  refine lv_aload_n hx hb dX7_clear_15 rfl (lv_at hl 0 rfl) ?_
  refine lv_iconst (v := 0) hx hb dX7_clear_16 (by decide) ?_
  refine cg_put hC hO 0 (by decide) rfl rfl i_X7 tyX7_ok nmX7 15 (by decide) (List.mem_of_getElem? (i := 4) rfl) rfl rfl rfl (fs_lt (fs_ne (by decide) (fs_ne (by decide) (fs_ne (by decide) f0_15)))) dX7_clear_17 (fun H locs hO => ?_)
  have hO : cO D cy A s.heap s 4 ad (cup [(0, .inr (7, ((((f0.set 5 (.int 0)).set 11 (.int 0)).set 16 (.int 0)).set 15 (.int 0))))] g) _ _ := hO
  refine lv_aload_n hx hb dX7_clear_20 rfl (lv_at hl 0 rfl) ?_
  refine cg_get hC hO 0 (by decide) rfl rfl i_X7 4 (by decide) (List.mem_of_getElem? (i := 5) rfl) (fs_ne (by decide) (fs_ne (by decide) (fs_ne (by decide) (fs_ne (by decide) f0_4)))) dX7_clear_21 ?_
  refine lv_iconst (v := (-1)) hx hb dX7_clear_24 (by decide) ?_
  refine cg_Sv (As := [.ref (ad 1), .int (-1)]) (rest := []) (mc := 0) (ms := 0) (rm := { frames := 0, cells := 0, slots := 0, locals := 0 }) hC hl.1 hO [1] rfl (c_J7_fill_53178 l D cy _ _ (n := 5) (c0 := c1) (x := (-1)) a1 (by decide)) gq_c_X7_clear_c_J7_fill_53178_72 rfl rfl rfl 2 (by decide +kernel) ⟨Nat.le_of_ble_eq_true rfl, Nat.le_of_ble_eq_true rfl⟩ rfl rfl (Nat.le_of_ble_eq_true rfl) dX7_clear_25 ⟨Nat.le_of_ble_eq_true rfl, Nat.le_of_ble_eq_true rfl⟩ (fun nw_25_1 l_25_2 H locs hw hO => ?_)
  obtain ⟨cz_25_4, hzA, rfl⟩ := hw
  have hO : cO D cy A s.heap s 4 ad (cup [(0, .inr (7, ((((f0.set 5 (.int 0)).set 11 (.int 0)).set 16 (.int 0)).set 15 (.int 0)))), (1, .inl (cy 0, 5, .inl cz_25_4))] g) _ _ := hO
  refine lv_aload_n hx hb dX7_clear_28 rfl (lv_at hl 0 rfl) ?_
  refine cg_get hC hO 0 (by decide) rfl rfl i_X7 10 (by decide) (List.mem_of_getElem? (i := 10) rfl) (fs_ne (by decide) (fs_ne (by decide) (fs_ne (by decide) (fs_ne (by decide) f0_10)))) dX7_clear_29 ?_
  refine lv_iconst (v := 0) hx hb dX7_clear_32 (by decide) ?_
  refine cg_Sv (As := [.ref (ad 2), .int 0]) (rest := []) (mc := 0) (ms := 0) (rm := { frames := 0, cells := 0, slots := 0, locals := 0 }) hC hl.1 hO [2] rfl (c_J7_fill_53178 l D cy _ _ (n := 4) (c0 := c2) (x := 0) a2 (by decide)) gq_c_X7_clear_c_J7_fill_53178_72 rfl rfl rfl 2 (by decide +kernel) ⟨Nat.le_of_ble_eq_true rfl, Nat.le_of_ble_eq_true rfl⟩ rfl rfl (Nat.le_of_ble_eq_true rfl) dX7_clear_33 ⟨Nat.le_of_ble_eq_true rfl, Nat.le_of_ble_eq_true rfl⟩ (fun nw_33_5 l_33_6 H locs hw hO => ?_)
  obtain ⟨cz_33_8, hzB, rfl⟩ := hw
  have hO : cO D cy A s.heap s 4 ad (cup [(0, .inr (7, ((((f0.set 5 (.int 0)).set 11 (.int 0)).set 16 (.int 0)).set 15 (.int 0)))), (1, .inl (cy 0, 5, .inl cz_25_4)), (2, .inl (cy 0, 4, .inl cz_33_8))] g) _ _ := hO
  refine lv_aload_n hx hb dX7_clear_36 rfl (lv_at hl 0 rfl) ?_
  refine cg_get hC hO 0 (by decide) rfl rfl i_X7 17 (by decide) (List.mem_of_getElem? (i := 11) rfl) (fs_ne (by decide) (fs_ne (by decide) (fs_ne (by decide) (fs_ne (by decide) f0_17)))) dX7_clear_37 ?_
  refine cg_Vv (As := []) (rest := []) (mc := 0) (ms := 0) (rm := { frames := 0, cells := 0, slots := 0, locals := 0 }) hC hl.1 hO [3] rfl (c_X4_clear l D cy _ _ (f0 := f3) (x := x) (y := y) (z := z) o3 f3_1 f3_2 f3_3) gq_c_X7_clear_c_X4_clear_78 rfl rfl rfl 0 (by decide +kernel) ⟨Nat.le_of_ble_eq_true rfl, Nat.le_of_ble_eq_true rfl⟩ rfl (by decide) o3 rfl rfl (Nat.le_of_ble_eq_true rfl) dX7_clear_40 ⟨Nat.le_of_ble_eq_true rfl, Nat.le_of_ble_eq_true rfl⟩ (fun nw_40_9 l_40_10 H locs hw hO => ?_)
  obtain rfl := hw
  have hO : cO D cy A s.heap s 4 ad (cup [(0, .inr (7, ((((f0.set 5 (.int 0)).set 11 (.int 0)).set 16 (.int 0)).set 15 (.int 0)))), (1, .inl (cy 0, 5, .inl cz_25_4)), (2, .inl (cy 0, 4, .inl cz_33_8)), (3, .inr (4, (((f3.set 1 (.int 0)).set 2 (.int 0)).set 3 (.int 0))))] g) _ _ := hO
  exact cg_vret (nw := fun _ => 0) hC hr hlk hO.same (Nat.le_of_ble_eq_true rfl) (Nat.le_of_ble_eq_true rfl) (⟨cz_25_4, cz_33_8, fun h => hzA _ _ h (zi_k rfl), fun h => hzB _ _ h (zi_k rfl), rfl⟩) dX7_clear_43

theorem dX9_asTold_0 : decode cX9_asTold 0 = .ok (.aload_n 0, 1) := by decide +kernel
theorem dX9_asTold_1 : decode cX9_asTold 1 = .ok (.iconst 0, 1) := by decide +kernel
theorem dX9_asTold_2 : decode cX9_asTold 2 = .ok (.putfield 21, 3) := by decide +kernel
theorem dX9_asTold_5 : decode cX9_asTold 5 = .ok (.iconst 0, 1) := by decide +kernel
theorem dX9_asTold_6 : decode cX9_asTold 6 = .ok (.istore_n 2, 1) := by decide +kernel
theorem dX9_asTold_7 : decode cX9_asTold 7 = .ok (.iload_n 2, 1) := by decide +kernel
theorem dX9_asTold_8 : decode cX9_asTold 8 = .ok (.aload_n 1, 1) := by decide +kernel
theorem dX9_asTold_9 : decode cX9_asTold 9 = .ok (.getfield 25, 3) := by decide +kernel
theorem dX9_asTold_12 : decode cX9_asTold 12 = .ok (.if_icmp .ge 25, 3) := by decide +kernel
theorem dX9_asTold_37 : decode cX9_asTold 37 = .ok (.aload_n 0, 1) := by decide +kernel
theorem dX9_asTold_38 : decode cX9_asTold 38 = .ok (.aload_n 1, 1) := by decide +kernel
theorem dX9_asTold_39 : decode cX9_asTold 39 = .ok (.getfield 34, 3) := by decide +kernel
theorem dX9_asTold_42 : decode cX9_asTold 42 = .ok (.iconst (-1), 1) := by decide +kernel
theorem dX9_asTold_43 : decode cX9_asTold 43 = .ok (.ixor, 1) := by decide +kernel
theorem dX9_asTold_44 : decode cX9_asTold 44 = .ok (.putfield 37, 3) := by decide +kernel
theorem dX9_asTold_47 : decode cX9_asTold 47 = .ok (.aload_n 1, 1) := by decide +kernel
theorem dX9_asTold_48 : decode cX9_asTold 48 = .ok (.getfield 40, 3) := by decide +kernel
theorem dX9_asTold_51 : decode cX9_asTold 51 = .ok (.iconst 0, 1) := by decide +kernel
theorem dX9_asTold_52 : decode cX9_asTold 52 = .ok (.aload_n 0, 1) := by decide +kernel
theorem dX9_asTold_53 : decode cX9_asTold 53 = .ok (.getfield 18, 3) := by decide +kernel
theorem dX9_asTold_56 : decode cX9_asTold 56 = .ok (.iconst 0, 1) := by decide +kernel
theorem dX9_asTold_57 : decode cX9_asTold 57 = .ok (.iconst 5, 1) := by decide +kernel
theorem dX9_asTold_58 : decode cX9_asTold 58 = .ok (.invokestatic 41, 3) := by decide +kernel
theorem dX9_asTold_61 : decode cX9_asTold 61 = .ok (.return_, 1) := by decide +kernel
def wq_c_X9_asTold : List Cond := Cond.code yX9_asTold cX9_asTold 3 none :: (([Cond.fieldLink RX9 21 "CrowToll$Stand" "carts" "I", Cond.fieldLink RX9 25 "CrowToll$Road" "carts" "I", Cond.fieldLink RX9 34 "CrowToll$Road" "maybe" "I", Cond.fieldLink RX9 37 "CrowToll$Stand" "comes" "I", Cond.fieldLink RX9 40 "CrowToll$Road" "counts" "[I", Cond.fieldLink RX9 18 "CrowToll$Stand" "counts" "[I", Cond.methodLink RX9 41 arraycopyName, Cond.native arraycopyName, Cond.static arraycopyName, Cond.initialized "java/lang/System"] : List Cond) ++ wsX70 ++ wsX90)
set_option maxHeartbeats 8000000 in
set_option maxRecDepth 100000 in
theorem c_X9_asTold (l : Launch) (D : va_G) (cy : Nat → ClassId) (ad : Nat → Nat) (g : Nat → va_E) {f0 : List Value} {x : Int32} {y : Int32} {c1 : Nat → Int32} {f2 : List Value} {c3 : Nat → Int32} (o0 : g 0 = .inr (9, f0)) (f0_4 : f0[4]? = some (.int x)) (f0_2 : f0[2]? = some (.int y)) (f0_3 : f0[3]? = some (.ref (ad 1))) (a1 : g 1 = .inl (cy 0, 5, .inl c1)) (o2 : g 2 = .inr (7, f2)) (f2_16 : f2[16]? = some (.int 0)) (f2_15 : f2[15]? = some (.int 0)) (f2_1 : f2[1]? = some (.ref (ad 3))) (a3 : g 3 = .inl (cy 0, 5, .inl c3)) : cMv l yX9_asTold wq_c_X9_asTold { frames := 1, cells := 0, slots := 0, locals := 60 } 4 0 0 0 D cy ad g [.ref (ad 0), .ref (ad 2)] (fun nw lu => ∃ (c1_58_1 : Nat → Int32), lu = [(0, .inr (9, ((f0.set 4 (.int 0)).set 2 (.int (-1))))), (1, .inl (cy 0, 5, .inl c1_58_1))]) := by
  refine cM_of (Qc := fun A => cQv (fun nw lu => ∃ (c1_58_1 : Nat → Int32), lu = [(0, .inr (9, ((f0.set 4 (.int 0)).set 2 (.int (-1))))), (1, .inl (cy 0, 5, .inl c1_58_1))]) D 4 0 ad g A) (cc := cX9_asTold) (maxL := 3) (ret := none) (by decide) rfl (Nat.le_of_ble_eq_true rfl) ?_
  intro p e s m below meth c A hC hr hlk hnm hO ls hl
  have hC : CallFix p m c cX9_asTold 3 s [.ref (ad 0), .ref (ad 2)].toArray wq_c_X9_asTold RX9 := hC
  obtain ⟨hx, hb, hml, hown, hts⟩ := id hC
  have hl : lv_has ls 3 [(0, .ref (ad 0)), (1, .ref (ad 2))] := hl
  have i_X7 : ∀ w ∈ wsX70, w ∈ wq_c_X9_asTold := fun w h => List.mem_cons_of_mem _ (List.mem_append_left _ (List.mem_append_right _ h))
  have i_X9 : ∀ w ∈ wsX90, w ∈ wq_c_X9_asTold := fun w h => List.mem_cons_of_mem _ (List.mem_append_right _ h)
  refine lv_aload_n hx hb dX9_asTold_0 rfl (lv_at hl 0 rfl) ?_
  refine lv_iconst (v := 0) hx hb dX9_asTold_1 (by decide) ?_
  refine cg_put hC hO 0 (by decide) o0 rfl i_X9 tyX9_ok nmX9 4 (by decide) (List.mem_of_getElem? (i := 1) rfl) rfl rfl rfl (fs_lt f0_4) dX9_asTold_2 (fun H locs hO => ?_)
  have hO : cO D cy A s.heap s 4 ad (cup [(0, .inr (9, (f0.set 4 (.int 0))))] g) _ _ := hO
  refine lv_iconst (v := 0) hx hb dX9_asTold_5 (by decide) ?_
  refine lv_istore_n (lv' := [(2, .int 0), (0, .ref (ad 0)), (1, .ref (ad 2))]) hx hb dX9_asTold_6 rfl hl (by decide) rfl (fun ls hl => ?_)
  refine lv_iload_n hx hb dX9_asTold_7 rfl (lv_at hl 0 rfl) ?_
  refine lv_aload_n hx hb dX9_asTold_8 rfl (lv_at hl 2 rfl) ?_
  refine cg_get hC hO 2 (by decide) o2 rfl i_X7 16 (by decide) (List.mem_of_getElem? (i := 2) rfl) f2_16 dX9_asTold_9 ?_
  refine lv_icmp_ge (tgt := 37) hx hb dX9_asTold_12 (by decide) (fun _ => ?_) (fun h => absurd h (by decide))
  refine lv_aload_n hx hb dX9_asTold_37 rfl (lv_at hl 1 rfl) ?_
  refine lv_aload_n hx hb dX9_asTold_38 rfl (lv_at hl 2 rfl) ?_
  refine cg_get hC hO 2 (by decide) o2 rfl i_X7 15 (by decide) (List.mem_of_getElem? (i := 3) rfl) f2_15 dX9_asTold_39 ?_
  refine lv_iconst (v := (-1)) hx hb dX9_asTold_42 (by decide) ?_
  refine lv_ixor hx hb dX9_asTold_43 ?_
  refine cg_ev (v := (-1)) (by decide) ?_
  refine cg_put hC hO 0 (by decide) rfl rfl i_X9 tyX9_ok nmX9 2 (by decide) (List.mem_of_getElem? (i := 4) rfl) rfl rfl rfl (fs_lt (fs_ne (by decide) f0_2)) dX9_asTold_44 (fun H locs hO => ?_)
  have hO : cO D cy A s.heap s 4 ad (cup [(0, .inr (9, ((f0.set 4 (.int 0)).set 2 (.int (-1)))))] g) _ _ := hO
  refine lv_aload_n hx hb dX9_asTold_47 rfl (lv_at hl 2 rfl) ?_
  refine cg_get hC hO 2 (by decide) o2 rfl i_X7 1 (by decide) (List.mem_of_getElem? (i := 5) rfl) f2_1 dX9_asTold_48 ?_
  refine lv_iconst (v := 0) hx hb dX9_asTold_51 (by decide) ?_
  refine lv_aload_n hx hb dX9_asTold_52 rfl (lv_at hl 1 rfl) ?_
  refine cg_get hC hO 0 (by decide) rfl rfl i_X9 3 (by decide) (List.mem_of_getElem? (i := 6) rfl) (fs_ne (by decide) (fs_ne (by decide) f0_3)) dX9_asTold_53 ?_
  refine lv_iconst (v := 0) hx hb dX9_asTold_56 (by decide) ?_
  refine lv_iconst (v := 5) hx hb dX9_asTold_57 (by decide) ?_
  refine cg_copy hC hl.1 hO (List.mem_of_getElem? (i := 7) rfl) (List.mem_of_getElem? (i := 8) rfl) (List.mem_of_getElem? (i := 9) rfl) (List.mem_of_getElem? (i := 10) rfl) 3 1 (by decide) (by decide) a3 a1 (by decide) (by decide) (by decide) (by decide) (by decide) (Nat.le_of_ble_eq_true rfl) (Nat.le_of_ble_eq_true rfl) dX9_asTold_58 (fun H locs hO => ?_)
  have hO : cO D cy A s.heap s 4 ad (cup [(0, .inr (9, ((f0.set 4 (.int 0)).set 2 (.int (-1))))), (1, .inl (cy 0, 5, .inl (va_cpy c3 c1 (0 : Int32).toNatClampNeg (0 : Int32).toNatClampNeg (5 : Int32).toNatClampNeg)))] g) _ _ := hO
  obtain ⟨c1_58_1, ec1_58_1⟩ : ∃ z, z = (va_cpy c3 c1 (0 : Int32).toNatClampNeg (0 : Int32).toNatClampNeg (5 : Int32).toNatClampNeg) := ⟨_, rfl⟩
  rw [← ec1_58_1] at hO
  have hO : cO D cy A s.heap s 4 ad (cup [(0, .inr (9, ((f0.set 4 (.int 0)).set 2 (.int (-1))))), (1, .inl (cy 0, 5, .inl c1_58_1))] g) _ _ := hO
  exact cg_vret (nw := fun _ => 0) hC hr hlk hO.same (Nat.le_of_ble_eq_true rfl) (Nat.le_of_ble_eq_true rfl) (⟨c1_58_1, rfl⟩) dX9_asTold_61
