theorem ddX11_within_0 : decode cX11_within 0 = .ok (.iload_n 0, 1) := by decide +kernel
theorem ddX11_within_1 : decode cX11_within 1 = .ok (.iload_n 1, 1) := by decide +kernel
theorem ddX11_within_2 : decode cX11_within 2 = .ok (.if_icmp .lt 12, 3) := by decide +kernel
theorem ddX11_within_5 : decode cX11_within 5 = .ok (.iload_n 0, 1) := by decide +kernel
theorem ddX11_within_6 : decode cX11_within 6 = .ok (.iload_n 2, 1) := by decide +kernel
theorem ddX11_within_7 : decode cX11_within 7 = .ok (.if_icmp .gt 7, 3) := by decide +kernel
theorem ddX11_within_10 : decode cX11_within 10 = .ok (.iconst 1, 1) := by decide +kernel
theorem ddX11_within_11 : decode cX11_within 11 = .ok (.goto 4, 3) := by decide +kernel
theorem ddX11_within_14 : decode cX11_within 14 = .ok (.iconst 0, 1) := by decide +kernel
theorem ddX11_within_15 : decode cX11_within 15 = .ok (.ireturn, 1) := by decide +kernel
def wq_k_X11_within : List Cond := Cond.code yX11_within cX11_within 3 (some .boolean) :: (([] : List Cond))
set_option maxHeartbeats 8000000 in
set_option maxRecDepth 100000 in
theorem k_X11_within (l : Launch) (D : va_G) (cy : Nat → ClassId) (ad : Nat → Nat) (g : Nat → va_E) {number : Int32} {least : Int32} {most : Int32}  : cMi l yX11_within wq_k_X11_within { frames := 0, cells := 0, slots := 0, locals := 0 } 0 0 0 0 D cy ad g [.int number, .int least, .int most] (fun r nw lu => (((least : Int32).toInt ≤ (number : Int32).toInt) ∧ ((number : Int32).toInt ≤ (most : Int32).toInt) ∧ (r = 1) ∧ (lu = [])) ∨ ((r = 0) ∧ (lu = []))) := by
  refine cM_of (Qc := fun A => cQi (fun r nw lu => (((least : Int32).toInt ≤ (number : Int32).toInt) ∧ ((number : Int32).toInt ≤ (most : Int32).toInt) ∧ (r = 1) ∧ (lu = [])) ∨ ((r = 0) ∧ (lu = []))) D 0 0 ad g A) (cc := cX11_within) (maxL := 3) (ret := (some .boolean)) (by decide) rfl (Nat.le_of_ble_eq_true rfl) ?_
  intro p e s m below meth c A hC hr hlk hnm hO ls hl
  have hC : CallFix p m c cX11_within 3 s [.int number, .int least, .int most].toArray wq_k_X11_within RX11 := hC
  obtain ⟨hx, hb, hml, hown, hts⟩ := id hC
  have hl : lv_has ls 3 [(0, .int number), (1, .int least), (2, .int most)] := hl
  refine lv_iload_n hx hb ddX11_within_0 rfl (lv_at hl 0 rfl) ?_
  refine lv_iload_n hx hb ddX11_within_1 rfl (lv_at hl 1 rfl) ?_
  refine lv_icmp_lt (tgt := 14) hx hb ddX11_within_2 (by decide) (fun h_2_11 => ?_) (fun h_2_11 => ?_)
  · have q_2_12 := zr_lt h_2_11
    have z_2_13 : zi (-2147483648) 2147483646 number := zu_lt q_2_12 (zi_all number) (zi_all least) (by decide)
    have z_2_14 : zi (-2147483647) 2147483647 least := zd_lt q_2_12 (zi_all number) (zi_all least) (by decide)
    refine lv_iconst (v := 0) hx hb ddX11_within_14 (by decide) ?_
    exact cg_iret (nw := fun _ => 0) hC hr hlk hO.same rfl (Nat.le_of_ble_eq_true rfl) (Nat.le_of_ble_eq_true rfl) (Or.inr ⟨rfl, rfl⟩) ddX11_within_15
  · have q_2_15 := zr_nlt h_2_11
    refine lv_iload_n hx hb ddX11_within_5 rfl (lv_at hl 0 rfl) ?_
    refine lv_iload_n hx hb ddX11_within_6 rfl (lv_at hl 2 rfl) ?_
    refine lv_icmp_gt (tgt := 14) hx hb ddX11_within_7 (by decide) (fun h_7_16 => ?_) (fun h_7_16 => ?_)
    · have q_7_17 := zr_lt h_7_16
      have z_7_18 : zi (-2147483648) 2147483646 most := zu_lt q_7_17 (zi_all most) (zi_all number) (by decide)
      have z_7_19 : zi (-2147483647) 2147483647 number := zd_lt q_7_17 (zi_all most) (zi_all number) (by decide)
      refine lv_iconst (v := 0) hx hb ddX11_within_14 (by decide) ?_
      exact cg_iret (nw := fun _ => 0) hC hr hlk hO.same rfl (Nat.le_of_ble_eq_true rfl) (Nat.le_of_ble_eq_true rfl) (Or.inr ⟨rfl, rfl⟩) ddX11_within_15
    · have q_7_20 := zr_nlt h_7_16
      refine lv_iconst (v := 1) hx hb ddX11_within_10 (by decide) ?_
      refine lv_goto (tgt := 15) hx hb ddX11_within_11 (by decide) ?_
      exact cg_iret (nw := fun _ => 0) hC hr hlk hO.same rfl (Nat.le_of_ble_eq_true rfl) (Nat.le_of_ble_eq_true rfl) (Or.inl ⟨q_2_15, q_7_20, rfl, rfl⟩) ddX11_within_15

theorem ddX11_has_0 : decode cX11_has 0 = .ok (.iload_n 0, 1) := by decide +kernel
theorem ddX11_has_1 : decode cX11_has 1 = .ok (.iload_n 1, 1) := by decide +kernel
theorem ddX11_has_2 : decode cX11_has 2 = .ok (.ishr, 1) := by decide +kernel
theorem ddX11_has_3 : decode cX11_has 3 = .ok (.iconst 1, 1) := by decide +kernel
theorem ddX11_has_4 : decode cX11_has 4 = .ok (.iand, 1) := by decide +kernel
theorem ddX11_has_5 : decode cX11_has 5 = .ok (.ifCond .eq 7, 3) := by decide +kernel
theorem ddX11_has_8 : decode cX11_has 8 = .ok (.iconst 1, 1) := by decide +kernel
theorem ddX11_has_9 : decode cX11_has 9 = .ok (.goto 4, 3) := by decide +kernel
theorem ddX11_has_12 : decode cX11_has 12 = .ok (.iconst 0, 1) := by decide +kernel
theorem ddX11_has_13 : decode cX11_has 13 = .ok (.ireturn, 1) := by decide +kernel
def wq_k_X11_has : List Cond := Cond.code yX11_has cX11_has 2 (some .boolean) :: (([] : List Cond))
set_option maxHeartbeats 8000000 in
set_option maxRecDepth 100000 in
theorem k_X11_has (l : Launch) (D : va_G) (cy : Nat → ClassId) (ad : Nat → Nat) (g : Nat → va_E) {bits : Int32} {q : Int32}  : cMi l yX11_has wq_k_X11_has { frames := 0, cells := 0, slots := 0, locals := 0 } 0 0 0 0 D cy ad g [.int bits, .int q] (fun r nw lu => (zi 0 1 r) ∧ (lu = [])) := by
  refine cM_of (Qc := fun A => cQi (fun r nw lu => (zi 0 1 r) ∧ (lu = [])) D 0 0 ad g A) (cc := cX11_has) (maxL := 2) (ret := (some .boolean)) (by decide) rfl (Nat.le_of_ble_eq_true rfl) ?_
  intro p e s m below meth c A hC hr hlk hnm hO ls hl
  have hC : CallFix p m c cX11_has 2 s [.int bits, .int q].toArray wq_k_X11_has RX11 := hC
  obtain ⟨hx, hb, hml, hown, hts⟩ := id hC
  have hl : lv_has ls 2 [(0, .int bits), (1, .int q)] := hl
  refine lv_iload_n hx hb ddX11_has_0 rfl (lv_at hl 0 rfl) ?_
  refine lv_iload_n hx hb ddX11_has_1 rfl (lv_at hl 1 rfl) ?_
  refine lv_ishr hx hb ddX11_has_2 ?_
  refine lv_topi (fun v_2_9 _ => ?_)
  refine lv_iconst (v := 1) hx hb ddX11_has_3 (by decide) ?_
  refine lv_iand hx hb ddX11_has_4 ?_
  refine zg_top (P := fun v => zi 0 1 v) (zi_and (zi_k (a := 0) (b := 1) (x := 1) rfl)) (fun v_4_10 z_4_11 => ?_)
  refine lv_if_eq (tgt := 12) hx hb ddX11_has_5 (by decide) (fun h_5_12 => ?_) (fun h_5_12 => ?_)
  · have q_5_13 := zr_eq h_5_12
    have z_5_14 : zi 0 0 v_4_10 := ze_eq q_5_13 z_4_11 (zi_k (a := 0) (b := 0) (x := 0) rfl)
    refine lv_iconst (v := 0) hx hb ddX11_has_12 (by decide) ?_
    exact cg_iret (nw := fun _ => 0) hC hr hlk hO.same rfl (Nat.le_of_ble_eq_true rfl) (Nat.le_of_ble_eq_true rfl) (⟨(zi_k (a := 0) (b := 1) (x := 0) rfl), rfl⟩) ddX11_has_13
  · have q_5_15 := zr_ne h_5_12
    have z_5_16 : zi 1 1 v_4_10 := zn_lo q_5_15 z_4_11 (zi_k (a := 0) (b := 0) (x := 0) rfl) (by decide)
    refine lv_iconst (v := 1) hx hb ddX11_has_8 (by decide) ?_
    refine lv_goto (tgt := 13) hx hb ddX11_has_9 (by decide) ?_
    exact cg_iret (nw := fun _ => 0) hC hr hlk hO.same rfl (Nat.le_of_ble_eq_true rfl) (Nat.le_of_ble_eq_true rfl) (⟨(zi_k (a := 0) (b := 1) (x := 1) rfl), rfl⟩) ddX11_has_13

theorem ddX11_power_0 : decode cX11_power 0 = .ok (.iconst 1, 1) := by decide +kernel
theorem ddX11_power_1 : decode cX11_power 1 = .ok (.istore_n 2, 1) := by decide +kernel
theorem ddX11_power_2 : decode cX11_power 2 = .ok (.iconst 0, 1) := by decide +kernel
theorem ddX11_power_3 : decode cX11_power 3 = .ok (.istore_n 3, 1) := by decide +kernel
theorem ddX11_power_4 : decode cX11_power 4 = .ok (.iload_n 3, 1) := by decide +kernel
theorem ddX11_power_5 : decode cX11_power 5 = .ok (.iload_n 1, 1) := by decide +kernel
theorem ddX11_power_6 : decode cX11_power 6 = .ok (.if_icmp .ge 13, 3) := by decide +kernel
theorem ddX11_power_9 : decode cX11_power 9 = .ok (.iload_n 2, 1) := by decide +kernel
theorem ddX11_power_10 : decode cX11_power 10 = .ok (.iload_n 0, 1) := by decide +kernel
theorem ddX11_power_11 : decode cX11_power 11 = .ok (.imul, 1) := by decide +kernel
theorem ddX11_power_12 : decode cX11_power 12 = .ok (.istore_n 2, 1) := by decide +kernel
theorem ddX11_power_13 : decode cX11_power 13 = .ok (.iinc 3 1, 3) := by decide +kernel
theorem ddX11_power_16 : decode cX11_power 16 = .ok (.goto (-12), 3) := by decide +kernel
theorem ddX11_power_19 : decode cX11_power 19 = .ok (.iload_n 2, 1) := by decide +kernel
theorem ddX11_power_20 : decode cX11_power 20 = .ok (.ireturn, 1) := by decide +kernel
def wq_k_X11_power : List Cond := Cond.code yX11_power cX11_power 4 (some .int) :: (([] : List Cond))
set_option maxHeartbeats 8000000 in
set_option maxRecDepth 100000 in
theorem k_X11_power (l : Launch) (D : va_G) (cy : Nat → ClassId) (ad : Nat → Nat) (g : Nat → va_E) {base : Int32} {n : Int32}  : cMi l yX11_power wq_k_X11_power { frames := 0, cells := 0, slots := 0, locals := 0 } 0 0 0 0 D cy ad g [.int base, .int n] (fun r nw lu => lu = []) := by
  refine cM_of (Qc := fun A => cQi (fun r nw lu => lu = []) D 0 0 ad g A) (cc := cX11_power) (maxL := 4) (ret := (some .int)) (by decide) rfl (Nat.le_of_ble_eq_true rfl) ?_
  intro p e s m below meth c A hC hr hlk hnm hO ls hl
  have hC : CallFix p m c cX11_power 4 s [.int base, .int n].toArray wq_k_X11_power RX11 := hC
  obtain ⟨hx, hb, hml, hown, hts⟩ := id hC
  have hl : lv_has ls 4 [(0, .int base), (1, .int n)] := hl
  refine lv_iconst (v := 1) hx hb ddX11_power_0 (by decide) ?_
  refine lv_istore_n (lv' := [(2, .int 1), (0, .int base), (1, .int n)]) hx hb ddX11_power_1 rfl hl (by decide) rfl (fun ls hl => ?_)
  refine lv_iconst (v := 0) hx hb ddX11_power_2 (by decide) ?_
  refine lv_istore_n (lv' := [(3, .int 0), (2, .int 1), (0, .int base), (1, .int n)]) hx hb ddX11_power_3 rfl hl (by decide) rfl (fun ls hl => ?_)
  have loop_4_117 : ∀ (d_4_118 : Nat) (v_4_104 : Int32) (v_4_106 : Int32), zi 0 2147483647 v_4_104 → (2147483647 + 1 - v_4_104.toInt).toNat < d_4_118 → ∀ (H : Heap) (locs : List Loc), cO D cy A s.heap s 0 ad (cup [] g) H locs → ∀ ls : Array Slot, lv_has ls 4 [(3, .int v_4_104), (2, .int v_4_106), (0, .int base), (1, .int n)] → W p l e { frames := 0, cells := 0, slots := 0, locals := 0 } s m [.int base, .int n].toArray below meth c H locs 0 0 (MQ below (cQi (fun r nw lu => lu = []) D 0 0 ad g A) [.int base, .int n].toArray s 0 0 A) (F0 m 4 ls [])  := by
    intro d_4_118
    induction d_4_118 with
    | zero => intro v_4_104 v_4_106 z_4_105 mu_4_119; exact absurd mu_4_119 (Nat.not_lt_zero _)
    | succ d_4_118 ih_4_120 =>
      intro v_4_104 v_4_106 z_4_105 mu_4_119 H locs hO ls hl
      refine lv_iload_n hx hb ddX11_power_4 rfl (lv_at hl 0 rfl) ?_
      refine lv_iload_n hx hb ddX11_power_5 rfl (lv_at hl 3 rfl) ?_
      refine lv_icmp_ge (tgt := 19) hx hb ddX11_power_6 (by decide) (fun h_6_121 => ?_) (fun h_6_121 => ?_)
      · have q_6_122 := zr_le h_6_121
        refine lv_iload_n hx hb ddX11_power_19 rfl (lv_at hl 1 rfl) ?_
        exact cg_iret (nw := fun _ => 0) hC hr hlk hO.same rfl (Nat.le_of_ble_eq_true rfl) (Nat.le_of_ble_eq_true rfl) rfl ddX11_power_20
      · have q_6_123 := zr_nle h_6_121
        have z_6_124 : zi 0 2147483646 v_4_104 := zu_lt q_6_123 z_4_105 (zi_all n) (by decide)
        have z_6_125 : zi 1 2147483647 n := zd_lt q_6_123 z_4_105 (zi_all n) (by decide)
        refine lv_iload_n hx hb ddX11_power_9 rfl (lv_at hl 1 rfl) ?_
        refine lv_iload_n hx hb ddX11_power_10 rfl (lv_at hl 2 rfl) ?_
        refine lv_imul hx hb ddX11_power_11 ?_
        refine lv_topi (fun v_11_126 _ => ?_)
        refine lv_istore_n (lv' := [(2, .int v_11_126), (3, .int v_4_104), (0, .int base), (1, .int n)]) hx hb ddX11_power_12 rfl hl (by decide) rfl (fun ls hl => ?_)
        obtain ⟨v_13_127, e_13_128, z_13_129, q_13_130⟩ := zi_inc (e := 1) (f := 2147483647) 1 z_6_124 (by decide)
        refine lv_iinc (v := v_13_127) (lv' := [(3, .int v_13_127), (2, .int v_11_126), (0, .int base), (1, .int n)]) hx hb ddX11_power_13 hl (k := 1) rfl e_13_128 (by decide) rfl (fun ls hl => ?_)
        refine lv_goto (tgt := 4) hx hb ddX11_power_16 (by decide) ?_
        exact ih_4_120 v_13_127 v_11_126 (zi_w (c := 0) (d := 2147483647) z_13_129 (by decide)) (zm_up q_13_130 ((zi_w (c := 0) (d := 2147483647) z_13_129 (by decide))).2 (by decide) mu_4_119) _ _ hO ls (lv_sub hl [0, 1, 2, 3] rfl)
  exact loop_4_117 ((2147483647 + 1 - (0 : Int32).toInt).toNat + 1) 0 1 (zi_k (a := 0) (b := 2147483647) (x := 0) rfl) (Nat.lt_succ_self _) _ _ hO ls (lv_sub hl [0, 1, 2, 3] rfl)

theorem ddX11_spread_0 : decode cX11_spread 0 = .ok (.iload_n 0, 1) := by decide +kernel
theorem ddX11_spread_1 : decode cX11_spread 1 = .ok (.istore 4, 2) := by decide +kernel
theorem ddX11_spread_3 : decode cX11_spread 3 = .ok (.iload_n 2, 1) := by decide +kernel
theorem ddX11_spread_4 : decode cX11_spread 4 = .ok (.iconst 1, 1) := by decide +kernel
theorem ddX11_spread_5 : decode cX11_spread 5 = .ok (.isub, 1) := by decide +kernel
theorem ddX11_spread_6 : decode cX11_spread 6 = .ok (.istore 5, 2) := by decide +kernel
theorem ddX11_spread_8 : decode cX11_spread 8 = .ok (.iload 5, 2) := by decide +kernel
theorem ddX11_spread_10 : decode cX11_spread 10 = .ok (.ifCond .lt 27, 3) := by decide +kernel
theorem ddX11_spread_13 : decode cX11_spread 13 = .ok (.iload_n 1, 1) := by decide +kernel
theorem ddX11_spread_14 : decode cX11_spread 14 = .ok (.ifCond .le 23, 3) := by decide +kernel
theorem ddX11_spread_17 : decode cX11_spread 17 = .ok (.aload_n 3, 1) := by decide +kernel
theorem ddX11_spread_18 : decode cX11_spread 18 = .ok (.iload 5, 2) := by decide +kernel
theorem ddX11_spread_20 : decode cX11_spread 20 = .ok (.iload 4, 2) := by decide +kernel
theorem ddX11_spread_22 : decode cX11_spread 22 = .ok (.iload_n 1, 1) := by decide +kernel
theorem ddX11_spread_23 : decode cX11_spread 23 = .ok (.irem, 1) := by decide +kernel
theorem ddX11_spread_24 : decode cX11_spread 24 = .ok (.iastore, 1) := by decide +kernel
theorem ddX11_spread_25 : decode cX11_spread 25 = .ok (.iload 4, 2) := by decide +kernel
theorem ddX11_spread_27 : decode cX11_spread 27 = .ok (.iload_n 1, 1) := by decide +kernel
theorem ddX11_spread_28 : decode cX11_spread 28 = .ok (.idiv, 1) := by decide +kernel
theorem ddX11_spread_29 : decode cX11_spread 29 = .ok (.istore 4, 2) := by decide +kernel
theorem ddX11_spread_31 : decode cX11_spread 31 = .ok (.iinc 5 (-1), 3) := by decide +kernel
theorem ddX11_spread_34 : decode cX11_spread 34 = .ok (.goto (-26), 3) := by decide +kernel
theorem ddX11_spread_37 : decode cX11_spread 37 = .ok (.return_, 1) := by decide +kernel
def wq_k_X11_spread : List Cond := Cond.code yX11_spread cX11_spread 6 none :: (([] : List Cond))
set_option maxHeartbeats 8000000 in
set_option maxRecDepth 100000 in
theorem k_X11_spread (l : Launch) (D : va_G) (cy : Nat → ClassId) (ad : Nat → Nat) (g : Nat → va_E) {c0 : Nat → Int32} {number : Int32} {base : Int32} {n : Int32} (a0 : g 0 = .inl (cy 0, 5, .inl c0)) (p_n : zi 0 5 n) : cMv l yX11_spread wq_k_X11_spread { frames := 0, cells := 0, slots := 0, locals := 0 } 1 0 0 0 D cy ad g [.int number, .int base, .int n, .ref (ad 0)] (fun nw lu => ∃ (d0 : Nat → Int32), lu = [(0, .inl (cy 0, 5, .inl d0))]) := by
  refine cM_of (Qc := fun A => cQv (fun nw lu => ∃ (d0 : Nat → Int32), lu = [(0, .inl (cy 0, 5, .inl d0))]) D 1 0 ad g A) (cc := cX11_spread) (maxL := 6) (ret := none) (by decide) rfl (Nat.le_of_ble_eq_true rfl) ?_
  intro p e s m below meth c A hC hr hlk hnm hO ls hl
  have hC : CallFix p m c cX11_spread 6 s [.int number, .int base, .int n, .ref (ad 0)].toArray wq_k_X11_spread RX11 := hC
  obtain ⟨hx, hb, hml, hown, hts⟩ := id hC
  have hl : lv_has ls 6 [(0, .int number), (1, .int base), (2, .int n), (3, .ref (ad 0))] := hl
  have hO := hO.notes [(0, .inl (cy 0, 5, .inl c0))] (List.forall_mem_cons.mpr ⟨a0, (fun _ h => absurd h List.not_mem_nil)⟩)
  refine lv_iload_n hx hb ddX11_spread_0 rfl (lv_at hl 0 rfl) ?_
  refine lv_istore (lv' := [(4, .int number), (0, .int number), (1, .int base), (2, .int n), (3, .ref (ad 0))]) hx hb ddX11_spread_1 hl (by decide) rfl (fun ls hl => ?_)
  refine lv_iload_n hx hb ddX11_spread_3 rfl (lv_at hl 3 rfl) ?_
  refine lv_iconst (v := 1) hx hb ddX11_spread_4 (by decide) ?_
  refine lv_isub hx hb ddX11_spread_5 ?_
  refine zg_top2 (P := fun v => zi (-1) 4 v) (E := fun v => v.toInt = n.toInt + -1) (zi_subk p_n (n := 1) (by decide) (by decide)) (fun v_5_135 z_5_136 q_5_137 => ?_)
  refine lv_istore (lv' := [(5, .int v_5_135), (4, .int number), (0, .int number), (1, .int base), (2, .int n), (3, .ref (ad 0))]) hx hb ddX11_spread_6 hl (by decide) rfl (fun ls hl => ?_)
  have loop_8_204 : ∀ (d_8_205 : Nat) (v_8_181 : Int32) (v_8_183 : Int32) (c_8_184 : Nat → Int32), zi (-1) 4 v_8_181 → za (-2147483648) 2147483647 c_8_184 → (v_8_181.toInt - (-1) + 1).toNat < d_8_205 → ∀ (H : Heap) (locs : List Loc), cO D cy A s.heap s 1 ad (cup [(0, .inl (cy 0, 5, .inl c_8_184))] g) H locs → ∀ ls : Array Slot, lv_has ls 6 [(5, .int v_8_181), (4, .int v_8_183), (0, .int number), (1, .int base), (2, .int n), (3, .ref (ad 0))] → W p l e { frames := 0, cells := 0, slots := 0, locals := 0 } s m [.int number, .int base, .int n, .ref (ad 0)].toArray below meth c H locs 0 0 (MQ below (cQv (fun nw lu => ∃ (d0 : Nat → Int32), lu = [(0, .inl (cy 0, 5, .inl d0))]) D 1 0 ad g A) [.int number, .int base, .int n, .ref (ad 0)].toArray s 0 0 A) (F0 m 8 ls [])  := by
    intro d_8_205
    induction d_8_205 with
    | zero => intro v_8_181 v_8_183 c_8_184 z_8_182 zc_8_185 mu_8_206; exact absurd mu_8_206 (Nat.not_lt_zero _)
    | succ d_8_205 ih_8_207 =>
      intro v_8_181 v_8_183 c_8_184 z_8_182 zc_8_185 mu_8_206 H locs hO ls hl
      refine lv_iload hx hb ddX11_spread_8 (lv_at hl 0 rfl) ?_
      refine lv_if_lt (tgt := 37) hx hb ddX11_spread_10 (by decide) (fun h_10_208 => ?_) (fun h_10_208 => ?_)
      · have q_10_209 := zr_lt h_10_208
        have z_10_210 : zi (-1) (-1) v_8_181 := zu_lt q_10_209 z_8_182 (zi_k (a := 0) (b := 0) (x := 0) rfl) (by decide)
        exact cg_vret (nw := fun _ => 0) hC hr hlk hO.same (Nat.le_of_ble_eq_true rfl) (Nat.le_of_ble_eq_true rfl) (⟨c_8_184, rfl⟩) ddX11_spread_37
      · have q_10_211 := zr_nlt h_10_208
        have z_10_212 : zi 0 4 v_8_181 := zd_le q_10_211 (zi_k (a := 0) (b := 0) (x := 0) rfl) z_8_182 (by decide)
        refine lv_iload_n hx hb ddX11_spread_13 rfl (lv_at hl 3 rfl) ?_
        refine lv_if_le (tgt := 37) hx hb ddX11_spread_14 (by decide) (fun h_14_213 => ?_) (fun h_14_213 => ?_)
        · have q_14_214 := zr_le h_14_213
          have z_14_215 : zi (-2147483648) 0 base := zu_le q_14_214 (zi_all base) (zi_k (a := 0) (b := 0) (x := 0) rfl) (by decide)
          exact cg_vret (nw := fun _ => 0) hC hr hlk hO.same (Nat.le_of_ble_eq_true rfl) (Nat.le_of_ble_eq_true rfl) (⟨c_8_184, rfl⟩) ddX11_spread_37
        · have q_14_216 := zr_nle h_14_213
          have z_14_217 : zi 1 2147483647 base := zd_lt q_14_216 (zi_k (a := 0) (b := 0) (x := 0) rfl) (zi_all base) (by decide)
          refine lv_aload_n hx hb ddX11_spread_17 rfl (lv_at hl 5 rfl) ?_
          refine lv_iload hx hb ddX11_spread_18 (lv_at hl 0 rfl) ?_
          refine lv_iload hx hb ddX11_spread_20 (lv_at hl 1 rfl) ?_
          refine lv_iload_n hx hb ddX11_spread_22 rfl (lv_at hl 3 rfl) ?_
          refine lv_irem hx hb ddX11_spread_23 (zi_ne z_14_217 (by decide)) ?_
          refine lv_topi (fun v_23_218 _ => ?_)
          refine zg_iast hC hO 0 (by decide) rfl zc_8_185 (zi_all v_23_218) (zi_in z_10_212 (by decide)) ddX11_spread_24 (fun H locs c_24_219 zc_24_220 hO => ?_)
          have hO : cO D cy A s.heap s 1 ad (cup [(0, .inl (cy 0, 5, .inl c_24_219))] g) _ _ := hO
          refine lv_iload hx hb ddX11_spread_25 (lv_at hl 1 rfl) ?_
          refine lv_iload_n hx hb ddX11_spread_27 rfl (lv_at hl 3 rfl) ?_
          refine lv_idiv hx hb ddX11_spread_28 (zi_ne z_14_217 (by decide)) ?_
          refine lv_topi (fun v_28_221 _ => ?_)
          refine lv_istore (lv' := [(4, .int v_28_221), (5, .int v_8_181), (0, .int number), (1, .int base), (2, .int n), (3, .ref (ad 0))]) hx hb ddX11_spread_29 hl (by decide) rfl (fun ls hl => ?_)
          obtain ⟨v_31_222, e_31_223, z_31_224, q_31_225⟩ := zi_inc (e := (-1)) (f := 3) (-1) z_10_212 (by decide)
          refine lv_iinc (v := v_31_222) (lv' := [(5, .int v_31_222), (4, .int v_28_221), (0, .int number), (1, .int base), (2, .int n), (3, .ref (ad 0))]) hx hb ddX11_spread_31 hl (k := 1) rfl e_31_223 (by decide) rfl (fun ls hl => ?_)
          refine lv_goto (tgt := 8) hx hb ddX11_spread_34 (by decide) ?_
          exact ih_8_207 v_31_222 v_28_221 c_24_219 (zi_w (c := (-1)) (d := 4) z_31_224 (by decide)) zc_24_220 (zm_dn q_31_225 ((zi_w (c := (-1)) (d := 4) z_31_224 (by decide))).1 (by decide) mu_8_206) _ _ hO ls (lv_sub hl [0, 1, 2, 3, 4, 5] rfl)
  exact loop_8_204 (((v_5_135 : Int32).toInt - (-1) + 1).toNat + 1) v_5_135 number c0 z_5_136 (za_all _) (Nat.lt_succ_self _) _ _ hO ls (lv_sub hl [0, 1, 2, 3, 4, 5] rfl)

theorem ddX4_clear_0 : decode cX4_clear 0 = .ok (.aload_n 0, 1) := by decide +kernel
theorem ddX4_clear_1 : decode cX4_clear 1 = .ok (.iconst 0, 1) := by decide +kernel
theorem ddX4_clear_2 : decode cX4_clear 2 = .ok (.putfield 18, 3) := by decide +kernel
theorem ddX4_clear_5 : decode cX4_clear 5 = .ok (.aload_n 0, 1) := by decide +kernel
theorem ddX4_clear_6 : decode cX4_clear 6 = .ok (.iconst 0, 1) := by decide +kernel
theorem ddX4_clear_7 : decode cX4_clear 7 = .ok (.putfield 22, 3) := by decide +kernel
theorem ddX4_clear_10 : decode cX4_clear 10 = .ok (.aload_n 0, 1) := by decide +kernel
theorem ddX4_clear_11 : decode cX4_clear 11 = .ok (.iconst 0, 1) := by decide +kernel
theorem ddX4_clear_12 : decode cX4_clear 12 = .ok (.putfield 25, 3) := by decide +kernel
theorem ddX4_clear_15 : decode cX4_clear 15 = .ok (.return_, 1) := by decide +kernel
def wq_k_X4_clear : List Cond := Cond.code yX4_clear cX4_clear 1 none :: (([Cond.fieldLink RX4 18 "CrowToll$Law" "steps" "I", Cond.fieldLink RX4 22 "CrowToll$Law" "units" "I", Cond.fieldLink RX4 25 "CrowToll$Law" "isTold" "Z"] : List Cond) ++ wsX40)
set_option maxHeartbeats 8000000 in
set_option maxRecDepth 100000 in
theorem k_X4_clear (l : Launch) (D : va_G) (cy : Nat → ClassId) (ad : Nat → Nat) (g : Nat → va_E) {u0_0 : Value} {x0_1 : Int32} {x0_2 : Int32} {x0_3 : Int32} {u0_4 : Value} (o0 : g 0 = .inr (4, [u0_0, .int x0_1, .int x0_2, .int x0_3, u0_4])) (b0_1 : zi 0 300 x0_1) (b0_3 : zi 0 1 x0_3) : cMv l yX4_clear wq_k_X4_clear { frames := 0, cells := 0, slots := 0, locals := 0 } 1 0 0 0 D cy ad g [.ref (ad 0)] (fun nw lu => lu = [(0, .inr (4, [u0_0, .int 0, .int 0, .int 0, u0_4]))]) := by
  refine cM_of (Qc := fun A => cQv (fun nw lu => lu = [(0, .inr (4, [u0_0, .int 0, .int 0, .int 0, u0_4]))]) D 1 0 ad g A) (cc := cX4_clear) (maxL := 1) (ret := none) (by decide) rfl (Nat.le_of_ble_eq_true rfl) ?_
  intro p e s m below meth c A hC hr hlk hnm hO ls hl
  have hC : CallFix p m c cX4_clear 1 s [.ref (ad 0)].toArray wq_k_X4_clear RX4 := hC
  obtain ⟨hx, hb, hml, hown, hts⟩ := id hC
  have hl : lv_has ls 1 [(0, .ref (ad 0))] := hl
  have i_X4 : ∀ w ∈ wsX40, w ∈ wq_k_X4_clear := fun w h => List.mem_cons_of_mem _ (List.mem_append_right _ h)
  have hO := hO.notes [(0, .inr (4, [u0_0, .int x0_1, .int x0_2, .int x0_3, u0_4]))] (List.forall_mem_cons.mpr ⟨o0, (fun _ h => absurd h List.not_mem_nil)⟩)
  refine lv_aload_n hx hb ddX4_clear_0 rfl (lv_at hl 0 rfl) ?_
  refine lv_iconst (v := 0) hx hb ddX4_clear_1 (by decide) ?_
  refine cg_put hC hO 0 (by decide) rfl rfl i_X4 tyX4_ok nmX4 1 (by decide) (List.mem_of_getElem? (i := 1) rfl) rfl rfl rfl (Nat.le_of_ble_eq_true rfl) ddX4_clear_2 (fun H locs hO => ?_)
  have hO : cO D cy A s.heap s 1 ad (cup [(0, .inr (4, [u0_0, .int 0, .int x0_2, .int x0_3, u0_4]))] g) _ _ := hO
  refine lv_aload_n hx hb ddX4_clear_5 rfl (lv_at hl 0 rfl) ?_
  refine lv_iconst (v := 0) hx hb ddX4_clear_6 (by decide) ?_
  refine cg_put hC hO 0 (by decide) rfl rfl i_X4 tyX4_ok nmX4 2 (by decide) (List.mem_of_getElem? (i := 2) rfl) rfl rfl rfl (Nat.le_of_ble_eq_true rfl) ddX4_clear_7 (fun H locs hO => ?_)
  have hO : cO D cy A s.heap s 1 ad (cup [(0, .inr (4, [u0_0, .int 0, .int 0, .int x0_3, u0_4]))] g) _ _ := hO
  refine lv_aload_n hx hb ddX4_clear_10 rfl (lv_at hl 0 rfl) ?_
  refine lv_iconst (v := 0) hx hb ddX4_clear_11 (by decide) ?_
  refine cg_put hC hO 0 (by decide) rfl rfl i_X4 tyX4_ok nmX4 3 (by decide) (List.mem_of_getElem? (i := 3) rfl) rfl rfl rfl (Nat.le_of_ble_eq_true rfl) ddX4_clear_12 (fun H locs hO => ?_)
  have hO : cO D cy A s.heap s 1 ad (cup [(0, .inr (4, [u0_0, .int 0, .int 0, .int 0, u0_4]))] g) _ _ := hO
  exact cg_vret (nw := fun _ => 0) hC hr hlk hO.same (Nat.le_of_ble_eq_true rfl) (Nat.le_of_ble_eq_true rfl) rfl ddX4_clear_15

theorem ddX4_put_0 : decode cX4_put 0 = .ok (.aload_n 0, 1) := by decide +kernel
theorem ddX4_put_1 : decode cX4_put 1 = .ok (.getfield 18, 3) := by decide +kernel
theorem ddX4_put_4 : decode cX4_put 4 = .ok (.sipush 300, 3) := by decide +kernel
theorem ddX4_put_7 : decode cX4_put 7 = .ok (.if_icmp .ge 23, 3) := by decide +kernel
theorem ddX4_put_10 : decode cX4_put 10 = .ok (.aload_n 0, 1) := by decide +kernel
theorem ddX4_put_11 : decode cX4_put 11 = .ok (.getfield 11, 3) := by decide +kernel
theorem ddX4_put_14 : decode cX4_put 14 = .ok (.aload_n 0, 1) := by decide +kernel
theorem ddX4_put_15 : decode cX4_put 15 = .ok (.getfield 18, 3) := by decide +kernel
theorem ddX4_put_18 : decode cX4_put 18 = .ok (.iload_n 1, 1) := by decide +kernel
theorem ddX4_put_19 : decode cX4_put 19 = .ok (.iastore, 1) := by decide +kernel
theorem ddX4_put_20 : decode cX4_put 20 = .ok (.aload_n 0, 1) := by decide +kernel
theorem ddX4_put_21 : decode cX4_put 21 = .ok (.dup, 1) := by decide +kernel
theorem ddX4_put_22 : decode cX4_put 22 = .ok (.getfield 18, 3) := by decide +kernel
theorem ddX4_put_25 : decode cX4_put 25 = .ok (.iconst 1, 1) := by decide +kernel
theorem ddX4_put_26 : decode cX4_put 26 = .ok (.iadd, 1) := by decide +kernel
theorem ddX4_put_27 : decode cX4_put 27 = .ok (.putfield 18, 3) := by decide +kernel
theorem ddX4_put_30 : decode cX4_put 30 = .ok (.return_, 1) := by decide +kernel
def wq_k_X4_put : List Cond := Cond.code yX4_put cX4_put 2 none :: (([Cond.fieldLink RX4 18 "CrowToll$Law" "steps" "I", Cond.fieldLink RX4 11 "CrowToll$Law" "step" "[I"] : List Cond) ++ wsX40)
set_option maxHeartbeats 8000000 in
set_option maxRecDepth 100000 in
theorem k_X4_put (l : Launch) (D : va_G) (cy : Nat → ClassId) (ad : Nat → Nat) (g : Nat → va_E) {x0_1 : Int32} {u0_2 : Value} {u0_3 : Value} {u0_4 : Value} {c1 : Nat → Int32} {next : Int32} (o0 : g 0 = .inr (4, [.ref (ad 1), .int x0_1, u0_2, u0_3, u0_4])) (a1 : g 1 = .inl (cy 0, 300, .inl c1)) (b0_1 : zi 0 300 x0_1) : cMv l yX4_put wq_k_X4_put { frames := 0, cells := 0, slots := 0, locals := 0 } 2 0 0 0 D cy ad g [.ref (ad 0), .int next] (fun nw lu => ∃ (y0_1 : Int32) (d1 : Nat → Int32), (zi 1 300 y0_1) ∧ (lu = [(0, .inr (4, [.ref (ad 1), .int y0_1, u0_2, u0_3, u0_4])), (1, .inl (cy 0, 300, .inl d1))])) := by
  refine cM_of (Qc := fun A => cQv (fun nw lu => ∃ (y0_1 : Int32) (d1 : Nat → Int32), (zi 1 300 y0_1) ∧ (lu = [(0, .inr (4, [.ref (ad 1), .int y0_1, u0_2, u0_3, u0_4])), (1, .inl (cy 0, 300, .inl d1))])) D 2 0 ad g A) (cc := cX4_put) (maxL := 2) (ret := none) (by decide) rfl (Nat.le_of_ble_eq_true rfl) ?_
  intro p e s m below meth c A hC hr hlk hnm hO ls hl
  have hC : CallFix p m c cX4_put 2 s [.ref (ad 0), .int next].toArray wq_k_X4_put RX4 := hC
  obtain ⟨hx, hb, hml, hown, hts⟩ := id hC
  have hl : lv_has ls 2 [(0, .ref (ad 0)), (1, .int next)] := hl
  have i_X4 : ∀ w ∈ wsX40, w ∈ wq_k_X4_put := fun w h => List.mem_cons_of_mem _ (List.mem_append_right _ h)
  have hO := hO.notes [(0, .inr (4, [.ref (ad 1), .int x0_1, u0_2, u0_3, u0_4])), (1, .inl (cy 0, 300, .inl c1))] (List.forall_mem_cons.mpr ⟨o0, List.forall_mem_cons.mpr ⟨a1, (fun _ h => absurd h List.not_mem_nil)⟩⟩)
  refine lv_aload_n hx hb ddX4_put_0 rfl (lv_at hl 0 rfl) ?_
  refine cg_get hC hO 0 (by decide) rfl rfl i_X4 1 (by decide) (List.mem_of_getElem? (i := 1) rfl) rfl ddX4_put_1 ?_
  refine lv_sipush (v := 300) hx hb ddX4_put_4 (by decide) ?_
  refine lv_icmp_ge (tgt := 30) hx hb ddX4_put_7 (by decide) (fun h_7_21 => ?_) (fun h_7_21 => ?_)
  · have q_7_22 := zr_le h_7_21
    have z_7_23 : zi 300 300 x0_1 := zd_le q_7_22 (zi_k (a := 300) (b := 300) (x := 300) rfl) b0_1 (by decide)
    exact cg_vret (nw := fun _ => 0) hC hr hlk hO.same (Nat.le_of_ble_eq_true rfl) (Nat.le_of_ble_eq_true rfl) (⟨x0_1, c1, (zi_w (c := 1) (d := 300) z_7_23 (by decide)), rfl⟩) ddX4_put_30
  · have q_7_24 := zr_nle h_7_21
    have z_7_25 : zi 0 299 x0_1 := zu_lt q_7_24 b0_1 (zi_k (a := 300) (b := 300) (x := 300) rfl) (by decide)
    refine lv_aload_n hx hb ddX4_put_10 rfl (lv_at hl 0 rfl) ?_
    refine cg_get hC hO 0 (by decide) rfl rfl i_X4 0 (by decide) (List.mem_of_getElem? (i := 2) rfl) rfl ddX4_put_11 ?_
    refine lv_aload_n hx hb ddX4_put_14 rfl (lv_at hl 0 rfl) ?_
    refine cg_get hC hO 0 (by decide) rfl rfl i_X4 1 (by decide) (List.mem_of_getElem? (i := 1) rfl) rfl ddX4_put_15 ?_
    refine lv_iload_n hx hb ddX4_put_18 rfl (lv_at hl 1 rfl) ?_
    refine zg_iast hC hO 1 (by decide) rfl (za_all _) (zi_all next) (zi_in z_7_25 (by decide)) ddX4_put_19 (fun H locs c_19_26 zc_19_27 hO => ?_)
    have hO : cO D cy A s.heap s 2 ad (cup [(0, .inr (4, [.ref (ad 1), .int x0_1, u0_2, u0_3, u0_4])), (1, .inl (cy 0, 300, .inl c_19_26))] g) _ _ := hO
    refine lv_aload_n hx hb ddX4_put_20 rfl (lv_at hl 0 rfl) ?_
    refine lv_dup hx hb ddX4_put_21 rfl ?_
    refine cg_get hC hO 0 (by decide) rfl rfl i_X4 1 (by decide) (List.mem_of_getElem? (i := 1) rfl) rfl ddX4_put_22 ?_
    refine lv_iconst (v := 1) hx hb ddX4_put_25 (by decide) ?_
    refine lv_iadd hx hb ddX4_put_26 ?_
    refine zg_top2 (P := fun v => zi 1 300 v) (E := fun v => v.toInt = x0_1.toInt + 1) (zi_addk z_7_25 (n := 1) (by decide) (by decide)) (fun v_26_28 z_26_29 q_26_30 => ?_)
    refine cg_put hC hO 0 (by decide) rfl rfl i_X4 tyX4_ok nmX4 1 (by decide) (List.mem_of_getElem? (i := 1) rfl) rfl rfl rfl (Nat.le_of_ble_eq_true rfl) ddX4_put_27 (fun H locs hO => ?_)
    have hO : cO D cy A s.heap s 2 ad (cup [(0, .inr (4, [.ref (ad 1), .int v_26_28, u0_2, u0_3, u0_4])), (1, .inl (cy 0, 300, .inl c_19_26))] g) _ _ := hO
    exact cg_vret (nw := fun _ => 0) hC hr hlk hO.same (Nat.le_of_ble_eq_true rfl) (Nat.le_of_ble_eq_true rfl) (⟨v_26_28, c_19_26, z_26_29, rfl⟩) ddX4_put_30

theorem ddX4_joined_0 : decode cX4_joined 0 = .ok (.iload_n 0, 1) := by decide +kernel
theorem ddX4_joined_1 : decode cX4_joined 1 = .ok (.tableswitch 152 (-10) (-1) #[140, 128, 124, 120, 116, 105, 94, 83, 69, 55], 55) := by decide +kernel
theorem ddX4_joined_56 : decode cX4_joined 56 = .ok (.iload_n 1, 1) := by decide +kernel
theorem ddX4_joined_57 : decode cX4_joined 57 = .ok (.ifCond .ne 7, 3) := by decide +kernel
theorem ddX4_joined_60 : decode cX4_joined 60 = .ok (.iload_n 2, 1) := by decide +kernel
theorem ddX4_joined_61 : decode cX4_joined 61 = .ok (.ifCond .eq 7, 3) := by decide +kernel
theorem ddX4_joined_64 : decode cX4_joined 64 = .ok (.iconst 1, 1) := by decide +kernel
theorem ddX4_joined_65 : decode cX4_joined 65 = .ok (.goto 4, 3) := by decide +kernel
theorem ddX4_joined_68 : decode cX4_joined 68 = .ok (.iconst 0, 1) := by decide +kernel
theorem ddX4_joined_69 : decode cX4_joined 69 = .ok (.ireturn, 1) := by decide +kernel
theorem ddX4_joined_70 : decode cX4_joined 70 = .ok (.iload_n 1, 1) := by decide +kernel
theorem ddX4_joined_71 : decode cX4_joined 71 = .ok (.ifCond .eq 11, 3) := by decide +kernel
theorem ddX4_joined_74 : decode cX4_joined 74 = .ok (.iload_n 2, 1) := by decide +kernel
theorem ddX4_joined_75 : decode cX4_joined 75 = .ok (.ifCond .eq 7, 3) := by decide +kernel
theorem ddX4_joined_78 : decode cX4_joined 78 = .ok (.iconst 1, 1) := by decide +kernel
theorem ddX4_joined_79 : decode cX4_joined 79 = .ok (.goto 4, 3) := by decide +kernel
theorem ddX4_joined_82 : decode cX4_joined 82 = .ok (.iconst 0, 1) := by decide +kernel
theorem ddX4_joined_83 : decode cX4_joined 83 = .ok (.ireturn, 1) := by decide +kernel
theorem ddX4_joined_84 : decode cX4_joined 84 = .ok (.iload_n 1, 1) := by decide +kernel
theorem ddX4_joined_85 : decode cX4_joined 85 = .ok (.iload_n 2, 1) := by decide +kernel
theorem ddX4_joined_86 : decode cX4_joined 86 = .ok (.if_icmp .ge 7, 3) := by decide +kernel
theorem ddX4_joined_89 : decode cX4_joined 89 = .ok (.iconst 1, 1) := by decide +kernel
theorem ddX4_joined_90 : decode cX4_joined 90 = .ok (.goto 4, 3) := by decide +kernel
theorem ddX4_joined_93 : decode cX4_joined 93 = .ok (.iconst 0, 1) := by decide +kernel
theorem ddX4_joined_94 : decode cX4_joined 94 = .ok (.ireturn, 1) := by decide +kernel
theorem ddX4_joined_95 : decode cX4_joined 95 = .ok (.iload_n 1, 1) := by decide +kernel
theorem ddX4_joined_96 : decode cX4_joined 96 = .ok (.iload_n 2, 1) := by decide +kernel
theorem ddX4_joined_97 : decode cX4_joined 97 = .ok (.if_icmp .le 7, 3) := by decide +kernel
theorem ddX4_joined_100 : decode cX4_joined 100 = .ok (.iconst 1, 1) := by decide +kernel
theorem ddX4_joined_101 : decode cX4_joined 101 = .ok (.goto 4, 3) := by decide +kernel
theorem ddX4_joined_104 : decode cX4_joined 104 = .ok (.iconst 0, 1) := by decide +kernel
theorem ddX4_joined_105 : decode cX4_joined 105 = .ok (.ireturn, 1) := by decide +kernel
theorem ddX4_joined_106 : decode cX4_joined 106 = .ok (.iload_n 1, 1) := by decide +kernel
theorem ddX4_joined_107 : decode cX4_joined 107 = .ok (.iload_n 2, 1) := by decide +kernel
theorem ddX4_joined_108 : decode cX4_joined 108 = .ok (.if_icmp .ne 7, 3) := by decide +kernel
theorem ddX4_joined_111 : decode cX4_joined 111 = .ok (.iconst 1, 1) := by decide +kernel
theorem ddX4_joined_112 : decode cX4_joined 112 = .ok (.goto 4, 3) := by decide +kernel
theorem ddX4_joined_115 : decode cX4_joined 115 = .ok (.iconst 0, 1) := by decide +kernel
theorem ddX4_joined_116 : decode cX4_joined 116 = .ok (.ireturn, 1) := by decide +kernel
theorem ddX4_joined_117 : decode cX4_joined 117 = .ok (.iload_n 1, 1) := by decide +kernel
theorem ddX4_joined_118 : decode cX4_joined 118 = .ok (.iload_n 2, 1) := by decide +kernel
theorem ddX4_joined_119 : decode cX4_joined 119 = .ok (.iadd, 1) := by decide +kernel
theorem ddX4_joined_120 : decode cX4_joined 120 = .ok (.ireturn, 1) := by decide +kernel
theorem ddX4_joined_121 : decode cX4_joined 121 = .ok (.iload_n 1, 1) := by decide +kernel
theorem ddX4_joined_122 : decode cX4_joined 122 = .ok (.iload_n 2, 1) := by decide +kernel
theorem ddX4_joined_123 : decode cX4_joined 123 = .ok (.isub, 1) := by decide +kernel
theorem ddX4_joined_124 : decode cX4_joined 124 = .ok (.ireturn, 1) := by decide +kernel
theorem ddX4_joined_125 : decode cX4_joined 125 = .ok (.iload_n 1, 1) := by decide +kernel
theorem ddX4_joined_126 : decode cX4_joined 126 = .ok (.iload_n 2, 1) := by decide +kernel
theorem ddX4_joined_127 : decode cX4_joined 127 = .ok (.imul, 1) := by decide +kernel
theorem ddX4_joined_128 : decode cX4_joined 128 = .ok (.ireturn, 1) := by decide +kernel
theorem ddX4_joined_129 : decode cX4_joined 129 = .ok (.iload_n 2, 1) := by decide +kernel
theorem ddX4_joined_130 : decode cX4_joined 130 = .ok (.ifCond .ne 7, 3) := by decide +kernel
theorem ddX4_joined_133 : decode cX4_joined 133 = .ok (.iconst 0, 1) := by decide +kernel
theorem ddX4_joined_134 : decode cX4_joined 134 = .ok (.goto 6, 3) := by decide +kernel
theorem ddX4_joined_137 : decode cX4_joined 137 = .ok (.iload_n 1, 1) := by decide +kernel
theorem ddX4_joined_138 : decode cX4_joined 138 = .ok (.iload_n 2, 1) := by decide +kernel
theorem ddX4_joined_139 : decode cX4_joined 139 = .ok (.idiv, 1) := by decide +kernel
theorem ddX4_joined_140 : decode cX4_joined 140 = .ok (.ireturn, 1) := by decide +kernel
theorem ddX4_joined_141 : decode cX4_joined 141 = .ok (.iload_n 2, 1) := by decide +kernel
theorem ddX4_joined_142 : decode cX4_joined 142 = .ok (.ifCond .ne 7, 3) := by decide +kernel
theorem ddX4_joined_145 : decode cX4_joined 145 = .ok (.iconst 0, 1) := by decide +kernel
theorem ddX4_joined_146 : decode cX4_joined 146 = .ok (.goto 6, 3) := by decide +kernel
theorem ddX4_joined_149 : decode cX4_joined 149 = .ok (.iload_n 1, 1) := by decide +kernel
theorem ddX4_joined_150 : decode cX4_joined 150 = .ok (.iload_n 2, 1) := by decide +kernel
theorem ddX4_joined_151 : decode cX4_joined 151 = .ok (.irem, 1) := by decide +kernel
theorem ddX4_joined_152 : decode cX4_joined 152 = .ok (.ireturn, 1) := by decide +kernel
theorem ddX4_joined_153 : decode cX4_joined 153 = .ok (.iconst 0, 1) := by decide +kernel
theorem ddX4_joined_154 : decode cX4_joined 154 = .ok (.ireturn, 1) := by decide +kernel
def wq_k_X4_joined : List Cond := Cond.code yX4_joined cX4_joined 3 (some .int) :: (([] : List Cond))
set_option maxHeartbeats 8000000 in
set_option maxRecDepth 100000 in
theorem k_X4_joined (l : Launch) (D : va_G) (cy : Nat → ClassId) (ad : Nat → Nat) (g : Nat → va_E) {how : Int32} {ax : Int32} {bx : Int32}  : cMi l yX4_joined wq_k_X4_joined { frames := 0, cells := 0, slots := 0, locals := 0 } 0 0 0 0 D cy ad g [.int how, .int ax, .int bx] (fun r nw lu => lu = []) := by
  refine cM_of (Qc := fun A => cQi (fun r nw lu => lu = []) D 0 0 ad g A) (cc := cX4_joined) (maxL := 3) (ret := (some .int)) (by decide) rfl (Nat.le_of_ble_eq_true rfl) ?_
  intro p e s m below meth c A hC hr hlk hnm hO ls hl
  have hC : CallFix p m c cX4_joined 3 s [.int how, .int ax, .int bx].toArray wq_k_X4_joined RX4 := hC
  obtain ⟨hx, hb, hml, hown, hts⟩ := id hC
  have hl : lv_has ls 3 [(0, .int how), (1, .int ax), (2, .int bx)] := hl
  refine lv_iload_n hx hb ddX4_joined_0 rfl (lv_at hl 0 rfl) ?_
  by_cases hs_1_37_0 : how = (-10)
  · refine lv_tableIn (tgt := 141) hx hb ddX4_joined_1 (by rw [hs_1_37_0]; decide) (by rw [hs_1_37_0]; decide) (by rw [hs_1_37_0]; rfl) (by decide) ?_
    refine lv_iload_n hx hb ddX4_joined_141 rfl (lv_at hl 2 rfl) ?_
    refine lv_if_ne (tgt := 149) hx hb ddX4_joined_142 (by decide) (fun h_142_38 => ?_) (fun h_142_38 => ?_)
    · refine lv_iload_n hx hb ddX4_joined_149 rfl (lv_at hl 1 rfl) ?_
      refine lv_iload_n hx hb ddX4_joined_150 rfl (lv_at hl 2 rfl) ?_
      refine lv_irem hx hb ddX4_joined_151 h_142_38 ?_
      refine lv_topi (fun v_151_39 _ => ?_)
      exact cg_iret (nw := fun _ => 0) hC hr hlk hO.same rfl (Nat.le_of_ble_eq_true rfl) (Nat.le_of_ble_eq_true rfl) rfl ddX4_joined_152
    · have q_142_40 := zr_eq h_142_38
      have z_142_41 : zi 0 0 bx := ze_eq q_142_40 (zi_all bx) (zi_k (a := 0) (b := 0) (x := 0) rfl)
      refine lv_iconst (v := 0) hx hb ddX4_joined_145 (by decide) ?_
      refine lv_goto (tgt := 152) hx hb ddX4_joined_146 (by decide) ?_
      exact cg_iret (nw := fun _ => 0) hC hr hlk hO.same rfl (Nat.le_of_ble_eq_true rfl) (Nat.le_of_ble_eq_true rfl) rfl ddX4_joined_152
  by_cases hs_1_37_1 : how = (-9)
  · refine lv_tableIn (tgt := 129) hx hb ddX4_joined_1 (by rw [hs_1_37_1]; decide) (by rw [hs_1_37_1]; decide) (by rw [hs_1_37_1]; rfl) (by decide) ?_
    refine lv_iload_n hx hb ddX4_joined_129 rfl (lv_at hl 2 rfl) ?_
    refine lv_if_ne (tgt := 137) hx hb ddX4_joined_130 (by decide) (fun h_130_42 => ?_) (fun h_130_42 => ?_)
    · refine lv_iload_n hx hb ddX4_joined_137 rfl (lv_at hl 1 rfl) ?_
      refine lv_iload_n hx hb ddX4_joined_138 rfl (lv_at hl 2 rfl) ?_
      refine lv_idiv hx hb ddX4_joined_139 h_130_42 ?_
      refine lv_topi (fun v_139_43 _ => ?_)
      exact cg_iret (nw := fun _ => 0) hC hr hlk hO.same rfl (Nat.le_of_ble_eq_true rfl) (Nat.le_of_ble_eq_true rfl) rfl ddX4_joined_140
    · have q_130_44 := zr_eq h_130_42
      have z_130_45 : zi 0 0 bx := ze_eq q_130_44 (zi_all bx) (zi_k (a := 0) (b := 0) (x := 0) rfl)
      refine lv_iconst (v := 0) hx hb ddX4_joined_133 (by decide) ?_
      refine lv_goto (tgt := 140) hx hb ddX4_joined_134 (by decide) ?_
      exact cg_iret (nw := fun _ => 0) hC hr hlk hO.same rfl (Nat.le_of_ble_eq_true rfl) (Nat.le_of_ble_eq_true rfl) rfl ddX4_joined_140
  by_cases hs_1_37_2 : how = (-8)
  · refine lv_tableIn (tgt := 125) hx hb ddX4_joined_1 (by rw [hs_1_37_2]; decide) (by rw [hs_1_37_2]; decide) (by rw [hs_1_37_2]; rfl) (by decide) ?_
    refine lv_iload_n hx hb ddX4_joined_125 rfl (lv_at hl 1 rfl) ?_
    refine lv_iload_n hx hb ddX4_joined_126 rfl (lv_at hl 2 rfl) ?_
    refine lv_imul hx hb ddX4_joined_127 ?_
    refine lv_topi (fun v_127_46 _ => ?_)
    exact cg_iret (nw := fun _ => 0) hC hr hlk hO.same rfl (Nat.le_of_ble_eq_true rfl) (Nat.le_of_ble_eq_true rfl) rfl ddX4_joined_128
  by_cases hs_1_37_3 : how = (-7)
  · refine lv_tableIn (tgt := 121) hx hb ddX4_joined_1 (by rw [hs_1_37_3]; decide) (by rw [hs_1_37_3]; decide) (by rw [hs_1_37_3]; rfl) (by decide) ?_
    refine lv_iload_n hx hb ddX4_joined_121 rfl (lv_at hl 1 rfl) ?_
    refine lv_iload_n hx hb ddX4_joined_122 rfl (lv_at hl 2 rfl) ?_
    refine lv_isub hx hb ddX4_joined_123 ?_
    refine lv_topi (fun v_123_47 _ => ?_)
    exact cg_iret (nw := fun _ => 0) hC hr hlk hO.same rfl (Nat.le_of_ble_eq_true rfl) (Nat.le_of_ble_eq_true rfl) rfl ddX4_joined_124
  by_cases hs_1_37_4 : how = (-6)
  · refine lv_tableIn (tgt := 117) hx hb ddX4_joined_1 (by rw [hs_1_37_4]; decide) (by rw [hs_1_37_4]; decide) (by rw [hs_1_37_4]; rfl) (by decide) ?_
    refine lv_iload_n hx hb ddX4_joined_117 rfl (lv_at hl 1 rfl) ?_
    refine lv_iload_n hx hb ddX4_joined_118 rfl (lv_at hl 2 rfl) ?_
    refine lv_iadd hx hb ddX4_joined_119 ?_
    refine lv_topi (fun v_119_48 _ => ?_)
    exact cg_iret (nw := fun _ => 0) hC hr hlk hO.same rfl (Nat.le_of_ble_eq_true rfl) (Nat.le_of_ble_eq_true rfl) rfl ddX4_joined_120
  by_cases hs_1_37_5 : how = (-5)
  · refine lv_tableIn (tgt := 106) hx hb ddX4_joined_1 (by rw [hs_1_37_5]; decide) (by rw [hs_1_37_5]; decide) (by rw [hs_1_37_5]; rfl) (by decide) ?_
    refine lv_iload_n hx hb ddX4_joined_106 rfl (lv_at hl 1 rfl) ?_
    refine lv_iload_n hx hb ddX4_joined_107 rfl (lv_at hl 2 rfl) ?_
    refine lv_icmp_ne (tgt := 115) hx hb ddX4_joined_108 (by decide) (fun h_108_49 => ?_) (fun h_108_49 => ?_)
    · refine lv_iconst (v := 0) hx hb ddX4_joined_115 (by decide) ?_
      exact cg_iret (nw := fun _ => 0) hC hr hlk hO.same rfl (Nat.le_of_ble_eq_true rfl) (Nat.le_of_ble_eq_true rfl) rfl ddX4_joined_116
    · have q_108_50 := zr_eq h_108_49
      refine lv_iconst (v := 1) hx hb ddX4_joined_111 (by decide) ?_
      refine lv_goto (tgt := 116) hx hb ddX4_joined_112 (by decide) ?_
      exact cg_iret (nw := fun _ => 0) hC hr hlk hO.same rfl (Nat.le_of_ble_eq_true rfl) (Nat.le_of_ble_eq_true rfl) rfl ddX4_joined_116
  by_cases hs_1_37_6 : how = (-4)
  · refine lv_tableIn (tgt := 95) hx hb ddX4_joined_1 (by rw [hs_1_37_6]; decide) (by rw [hs_1_37_6]; decide) (by rw [hs_1_37_6]; rfl) (by decide) ?_
    refine lv_iload_n hx hb ddX4_joined_95 rfl (lv_at hl 1 rfl) ?_
    refine lv_iload_n hx hb ddX4_joined_96 rfl (lv_at hl 2 rfl) ?_
    refine lv_icmp_le (tgt := 104) hx hb ddX4_joined_97 (by decide) (fun h_97_51 => ?_) (fun h_97_51 => ?_)
    · have q_97_52 := zr_le h_97_51
      refine lv_iconst (v := 0) hx hb ddX4_joined_104 (by decide) ?_
      exact cg_iret (nw := fun _ => 0) hC hr hlk hO.same rfl (Nat.le_of_ble_eq_true rfl) (Nat.le_of_ble_eq_true rfl) rfl ddX4_joined_105
    · have q_97_53 := zr_nle h_97_51
      have z_97_54 : zi (-2147483648) 2147483646 bx := zu_lt q_97_53 (zi_all bx) (zi_all ax) (by decide)
      have z_97_55 : zi (-2147483647) 2147483647 ax := zd_lt q_97_53 (zi_all bx) (zi_all ax) (by decide)
      refine lv_iconst (v := 1) hx hb ddX4_joined_100 (by decide) ?_
      refine lv_goto (tgt := 105) hx hb ddX4_joined_101 (by decide) ?_
      exact cg_iret (nw := fun _ => 0) hC hr hlk hO.same rfl (Nat.le_of_ble_eq_true rfl) (Nat.le_of_ble_eq_true rfl) rfl ddX4_joined_105
  by_cases hs_1_37_7 : how = (-3)
  · refine lv_tableIn (tgt := 84) hx hb ddX4_joined_1 (by rw [hs_1_37_7]; decide) (by rw [hs_1_37_7]; decide) (by rw [hs_1_37_7]; rfl) (by decide) ?_
    refine lv_iload_n hx hb ddX4_joined_84 rfl (lv_at hl 1 rfl) ?_
    refine lv_iload_n hx hb ddX4_joined_85 rfl (lv_at hl 2 rfl) ?_
    refine lv_icmp_ge (tgt := 93) hx hb ddX4_joined_86 (by decide) (fun h_86_56 => ?_) (fun h_86_56 => ?_)
    · have q_86_57 := zr_le h_86_56
      refine lv_iconst (v := 0) hx hb ddX4_joined_93 (by decide) ?_
      exact cg_iret (nw := fun _ => 0) hC hr hlk hO.same rfl (Nat.le_of_ble_eq_true rfl) (Nat.le_of_ble_eq_true rfl) rfl ddX4_joined_94
    · have q_86_58 := zr_nle h_86_56
      have z_86_59 : zi (-2147483648) 2147483646 ax := zu_lt q_86_58 (zi_all ax) (zi_all bx) (by decide)
      have z_86_60 : zi (-2147483647) 2147483647 bx := zd_lt q_86_58 (zi_all ax) (zi_all bx) (by decide)
      refine lv_iconst (v := 1) hx hb ddX4_joined_89 (by decide) ?_
      refine lv_goto (tgt := 94) hx hb ddX4_joined_90 (by decide) ?_
      exact cg_iret (nw := fun _ => 0) hC hr hlk hO.same rfl (Nat.le_of_ble_eq_true rfl) (Nat.le_of_ble_eq_true rfl) rfl ddX4_joined_94
  by_cases hs_1_37_8 : how = (-2)
  · refine lv_tableIn (tgt := 70) hx hb ddX4_joined_1 (by rw [hs_1_37_8]; decide) (by rw [hs_1_37_8]; decide) (by rw [hs_1_37_8]; rfl) (by decide) ?_
    refine lv_iload_n hx hb ddX4_joined_70 rfl (lv_at hl 1 rfl) ?_
    refine lv_if_eq (tgt := 82) hx hb ddX4_joined_71 (by decide) (fun h_71_61 => ?_) (fun h_71_61 => ?_)
    · have q_71_62 := zr_eq h_71_61
      have z_71_63 : zi 0 0 ax := ze_eq q_71_62 (zi_all ax) (zi_k (a := 0) (b := 0) (x := 0) rfl)
      refine lv_iconst (v := 0) hx hb ddX4_joined_82 (by decide) ?_
      exact cg_iret (nw := fun _ => 0) hC hr hlk hO.same rfl (Nat.le_of_ble_eq_true rfl) (Nat.le_of_ble_eq_true rfl) rfl ddX4_joined_83
    · refine lv_iload_n hx hb ddX4_joined_74 rfl (lv_at hl 2 rfl) ?_
      refine lv_if_eq (tgt := 82) hx hb ddX4_joined_75 (by decide) (fun h_75_64 => ?_) (fun h_75_64 => ?_)
      · have q_75_65 := zr_eq h_75_64
        have z_75_66 : zi 0 0 bx := ze_eq q_75_65 (zi_all bx) (zi_k (a := 0) (b := 0) (x := 0) rfl)
        refine lv_iconst (v := 0) hx hb ddX4_joined_82 (by decide) ?_
        exact cg_iret (nw := fun _ => 0) hC hr hlk hO.same rfl (Nat.le_of_ble_eq_true rfl) (Nat.le_of_ble_eq_true rfl) rfl ddX4_joined_83
      · refine lv_iconst (v := 1) hx hb ddX4_joined_78 (by decide) ?_
        refine lv_goto (tgt := 83) hx hb ddX4_joined_79 (by decide) ?_
        exact cg_iret (nw := fun _ => 0) hC hr hlk hO.same rfl (Nat.le_of_ble_eq_true rfl) (Nat.le_of_ble_eq_true rfl) rfl ddX4_joined_83
  by_cases hs_1_37_9 : how = (-1)
  · refine lv_tableIn (tgt := 56) hx hb ddX4_joined_1 (by rw [hs_1_37_9]; decide) (by rw [hs_1_37_9]; decide) (by rw [hs_1_37_9]; rfl) (by decide) ?_
    refine lv_iload_n hx hb ddX4_joined_56 rfl (lv_at hl 1 rfl) ?_
    refine lv_if_ne (tgt := 64) hx hb ddX4_joined_57 (by decide) (fun h_57_67 => ?_) (fun h_57_67 => ?_)
    · refine lv_iconst (v := 1) hx hb ddX4_joined_64 (by decide) ?_
      refine lv_goto (tgt := 69) hx hb ddX4_joined_65 (by decide) ?_
      exact cg_iret (nw := fun _ => 0) hC hr hlk hO.same rfl (Nat.le_of_ble_eq_true rfl) (Nat.le_of_ble_eq_true rfl) rfl ddX4_joined_69
    · have q_57_68 := zr_eq h_57_67
      have z_57_69 : zi 0 0 ax := ze_eq q_57_68 (zi_all ax) (zi_k (a := 0) (b := 0) (x := 0) rfl)
      refine lv_iload_n hx hb ddX4_joined_60 rfl (lv_at hl 2 rfl) ?_
      refine lv_if_eq (tgt := 68) hx hb ddX4_joined_61 (by decide) (fun h_61_70 => ?_) (fun h_61_70 => ?_)
      · have q_61_71 := zr_eq h_61_70
        have z_61_72 : zi 0 0 bx := ze_eq q_61_71 (zi_all bx) (zi_k (a := 0) (b := 0) (x := 0) rfl)
        refine lv_iconst (v := 0) hx hb ddX4_joined_68 (by decide) ?_
        exact cg_iret (nw := fun _ => 0) hC hr hlk hO.same rfl (Nat.le_of_ble_eq_true rfl) (Nat.le_of_ble_eq_true rfl) rfl ddX4_joined_69
      · refine lv_iconst (v := 1) hx hb ddX4_joined_64 (by decide) ?_
        refine lv_goto (tgt := 69) hx hb ddX4_joined_65 (by decide) ?_
        exact cg_iret (nw := fun _ => 0) hC hr hlk hO.same rfl (Nat.le_of_ble_eq_true rfl) (Nat.le_of_ble_eq_true rfl) rfl ddX4_joined_69
  refine lv_tableOut (tgt := 153) hx hb ddX4_joined_1 (tsw_out_m10_m1 how hs_1_37_0 hs_1_37_1 hs_1_37_2 hs_1_37_3 hs_1_37_4 hs_1_37_5 hs_1_37_6 hs_1_37_7 hs_1_37_8 hs_1_37_9) (by decide) ?_
  refine lv_iconst (v := 0) hx hb ddX4_joined_153 (by decide) ?_
  exact cg_iret (nw := fun _ => 0) hC hr hlk hO.same rfl (Nat.le_of_ble_eq_true rfl) (Nat.le_of_ble_eq_true rfl) rfl ddX4_joined_154

theorem ddX4_pay_0 : decode cX4_pay 0 = .ok (.aload_n 0, 1) := by decide +kernel
theorem ddX4_pay_1 : decode cX4_pay 1 = .ok (.getfield 25, 3) := by decide +kernel
theorem ddX4_pay_4 : decode cX4_pay 4 = .ok (.ifCond .ne 5, 3) := by decide +kernel
theorem ddX4_pay_7 : decode cX4_pay 7 = .ok (.iload_n 2, 1) := by decide +kernel
theorem ddX4_pay_8 : decode cX4_pay 8 = .ok (.ireturn, 1) := by decide +kernel
theorem ddX4_pay_9 : decode cX4_pay 9 = .ok (.iconst 0, 1) := by decide +kernel
theorem ddX4_pay_10 : decode cX4_pay 10 = .ok (.istore 4, 2) := by decide +kernel
theorem ddX4_pay_12 : decode cX4_pay 12 = .ok (.iconst 0, 1) := by decide +kernel
theorem ddX4_pay_13 : decode cX4_pay 13 = .ok (.istore 5, 2) := by decide +kernel
theorem ddX4_pay_15 : decode cX4_pay 15 = .ok (.iload 5, 2) := by decide +kernel
theorem ddX4_pay_17 : decode cX4_pay 17 = .ok (.aload_n 0, 1) := by decide +kernel
theorem ddX4_pay_18 : decode cX4_pay 18 = .ok (.getfield 18, 3) := by decide +kernel
theorem ddX4_pay_21 : decode cX4_pay 21 = .ok (.if_icmp .ge 164, 3) := by decide +kernel
theorem ddX4_pay_24 : decode cX4_pay 24 = .ok (.aload_n 0, 1) := by decide +kernel
theorem ddX4_pay_25 : decode cX4_pay 25 = .ok (.getfield 11, 3) := by decide +kernel
theorem ddX4_pay_28 : decode cX4_pay 28 = .ok (.iload 5, 2) := by decide +kernel
theorem ddX4_pay_30 : decode cX4_pay 30 = .ok (.iaload, 1) := by decide +kernel
theorem ddX4_pay_31 : decode cX4_pay 31 = .ok (.istore 6, 2) := by decide +kernel
theorem ddX4_pay_33 : decode cX4_pay 33 = .ok (.iload 6, 2) := by decide +kernel
theorem ddX4_pay_35 : decode cX4_pay 35 = .ok (.ifCond .ge 10, 3) := by decide +kernel
theorem ddX4_pay_38 : decode cX4_pay 38 = .ok (.iload 6, 2) := by decide +kernel
theorem ddX4_pay_40 : decode cX4_pay 40 = .ok (.bipush (-12), 2) := by decide +kernel
theorem ddX4_pay_42 : decode cX4_pay 42 = .ok (.if_icmp .gt 56, 3) := by decide +kernel
theorem ddX4_pay_45 : decode cX4_pay 45 = .ok (.iload 4, 2) := by decide +kernel
theorem ddX4_pay_47 : decode cX4_pay 47 = .ok (.bipush 30, 2) := by decide +kernel
theorem ddX4_pay_49 : decode cX4_pay 49 = .ok (.if_icmp .ge 130, 3) := by decide +kernel
theorem ddX4_pay_52 : decode cX4_pay 52 = .ok (.aload_n 0, 1) := by decide +kernel
theorem ddX4_pay_53 : decode cX4_pay 53 = .ok (.getfield 15, 3) := by decide +kernel
theorem ddX4_pay_56 : decode cX4_pay 56 = .ok (.iload 4, 2) := by decide +kernel
theorem ddX4_pay_58 : decode cX4_pay 58 = .ok (.iload 6, 2) := by decide +kernel
theorem ddX4_pay_60 : decode cX4_pay 60 = .ok (.ifCond .lt 8, 3) := by decide +kernel
theorem ddX4_pay_63 : decode cX4_pay 63 = .ok (.iload 6, 2) := by decide +kernel
theorem ddX4_pay_65 : decode cX4_pay 65 = .ok (.goto 26, 3) := by decide +kernel
theorem ddX4_pay_68 : decode cX4_pay 68 = .ok (.iload 6, 2) := by decide +kernel
theorem ddX4_pay_70 : decode cX4_pay 70 = .ok (.bipush (-12), 2) := by decide +kernel
theorem ddX4_pay_72 : decode cX4_pay 72 = .ok (.if_icmp .ne 7, 3) := by decide +kernel
theorem ddX4_pay_75 : decode cX4_pay 75 = .ok (.iload_n 1, 1) := by decide +kernel
theorem ddX4_pay_76 : decode cX4_pay 76 = .ok (.goto 15, 3) := by decide +kernel
theorem ddX4_pay_79 : decode cX4_pay 79 = .ok (.iload 6, 2) := by decide +kernel
theorem ddX4_pay_81 : decode cX4_pay 81 = .ok (.bipush (-13), 2) := by decide +kernel
theorem ddX4_pay_83 : decode cX4_pay 83 = .ok (.if_icmp .ne 7, 3) := by decide +kernel
theorem ddX4_pay_86 : decode cX4_pay 86 = .ok (.iload_n 2, 1) := by decide +kernel
theorem ddX4_pay_87 : decode cX4_pay 87 = .ok (.goto 4, 3) := by decide +kernel
theorem ddX4_pay_90 : decode cX4_pay 90 = .ok (.iload_n 3, 1) := by decide +kernel
theorem ddX4_pay_91 : decode cX4_pay 91 = .ok (.iastore, 1) := by decide +kernel
theorem ddX4_pay_92 : decode cX4_pay 92 = .ok (.iinc 4 1, 3) := by decide +kernel
theorem ddX4_pay_95 : decode cX4_pay 95 = .ok (.goto 84, 3) := by decide +kernel
theorem ddX4_pay_98 : decode cX4_pay 98 = .ok (.iload 6, 2) := by decide +kernel
theorem ddX4_pay_100 : decode cX4_pay 100 = .ok (.bipush (-11), 2) := by decide +kernel
theorem ddX4_pay_102 : decode cX4_pay 102 = .ok (.if_icmp .ne 38, 3) := by decide +kernel
theorem ddX4_pay_105 : decode cX4_pay 105 = .ok (.iload 4, 2) := by decide +kernel
theorem ddX4_pay_107 : decode cX4_pay 107 = .ok (.iconst 1, 1) := by decide +kernel
theorem ddX4_pay_108 : decode cX4_pay 108 = .ok (.if_icmp .lt 71, 3) := by decide +kernel
theorem ddX4_pay_111 : decode cX4_pay 111 = .ok (.aload_n 0, 1) := by decide +kernel
theorem ddX4_pay_112 : decode cX4_pay 112 = .ok (.getfield 15, 3) := by decide +kernel
theorem ddX4_pay_115 : decode cX4_pay 115 = .ok (.iload 4, 2) := by decide +kernel
theorem ddX4_pay_117 : decode cX4_pay 117 = .ok (.iconst 1, 1) := by decide +kernel
theorem ddX4_pay_118 : decode cX4_pay 118 = .ok (.isub, 1) := by decide +kernel
theorem ddX4_pay_119 : decode cX4_pay 119 = .ok (.aload_n 0, 1) := by decide +kernel
theorem ddX4_pay_120 : decode cX4_pay 120 = .ok (.getfield 15, 3) := by decide +kernel
theorem ddX4_pay_123 : decode cX4_pay 123 = .ok (.iload 4, 2) := by decide +kernel
theorem ddX4_pay_125 : decode cX4_pay 125 = .ok (.iconst 1, 1) := by decide +kernel
theorem ddX4_pay_126 : decode cX4_pay 126 = .ok (.isub, 1) := by decide +kernel
theorem ddX4_pay_127 : decode cX4_pay 127 = .ok (.iaload, 1) := by decide +kernel
theorem ddX4_pay_128 : decode cX4_pay 128 = .ok (.ifCond .ne 7, 3) := by decide +kernel
theorem ddX4_pay_131 : decode cX4_pay 131 = .ok (.iconst 1, 1) := by decide +kernel
theorem ddX4_pay_132 : decode cX4_pay 132 = .ok (.goto 4, 3) := by decide +kernel
theorem ddX4_pay_135 : decode cX4_pay 135 = .ok (.iconst 0, 1) := by decide +kernel
theorem ddX4_pay_136 : decode cX4_pay 136 = .ok (.iastore, 1) := by decide +kernel
theorem ddX4_pay_137 : decode cX4_pay 137 = .ok (.goto 42, 3) := by decide +kernel
theorem ddX4_pay_140 : decode cX4_pay 140 = .ok (.iload 4, 2) := by decide +kernel
theorem ddX4_pay_142 : decode cX4_pay 142 = .ok (.iconst 2, 1) := by decide +kernel
theorem ddX4_pay_143 : decode cX4_pay 143 = .ok (.if_icmp .lt 36, 3) := by decide +kernel
theorem ddX4_pay_146 : decode cX4_pay 146 = .ok (.iinc 4 (-1), 3) := by decide +kernel
theorem ddX4_pay_149 : decode cX4_pay 149 = .ok (.aload_n 0, 1) := by decide +kernel
theorem ddX4_pay_150 : decode cX4_pay 150 = .ok (.getfield 15, 3) := by decide +kernel
theorem ddX4_pay_153 : decode cX4_pay 153 = .ok (.iload 4, 2) := by decide +kernel
theorem ddX4_pay_155 : decode cX4_pay 155 = .ok (.iconst 1, 1) := by decide +kernel
theorem ddX4_pay_156 : decode cX4_pay 156 = .ok (.isub, 1) := by decide +kernel
theorem ddX4_pay_157 : decode cX4_pay 157 = .ok (.iload 6, 2) := by decide +kernel
theorem ddX4_pay_159 : decode cX4_pay 159 = .ok (.aload_n 0, 1) := by decide +kernel
theorem ddX4_pay_160 : decode cX4_pay 160 = .ok (.getfield 15, 3) := by decide +kernel
theorem ddX4_pay_163 : decode cX4_pay 163 = .ok (.iload 4, 2) := by decide +kernel
theorem ddX4_pay_165 : decode cX4_pay 165 = .ok (.iconst 1, 1) := by decide +kernel
theorem ddX4_pay_166 : decode cX4_pay 166 = .ok (.isub, 1) := by decide +kernel
theorem ddX4_pay_167 : decode cX4_pay 167 = .ok (.iaload, 1) := by decide +kernel
theorem ddX4_pay_168 : decode cX4_pay 168 = .ok (.aload_n 0, 1) := by decide +kernel
theorem ddX4_pay_169 : decode cX4_pay 169 = .ok (.getfield 15, 3) := by decide +kernel
theorem ddX4_pay_172 : decode cX4_pay 172 = .ok (.iload 4, 2) := by decide +kernel
theorem ddX4_pay_174 : decode cX4_pay 174 = .ok (.iaload, 1) := by decide +kernel
theorem ddX4_pay_175 : decode cX4_pay 175 = .ok (.invokestatic 35, 3) := by decide +kernel
theorem ddX4_pay_178 : decode cX4_pay 178 = .ok (.iastore, 1) := by decide +kernel
theorem ddX4_pay_179 : decode cX4_pay 179 = .ok (.iinc 5 1, 3) := by decide +kernel
theorem ddX4_pay_182 : decode cX4_pay 182 = .ok (.goto (-167), 3) := by decide +kernel
theorem ddX4_pay_185 : decode cX4_pay 185 = .ok (.iload 4, 2) := by decide +kernel
theorem ddX4_pay_187 : decode cX4_pay 187 = .ok (.iconst 1, 1) := by decide +kernel
theorem ddX4_pay_188 : decode cX4_pay 188 = .ok (.if_icmp .lt 22, 3) := by decide +kernel
theorem ddX4_pay_191 : decode cX4_pay 191 = .ok (.iconst 0, 1) := by decide +kernel
theorem ddX4_pay_192 : decode cX4_pay 192 = .ok (.sipush 9999, 3) := by decide +kernel
theorem ddX4_pay_195 : decode cX4_pay 195 = .ok (.aload_n 0, 1) := by decide +kernel
theorem ddX4_pay_196 : decode cX4_pay 196 = .ok (.getfield 15, 3) := by decide +kernel
theorem ddX4_pay_199 : decode cX4_pay 199 = .ok (.iconst 0, 1) := by decide +kernel
theorem ddX4_pay_200 : decode cX4_pay 200 = .ok (.iaload, 1) := by decide +kernel
theorem ddX4_pay_201 : decode cX4_pay 201 = .ok (.invokestatic 39, 3) := by decide +kernel
theorem ddX4_pay_204 : decode cX4_pay 204 = .ok (.invokestatic 45, 3) := by decide +kernel
theorem ddX4_pay_207 : decode cX4_pay 207 = .ok (.goto 4, 3) := by decide +kernel
theorem ddX4_pay_210 : decode cX4_pay 210 = .ok (.iconst 0, 1) := by decide +kernel
theorem ddX4_pay_211 : decode cX4_pay 211 = .ok (.ireturn, 1) := by decide +kernel
def wq_k_X4_pay : List Cond := Cond.code yX4_pay cX4_pay 7 (some .int) :: (([Cond.fieldLink RX4 25 "CrowToll$Law" "isTold" "Z", Cond.fieldLink RX4 18 "CrowToll$Law" "steps" "I", Cond.fieldLink RX4 11 "CrowToll$Law" "step" "[I", Cond.fieldLink RX4 15 "CrowToll$Law" "stack" "[I", Cond.methodLink RX4 39 Lib.Math.min.name, Cond.static Lib.Math.min.name, Cond.initialized "java/lang/Math", Cond.code Lib.Math.min.name Lib.Math.min.code 2 (some .int), Cond.methodLink RX4 45 Lib.Math.max.name, Cond.static Lib.Math.max.name, Cond.code Lib.Math.max.name Lib.Math.max.code 2 (some .int), Cond.methodLink RX4 35 yX4_joined, Cond.static yX4_joined, Cond.initialized RX4, Cond.code yX4_joined cX4_joined 3 (some .int)] : List Cond) ++ wsX40)
set_option maxRecDepth 20000 in
theorem gr_k_X4_pay_k_X4_joined : GoodIn wq_k_X4_pay wq_k_X4_joined := List.forall_mem_cons.mpr ⟨⟨(List.mem_of_getElem? (i := 15) rfl), good_of_word rfl⟩, (fun _ h => absurd h List.not_mem_nil)⟩
set_option maxRecDepth 20000 in
theorem gq_k_X4_pay_k_X4_joined_35 : GoodIn wq_k_X4_pay (va_wsS RX4 35 yX4_joined wq_k_X4_joined) := goodIn_app (List.forall_mem_cons.mpr ⟨⟨(List.mem_of_getElem? (i := 12) rfl), good_of_word rfl⟩, List.forall_mem_cons.mpr ⟨⟨(List.mem_of_getElem? (i := 13) rfl), good_of_word rfl⟩, List.forall_mem_cons.mpr ⟨⟨(List.mem_of_getElem? (i := 14) rfl), good_of_word rfl⟩, (fun _ h => absurd h List.not_mem_nil)⟩⟩⟩) gr_k_X4_pay_k_X4_joined
set_option maxHeartbeats 8000000 in
set_option maxRecDepth 100000 in
theorem k_X4_pay (l : Launch) (D : va_G) (cy : Nat → ClassId) (ad : Nat → Nat) (g : Nat → va_E) {x0_1 : Int32} {u0_2 : Value} {x0_3 : Int32} {c1 : Nat → Int32} {c2 : Nat → Int32} {sacks : Int32} {toll : Int32} {nth : Int32} (o0 : g 0 = .inr (4, [.ref (ad 1), .int x0_1, u0_2, .int x0_3, .ref (ad 2)])) (a1 : g 1 = .inl (cy 0, 300, .inl c1)) (a2 : g 2 = .inl (cy 0, 30, .inl c2)) (b0_1 : zi 0 300 x0_1) (b0_3 : zi 0 1 x0_3) : cMi l yX4_pay wq_k_X4_pay { frames := 1, cells := 0, slots := 0, locals := 22 } 3 0 0 0 D cy ad g [.ref (ad 0), .int sacks, .int toll, .int nth] (fun r nw lu => ∃ (d2 : Nat → Int32), lu = [(2, .inl (cy 0, 30, .inl d2))]) := by
  refine cM_of (Qc := fun A => cQi (fun r nw lu => ∃ (d2 : Nat → Int32), lu = [(2, .inl (cy 0, 30, .inl d2))]) D 3 0 ad g A) (cc := cX4_pay) (maxL := 7) (ret := (some .int)) (by decide) rfl (Nat.le_of_ble_eq_true rfl) ?_
  intro p e s m below meth c A hC hr hlk hnm hO ls hl
  have hC : CallFix p m c cX4_pay 7 s [.ref (ad 0), .int sacks, .int toll, .int nth].toArray wq_k_X4_pay RX4 := hC
  obtain ⟨hx, hb, hml, hown, hts⟩ := id hC
  have hl : lv_has ls 7 [(0, .ref (ad 0)), (1, .int sacks), (2, .int toll), (3, .int nth)] := hl
  have i_X4 : ∀ w ∈ wsX40, w ∈ wq_k_X4_pay := fun w h => List.mem_cons_of_mem _ (List.mem_append_right _ h)
  have hO := hO.notes [(2, .inl (cy 0, 30, .inl c2))] (List.forall_mem_cons.mpr ⟨a2, (fun _ h => absurd h List.not_mem_nil)⟩)
  refine lv_aload_n hx hb ddX4_pay_0 rfl (lv_at hl 0 rfl) ?_
  refine cg_get hC hO 0 (by decide) o0 rfl i_X4 3 (by decide) (List.mem_of_getElem? (i := 1) rfl) rfl ddX4_pay_1 ?_
  refine lv_if_ne (tgt := 9) hx hb ddX4_pay_4 (by decide) (fun h_4_8463 => ?_) (fun h_4_8463 => ?_)
  · have q_4_8464 := zr_ne h_4_8463
    have z_4_8465 : zi 1 1 x0_3 := zn_lo q_4_8464 b0_3 (zi_k (a := 0) (b := 0) (x := 0) rfl) (by decide)
    refine lv_iconst (v := 0) hx hb ddX4_pay_9 (by decide) ?_
    refine lv_istore (lv' := [(4, .int 0), (0, .ref (ad 0)), (1, .int sacks), (2, .int toll), (3, .int nth)]) hx hb ddX4_pay_10 hl (by decide) rfl (fun ls hl => ?_)
    refine lv_iconst (v := 0) hx hb ddX4_pay_12 (by decide) ?_
    refine lv_istore (lv' := [(5, .int 0), (4, .int 0), (0, .ref (ad 0)), (1, .int sacks), (2, .int toll), (3, .int nth)]) hx hb ddX4_pay_13 hl (by decide) rfl (fun ls hl => ?_)
    have loop_15_12721 : ∀ (d_15_12722 : Nat) (v_15_12249 : Int32) (v_15_12251 : Int32) (c_15_12253 : Nat → Int32), zi 0 300 v_15_12249 → zi 0 30 v_15_12251 → za (-2147483648) 2147483647 c_15_12253 → (300 + 1 - v_15_12249.toInt).toNat < d_15_12722 → ∀ (H : Heap) (locs : List Loc), cO D cy A s.heap s 3 ad (cup [(2, .inl (cy 0, 30, .inl c_15_12253))] g) H locs → ∀ ls : Array Slot, lv_has ls 7 [(5, .int v_15_12249), (4, .int v_15_12251), (0, .ref (ad 0)), (1, .int sacks), (2, .int toll), (3, .int nth)] → W p l e { frames := 1, cells := 0, slots := 0, locals := 22 } s m [.ref (ad 0), .int sacks, .int toll, .int nth].toArray below meth c H locs 0 0 (MQ below (cQi (fun r nw lu => ∃ (d2 : Nat → Int32), lu = [(2, .inl (cy 0, 30, .inl d2))]) D 3 0 ad g A) [.ref (ad 0), .int sacks, .int toll, .int nth].toArray s 0 0 A) (F0 m 15 ls [])  := by
      intro d_15_12722
      induction d_15_12722 with
      | zero => intro v_15_12249 v_15_12251 c_15_12253 z_15_12250 z_15_12252 zc_15_12254 mu_15_12723; exact absurd mu_15_12723 (Nat.not_lt_zero _)
      | succ d_15_12722 ih_15_12724 =>
        intro v_15_12249 v_15_12251 c_15_12253 z_15_12250 z_15_12252 zc_15_12254 mu_15_12723 H locs hO ls hl
        refine lv_iload hx hb ddX4_pay_15 (lv_at hl 0 rfl) ?_
        refine lv_aload_n hx hb ddX4_pay_17 rfl (lv_at hl 2 rfl) ?_
        refine cg_get hC hO 0 (by decide) o0 rfl i_X4 1 (by decide) (List.mem_of_getElem? (i := 2) rfl) rfl ddX4_pay_18 ?_
        refine lv_icmp_ge (tgt := 185) hx hb ddX4_pay_21 (by decide) (fun h_21_12725 => ?_) (fun h_21_12725 => ?_)
        · have q_21_12953 := zr_le h_21_12725
          refine lv_iload hx hb ddX4_pay_185 (lv_at hl 1 rfl) ?_
          refine lv_iconst (v := 1) hx hb ddX4_pay_187 (by decide) ?_
          refine lv_icmp_lt (tgt := 210) hx hb ddX4_pay_188 (by decide) (fun h_188_12954 => ?_) (fun h_188_12954 => ?_)
          · have q_188_12955 := zr_lt h_188_12954
            have z_188_12956 : zi 0 0 v_15_12251 := zu_lt q_188_12955 z_15_12252 (zi_k (a := 1) (b := 1) (x := 1) rfl) (by decide)
            refine lv_iconst (v := 0) hx hb ddX4_pay_210 (by decide) ?_
            exact cg_iret (nw := fun _ => 0) hC hr hlk hO.same rfl (Nat.le_of_ble_eq_true rfl) (Nat.le_of_ble_eq_true rfl) (⟨c_15_12253, rfl⟩) ddX4_pay_211
          · have q_188_12957 := zr_nlt h_188_12954
            have z_188_12958 : zi 1 30 v_15_12251 := zd_le q_188_12957 (zi_k (a := 1) (b := 1) (x := 1) rfl) z_15_12252 (by decide)
            refine lv_iconst (v := 0) hx hb ddX4_pay_191 (by decide) ?_
            refine lv_sipush (v := 9999) hx hb ddX4_pay_192 (by decide) ?_
            refine lv_aload_n hx hb ddX4_pay_195 rfl (lv_at hl 2 rfl) ?_
            refine cg_get hC hO 0 (by decide) o0 rfl i_X4 4 (by decide) (List.mem_of_getElem? (i := 4) rfl) rfl ddX4_pay_196 ?_
            refine lv_iconst (v := 0) hx hb ddX4_pay_199 (by decide) ?_
            refine zg_iald hC hO 2 (by decide) rfl zc_15_12254 (cin (by decide)) ddX4_pay_200 (fun v_200_12959 z_200_12960 => ?_)
            refine cg_min hC hl.1 (List.mem_of_getElem? (i := 5) rfl) (List.mem_of_getElem? (i := 6) rfl) (List.mem_of_getElem? (i := 7) rfl) (List.mem_of_getElem? (i := 8) rfl) (Nat.le_of_ble_eq_true rfl) (Nat.le_of_ble_eq_true rfl) (Nat.le_of_ble_eq_true rfl) (Nat.le_of_ble_eq_true rfl) ddX4_pay_201 ?_
            refine zg_top (P := fun v => zi (-2147483648) 9999 v) (zi_min (zi_k (a := 9999) (b := 9999) (x := 9999) rfl) z_200_12960 (by decide)) (fun v_201_12961 z_201_12962 => ?_)
            refine cg_max hC hl.1 (List.mem_of_getElem? (i := 9) rfl) (List.mem_of_getElem? (i := 10) rfl) (List.mem_of_getElem? (i := 7) rfl) (List.mem_of_getElem? (i := 11) rfl) (Nat.le_of_ble_eq_true rfl) (Nat.le_of_ble_eq_true rfl) (Nat.le_of_ble_eq_true rfl) (Nat.le_of_ble_eq_true rfl) ddX4_pay_204 ?_
            refine zg_top (P := fun v => zi 0 9999 v) (zi_max (zi_k (a := 0) (b := 0) (x := 0) rfl) z_201_12962 (by decide)) (fun v_204_12963 z_204_12964 => ?_)
            refine lv_goto (tgt := 211) hx hb ddX4_pay_207 (by decide) ?_
            exact cg_iret (nw := fun _ => 0) hC hr hlk hO.same rfl (Nat.le_of_ble_eq_true rfl) (Nat.le_of_ble_eq_true rfl) (⟨c_15_12253, rfl⟩) ddX4_pay_211
        · have q_21_12965 := zr_nle h_21_12725
          have z_21_12966 : zi 0 299 v_15_12249 := zu_lt q_21_12965 z_15_12250 b0_1 (by decide)
          have z_21_12967 : zi 1 300 x0_1 := zd_lt q_21_12965 z_15_12250 b0_1 (by decide)
          refine lv_aload_n hx hb ddX4_pay_24 rfl (lv_at hl 2 rfl) ?_
          refine cg_get hC hO 0 (by decide) o0 rfl i_X4 0 (by decide) (List.mem_of_getElem? (i := 3) rfl) rfl ddX4_pay_25 ?_
          refine lv_iload hx hb ddX4_pay_28 (lv_at hl 0 rfl) ?_
          refine zg_iald hC hO 1 (by decide) a1 (za_all _) (zi_in z_21_12966 (by decide)) ddX4_pay_30 (fun v_30_12968 z_30_12969 => ?_)
          refine lv_istore (lv' := [(6, .int v_30_12968), (5, .int v_15_12249), (4, .int v_15_12251), (0, .ref (ad 0)), (1, .int sacks), (2, .int toll), (3, .int nth)]) hx hb ddX4_pay_31 hl (by decide) rfl (fun ls hl => ?_)
          refine lv_iload hx hb ddX4_pay_33 (lv_at hl 0 rfl) ?_
          have J_179_13081 : ∀ (v_179_13077 : Int32) (c_179_13079 : Nat → Int32), zi 0 30 v_179_13077 → za (-2147483648) 2147483647 c_179_13079 → ∀ (H : Heap) (locs : List Loc), cO D cy A s.heap s 3 ad (cup [(2, .inl (cy 0, 30, .inl c_179_13079))] g) H locs → ∀ ls : Array Slot, lv_has ls 7 [(6, .int v_30_12968), (5, .int v_15_12249), (4, .int v_179_13077), (0, .ref (ad 0)), (1, .int sacks), (2, .int toll), (3, .int nth)] → W p l e { frames := 1, cells := 0, slots := 0, locals := 22 } s m [.ref (ad 0), .int sacks, .int toll, .int nth].toArray below meth c H locs 0 0 (MQ below (cQi (fun r nw lu => ∃ (d2 : Nat → Int32), lu = [(2, .inl (cy 0, 30, .inl d2))]) D 3 0 ad g A) [.ref (ad 0), .int sacks, .int toll, .int nth].toArray s 0 0 A) (F0 m 179 ls []) := by
            intro v_179_13077 c_179_13079 z_179_13078 zc_179_13080 H locs hO ls hl
            obtain ⟨v_179_13082, e_179_13083, z_179_13084, q_179_13085⟩ := zi_inc (e := 1) (f := 300) 1 z_21_12966 (by decide)
            refine lv_iinc (v := v_179_13082) (lv' := [(5, .int v_179_13082), (6, .int v_30_12968), (4, .int v_179_13077), (0, .ref (ad 0)), (1, .int sacks), (2, .int toll), (3, .int nth)]) hx hb ddX4_pay_179 hl (k := 1) rfl e_179_13083 (by decide) rfl (fun ls hl => ?_)
            refine lv_goto (tgt := 15) hx hb ddX4_pay_182 (by decide) ?_
            exact ih_15_12724 v_179_13082 v_179_13077 c_179_13079 (zi_w (c := 0) (d := 300) z_179_13084 (by decide)) z_179_13078 zc_179_13080 (zm_up q_179_13085 ((zi_w (c := 0) (d := 300) z_179_13084 (by decide))).2 (by decide) mu_15_12723) _ _ hO ls (lv_sub hl [0, 2, 3, 4, 5, 6] rfl)
          refine lv_if_ge (tgt := 45) hx hb ddX4_pay_35 (by decide) (fun h_35_12970 => ?_) (fun h_35_12970 => ?_)
          · have q_35_13086 := zr_le h_35_12970
            have z_35_13087 : zi 0 2147483647 v_30_12968 := zd_le q_35_13086 (zi_k (a := 0) (b := 0) (x := 0) rfl) z_30_12969 (by decide)
            refine lv_iload hx hb ddX4_pay_45 (lv_at hl 2 rfl) ?_
            refine lv_bipush (v := 30) hx hb ddX4_pay_47 (by decide) ?_
            refine lv_icmp_ge (tgt := 179) hx hb ddX4_pay_49 (by decide) (fun h_49_13088 => ?_) (fun h_49_13088 => ?_)
            · have q_49_13089 := zr_le h_49_13088
              have z_49_13090 : zi 30 30 v_15_12251 := zd_le q_49_13089 (zi_k (a := 30) (b := 30) (x := 30) rfl) z_15_12252 (by decide)
              exact J_179_13081 v_15_12251 c_15_12253 (zi_w (c := 0) (d := 30) z_49_13090 (by decide)) zc_15_12254 _ _ hO ls (lv_sub hl [0, 1, 2, 3, 4, 5, 6] rfl)
            · have q_49_13091 := zr_nle h_49_13088
              have z_49_13092 : zi 0 29 v_15_12251 := zu_lt q_49_13091 z_15_12252 (zi_k (a := 30) (b := 30) (x := 30) rfl) (by decide)
              refine lv_aload_n hx hb ddX4_pay_52 rfl (lv_at hl 3 rfl) ?_
              refine cg_get hC hO 0 (by decide) o0 rfl i_X4 4 (by decide) (List.mem_of_getElem? (i := 4) rfl) rfl ddX4_pay_53 ?_
              refine lv_iload hx hb ddX4_pay_56 (lv_at hl 2 rfl) ?_
              refine lv_iload hx hb ddX4_pay_58 (lv_at hl 0 rfl) ?_
              refine lv_if_lt (tgt := 68) hx hb ddX4_pay_60 (by decide) (fun h_60_13093 => (zx_lt (zr_lt h_60_13093) z_35_13087 (zi_k (a := 0) (b := 0) (x := 0) rfl) (by decide)).elim) (fun h_60_13093 => ?_)
              have q_60_13094 := zr_nlt h_60_13093
              refine lv_iload hx hb ddX4_pay_63 (lv_at hl 0 rfl) ?_
              refine lv_goto (tgt := 91) hx hb ddX4_pay_65 (by decide) ?_
              refine zg_iast hC hO 2 (by decide) rfl zc_15_12254 (zi_w (c := (-2147483648)) (d := 2147483647) z_35_13087 (by decide)) (zi_in z_49_13092 (by decide)) ddX4_pay_91 (fun H locs c_91_13095 zc_91_13096 hO => ?_)
              have hO : cO D cy A s.heap s 3 ad (cup [(2, .inl (cy 0, 30, .inl c_91_13095))] g) _ _ := hO
              obtain ⟨v_92_13097, e_92_13098, z_92_13099, q_92_13100⟩ := zi_inc (e := 1) (f := 30) 1 z_49_13092 (by decide)
              refine lv_iinc (v := v_92_13097) (lv' := [(4, .int v_92_13097), (6, .int v_30_12968), (5, .int v_15_12249), (0, .ref (ad 0)), (1, .int sacks), (2, .int toll), (3, .int nth)]) hx hb ddX4_pay_92 hl (k := 2) rfl e_92_13098 (by decide) rfl (fun ls hl => ?_)
              refine lv_goto (tgt := 179) hx hb ddX4_pay_95 (by decide) ?_
              exact J_179_13081 v_92_13097 c_91_13095 (zi_w (c := 0) (d := 30) z_92_13099 (by decide)) zc_91_13096 _ _ hO ls (lv_sub hl [1, 2, 0, 3, 4, 5, 6] rfl)
          · have q_35_13101 := zr_nle h_35_12970
            have z_35_13102 : zi (-2147483648) (-1) v_30_12968 := zu_lt q_35_13101 z_30_12969 (zi_k (a := 0) (b := 0) (x := 0) rfl) (by decide)
            refine lv_iload hx hb ddX4_pay_38 (lv_at hl 0 rfl) ?_
            refine lv_bipush (v := (-12)) hx hb ddX4_pay_40 (by decide) ?_
            refine lv_icmp_gt (tgt := 98) hx hb ddX4_pay_42 (by decide) (fun h_42_13103 => ?_) (fun h_42_13103 => ?_)
            · have q_42_13104 := zr_lt h_42_13103
              have z_42_13105 : zi (-11) (-1) v_30_12968 := zd_lt q_42_13104 (zi_k (a := (-12)) (b := (-12)) (x := (-12)) rfl) z_35_13102 (by decide)
              refine lv_iload hx hb ddX4_pay_98 (lv_at hl 0 rfl) ?_
              refine lv_bipush (v := (-11)) hx hb ddX4_pay_100 (by decide) ?_
              refine lv_icmp_ne (tgt := 140) hx hb ddX4_pay_102 (by decide) (fun h_102_13106 => ?_) (fun h_102_13106 => ?_)
              · have q_102_13107 := zr_ne h_102_13106
                have z_102_13108 : zi (-10) (-1) v_30_12968 := zn_lo q_102_13107 z_42_13105 (zi_k (a := (-11)) (b := (-11)) (x := (-11)) rfl) (by decide)
                refine lv_iload hx hb ddX4_pay_140 (lv_at hl 2 rfl) ?_
                refine lv_iconst (v := 2) hx hb ddX4_pay_142 (by decide) ?_
                refine lv_icmp_lt (tgt := 179) hx hb ddX4_pay_143 (by decide) (fun h_143_13109 => ?_) (fun h_143_13109 => ?_)
                · have q_143_13110 := zr_lt h_143_13109
                  have z_143_13111 : zi 0 1 v_15_12251 := zu_lt q_143_13110 z_15_12252 (zi_k (a := 2) (b := 2) (x := 2) rfl) (by decide)
                  exact J_179_13081 v_15_12251 c_15_12253 (zi_w (c := 0) (d := 30) z_143_13111 (by decide)) zc_15_12254 _ _ hO ls (lv_sub hl [0, 1, 2, 3, 4, 5, 6] rfl)
                · have q_143_13112 := zr_nlt h_143_13109
                  have z_143_13113 : zi 2 30 v_15_12251 := zd_le q_143_13112 (zi_k (a := 2) (b := 2) (x := 2) rfl) z_15_12252 (by decide)
                  obtain ⟨v_146_13114, e_146_13115, z_146_13116, q_146_13117⟩ := zi_inc (e := 1) (f := 29) (-1) z_143_13113 (by decide)
                  refine lv_iinc (v := v_146_13114) (lv' := [(4, .int v_146_13114), (6, .int v_30_12968), (5, .int v_15_12249), (0, .ref (ad 0)), (1, .int sacks), (2, .int toll), (3, .int nth)]) hx hb ddX4_pay_146 hl (k := 2) rfl e_146_13115 (by decide) rfl (fun ls hl => ?_)
                  refine lv_aload_n hx hb ddX4_pay_149 rfl (lv_at hl 3 rfl) ?_
                  refine cg_get hC hO 0 (by decide) o0 rfl i_X4 4 (by decide) (List.mem_of_getElem? (i := 4) rfl) rfl ddX4_pay_150 ?_
                  refine lv_iload hx hb ddX4_pay_153 (lv_at hl 0 rfl) ?_
                  refine lv_iconst (v := 1) hx hb ddX4_pay_155 (by decide) ?_
                  refine lv_isub hx hb ddX4_pay_156 ?_
                  refine zg_top2 (P := fun v => zi 0 28 v) (E := fun v => v.toInt = v_146_13114.toInt + -1) (zi_subk z_146_13116 (n := 1) (by decide) (by decide)) (fun v_156_13118 z_156_13119 q_156_13120 => ?_)
                  refine lv_iload hx hb ddX4_pay_157 (lv_at hl 1 rfl) ?_
                  refine lv_aload_n hx hb ddX4_pay_159 rfl (lv_at hl 3 rfl) ?_
                  refine cg_get hC hO 0 (by decide) o0 rfl i_X4 4 (by decide) (List.mem_of_getElem? (i := 4) rfl) rfl ddX4_pay_160 ?_
                  refine lv_iload hx hb ddX4_pay_163 (lv_at hl 0 rfl) ?_
                  refine lv_iconst (v := 1) hx hb ddX4_pay_165 (by decide) ?_
                  refine lv_isub hx hb ddX4_pay_166 ?_
                  refine zg_top2 (P := fun v => zi 0 28 v) (E := fun v => v.toInt = v_146_13114.toInt + -1) (zi_subk z_146_13116 (n := 1) (by decide) (by decide)) (fun v_166_13121 z_166_13122 q_166_13123 => ?_)
                  refine zg_iald hC hO 2 (by decide) rfl zc_15_12254 (zi_in z_166_13122 (by decide)) ddX4_pay_167 (fun v_167_13124 z_167_13125 => ?_)
                  refine lv_aload_n hx hb ddX4_pay_168 rfl (lv_at hl 3 rfl) ?_
                  refine cg_get hC hO 0 (by decide) o0 rfl i_X4 4 (by decide) (List.mem_of_getElem? (i := 4) rfl) rfl ddX4_pay_169 ?_
                  refine lv_iload hx hb ddX4_pay_172 (lv_at hl 0 rfl) ?_
                  refine zg_iald hC hO 2 (by decide) rfl zc_15_12254 (zi_in z_146_13116 (by decide)) ddX4_pay_174 (fun v_174_13126 z_174_13127 => ?_)
                  refine cg_Si (As := [.int v_30_12968, .int v_167_13124, .int v_174_13126]) (rest := [.int v_156_13118, .ref (ad 2)]) (mc := 0) (ms := 0) (rm := { frames := 0, cells := 0, slots := 0, locals := 0 }) hC hl.1 hO [] (by decide +kernel) (k_X4_joined l D cy _ _ (how := v_30_12968) (ax := v_167_13124) (bx := v_174_13126) ) gq_k_X4_pay_k_X4_joined_35 rfl rfl rfl 3 (by decide +kernel) ⟨Nat.le_of_ble_eq_true rfl, Nat.le_of_ble_eq_true rfl⟩ rfl rfl (Nat.le_of_ble_eq_true rfl) ddX4_pay_175 ⟨Nat.le_of_ble_eq_true rfl, Nat.le_of_ble_eq_true rfl⟩ (fun r_175_13130 nw_175_13128 l_175_13129 H locs hw hO => ?_)
                  obtain rfl := hw
                  have hO : cO D cy A s.heap s 3 ad (cup [(2, .inl (cy 0, 30, .inl c_15_12253))] g) _ _ := hO
                  refine zg_iast hC hO 2 (by decide) rfl zc_15_12254 (zi_all r_175_13130) (zi_in z_156_13119 (by decide)) ddX4_pay_178 (fun H locs c_178_13131 zc_178_13132 hO => ?_)
                  have hO : cO D cy A s.heap s 3 ad (cup [(2, .inl (cy 0, 30, .inl c_178_13131))] g) _ _ := hO
                  exact J_179_13081 v_146_13114 c_178_13131 (zi_w (c := 0) (d := 30) z_146_13116 (by decide)) zc_178_13132 _ _ hO ls (lv_sub hl [1, 2, 0, 3, 4, 5, 6] rfl)
              · have q_102_13133 := zr_eq h_102_13106
                have z_102_13134 : zi (-11) (-11) v_30_12968 := ze_eq q_102_13133 z_42_13105 (zi_k (a := (-11)) (b := (-11)) (x := (-11)) rfl)
                refine lv_iload hx hb ddX4_pay_105 (lv_at hl 2 rfl) ?_
                refine lv_iconst (v := 1) hx hb ddX4_pay_107 (by decide) ?_
                refine lv_icmp_lt (tgt := 179) hx hb ddX4_pay_108 (by decide) (fun h_108_13135 => ?_) (fun h_108_13135 => ?_)
                · have q_108_13136 := zr_lt h_108_13135
                  have z_108_13137 : zi 0 0 v_15_12251 := zu_lt q_108_13136 z_15_12252 (zi_k (a := 1) (b := 1) (x := 1) rfl) (by decide)
                  exact J_179_13081 v_15_12251 c_15_12253 (zi_w (c := 0) (d := 30) z_108_13137 (by decide)) zc_15_12254 _ _ hO ls (lv_sub hl [0, 1, 2, 3, 4, 5, 6] rfl)
                · have q_108_13138 := zr_nlt h_108_13135
                  have z_108_13139 : zi 1 30 v_15_12251 := zd_le q_108_13138 (zi_k (a := 1) (b := 1) (x := 1) rfl) z_15_12252 (by decide)
                  refine lv_aload_n hx hb ddX4_pay_111 rfl (lv_at hl 3 rfl) ?_
                  refine cg_get hC hO 0 (by decide) o0 rfl i_X4 4 (by decide) (List.mem_of_getElem? (i := 4) rfl) rfl ddX4_pay_112 ?_
                  refine lv_iload hx hb ddX4_pay_115 (lv_at hl 2 rfl) ?_
                  refine lv_iconst (v := 1) hx hb ddX4_pay_117 (by decide) ?_
                  refine lv_isub hx hb ddX4_pay_118 ?_
                  refine zg_top2 (P := fun v => zi 0 29 v) (E := fun v => v.toInt = v_15_12251.toInt + -1) (zi_subk z_108_13139 (n := 1) (by decide) (by decide)) (fun v_118_13140 z_118_13141 q_118_13142 => ?_)
                  refine lv_aload_n hx hb ddX4_pay_119 rfl (lv_at hl 3 rfl) ?_
                  refine cg_get hC hO 0 (by decide) o0 rfl i_X4 4 (by decide) (List.mem_of_getElem? (i := 4) rfl) rfl ddX4_pay_120 ?_
                  refine lv_iload hx hb ddX4_pay_123 (lv_at hl 2 rfl) ?_
                  refine lv_iconst (v := 1) hx hb ddX4_pay_125 (by decide) ?_
                  refine lv_isub hx hb ddX4_pay_126 ?_
                  refine zg_top2 (P := fun v => zi 0 29 v) (E := fun v => v.toInt = v_15_12251.toInt + -1) (zi_subk z_108_13139 (n := 1) (by decide) (by decide)) (fun v_126_13143 z_126_13144 q_126_13145 => ?_)
                  refine zg_iald hC hO 2 (by decide) rfl zc_15_12254 (zi_in z_126_13144 (by decide)) ddX4_pay_127 (fun v_127_13146 z_127_13147 => ?_)
                  have J_136_13153 : ∀ (v_136_13151 : Int32), zi 0 1 v_136_13151 → ∀ (H : Heap) (locs : List Loc), cO D cy A s.heap s 3 ad (cup [(2, .inl (cy 0, 30, .inl c_15_12253))] g) H locs → ∀ ls : Array Slot, lv_has ls 7 [(6, .int v_30_12968), (5, .int v_15_12249), (4, .int v_15_12251), (0, .ref (ad 0)), (1, .int sacks), (2, .int toll), (3, .int nth)] → W p l e { frames := 1, cells := 0, slots := 0, locals := 22 } s m [.ref (ad 0), .int sacks, .int toll, .int nth].toArray below meth c H locs 0 0 (MQ below (cQi (fun r nw lu => ∃ (d2 : Nat → Int32), lu = [(2, .inl (cy 0, 30, .inl d2))]) D 3 0 ad g A) [.ref (ad 0), .int sacks, .int toll, .int nth].toArray s 0 0 A) (F0 m 136 ls [.int v_136_13151, .int v_118_13140, .ref (ad 2)]) := by
                    intro v_136_13151 z_136_13152 H locs hO ls hl
                    refine zg_iast hC hO 2 (by decide) rfl zc_15_12254 (zi_w (c := (-2147483648)) (d := 2147483647) z_136_13152 (by decide)) (zi_in z_118_13141 (by decide)) ddX4_pay_136 (fun H locs c_136_13154 zc_136_13155 hO => ?_)
                    have hO : cO D cy A s.heap s 3 ad (cup [(2, .inl (cy 0, 30, .inl c_136_13154))] g) _ _ := hO
                    refine lv_goto (tgt := 179) hx hb ddX4_pay_137 (by decide) ?_
                    exact J_179_13081 v_15_12251 c_136_13154 (zi_w (c := 0) (d := 30) z_108_13139 (by decide)) zc_136_13155 _ _ hO ls (lv_sub hl [0, 1, 2, 3, 4, 5, 6] rfl)
                  refine lv_if_ne (tgt := 135) hx hb ddX4_pay_128 (by decide) (fun h_128_13148 => ?_) (fun h_128_13148 => ?_)
                  · refine lv_iconst (v := 0) hx hb ddX4_pay_135 (by decide) ?_
                    exact J_136_13153 0 (zi_k (a := 0) (b := 1) (x := 0) rfl) _ _ hO ls (lv_sub hl [0, 1, 2, 3, 4, 5, 6] rfl)
                  · have q_128_13156 := zr_eq h_128_13148
                    have z_128_13157 : zi 0 0 v_127_13146 := ze_eq q_128_13156 z_127_13147 (zi_k (a := 0) (b := 0) (x := 0) rfl)
                    refine lv_iconst (v := 1) hx hb ddX4_pay_131 (by decide) ?_
                    refine lv_goto (tgt := 136) hx hb ddX4_pay_132 (by decide) ?_
                    exact J_136_13153 1 (zi_k (a := 0) (b := 1) (x := 1) rfl) _ _ hO ls (lv_sub hl [0, 1, 2, 3, 4, 5, 6] rfl)
            · have q_42_13158 := zr_nlt h_42_13103
              have z_42_13159 : zi (-2147483648) (-12) v_30_12968 := zu_le q_42_13158 z_35_13102 (zi_k (a := (-12)) (b := (-12)) (x := (-12)) rfl) (by decide)
              refine lv_iload hx hb ddX4_pay_45 (lv_at hl 2 rfl) ?_
              refine lv_bipush (v := 30) hx hb ddX4_pay_47 (by decide) ?_
              refine lv_icmp_ge (tgt := 179) hx hb ddX4_pay_49 (by decide) (fun h_49_13160 => ?_) (fun h_49_13160 => ?_)
              · have q_49_13161 := zr_le h_49_13160
                have z_49_13162 : zi 30 30 v_15_12251 := zd_le q_49_13161 (zi_k (a := 30) (b := 30) (x := 30) rfl) z_15_12252 (by decide)
                exact J_179_13081 v_15_12251 c_15_12253 (zi_w (c := 0) (d := 30) z_49_13162 (by decide)) zc_15_12254 _ _ hO ls (lv_sub hl [0, 1, 2, 3, 4, 5, 6] rfl)
              · have q_49_13163 := zr_nle h_49_13160
                have z_49_13164 : zi 0 29 v_15_12251 := zu_lt q_49_13163 z_15_12252 (zi_k (a := 30) (b := 30) (x := 30) rfl) (by decide)
                refine lv_aload_n hx hb ddX4_pay_52 rfl (lv_at hl 3 rfl) ?_
                refine cg_get hC hO 0 (by decide) o0 rfl i_X4 4 (by decide) (List.mem_of_getElem? (i := 4) rfl) rfl ddX4_pay_53 ?_
                refine lv_iload hx hb ddX4_pay_56 (lv_at hl 2 rfl) ?_
                refine lv_iload hx hb ddX4_pay_58 (lv_at hl 0 rfl) ?_
                refine lv_if_lt (tgt := 68) hx hb ddX4_pay_60 (by decide) (fun h_60_13165 => ?_) (fun h_60_13165 => (zx_le (zr_nlt h_60_13165) (zi_k (a := 0) (b := 0) (x := 0) rfl) z_42_13159 (by decide)).elim)
                have q_60_13166 := zr_lt h_60_13165
                refine lv_iload hx hb ddX4_pay_68 (lv_at hl 0 rfl) ?_
                refine lv_bipush (v := (-12)) hx hb ddX4_pay_70 (by decide) ?_
                have J_91_13178 : ∀ (v_91_13177 : Int32), ∀ (H : Heap) (locs : List Loc), cO D cy A s.heap s 3 ad (cup [(2, .inl (cy 0, 30, .inl c_15_12253))] g) H locs → ∀ ls : Array Slot, lv_has ls 7 [(6, .int v_30_12968), (5, .int v_15_12249), (4, .int v_15_12251), (0, .ref (ad 0)), (1, .int sacks), (2, .int toll), (3, .int nth)] → W p l e { frames := 1, cells := 0, slots := 0, locals := 22 } s m [.ref (ad 0), .int sacks, .int toll, .int nth].toArray below meth c H locs 0 0 (MQ below (cQi (fun r nw lu => ∃ (d2 : Nat → Int32), lu = [(2, .inl (cy 0, 30, .inl d2))]) D 3 0 ad g A) [.ref (ad 0), .int sacks, .int toll, .int nth].toArray s 0 0 A) (F0 m 91 ls [.int v_91_13177, .int v_15_12251, .ref (ad 2)]) := by
                  intro v_91_13177 H locs hO ls hl
                  refine zg_iast hC hO 2 (by decide) rfl zc_15_12254 (zi_all v_91_13177) (zi_in z_49_13164 (by decide)) ddX4_pay_91 (fun H locs c_91_13179 zc_91_13180 hO => ?_)
                  have hO : cO D cy A s.heap s 3 ad (cup [(2, .inl (cy 0, 30, .inl c_91_13179))] g) _ _ := hO
                  obtain ⟨v_92_13181, e_92_13182, z_92_13183, q_92_13184⟩ := zi_inc (e := 1) (f := 30) 1 z_49_13164 (by decide)
                  refine lv_iinc (v := v_92_13181) (lv' := [(4, .int v_92_13181), (6, .int v_30_12968), (5, .int v_15_12249), (0, .ref (ad 0)), (1, .int sacks), (2, .int toll), (3, .int nth)]) hx hb ddX4_pay_92 hl (k := 2) rfl e_92_13182 (by decide) rfl (fun ls hl => ?_)
                  refine lv_goto (tgt := 179) hx hb ddX4_pay_95 (by decide) ?_
                  exact J_179_13081 v_92_13181 c_91_13179 (zi_w (c := 0) (d := 30) z_92_13183 (by decide)) zc_91_13180 _ _ hO ls (lv_sub hl [1, 2, 0, 3, 4, 5, 6] rfl)
                refine lv_icmp_ne (tgt := 79) hx hb ddX4_pay_72 (by decide) (fun h_72_13167 => ?_) (fun h_72_13167 => ?_)
                · have q_72_13185 := zr_ne h_72_13167
                  have z_72_13186 : zi (-2147483648) (-13) v_30_12968 := zn_hi q_72_13185 z_42_13159 (zi_k (a := (-12)) (b := (-12)) (x := (-12)) rfl) (by decide)
                  refine lv_iload hx hb ddX4_pay_79 (lv_at hl 0 rfl) ?_
                  refine lv_bipush (v := (-13)) hx hb ddX4_pay_81 (by decide) ?_
                  refine lv_icmp_ne (tgt := 90) hx hb ddX4_pay_83 (by decide) (fun h_83_13187 => ?_) (fun h_83_13187 => ?_)
                  · have q_83_13188 := zr_ne h_83_13187
                    have z_83_13189 : zi (-2147483648) (-14) v_30_12968 := zn_hi q_83_13188 z_72_13186 (zi_k (a := (-13)) (b := (-13)) (x := (-13)) rfl) (by decide)
                    refine lv_iload_n hx hb ddX4_pay_90 rfl (lv_at hl 6 rfl) ?_
                    exact J_91_13178 nth _ _ hO ls (lv_sub hl [0, 1, 2, 3, 4, 5, 6] rfl)
                  · have q_83_13190 := zr_eq h_83_13187
                    have z_83_13191 : zi (-13) (-13) v_30_12968 := ze_eq q_83_13190 z_72_13186 (zi_k (a := (-13)) (b := (-13)) (x := (-13)) rfl)
                    refine lv_iload_n hx hb ddX4_pay_86 rfl (lv_at hl 5 rfl) ?_
                    refine lv_goto (tgt := 91) hx hb ddX4_pay_87 (by decide) ?_
                    exact J_91_13178 toll _ _ hO ls (lv_sub hl [0, 1, 2, 3, 4, 5, 6] rfl)
                · have q_72_13192 := zr_eq h_72_13167
                  have z_72_13193 : zi (-12) (-12) v_30_12968 := ze_eq q_72_13192 z_42_13159 (zi_k (a := (-12)) (b := (-12)) (x := (-12)) rfl)
                  refine lv_iload_n hx hb ddX4_pay_75 rfl (lv_at hl 4 rfl) ?_
                  refine lv_goto (tgt := 91) hx hb ddX4_pay_76 (by decide) ?_
                  exact J_91_13178 sacks _ _ hO ls (lv_sub hl [0, 1, 2, 3, 4, 5, 6] rfl)
    exact loop_15_12721 ((300 + 1 - (0 : Int32).toInt).toNat + 1) 0 0 c2 (zi_k (a := 0) (b := 300) (x := 0) rfl) (zi_k (a := 0) (b := 30) (x := 0) rfl) (za_all _) (Nat.lt_succ_self _) _ _ hO ls (lv_sub hl [0, 1, 2, 3, 4, 5] rfl)
  · have q_4_13194 := zr_eq h_4_8463
    have z_4_13195 : zi 0 0 x0_3 := ze_eq q_4_13194 b0_3 (zi_k (a := 0) (b := 0) (x := 0) rfl)
    refine lv_iload_n hx hb ddX4_pay_7 rfl (lv_at hl 2 rfl) ?_
    exact cg_iret (nw := fun _ => 0) hC hr hlk hO.same rfl (Nat.le_of_ble_eq_true rfl) (Nat.le_of_ble_eq_true rfl) (⟨c2, rfl⟩) ddX4_pay_8

theorem ddX4_becomes_0 : decode cX4_becomes 0 = .ok (.aload_n 0, 1) := by decide +kernel
theorem ddX4_becomes_1 : decode cX4_becomes 1 = .ok (.aload_n 1, 1) := by decide +kernel
theorem ddX4_becomes_2 : decode cX4_becomes 2 = .ok (.getfield 18, 3) := by decide +kernel
theorem ddX4_becomes_5 : decode cX4_becomes 5 = .ok (.putfield 18, 3) := by decide +kernel
theorem ddX4_becomes_8 : decode cX4_becomes 8 = .ok (.aload_n 0, 1) := by decide +kernel
theorem ddX4_becomes_9 : decode cX4_becomes 9 = .ok (.aload_n 1, 1) := by decide +kernel
theorem ddX4_becomes_10 : decode cX4_becomes 10 = .ok (.getfield 22, 3) := by decide +kernel
theorem ddX4_becomes_13 : decode cX4_becomes 13 = .ok (.putfield 22, 3) := by decide +kernel
theorem ddX4_becomes_16 : decode cX4_becomes 16 = .ok (.aload_n 0, 1) := by decide +kernel
theorem ddX4_becomes_17 : decode cX4_becomes 17 = .ok (.aload_n 1, 1) := by decide +kernel
theorem ddX4_becomes_18 : decode cX4_becomes 18 = .ok (.getfield 25, 3) := by decide +kernel
theorem ddX4_becomes_21 : decode cX4_becomes 21 = .ok (.putfield 25, 3) := by decide +kernel
theorem ddX4_becomes_24 : decode cX4_becomes 24 = .ok (.aload_n 1, 1) := by decide +kernel
theorem ddX4_becomes_25 : decode cX4_becomes 25 = .ok (.getfield 11, 3) := by decide +kernel
theorem ddX4_becomes_28 : decode cX4_becomes 28 = .ok (.iconst 0, 1) := by decide +kernel
theorem ddX4_becomes_29 : decode cX4_becomes 29 = .ok (.aload_n 0, 1) := by decide +kernel
theorem ddX4_becomes_30 : decode cX4_becomes 30 = .ok (.getfield 11, 3) := by decide +kernel
theorem ddX4_becomes_33 : decode cX4_becomes 33 = .ok (.iconst 0, 1) := by decide +kernel
theorem ddX4_becomes_34 : decode cX4_becomes 34 = .ok (.aload_n 1, 1) := by decide +kernel
theorem ddX4_becomes_35 : decode cX4_becomes 35 = .ok (.getfield 18, 3) := by decide +kernel
theorem ddX4_becomes_38 : decode cX4_becomes 38 = .ok (.invokestatic 29, 3) := by decide +kernel
theorem ddX4_becomes_41 : decode cX4_becomes 41 = .ok (.return_, 1) := by decide +kernel
def wq_k_X4_becomes : List Cond := Cond.code yX4_becomes cX4_becomes 2 none :: (([Cond.fieldLink RX4 18 "CrowToll$Law" "steps" "I", Cond.fieldLink RX4 22 "CrowToll$Law" "units" "I", Cond.fieldLink RX4 25 "CrowToll$Law" "isTold" "Z", Cond.fieldLink RX4 11 "CrowToll$Law" "step" "[I", Cond.methodLink RX4 29 arraycopyName, Cond.native arraycopyName, Cond.static arraycopyName, Cond.initialized "java/lang/System"] : List Cond) ++ wsX40)
set_option maxHeartbeats 8000000 in
set_option maxRecDepth 100000 in
theorem k_X4_becomes (l : Launch) (D : va_G) (cy : Nat → ClassId) (ad : Nat → Nat) (g : Nat → va_E) {x0_1 : Int32} {x0_2 : Int32} {x0_3 : Int32} {u0_4 : Value} {x1_1 : Int32} {x1_2 : Int32} {x1_3 : Int32} {u1_4 : Value} {c2 : Nat → Int32} {c3 : Nat → Int32} (o0 : g 0 = .inr (4, [.ref (ad 3), .int x0_1, .int x0_2, .int x0_3, u0_4])) (o1 : g 1 = .inr (4, [.ref (ad 2), .int x1_1, .int x1_2, .int x1_3, u1_4])) (a2 : g 2 = .inl (cy 0, 300, .inl c2)) (a3 : g 3 = .inl (cy 0, 300, .inl c3)) (b0_1 : zi 0 300 x0_1) (b0_3 : zi 0 1 x0_3) (b1_1 : zi 0 300 x1_1) (b1_3 : zi 0 1 x1_3) : cMv l yX4_becomes wq_k_X4_becomes { frames := 1, cells := 0, slots := 0, locals := 60 } 4 0 0 0 D cy ad g [.ref (ad 0), .ref (ad 1)] (fun nw lu => ∃ (d3 : Nat → Int32), lu = [(0, .inr (4, [.ref (ad 3), .int x1_1, .int x1_2, .int x1_3, u0_4])), (3, .inl (cy 0, 300, .inl d3))]) := by
  refine cM_of (Qc := fun A => cQv (fun nw lu => ∃ (d3 : Nat → Int32), lu = [(0, .inr (4, [.ref (ad 3), .int x1_1, .int x1_2, .int x1_3, u0_4])), (3, .inl (cy 0, 300, .inl d3))]) D 4 0 ad g A) (cc := cX4_becomes) (maxL := 2) (ret := none) (by decide) rfl (Nat.le_of_ble_eq_true rfl) ?_
  intro p e s m below meth c A hC hr hlk hnm hO ls hl
  have hC : CallFix p m c cX4_becomes 2 s [.ref (ad 0), .ref (ad 1)].toArray wq_k_X4_becomes RX4 := hC
  obtain ⟨hx, hb, hml, hown, hts⟩ := id hC
  have hl : lv_has ls 2 [(0, .ref (ad 0)), (1, .ref (ad 1))] := hl
  have i_X4 : ∀ w ∈ wsX40, w ∈ wq_k_X4_becomes := fun w h => List.mem_cons_of_mem _ (List.mem_append_right _ h)
  have hO := hO.notes [(0, .inr (4, [.ref (ad 3), .int x0_1, .int x0_2, .int x0_3, u0_4])), (3, .inl (cy 0, 300, .inl c3))] (List.forall_mem_cons.mpr ⟨o0, List.forall_mem_cons.mpr ⟨a3, (fun _ h => absurd h List.not_mem_nil)⟩⟩)
  refine lv_aload_n hx hb ddX4_becomes_0 rfl (lv_at hl 0 rfl) ?_
  refine lv_aload_n hx hb ddX4_becomes_1 rfl (lv_at hl 1 rfl) ?_
  refine cg_get hC hO 1 (by decide) o1 rfl i_X4 1 (by decide) (List.mem_of_getElem? (i := 1) rfl) rfl ddX4_becomes_2 ?_
  refine cg_put hC hO 0 (by decide) rfl rfl i_X4 tyX4_ok nmX4 1 (by decide) (List.mem_of_getElem? (i := 1) rfl) rfl rfl rfl (Nat.le_of_ble_eq_true rfl) ddX4_becomes_5 (fun H locs hO => ?_)
  have hO : cO D cy A s.heap s 4 ad (cup [(0, .inr (4, [.ref (ad 3), .int x1_1, .int x0_2, .int x0_3, u0_4])), (3, .inl (cy 0, 300, .inl c3))] g) _ _ := hO
  refine lv_aload_n hx hb ddX4_becomes_8 rfl (lv_at hl 0 rfl) ?_
  refine lv_aload_n hx hb ddX4_becomes_9 rfl (lv_at hl 1 rfl) ?_
  refine cg_get hC hO 1 (by decide) o1 rfl i_X4 2 (by decide) (List.mem_of_getElem? (i := 2) rfl) rfl ddX4_becomes_10 ?_
  refine cg_put hC hO 0 (by decide) rfl rfl i_X4 tyX4_ok nmX4 2 (by decide) (List.mem_of_getElem? (i := 2) rfl) rfl rfl rfl (Nat.le_of_ble_eq_true rfl) ddX4_becomes_13 (fun H locs hO => ?_)
  have hO : cO D cy A s.heap s 4 ad (cup [(0, .inr (4, [.ref (ad 3), .int x1_1, .int x1_2, .int x0_3, u0_4])), (3, .inl (cy 0, 300, .inl c3))] g) _ _ := hO
  refine lv_aload_n hx hb ddX4_becomes_16 rfl (lv_at hl 0 rfl) ?_
  refine lv_aload_n hx hb ddX4_becomes_17 rfl (lv_at hl 1 rfl) ?_
  refine cg_get hC hO 1 (by decide) o1 rfl i_X4 3 (by decide) (List.mem_of_getElem? (i := 3) rfl) rfl ddX4_becomes_18 ?_
  refine cg_put hC hO 0 (by decide) rfl rfl i_X4 tyX4_ok nmX4 3 (by decide) (List.mem_of_getElem? (i := 3) rfl) rfl (zi_narZ b1_3) (zi_fitZ b1_3) (Nat.le_of_ble_eq_true rfl) ddX4_becomes_21 (fun H locs hO => ?_)
  have hO : cO D cy A s.heap s 4 ad (cup [(0, .inr (4, [.ref (ad 3), .int x1_1, .int x1_2, .int x1_3, u0_4])), (3, .inl (cy 0, 300, .inl c3))] g) _ _ := hO
  refine lv_aload_n hx hb ddX4_becomes_24 rfl (lv_at hl 1 rfl) ?_
  refine cg_get hC hO 1 (by decide) o1 rfl i_X4 0 (by decide) (List.mem_of_getElem? (i := 4) rfl) rfl ddX4_becomes_25 ?_
  refine lv_iconst (v := 0) hx hb ddX4_becomes_28 (by decide) ?_
  refine lv_aload_n hx hb ddX4_becomes_29 rfl (lv_at hl 0 rfl) ?_
  refine cg_get hC hO 0 (by decide) rfl rfl i_X4 0 (by decide) (List.mem_of_getElem? (i := 4) rfl) rfl ddX4_becomes_30 ?_
  refine lv_iconst (v := 0) hx hb ddX4_becomes_33 (by decide) ?_
  refine lv_aload_n hx hb ddX4_becomes_34 rfl (lv_at hl 1 rfl) ?_
  refine cg_get hC hO 1 (by decide) o1 rfl i_X4 1 (by decide) (List.mem_of_getElem? (i := 1) rfl) rfl ddX4_becomes_35 ?_
  refine zg_copy (a := (-2147483648)) (b := 2147483647) hC hl.1 hO (List.mem_of_getElem? (i := 5) rfl) (List.mem_of_getElem? (i := 6) rfl) (List.mem_of_getElem? (i := 7) rfl) (List.mem_of_getElem? (i := 8) rfl) 2 3 (by decide) (by decide) a2 rfl (za_all _) (za_all _) (zi_k (a := 0) (b := 0) (x := 0) rfl) (zi_k (a := 0) (b := 0) (x := 0) rfl) b1_1 (by decide) (Nat.le_of_ble_eq_true rfl) (Nat.le_of_ble_eq_true rfl) ddX4_becomes_38 (fun H locs c_38_5 zc_38_6 hO => ?_)
  have hO : cO D cy A s.heap s 4 ad (cup [(0, .inr (4, [.ref (ad 3), .int x1_1, .int x1_2, .int x1_3, u0_4])), (3, .inl (cy 0, 300, .inl c_38_5))] g) _ _ := hO
  exact cg_vret (nw := fun _ => 0) hC hr hlk hO.same (Nat.le_of_ble_eq_true rfl) (Nat.le_of_ble_eq_true rfl) (⟨c_38_5, rfl⟩) ddX4_becomes_41

theorem ddX11_isCart_0 : decode cX11_isCart 0 = .ok (.iload_n 1, 1) := by decide +kernel
theorem ddX11_isCart_1 : decode cX11_isCart 1 = .ok (.iconst 0, 1) := by decide +kernel
theorem ddX11_isCart_2 : decode cX11_isCart 2 = .ok (.aload_n 0, 1) := by decide +kernel
theorem ddX11_isCart_3 : decode cX11_isCart 3 = .ok (.getfield 37, 3) := by decide +kernel
theorem ddX11_isCart_6 : decode cX11_isCart 6 = .ok (.getfield 49, 3) := by decide +kernel
theorem ddX11_isCart_9 : decode cX11_isCart 9 = .ok (.iconst 1, 1) := by decide +kernel
theorem ddX11_isCart_10 : decode cX11_isCart 10 = .ok (.isub, 1) := by decide +kernel
theorem ddX11_isCart_11 : decode cX11_isCart 11 = .ok (.invokestatic 107, 3) := by decide +kernel
theorem ddX11_isCart_14 : decode cX11_isCart 14 = .ok (.ireturn, 1) := by decide +kernel
def wq_k_X11_isCart : List Cond := Cond.code yX11_isCart cX11_isCart 2 (some .boolean) :: (([Cond.fieldLink RX11 37 "CrowToll" "stand" "LCrowToll$Stand;", Cond.fieldLink RX11 49 "CrowToll$Stand" "carts" "I", Cond.methodLink RX11 107 yX11_within, Cond.static yX11_within, Cond.initialized RX11, Cond.code yX11_within cX11_within 3 (some .boolean)] : List Cond) ++ wsX90 ++ wsX110)
set_option maxRecDepth 20000 in
theorem gr_k_X11_isCart_k_X11_within : GoodIn wq_k_X11_isCart wq_k_X11_within := List.forall_mem_cons.mpr ⟨⟨(List.mem_of_getElem? (i := 6) rfl), good_of_word rfl⟩, (fun _ h => absurd h List.not_mem_nil)⟩
set_option maxRecDepth 20000 in
theorem gq_k_X11_isCart_k_X11_within_107 : GoodIn wq_k_X11_isCart (va_wsS RX11 107 yX11_within wq_k_X11_within) := goodIn_app (List.forall_mem_cons.mpr ⟨⟨(List.mem_of_getElem? (i := 3) rfl), good_of_word rfl⟩, List.forall_mem_cons.mpr ⟨⟨(List.mem_of_getElem? (i := 4) rfl), good_of_word rfl⟩, List.forall_mem_cons.mpr ⟨⟨(List.mem_of_getElem? (i := 5) rfl), good_of_word rfl⟩, (fun _ h => absurd h List.not_mem_nil)⟩⟩⟩) gr_k_X11_isCart_k_X11_within
set_option maxHeartbeats 8000000 in
set_option maxRecDepth 100000 in
theorem k_X11_isCart (l : Launch) (D : va_G) (cy : Nat → ClassId) (ad : Nat → Nat) (g : Nat → va_E) {u0_0 : Value} {u0_1 : Value} {u0_2 : Value} {u0_3 : Value} {u0_5 : Value} {u0_6 : Value} {u0_7 : Value} {u0_8 : Value} {u0_9 : Value} {u0_10 : Value} {u0_11 : Value} {u0_12 : Value} {u0_13 : Value} {u1_0 : Value} {u1_1 : Value} {u1_2 : Value} {u1_3 : Value} {x1_4 : Int32} {n : Int32} (o0 : g 0 = .inr (11, [u0_0, u0_1, u0_2, u0_3, .ref (ad 1), u0_5, u0_6, u0_7, u0_8, u0_9, u0_10, u0_11, u0_12, u0_13])) (o1 : g 1 = .inr (9, [u1_0, u1_1, u1_2, u1_3, .int x1_4])) (b1_4 : zi 0 24 x1_4) : cMi l yX11_isCart wq_k_X11_isCart { frames := 1, cells := 0, slots := 0, locals := 22 } 2 0 0 0 D cy ad g [.ref (ad 0), .int n] (fun r nw lu => ((zi 0 23 n) ∧ ((0 : Int32).toInt ≤ (n : Int32).toInt) ∧ (r = 1) ∧ (lu = [])) ∨ ((r = 0) ∧ (lu = []))) := by
  refine cM_of (Qc := fun A => cQi (fun r nw lu => ((zi 0 23 n) ∧ ((0 : Int32).toInt ≤ (n : Int32).toInt) ∧ (r = 1) ∧ (lu = [])) ∨ ((r = 0) ∧ (lu = []))) D 2 0 ad g A) (cc := cX11_isCart) (maxL := 2) (ret := (some .boolean)) (by decide) rfl (Nat.le_of_ble_eq_true rfl) ?_
  intro p e s m below meth c A hC hr hlk hnm hO ls hl
  have hC : CallFix p m c cX11_isCart 2 s [.ref (ad 0), .int n].toArray wq_k_X11_isCart RX11 := hC
  obtain ⟨hx, hb, hml, hown, hts⟩ := id hC
  have hl : lv_has ls 2 [(0, .ref (ad 0)), (1, .int n)] := hl
  have i_X11 : ∀ w ∈ wsX110, w ∈ wq_k_X11_isCart := fun w h => List.mem_cons_of_mem _ (List.mem_append_right _ h)
  have i_X9 : ∀ w ∈ wsX90, w ∈ wq_k_X11_isCart := fun w h => List.mem_cons_of_mem _ (List.mem_append_left _ (List.mem_append_right _ h))
  refine lv_iload_n hx hb ddX11_isCart_0 rfl (lv_at hl 1 rfl) ?_
  refine lv_iconst (v := 0) hx hb ddX11_isCart_1 (by decide) ?_
  refine lv_aload_n hx hb ddX11_isCart_2 rfl (lv_at hl 0 rfl) ?_
  refine cg_get hC hO 0 (by decide) o0 rfl i_X11 4 (by decide) (List.mem_of_getElem? (i := 1) rfl) rfl ddX11_isCart_3 ?_
  refine cg_get hC hO 1 (by decide) o1 rfl i_X9 4 (by decide) (List.mem_of_getElem? (i := 2) rfl) rfl ddX11_isCart_6 ?_
  refine lv_iconst (v := 1) hx hb ddX11_isCart_9 (by decide) ?_
  refine lv_isub hx hb ddX11_isCart_10 ?_
  refine zg_top2 (P := fun v => zi (-1) 23 v) (E := fun v => v.toInt = x1_4.toInt + -1) (zi_subk b1_4 (n := 1) (by decide) (by decide)) (fun v_10_15 z_10_16 q_10_17 => ?_)
  refine cg_Si (As := [.int n, .int 0, .int v_10_15]) (rest := []) (mc := 0) (ms := 0) (rm := { frames := 0, cells := 0, slots := 0, locals := 0 }) hC hl.1 hO [] (by decide +kernel) (k_X11_within l D cy _ _ (number := n) (least := 0) (most := v_10_15) ) gq_k_X11_isCart_k_X11_within_107 rfl rfl rfl 3 (by decide +kernel) ⟨Nat.le_of_ble_eq_true rfl, Nat.le_of_ble_eq_true rfl⟩ rfl rfl (Nat.le_of_ble_eq_true rfl) ddX11_isCart_11 ⟨Nat.le_of_ble_eq_true rfl, Nat.le_of_ble_eq_true rfl⟩ (fun r_11_20 nw_11_18 l_11_19 H locs hw hO => ?_)
  rcases hw with hw | hw
  · obtain ⟨q_11_21, q_11_22, rfl, rfl⟩ := hw
    have hO : cO D cy A s.heap s 2 ad (cup [] g) _ _ := hO
    have q_11_23 := q_11_21
    have z_11_24 : zi 0 2147483647 n := zd_le q_11_23 (zi_k (a := 0) (b := 0) (x := 0) rfl) (zi_all n) (by decide)
    have q_11_25 := q_11_22
    have z_11_26 : zi 0 23 n := zu_le q_11_25 z_11_24 z_10_16 (by decide)
    have z_11_27 : zi 0 23 v_10_15 := zd_le q_11_25 z_11_24 z_10_16 (by decide)
    have z_11_28 : zi 1 24 x1_4 := zp_add q_10_17 z_11_27 b1_4 (by decide)
    exact cg_iret (nw := fun _ => 0) hC hr hlk hO.same rfl (Nat.le_of_ble_eq_true rfl) (Nat.le_of_ble_eq_true rfl) (Or.inl ⟨z_11_26, q_11_23, rfl, rfl⟩) ddX11_isCart_14
  · obtain ⟨rfl, rfl⟩ := hw
    have hO : cO D cy A s.heap s 2 ad (cup [] g) _ _ := hO
    exact cg_iret (nw := fun _ => 0) hC hr hlk hO.same rfl (Nat.le_of_ble_eq_true rfl) (Nat.le_of_ble_eq_true rfl) (Or.inr ⟨rfl, rfl⟩) ddX11_isCart_14

theorem ddX11_isPost_0 : decode cX11_isPost 0 = .ok (.iload_n 1, 1) := by decide +kernel
theorem ddX11_isPost_1 : decode cX11_isPost 1 = .ok (.iconst 0, 1) := by decide +kernel
theorem ddX11_isPost_2 : decode cX11_isPost 2 = .ok (.aload_n 0, 1) := by decide +kernel
theorem ddX11_isPost_3 : decode cX11_isPost 3 = .ok (.getfield 27, 3) := by decide +kernel
theorem ddX11_isPost_6 : decode cX11_isPost 6 = .ok (.getfield 250, 3) := by decide +kernel
theorem ddX11_isPost_9 : decode cX11_isPost 9 = .ok (.iconst 1, 1) := by decide +kernel
theorem ddX11_isPost_10 : decode cX11_isPost 10 = .ok (.isub, 1) := by decide +kernel
theorem ddX11_isPost_11 : decode cX11_isPost 11 = .ok (.invokestatic 107, 3) := by decide +kernel
theorem ddX11_isPost_14 : decode cX11_isPost 14 = .ok (.ireturn, 1) := by decide +kernel
def wq_k_X11_isPost : List Cond := Cond.code yX11_isPost cX11_isPost 2 (some .boolean) :: (([Cond.fieldLink RX11 27 "CrowToll" "told" "LCrowToll$Road;", Cond.fieldLink RX11 250 "CrowToll$Road" "posts" "I", Cond.methodLink RX11 107 yX11_within, Cond.static yX11_within, Cond.initialized RX11, Cond.code yX11_within cX11_within 3 (some .boolean)] : List Cond) ++ wsX70 ++ wsX110)
set_option maxRecDepth 20000 in
theorem gr_k_X11_isPost_k_X11_within : GoodIn wq_k_X11_isPost wq_k_X11_within := List.forall_mem_cons.mpr ⟨⟨(List.mem_of_getElem? (i := 6) rfl), good_of_word rfl⟩, (fun _ h => absurd h List.not_mem_nil)⟩
set_option maxRecDepth 20000 in
theorem gq_k_X11_isPost_k_X11_within_107 : GoodIn wq_k_X11_isPost (va_wsS RX11 107 yX11_within wq_k_X11_within) := goodIn_app (List.forall_mem_cons.mpr ⟨⟨(List.mem_of_getElem? (i := 3) rfl), good_of_word rfl⟩, List.forall_mem_cons.mpr ⟨⟨(List.mem_of_getElem? (i := 4) rfl), good_of_word rfl⟩, List.forall_mem_cons.mpr ⟨⟨(List.mem_of_getElem? (i := 5) rfl), good_of_word rfl⟩, (fun _ h => absurd h List.not_mem_nil)⟩⟩⟩) gr_k_X11_isPost_k_X11_within
set_option maxHeartbeats 8000000 in
set_option maxRecDepth 100000 in
theorem k_X11_isPost (l : Launch) (D : va_G) (cy : Nat → ClassId) (ad : Nat → Nat) (g : Nat → va_E) {u0_0 : Value} {u0_1 : Value} {u0_2 : Value} {u0_4 : Value} {u0_5 : Value} {u0_6 : Value} {u0_7 : Value} {u0_8 : Value} {u0_9 : Value} {u0_10 : Value} {u0_11 : Value} {u0_12 : Value} {u0_13 : Value} {u1_0 : Value} {u1_1 : Value} {u1_2 : Value} {u1_3 : Value} {u1_4 : Value} {u1_5 : Value} {u1_6 : Value} {u1_7 : Value} {u1_8 : Value} {u1_9 : Value} {u1_10 : Value} {x1_11 : Int32} {u1_12 : Value} {u1_13 : Value} {u1_14 : Value} {u1_15 : Value} {u1_16 : Value} {u1_17 : Value} {n : Int32} (o0 : g 0 = .inr (11, [u0_0, u0_1, u0_2, .ref (ad 1), u0_4, u0_5, u0_6, u0_7, u0_8, u0_9, u0_10, u0_11, u0_12, u0_13])) (o1 : g 1 = .inr (7, [u1_0, u1_1, u1_2, u1_3, u1_4, u1_5, u1_6, u1_7, u1_8, u1_9, u1_10, .int x1_11, u1_12, u1_13, u1_14, u1_15, u1_16, u1_17])) (b1_11 : zi 0 4 x1_11) : cMi l yX11_isPost wq_k_X11_isPost { frames := 1, cells := 0, slots := 0, locals := 22 } 2 0 0 0 D cy ad g [.ref (ad 0), .int n] (fun r nw lu => ((zi 0 3 n) ∧ ((0 : Int32).toInt ≤ (n : Int32).toInt) ∧ (r = 1) ∧ (lu = [])) ∨ ((r = 0) ∧ (lu = []))) := by
  refine cM_of (Qc := fun A => cQi (fun r nw lu => ((zi 0 3 n) ∧ ((0 : Int32).toInt ≤ (n : Int32).toInt) ∧ (r = 1) ∧ (lu = [])) ∨ ((r = 0) ∧ (lu = []))) D 2 0 ad g A) (cc := cX11_isPost) (maxL := 2) (ret := (some .boolean)) (by decide) rfl (Nat.le_of_ble_eq_true rfl) ?_
  intro p e s m below meth c A hC hr hlk hnm hO ls hl
  have hC : CallFix p m c cX11_isPost 2 s [.ref (ad 0), .int n].toArray wq_k_X11_isPost RX11 := hC
  obtain ⟨hx, hb, hml, hown, hts⟩ := id hC
  have hl : lv_has ls 2 [(0, .ref (ad 0)), (1, .int n)] := hl
  have i_X11 : ∀ w ∈ wsX110, w ∈ wq_k_X11_isPost := fun w h => List.mem_cons_of_mem _ (List.mem_append_right _ h)
  have i_X7 : ∀ w ∈ wsX70, w ∈ wq_k_X11_isPost := fun w h => List.mem_cons_of_mem _ (List.mem_append_left _ (List.mem_append_right _ h))
  refine lv_iload_n hx hb ddX11_isPost_0 rfl (lv_at hl 1 rfl) ?_
  refine lv_iconst (v := 0) hx hb ddX11_isPost_1 (by decide) ?_
  refine lv_aload_n hx hb ddX11_isPost_2 rfl (lv_at hl 0 rfl) ?_
  refine cg_get hC hO 0 (by decide) o0 rfl i_X11 3 (by decide) (List.mem_of_getElem? (i := 1) rfl) rfl ddX11_isPost_3 ?_
  refine cg_get hC hO 1 (by decide) o1 rfl i_X7 11 (by decide) (List.mem_of_getElem? (i := 2) rfl) rfl ddX11_isPost_6 ?_
  refine lv_iconst (v := 1) hx hb ddX11_isPost_9 (by decide) ?_
  refine lv_isub hx hb ddX11_isPost_10 ?_
  refine zg_top2 (P := fun v => zi (-1) 3 v) (E := fun v => v.toInt = x1_11.toInt + -1) (zi_subk b1_11 (n := 1) (by decide) (by decide)) (fun v_10_15 z_10_16 q_10_17 => ?_)
  refine cg_Si (As := [.int n, .int 0, .int v_10_15]) (rest := []) (mc := 0) (ms := 0) (rm := { frames := 0, cells := 0, slots := 0, locals := 0 }) hC hl.1 hO [] (by decide +kernel) (k_X11_within l D cy _ _ (number := n) (least := 0) (most := v_10_15) ) gq_k_X11_isPost_k_X11_within_107 rfl rfl rfl 3 (by decide +kernel) ⟨Nat.le_of_ble_eq_true rfl, Nat.le_of_ble_eq_true rfl⟩ rfl rfl (Nat.le_of_ble_eq_true rfl) ddX11_isPost_11 ⟨Nat.le_of_ble_eq_true rfl, Nat.le_of_ble_eq_true rfl⟩ (fun r_11_20 nw_11_18 l_11_19 H locs hw hO => ?_)
  rcases hw with hw | hw
  · obtain ⟨q_11_21, q_11_22, rfl, rfl⟩ := hw
    have hO : cO D cy A s.heap s 2 ad (cup [] g) _ _ := hO
    have q_11_23 := q_11_21
    have z_11_24 : zi 0 2147483647 n := zd_le q_11_23 (zi_k (a := 0) (b := 0) (x := 0) rfl) (zi_all n) (by decide)
    have q_11_25 := q_11_22
    have z_11_26 : zi 0 3 n := zu_le q_11_25 z_11_24 z_10_16 (by decide)
    have z_11_27 : zi 0 3 v_10_15 := zd_le q_11_25 z_11_24 z_10_16 (by decide)
    have z_11_28 : zi 1 4 x1_11 := zp_add q_10_17 z_11_27 b1_11 (by decide)
    exact cg_iret (nw := fun _ => 0) hC hr hlk hO.same rfl (Nat.le_of_ble_eq_true rfl) (Nat.le_of_ble_eq_true rfl) (Or.inl ⟨z_11_26, q_11_23, rfl, rfl⟩) ddX11_isPost_14
  · obtain ⟨rfl, rfl⟩ := hw
    have hO : cO D cy A s.heap s 2 ad (cup [] g) _ _ := hO
    exact cg_iret (nw := fun _ => 0) hC hr hlk hO.same rfl (Nat.le_of_ble_eq_true rfl) (Nat.le_of_ble_eq_true rfl) (Or.inr ⟨rfl, rfl⟩) ddX11_isPost_14

theorem ddX11_isBird_0 : decode cX11_isBird 0 = .ok (.iload_n 1, 1) := by decide +kernel
theorem ddX11_isBird_1 : decode cX11_isBird 1 = .ok (.iconst 0, 1) := by decide +kernel
theorem ddX11_isBird_2 : decode cX11_isBird 2 = .ok (.aload_n 0, 1) := by decide +kernel
theorem ddX11_isBird_3 : decode cX11_isBird 3 = .ok (.getfield 27, 3) := by decide +kernel
theorem ddX11_isBird_6 : decode cX11_isBird 6 = .ok (.getfield 247, 3) := by decide +kernel
theorem ddX11_isBird_9 : decode cX11_isBird 9 = .ok (.iconst 1, 1) := by decide +kernel
theorem ddX11_isBird_10 : decode cX11_isBird 10 = .ok (.isub, 1) := by decide +kernel
theorem ddX11_isBird_11 : decode cX11_isBird 11 = .ok (.invokestatic 107, 3) := by decide +kernel
theorem ddX11_isBird_14 : decode cX11_isBird 14 = .ok (.ireturn, 1) := by decide +kernel
def wq_k_X11_isBird : List Cond := Cond.code yX11_isBird cX11_isBird 2 (some .boolean) :: (([Cond.fieldLink RX11 27 "CrowToll" "told" "LCrowToll$Road;", Cond.fieldLink RX11 247 "CrowToll$Road" "birds" "I", Cond.methodLink RX11 107 yX11_within, Cond.static yX11_within, Cond.initialized RX11, Cond.code yX11_within cX11_within 3 (some .boolean)] : List Cond) ++ wsX70 ++ wsX110)
set_option maxRecDepth 20000 in
theorem gr_k_X11_isBird_k_X11_within : GoodIn wq_k_X11_isBird wq_k_X11_within := List.forall_mem_cons.mpr ⟨⟨(List.mem_of_getElem? (i := 6) rfl), good_of_word rfl⟩, (fun _ h => absurd h List.not_mem_nil)⟩
set_option maxRecDepth 20000 in
theorem gq_k_X11_isBird_k_X11_within_107 : GoodIn wq_k_X11_isBird (va_wsS RX11 107 yX11_within wq_k_X11_within) := goodIn_app (List.forall_mem_cons.mpr ⟨⟨(List.mem_of_getElem? (i := 3) rfl), good_of_word rfl⟩, List.forall_mem_cons.mpr ⟨⟨(List.mem_of_getElem? (i := 4) rfl), good_of_word rfl⟩, List.forall_mem_cons.mpr ⟨⟨(List.mem_of_getElem? (i := 5) rfl), good_of_word rfl⟩, (fun _ h => absurd h List.not_mem_nil)⟩⟩⟩) gr_k_X11_isBird_k_X11_within
set_option maxHeartbeats 8000000 in
set_option maxRecDepth 100000 in
theorem k_X11_isBird (l : Launch) (D : va_G) (cy : Nat → ClassId) (ad : Nat → Nat) (g : Nat → va_E) {u0_0 : Value} {u0_1 : Value} {u0_2 : Value} {u0_4 : Value} {u0_5 : Value} {u0_6 : Value} {u0_7 : Value} {u0_8 : Value} {u0_9 : Value} {u0_10 : Value} {u0_11 : Value} {u0_12 : Value} {u0_13 : Value} {u1_0 : Value} {u1_1 : Value} {u1_2 : Value} {u1_3 : Value} {u1_4 : Value} {x1_5 : Int32} {u1_6 : Value} {u1_7 : Value} {u1_8 : Value} {u1_9 : Value} {u1_10 : Value} {u1_11 : Value} {u1_12 : Value} {u1_13 : Value} {u1_14 : Value} {u1_15 : Value} {u1_16 : Value} {u1_17 : Value} {n : Int32} (o0 : g 0 = .inr (11, [u0_0, u0_1, u0_2, .ref (ad 1), u0_4, u0_5, u0_6, u0_7, u0_8, u0_9, u0_10, u0_11, u0_12, u0_13])) (o1 : g 1 = .inr (7, [u1_0, u1_1, u1_2, u1_3, u1_4, .int x1_5, u1_6, u1_7, u1_8, u1_9, u1_10, u1_11, u1_12, u1_13, u1_14, u1_15, u1_16, u1_17])) (b1_5 : zi 0 5 x1_5) : cMi l yX11_isBird wq_k_X11_isBird { frames := 1, cells := 0, slots := 0, locals := 22 } 2 0 0 0 D cy ad g [.ref (ad 0), .int n] (fun r nw lu => ((zi 0 4 n) ∧ ((0 : Int32).toInt ≤ (n : Int32).toInt) ∧ (r = 1) ∧ (lu = [])) ∨ ((r = 0) ∧ (lu = []))) := by
  refine cM_of (Qc := fun A => cQi (fun r nw lu => ((zi 0 4 n) ∧ ((0 : Int32).toInt ≤ (n : Int32).toInt) ∧ (r = 1) ∧ (lu = [])) ∨ ((r = 0) ∧ (lu = []))) D 2 0 ad g A) (cc := cX11_isBird) (maxL := 2) (ret := (some .boolean)) (by decide) rfl (Nat.le_of_ble_eq_true rfl) ?_
  intro p e s m below meth c A hC hr hlk hnm hO ls hl
  have hC : CallFix p m c cX11_isBird 2 s [.ref (ad 0), .int n].toArray wq_k_X11_isBird RX11 := hC
  obtain ⟨hx, hb, hml, hown, hts⟩ := id hC
  have hl : lv_has ls 2 [(0, .ref (ad 0)), (1, .int n)] := hl
  have i_X11 : ∀ w ∈ wsX110, w ∈ wq_k_X11_isBird := fun w h => List.mem_cons_of_mem _ (List.mem_append_right _ h)
  have i_X7 : ∀ w ∈ wsX70, w ∈ wq_k_X11_isBird := fun w h => List.mem_cons_of_mem _ (List.mem_append_left _ (List.mem_append_right _ h))
  refine lv_iload_n hx hb ddX11_isBird_0 rfl (lv_at hl 1 rfl) ?_
  refine lv_iconst (v := 0) hx hb ddX11_isBird_1 (by decide) ?_
  refine lv_aload_n hx hb ddX11_isBird_2 rfl (lv_at hl 0 rfl) ?_
  refine cg_get hC hO 0 (by decide) o0 rfl i_X11 3 (by decide) (List.mem_of_getElem? (i := 1) rfl) rfl ddX11_isBird_3 ?_
  refine cg_get hC hO 1 (by decide) o1 rfl i_X7 5 (by decide) (List.mem_of_getElem? (i := 2) rfl) rfl ddX11_isBird_6 ?_
  refine lv_iconst (v := 1) hx hb ddX11_isBird_9 (by decide) ?_
  refine lv_isub hx hb ddX11_isBird_10 ?_
  refine zg_top2 (P := fun v => zi (-1) 4 v) (E := fun v => v.toInt = x1_5.toInt + -1) (zi_subk b1_5 (n := 1) (by decide) (by decide)) (fun v_10_15 z_10_16 q_10_17 => ?_)
  refine cg_Si (As := [.int n, .int 0, .int v_10_15]) (rest := []) (mc := 0) (ms := 0) (rm := { frames := 0, cells := 0, slots := 0, locals := 0 }) hC hl.1 hO [] (by decide +kernel) (k_X11_within l D cy _ _ (number := n) (least := 0) (most := v_10_15) ) gq_k_X11_isBird_k_X11_within_107 rfl rfl rfl 3 (by decide +kernel) ⟨Nat.le_of_ble_eq_true rfl, Nat.le_of_ble_eq_true rfl⟩ rfl rfl (Nat.le_of_ble_eq_true rfl) ddX11_isBird_11 ⟨Nat.le_of_ble_eq_true rfl, Nat.le_of_ble_eq_true rfl⟩ (fun r_11_20 nw_11_18 l_11_19 H locs hw hO => ?_)
  rcases hw with hw | hw
  · obtain ⟨q_11_21, q_11_22, rfl, rfl⟩ := hw
    have hO : cO D cy A s.heap s 2 ad (cup [] g) _ _ := hO
    have q_11_23 := q_11_21
    have z_11_24 : zi 0 2147483647 n := zd_le q_11_23 (zi_k (a := 0) (b := 0) (x := 0) rfl) (zi_all n) (by decide)
    have q_11_25 := q_11_22
    have z_11_26 : zi 0 4 n := zu_le q_11_25 z_11_24 z_10_16 (by decide)
    have z_11_27 : zi 0 4 v_10_15 := zd_le q_11_25 z_11_24 z_10_16 (by decide)
    have z_11_28 : zi 1 5 x1_5 := zp_add q_10_17 z_11_27 b1_5 (by decide)
    exact cg_iret (nw := fun _ => 0) hC hr hlk hO.same rfl (Nat.le_of_ble_eq_true rfl) (Nat.le_of_ble_eq_true rfl) (Or.inl ⟨z_11_26, q_11_23, rfl, rfl⟩) ddX11_isBird_14
  · obtain ⟨rfl, rfl⟩ := hw
    have hO : cO D cy A s.heap s 2 ad (cup [] g) _ _ := hO
    exact cg_iret (nw := fun _ => 0) hC hr hlk hO.same rfl (Nat.le_of_ble_eq_true rfl) (Nat.le_of_ble_eq_true rfl) (Or.inr ⟨rfl, rfl⟩) ddX11_isBird_14

theorem ddX7_find_0 : decode cX7_find 0 = .ok (.iconst 0, 1) := by decide +kernel
theorem ddX7_find_1 : decode cX7_find 1 = .ok (.istore 4, 2) := by decide +kernel
theorem ddX7_find_3 : decode cX7_find 3 = .ok (.iload 4, 2) := by decide +kernel
theorem ddX7_find_5 : decode cX7_find 5 = .ok (.iload_n 1, 1) := by decide +kernel
theorem ddX7_find_6 : decode cX7_find 6 = .ok (.if_icmp .ge 21, 3) := by decide +kernel
theorem ddX7_find_9 : decode cX7_find 9 = .ok (.aload_n 0, 1) := by decide +kernel
theorem ddX7_find_10 : decode cX7_find 10 = .ok (.iload 4, 2) := by decide +kernel
theorem ddX7_find_12 : decode cX7_find 12 = .ok (.laload, 1) := by decide +kernel
theorem ddX7_find_13 : decode cX7_find 13 = .ok (.lload_n 2, 1) := by decide +kernel
theorem ddX7_find_14 : decode cX7_find 14 = .ok (.lcmp, 1) := by decide +kernel
theorem ddX7_find_15 : decode cX7_find 15 = .ok (.ifCond .ne 6, 3) := by decide +kernel
theorem ddX7_find_18 : decode cX7_find 18 = .ok (.iload 4, 2) := by decide +kernel
theorem ddX7_find_20 : decode cX7_find 20 = .ok (.ireturn, 1) := by decide +kernel
theorem ddX7_find_21 : decode cX7_find 21 = .ok (.iinc 4 1, 3) := by decide +kernel
theorem ddX7_find_24 : decode cX7_find 24 = .ok (.goto (-21), 3) := by decide +kernel
theorem ddX7_find_27 : decode cX7_find 27 = .ok (.iconst (-1), 1) := by decide +kernel
theorem ddX7_find_28 : decode cX7_find 28 = .ok (.ireturn, 1) := by decide +kernel
def wq_k_X7_find_5 : List Cond := Cond.code yX7_find cX7_find 5 (some .int) :: (([] : List Cond))
set_option maxHeartbeats 8000000 in
set_option maxRecDepth 100000 in
theorem k_X7_find_5 (l : Launch) (D : va_G) (cy : Nat → ClassId) (ad : Nat → Nat) (g : Nat → va_E) {c0 : Nat → Int64} {n : Int32} {name : Int64} (a0 : g 0 = .inl (cy 1, 5, .inr (.inl c0))) (p_n : zi 0 5 n) : cMi l yX7_find wq_k_X7_find_5 { frames := 0, cells := 0, slots := 0, locals := 0 } 1 0 0 0 D cy ad g [.ref (ad 0), .int n, .long name] (fun r nw lu => (zi (-1) 4 r) ∧ (lu = [])) := by
  refine cM_of (Qc := fun A => cQi (fun r nw lu => (zi (-1) 4 r) ∧ (lu = [])) D 1 0 ad g A) (cc := cX7_find) (maxL := 5) (ret := (some .int)) (by decide) rfl (Nat.le_of_ble_eq_true rfl) ?_
  intro p e s m below meth c A hC hr hlk hnm hO ls hl
  have hC : CallFix p m c cX7_find 5 s [.ref (ad 0), .int n, .long name].toArray wq_k_X7_find_5 RX7 := hC
  obtain ⟨hx, hb, hml, hown, hts⟩ := id hC
  have hl : lv_has ls 5 [(0, .ref (ad 0)), (1, .int n), (2, .long name)] := hl
  refine lv_iconst (v := 0) hx hb ddX7_find_0 (by decide) ?_
  refine lv_istore (lv' := [(4, .int 0), (0, .ref (ad 0)), (1, .int n), (2, .long name)]) hx hb ddX7_find_1 hl (by decide) rfl (fun ls hl => ?_)
  have loop_3_193 : ∀ (d_3_194 : Nat) (v_3_176 : Int32), zi 0 5 v_3_176 → (5 + 1 - v_3_176.toInt).toNat < d_3_194 → ∀ (H : Heap) (locs : List Loc), cO D cy A s.heap s 1 ad (cup [] g) H locs → ∀ ls : Array Slot, lv_has ls 5 [(4, .int v_3_176), (0, .ref (ad 0)), (1, .int n), (2, .long name)] → W p l e { frames := 0, cells := 0, slots := 0, locals := 0 } s m [.ref (ad 0), .int n, .long name].toArray below meth c H locs 0 0 (MQ below (cQi (fun r nw lu => (zi (-1) 4 r) ∧ (lu = [])) D 1 0 ad g A) [.ref (ad 0), .int n, .long name].toArray s 0 0 A) (F0 m 3 ls [])  := by
    intro d_3_194
    induction d_3_194 with
    | zero => intro v_3_176 z_3_177 mu_3_195; exact absurd mu_3_195 (Nat.not_lt_zero _)
    | succ d_3_194 ih_3_196 =>
      intro v_3_176 z_3_177 mu_3_195 H locs hO ls hl
      refine lv_iload hx hb ddX7_find_3 (lv_at hl 0 rfl) ?_
      refine lv_iload_n hx hb ddX7_find_5 rfl (lv_at hl 2 rfl) ?_
      refine lv_icmp_ge (tgt := 27) hx hb ddX7_find_6 (by decide) (fun h_6_197 => ?_) (fun h_6_197 => ?_)
      · have q_6_198 := zr_le h_6_197
        refine lv_iconst (v := (-1)) hx hb ddX7_find_27 (by decide) ?_
        exact cg_iret (nw := fun _ => 0) hC hr hlk hO.same rfl (Nat.le_of_ble_eq_true rfl) (Nat.le_of_ble_eq_true rfl) (⟨(zi_k (a := (-1)) (b := 4) (x := (-1)) rfl), rfl⟩) ddX7_find_28
      · have q_6_199 := zr_nle h_6_197
        have z_6_200 : zi 0 4 v_3_176 := zu_lt q_6_199 z_3_177 p_n (by decide)
        have z_6_201 : zi 1 5 n := zd_lt q_6_199 z_3_177 p_n (by decide)
        refine lv_aload_n hx hb ddX7_find_9 rfl (lv_at hl 1 rfl) ?_
        refine lv_iload hx hb ddX7_find_10 (lv_at hl 0 rfl) ?_
        refine cg_lald hC hO 0 (by decide) a0 (zi_in z_6_200 (by decide)) ddX7_find_12 ?_
        refine lv_topl (fun w_12_202 _ => ?_)
        refine lv_lload_n hx hb ddX7_find_13 rfl (lv_at hl 3 rfl) ?_
        refine zg_lcmp hx hb ddX7_find_14 (fun v_14_203 z_14_204 => ?_)
        refine lv_if_ne (tgt := 21) hx hb ddX7_find_15 (by decide) (fun h_15_205 => ?_) (fun h_15_205 => ?_)
        · obtain ⟨v_21_206, e_21_207, z_21_208, q_21_209⟩ := zi_inc (e := 1) (f := 5) 1 z_6_200 (by decide)
          refine lv_iinc (v := v_21_206) (lv' := [(4, .int v_21_206), (0, .ref (ad 0)), (1, .int n), (2, .long name)]) hx hb ddX7_find_21 hl (k := 0) rfl e_21_207 (by decide) rfl (fun ls hl => ?_)
          refine lv_goto (tgt := 3) hx hb ddX7_find_24 (by decide) ?_
          exact ih_3_196 v_21_206 (zi_w (c := 0) (d := 5) z_21_208 (by decide)) (zm_up q_21_209 ((zi_w (c := 0) (d := 5) z_21_208 (by decide))).2 (by decide) mu_3_195) _ _ hO ls (lv_sub hl [0, 1, 2, 3] rfl)
        · have q_15_210 := zr_eq h_15_205
          have z_15_211 : zi 0 0 v_14_203 := ze_eq q_15_210 z_14_204 (zi_k (a := 0) (b := 0) (x := 0) rfl)
          refine lv_iload hx hb ddX7_find_18 (lv_at hl 0 rfl) ?_
          exact cg_iret (nw := fun _ => 0) hC hr hlk hO.same rfl (Nat.le_of_ble_eq_true rfl) (Nat.le_of_ble_eq_true rfl) (⟨(zi_w (c := (-1)) (d := 4) z_6_200 (by decide)), rfl⟩) ddX7_find_20
  exact loop_3_193 ((5 + 1 - (0 : Int32).toInt).toNat + 1) 0 (zi_k (a := 0) (b := 5) (x := 0) rfl) (Nat.lt_succ_self _) _ _ hO ls (lv_sub hl [0, 1, 2, 3] rfl)

def wq_k_X7_find_4 : List Cond := Cond.code yX7_find cX7_find 5 (some .int) :: (([] : List Cond))
set_option maxHeartbeats 8000000 in
set_option maxRecDepth 100000 in
theorem k_X7_find_4 (l : Launch) (D : va_G) (cy : Nat → ClassId) (ad : Nat → Nat) (g : Nat → va_E) {c0 : Nat → Int64} {n : Int32} {name : Int64} (a0 : g 0 = .inl (cy 1, 4, .inr (.inl c0))) (p_n : zi 0 4 n) : cMi l yX7_find wq_k_X7_find_4 { frames := 0, cells := 0, slots := 0, locals := 0 } 1 0 0 0 D cy ad g [.ref (ad 0), .int n, .long name] (fun r nw lu => (zi (-1) 3 r) ∧ (lu = [])) := by
  refine cM_of (Qc := fun A => cQi (fun r nw lu => (zi (-1) 3 r) ∧ (lu = [])) D 1 0 ad g A) (cc := cX7_find) (maxL := 5) (ret := (some .int)) (by decide) rfl (Nat.le_of_ble_eq_true rfl) ?_
  intro p e s m below meth c A hC hr hlk hnm hO ls hl
  have hC : CallFix p m c cX7_find 5 s [.ref (ad 0), .int n, .long name].toArray wq_k_X7_find_4 RX7 := hC
  obtain ⟨hx, hb, hml, hown, hts⟩ := id hC
  have hl : lv_has ls 5 [(0, .ref (ad 0)), (1, .int n), (2, .long name)] := hl
  refine lv_iconst (v := 0) hx hb ddX7_find_0 (by decide) ?_
  refine lv_istore (lv' := [(4, .int 0), (0, .ref (ad 0)), (1, .int n), (2, .long name)]) hx hb ddX7_find_1 hl (by decide) rfl (fun ls hl => ?_)
  have loop_3_193 : ∀ (d_3_194 : Nat) (v_3_176 : Int32), zi 0 4 v_3_176 → (4 + 1 - v_3_176.toInt).toNat < d_3_194 → ∀ (H : Heap) (locs : List Loc), cO D cy A s.heap s 1 ad (cup [] g) H locs → ∀ ls : Array Slot, lv_has ls 5 [(4, .int v_3_176), (0, .ref (ad 0)), (1, .int n), (2, .long name)] → W p l e { frames := 0, cells := 0, slots := 0, locals := 0 } s m [.ref (ad 0), .int n, .long name].toArray below meth c H locs 0 0 (MQ below (cQi (fun r nw lu => (zi (-1) 3 r) ∧ (lu = [])) D 1 0 ad g A) [.ref (ad 0), .int n, .long name].toArray s 0 0 A) (F0 m 3 ls [])  := by
    intro d_3_194
    induction d_3_194 with
    | zero => intro v_3_176 z_3_177 mu_3_195; exact absurd mu_3_195 (Nat.not_lt_zero _)
    | succ d_3_194 ih_3_196 =>
      intro v_3_176 z_3_177 mu_3_195 H locs hO ls hl
      refine lv_iload hx hb ddX7_find_3 (lv_at hl 0 rfl) ?_
      refine lv_iload_n hx hb ddX7_find_5 rfl (lv_at hl 2 rfl) ?_
      refine lv_icmp_ge (tgt := 27) hx hb ddX7_find_6 (by decide) (fun h_6_197 => ?_) (fun h_6_197 => ?_)
      · have q_6_198 := zr_le h_6_197
        refine lv_iconst (v := (-1)) hx hb ddX7_find_27 (by decide) ?_
        exact cg_iret (nw := fun _ => 0) hC hr hlk hO.same rfl (Nat.le_of_ble_eq_true rfl) (Nat.le_of_ble_eq_true rfl) (⟨(zi_k (a := (-1)) (b := 3) (x := (-1)) rfl), rfl⟩) ddX7_find_28
      · have q_6_199 := zr_nle h_6_197
        have z_6_200 : zi 0 3 v_3_176 := zu_lt q_6_199 z_3_177 p_n (by decide)
        have z_6_201 : zi 1 4 n := zd_lt q_6_199 z_3_177 p_n (by decide)
        refine lv_aload_n hx hb ddX7_find_9 rfl (lv_at hl 1 rfl) ?_
        refine lv_iload hx hb ddX7_find_10 (lv_at hl 0 rfl) ?_
        refine cg_lald hC hO 0 (by decide) a0 (zi_in z_6_200 (by decide)) ddX7_find_12 ?_
        refine lv_topl (fun w_12_202 _ => ?_)
        refine lv_lload_n hx hb ddX7_find_13 rfl (lv_at hl 3 rfl) ?_
        refine zg_lcmp hx hb ddX7_find_14 (fun v_14_203 z_14_204 => ?_)
        refine lv_if_ne (tgt := 21) hx hb ddX7_find_15 (by decide) (fun h_15_205 => ?_) (fun h_15_205 => ?_)
        · obtain ⟨v_21_206, e_21_207, z_21_208, q_21_209⟩ := zi_inc (e := 1) (f := 4) 1 z_6_200 (by decide)
          refine lv_iinc (v := v_21_206) (lv' := [(4, .int v_21_206), (0, .ref (ad 0)), (1, .int n), (2, .long name)]) hx hb ddX7_find_21 hl (k := 0) rfl e_21_207 (by decide) rfl (fun ls hl => ?_)
          refine lv_goto (tgt := 3) hx hb ddX7_find_24 (by decide) ?_
          exact ih_3_196 v_21_206 (zi_w (c := 0) (d := 4) z_21_208 (by decide)) (zm_up q_21_209 ((zi_w (c := 0) (d := 4) z_21_208 (by decide))).2 (by decide) mu_3_195) _ _ hO ls (lv_sub hl [0, 1, 2, 3] rfl)
        · have q_15_210 := zr_eq h_15_205
          have z_15_211 : zi 0 0 v_14_203 := ze_eq q_15_210 z_14_204 (zi_k (a := 0) (b := 0) (x := 0) rfl)
          refine lv_iload hx hb ddX7_find_18 (lv_at hl 0 rfl) ?_
          exact cg_iret (nw := fun _ => 0) hC hr hlk hO.same rfl (Nat.le_of_ble_eq_true rfl) (Nat.le_of_ble_eq_true rfl) (⟨(zi_w (c := (-1)) (d := 3) z_6_200 (by decide)), rfl⟩) ddX7_find_20
  exact loop_3_193 ((4 + 1 - (0 : Int32).toInt).toNat + 1) 0 (zi_k (a := 0) (b := 4) (x := 0) rfl) (Nat.lt_succ_self _) _ _ hO ls (lv_sub hl [0, 1, 2, 3] rfl)

def wq_k_X7_find_12 : List Cond := Cond.code yX7_find cX7_find 5 (some .int) :: (([] : List Cond))
set_option maxHeartbeats 8000000 in
set_option maxRecDepth 100000 in
theorem k_X7_find_12 (l : Launch) (D : va_G) (cy : Nat → ClassId) (ad : Nat → Nat) (g : Nat → va_E) {c0 : Nat → Int64} {n : Int32} {name : Int64} (a0 : g 0 = .inl (cy 1, 12, .inr (.inl c0))) (p_n : zi 0 12 n) : cMi l yX7_find wq_k_X7_find_12 { frames := 0, cells := 0, slots := 0, locals := 0 } 1 0 0 0 D cy ad g [.ref (ad 0), .int n, .long name] (fun r nw lu => (zi (-1) 11 r) ∧ (lu = [])) := by
  refine cM_of (Qc := fun A => cQi (fun r nw lu => (zi (-1) 11 r) ∧ (lu = [])) D 1 0 ad g A) (cc := cX7_find) (maxL := 5) (ret := (some .int)) (by decide) rfl (Nat.le_of_ble_eq_true rfl) ?_
  intro p e s m below meth c A hC hr hlk hnm hO ls hl
  have hC : CallFix p m c cX7_find 5 s [.ref (ad 0), .int n, .long name].toArray wq_k_X7_find_12 RX7 := hC
  obtain ⟨hx, hb, hml, hown, hts⟩ := id hC
  have hl : lv_has ls 5 [(0, .ref (ad 0)), (1, .int n), (2, .long name)] := hl
  refine lv_iconst (v := 0) hx hb ddX7_find_0 (by decide) ?_
  refine lv_istore (lv' := [(4, .int 0), (0, .ref (ad 0)), (1, .int n), (2, .long name)]) hx hb ddX7_find_1 hl (by decide) rfl (fun ls hl => ?_)
  have loop_3_193 : ∀ (d_3_194 : Nat) (v_3_176 : Int32), zi 0 12 v_3_176 → (12 + 1 - v_3_176.toInt).toNat < d_3_194 → ∀ (H : Heap) (locs : List Loc), cO D cy A s.heap s 1 ad (cup [] g) H locs → ∀ ls : Array Slot, lv_has ls 5 [(4, .int v_3_176), (0, .ref (ad 0)), (1, .int n), (2, .long name)] → W p l e { frames := 0, cells := 0, slots := 0, locals := 0 } s m [.ref (ad 0), .int n, .long name].toArray below meth c H locs 0 0 (MQ below (cQi (fun r nw lu => (zi (-1) 11 r) ∧ (lu = [])) D 1 0 ad g A) [.ref (ad 0), .int n, .long name].toArray s 0 0 A) (F0 m 3 ls [])  := by
    intro d_3_194
    induction d_3_194 with
    | zero => intro v_3_176 z_3_177 mu_3_195; exact absurd mu_3_195 (Nat.not_lt_zero _)
    | succ d_3_194 ih_3_196 =>
      intro v_3_176 z_3_177 mu_3_195 H locs hO ls hl
      refine lv_iload hx hb ddX7_find_3 (lv_at hl 0 rfl) ?_
      refine lv_iload_n hx hb ddX7_find_5 rfl (lv_at hl 2 rfl) ?_
      refine lv_icmp_ge (tgt := 27) hx hb ddX7_find_6 (by decide) (fun h_6_197 => ?_) (fun h_6_197 => ?_)
      · have q_6_198 := zr_le h_6_197
        refine lv_iconst (v := (-1)) hx hb ddX7_find_27 (by decide) ?_
        exact cg_iret (nw := fun _ => 0) hC hr hlk hO.same rfl (Nat.le_of_ble_eq_true rfl) (Nat.le_of_ble_eq_true rfl) (⟨(zi_k (a := (-1)) (b := 11) (x := (-1)) rfl), rfl⟩) ddX7_find_28
      · have q_6_199 := zr_nle h_6_197
        have z_6_200 : zi 0 11 v_3_176 := zu_lt q_6_199 z_3_177 p_n (by decide)
        have z_6_201 : zi 1 12 n := zd_lt q_6_199 z_3_177 p_n (by decide)
        refine lv_aload_n hx hb ddX7_find_9 rfl (lv_at hl 1 rfl) ?_
        refine lv_iload hx hb ddX7_find_10 (lv_at hl 0 rfl) ?_
        refine cg_lald hC hO 0 (by decide) a0 (zi_in z_6_200 (by decide)) ddX7_find_12 ?_
        refine lv_topl (fun w_12_202 _ => ?_)
        refine lv_lload_n hx hb ddX7_find_13 rfl (lv_at hl 3 rfl) ?_
        refine zg_lcmp hx hb ddX7_find_14 (fun v_14_203 z_14_204 => ?_)
        refine lv_if_ne (tgt := 21) hx hb ddX7_find_15 (by decide) (fun h_15_205 => ?_) (fun h_15_205 => ?_)
        · obtain ⟨v_21_206, e_21_207, z_21_208, q_21_209⟩ := zi_inc (e := 1) (f := 12) 1 z_6_200 (by decide)
          refine lv_iinc (v := v_21_206) (lv' := [(4, .int v_21_206), (0, .ref (ad 0)), (1, .int n), (2, .long name)]) hx hb ddX7_find_21 hl (k := 0) rfl e_21_207 (by decide) rfl (fun ls hl => ?_)
          refine lv_goto (tgt := 3) hx hb ddX7_find_24 (by decide) ?_
          exact ih_3_196 v_21_206 (zi_w (c := 0) (d := 12) z_21_208 (by decide)) (zm_up q_21_209 ((zi_w (c := 0) (d := 12) z_21_208 (by decide))).2 (by decide) mu_3_195) _ _ hO ls (lv_sub hl [0, 1, 2, 3] rfl)
        · have q_15_210 := zr_eq h_15_205
          have z_15_211 : zi 0 0 v_14_203 := ze_eq q_15_210 z_14_204 (zi_k (a := 0) (b := 0) (x := 0) rfl)
          refine lv_iload hx hb ddX7_find_18 (lv_at hl 0 rfl) ?_
          exact cg_iret (nw := fun _ => 0) hC hr hlk hO.same rfl (Nat.le_of_ble_eq_true rfl) (Nat.le_of_ble_eq_true rfl) (⟨(zi_w (c := (-1)) (d := 11) z_6_200 (by decide)), rfl⟩) ddX7_find_20
  exact loop_3_193 ((12 + 1 - (0 : Int32).toInt).toNat + 1) 0 (zi_k (a := 0) (b := 12) (x := 0) rfl) (Nat.lt_succ_self _) _ _ hO ls (lv_sub hl [0, 1, 2, 3] rfl)

