def wq_k_is_1 : List Cond := Cond.code yX6_is cX6_is 3 (some .boolean) :: (([Cond.fieldLink RX6 47 "CrowToll$Reader" "kind" "I", Cond.fieldLink RX6 218 "CrowToll$Reader" "size" "I", Cond.methodLink RX6 221 yJ0_length_8abf5, Cond.instanceMethod yJ0_length_8abf5, Cond.selects RJ0 yJ0_length_8abf5 yJ0_length_8abf5, Cond.initialized RJ0, Cond.code yJ0_length_8abf5 cJ0_length_8abf5 1 (some .int), Cond.fieldLink RJ0 9 "java/lang/String" "value" "[B", Cond.methodLink RJ0 335 yJ0_coder_7d493, Cond.instanceMethod yJ0_coder_7d493, Cond.selects RJ0 yJ0_coder_7d493 yJ0_coder_7d493, Cond.code yJ0_coder_7d493 cJ0_coder_7d493 1 (some .byte), Cond.fieldLink RJ0 38 "java/lang/String" "COMPACT_STRINGS" "Z", Cond.fieldLink RJ0 15 "java/lang/String" "coder" "B", Cond.fieldLink RX6 22 "CrowToll$Reader" "text" "[I", Cond.fieldLink RX6 212 "CrowToll$Reader" "place" "I", Cond.methodLink RX6 226 yJ0_charAt_5068e, Cond.instanceMethod yJ0_charAt_5068e, Cond.selects RJ0 yJ0_charAt_5068e yJ0_charAt_5068e, Cond.code yJ0_charAt_5068e cJ0_charAt_5068e 2 (some .char), Cond.methodLink RJ0 492 yJ0_isLatin1_aae02, Cond.instanceMethod yJ0_isLatin1_aae02, Cond.selects RJ0 yJ0_isLatin1_aae02 yJ0_isLatin1_aae02, Cond.code yJ0_isLatin1_aae02 cJ0_isLatin1_aae02 1 (some .boolean), Cond.methodLink RJ0 495 yJ1_charAt_3b067, Cond.static yJ1_charAt_3b067, Cond.initialized RJ1, Cond.code yJ1_charAt_3b067 cJ1_charAt_3b067 2 (some .char), Cond.methodLink RJ1 9 yJ0_checkIndex_df160, Cond.static yJ0_checkIndex_df160, Cond.code yJ0_checkIndex_df160 cJ0_checkIndex_df160 2 none, Cond.fieldLink RJ0 1053 "jdk/internal/util/Preconditions" "SIOOBE_FORMATTER" "Ljava/util/function/BiFunction;", Cond.methodLink RJ0 1059 yJ3_checkIndex_8e157, Cond.static yJ3_checkIndex_8e157, Cond.initialized RJ3, Cond.code yJ3_checkIndex_8e157 cJ3_checkIndex_8e157 3 (some .int)] : List Cond) ++ wsX60)
set_option maxRecDepth 20000 in
theorem gr_k_is_1_k_length_1 : GoodIn wq_k_is_1 wq_k_length_1 := List.forall_mem_cons.mpr ⟨⟨(List.mem_of_getElem? (i := 7) rfl), good_of_word rfl⟩, List.forall_mem_cons.mpr ⟨⟨(List.mem_of_getElem? (i := 8) rfl), good_of_word rfl⟩, List.forall_mem_cons.mpr ⟨⟨(List.mem_of_getElem? (i := 9) rfl), good_of_word rfl⟩, List.forall_mem_cons.mpr ⟨⟨(List.mem_of_getElem? (i := 10) rfl), good_of_word rfl⟩, List.forall_mem_cons.mpr ⟨⟨(List.mem_of_getElem? (i := 11) rfl), good_of_word rfl⟩, List.forall_mem_cons.mpr ⟨⟨(List.mem_of_getElem? (i := 6) rfl), good_of_word rfl⟩, List.forall_mem_cons.mpr ⟨⟨(List.mem_of_getElem? (i := 12) rfl), good_of_word rfl⟩, List.forall_mem_cons.mpr ⟨⟨(List.mem_of_getElem? (i := 13) rfl), good_of_word rfl⟩, List.forall_mem_cons.mpr ⟨⟨(List.mem_of_getElem? (i := 14) rfl), good_of_word rfl⟩, (fun _ h => absurd h List.not_mem_nil)⟩⟩⟩⟩⟩⟩⟩⟩⟩
set_option maxRecDepth 20000 in
theorem gq_k_is_1_k_length_1_221 : GoodIn wq_k_is_1 (wsV RX6 221 RJ0 yJ0_length_8abf5 wq_k_length_1) := goodIn_app (List.forall_mem_cons.mpr ⟨⟨(List.mem_of_getElem? (i := 3) rfl), good_of_word rfl⟩, List.forall_mem_cons.mpr ⟨⟨(List.mem_of_getElem? (i := 4) rfl), good_of_word rfl⟩, List.forall_mem_cons.mpr ⟨⟨(List.mem_of_getElem? (i := 5) rfl), good_of_word rfl⟩, List.forall_mem_cons.mpr ⟨⟨(List.mem_of_getElem? (i := 6) rfl), good_of_word rfl⟩, (fun _ h => absurd h List.not_mem_nil)⟩⟩⟩⟩) gr_k_is_1_k_length_1
set_option maxRecDepth 20000 in
theorem gr_k_is_1_k_charAt_1 : GoodIn wq_k_is_1 wq_k_charAt_1 := List.forall_mem_cons.mpr ⟨⟨(List.mem_of_getElem? (i := 20) rfl), good_of_word rfl⟩, List.forall_mem_cons.mpr ⟨⟨(List.mem_of_getElem? (i := 21) rfl), good_of_word rfl⟩, List.forall_mem_cons.mpr ⟨⟨(List.mem_of_getElem? (i := 22) rfl), good_of_word rfl⟩, List.forall_mem_cons.mpr ⟨⟨(List.mem_of_getElem? (i := 23) rfl), good_of_word rfl⟩, List.forall_mem_cons.mpr ⟨⟨(List.mem_of_getElem? (i := 6) rfl), good_of_word rfl⟩, List.forall_mem_cons.mpr ⟨⟨(List.mem_of_getElem? (i := 24) rfl), good_of_word rfl⟩, List.forall_mem_cons.mpr ⟨⟨(List.mem_of_getElem? (i := 13) rfl), good_of_word rfl⟩, List.forall_mem_cons.mpr ⟨⟨(List.mem_of_getElem? (i := 14) rfl), good_of_word rfl⟩, List.forall_mem_cons.mpr ⟨⟨(List.mem_of_getElem? (i := 8) rfl), good_of_word rfl⟩, List.forall_mem_cons.mpr ⟨⟨(List.mem_of_getElem? (i := 25) rfl), good_of_word rfl⟩, List.forall_mem_cons.mpr ⟨⟨(List.mem_of_getElem? (i := 26) rfl), good_of_word rfl⟩, List.forall_mem_cons.mpr ⟨⟨(List.mem_of_getElem? (i := 27) rfl), good_of_word rfl⟩, List.forall_mem_cons.mpr ⟨⟨(List.mem_of_getElem? (i := 28) rfl), good_of_word rfl⟩, List.forall_mem_cons.mpr ⟨⟨(List.mem_of_getElem? (i := 29) rfl), good_of_word rfl⟩, List.forall_mem_cons.mpr ⟨⟨(List.mem_of_getElem? (i := 30) rfl), good_of_word rfl⟩, List.forall_mem_cons.mpr ⟨⟨(List.mem_of_getElem? (i := 31) rfl), good_of_word rfl⟩, List.forall_mem_cons.mpr ⟨⟨(List.mem_of_getElem? (i := 32) rfl), good_of_word rfl⟩, List.forall_mem_cons.mpr ⟨⟨(List.mem_of_getElem? (i := 33) rfl), good_of_word rfl⟩, List.forall_mem_cons.mpr ⟨⟨(List.mem_of_getElem? (i := 34) rfl), good_of_word rfl⟩, List.forall_mem_cons.mpr ⟨⟨(List.mem_of_getElem? (i := 35) rfl), good_of_word rfl⟩, List.forall_mem_cons.mpr ⟨⟨(List.mem_of_getElem? (i := 36) rfl), good_of_word rfl⟩, (fun _ h => absurd h List.not_mem_nil)⟩⟩⟩⟩⟩⟩⟩⟩⟩⟩⟩⟩⟩⟩⟩⟩⟩⟩⟩⟩⟩
set_option maxRecDepth 20000 in
theorem gq_k_is_1_k_charAt_1_226 : GoodIn wq_k_is_1 (wsV RX6 226 RJ0 yJ0_charAt_5068e wq_k_charAt_1) := goodIn_app (List.forall_mem_cons.mpr ⟨⟨(List.mem_of_getElem? (i := 17) rfl), good_of_word rfl⟩, List.forall_mem_cons.mpr ⟨⟨(List.mem_of_getElem? (i := 18) rfl), good_of_word rfl⟩, List.forall_mem_cons.mpr ⟨⟨(List.mem_of_getElem? (i := 19) rfl), good_of_word rfl⟩, List.forall_mem_cons.mpr ⟨⟨(List.mem_of_getElem? (i := 6) rfl), good_of_word rfl⟩, (fun _ h => absurd h List.not_mem_nil)⟩⟩⟩⟩) gr_k_is_1_k_charAt_1
set_option maxHeartbeats 8000000 in
set_option maxRecDepth 100000 in
theorem k_is_1 (l : Launch) (D : va_G) (cy : Nat → ClassId) (ad : Nat → Nat) (g : Nat → va_E) {u0_0 : Value} {u0_1 : Value} {u0_2 : Value} {u0_4 : Value} {u0_5 : Value} {x0_6 : Int32} {x0_7 : Int32} {x0_8 : Int32} {u0_9 : Value} {u0_10 : Value} {u0_11 : Value} {c1 : Nat → Int32} (o0 : g 0 = .inr (6, [u0_0, u0_1, u0_2, .ref (ad 1), u0_4, u0_5, .int x0_6, .int x0_7, .int x0_8, u0_9, u0_10, u0_11])) (a1 : g 1 = .inl (cy 0, 1600, .inl c1)) (b0_7 : zi 0 1600 x0_7) (hw0 : ((x0_6 : Int32) = 1 → (x0_7 : Int32).toInt + (x0_8 : Int32).toInt ≤ 1600)) : cMi l yX6_is wq_k_is_1 { frames := 4, cells := 0, slots := 0, locals := 85 } 2 0 0 0 D cy ad g [.ref (ad 0), .ref (cy (100 + 1))] (fun r nw lu => (zi 0 1 r) ∧ (lu = [])) := by
  refine cM_of (Qc := fun A => cQi (fun r nw lu => (zi 0 1 r) ∧ (lu = [])) D 2 0 ad g A) (cc := cX6_is) (maxL := 3) (ret := (some .boolean)) (by decide) rfl (Nat.le_of_ble_eq_true rfl) ?_
  intro p e s m below meth c A hC hr hlk hnm hO ls hl
  have hC : CallFix p m c cX6_is 3 s [.ref (ad 0), .ref (cy (100 + 1))].toArray wq_k_is_1 RX6 := hC
  obtain ⟨hx, hb, hml, hown, hts⟩ := id hC
  have hl : lv_has ls 3 [(0, .ref (ad 0)), (1, .ref (cy (100 + 1)))] := hl
  have i_X6 : ∀ w ∈ wsX60, w ∈ wq_k_is_1 := fun w h => List.mem_cons_of_mem _ (List.mem_append_right _ h)
  refine lv_aload_n hx hb ddX6_is_0 rfl (lv_at hl 0 rfl) ?_
  refine cg_get hC hO 0 (by decide) o0 rfl i_X6 6 (by decide) (List.mem_of_getElem? (i := 1) rfl) rfl ddX6_is_1 ?_
  refine lv_iconst (v := 1) hx hb ddX6_is_4 (by decide) ?_
  refine lv_icmp_ne (tgt := 19) hx hb ddX6_is_5 (by decide) (fun h_5_139 => ?_) (fun h_5_139 => ?_)
  · refine lv_iconst (v := 0) hx hb ddX6_is_19 (by decide) ?_
    exact cg_iret (nw := fun _ => 0) hC hr hlk hO.same rfl (Nat.le_of_ble_eq_true rfl) (Nat.le_of_ble_eq_true rfl) (⟨(zi_k (a := 0) (b := 1) (x := 0) rfl), rfl⟩) ddX6_is_20
  · have q_5_140 := zr_eq h_5_139
    have z_5_141 : zi 1 1 x0_6 := ze_eq q_5_140 (zi_all x0_6) (zi_k (a := 1) (b := 1) (x := 1) rfl)
    refine lv_aload_n hx hb ddX6_is_8 rfl (lv_at hl 0 rfl) ?_
    refine cg_get hC hO 0 (by decide) o0 rfl i_X6 8 (by decide) (List.mem_of_getElem? (i := 2) rfl) rfl ddX6_is_9 ?_
    refine lv_aload_n hx hb ddX6_is_12 rfl (lv_at hl 1 rfl) ?_
    refine sg_Vi (As := []) (rest := [.int x0_8]) (mc := 0) (ms := 0) (rm := { frames := 1, cells := 0, slots := 0, locals := 20 }) hC hl.1 hO [] (by decide +kernel) 1 (by decide) (k_length_1 l D cy _ _  ) gq_k_is_1_k_length_1_221 rfl rfl rfl 0 (by decide +kernel) ⟨Nat.le_of_ble_eq_true rfl, Nat.le_of_ble_eq_true rfl⟩ rfl rfl (Nat.le_of_ble_eq_true rfl) ddX6_is_13 ⟨Nat.le_of_ble_eq_true rfl, Nat.le_of_ble_eq_true rfl⟩ (fun r_13_144 nw_13_142 l_13_143 H locs hw hO => ?_)
    obtain ⟨rfl, rfl⟩ := hw
    have hO : cO D cy A s.heap s 2 ad (cup [] g) _ _ := hO
    refine lv_icmp_eq (tgt := 21) hx hb ddX6_is_16 (by decide) (fun h_16_145 => ?_) (fun h_16_145 => ?_)
    · have q_16_146 := zr_eq h_16_145
      have z_16_147 : zi 4 4 x0_8 := ze_eq q_16_146 (zi_all x0_8) (zi_k (a := 4) (b := 4) (x := 4) rfl)
      refine lv_iconst (v := 0) hx hb ddX6_is_21 (by decide) ?_
      refine lv_istore_n (lv' := [(2, .int 0), (0, .ref (ad 0)), (1, .ref (cy (100 + 1)))]) hx hb ddX6_is_22 rfl hl (by decide) rfl (fun ls hl => ?_)
      have loop_23_277 : ∀ (d_23_278 : Nat) (v_23_253 : Int32), zi 0 4 v_23_253 → (4 + 1 - v_23_253.toInt).toNat < d_23_278 → ∀ (H : Heap) (locs : List Loc), cO D cy A s.heap s 2 ad (cup [] g) H locs → ∀ ls : Array Slot, lv_has ls 3 [(2, .int v_23_253), (0, .ref (ad 0)), (1, .ref (cy (100 + 1)))] → W p l e { frames := 4, cells := 0, slots := 0, locals := 85 } s m [.ref (ad 0), .ref (cy (100 + 1))].toArray below meth c H locs 0 0 (MQ below (cQi (fun r nw lu => (zi 0 1 r) ∧ (lu = [])) D 2 0 ad g A) [.ref (ad 0), .ref (cy (100 + 1))].toArray s 0 0 A) (F0 m 23 ls [])  := by
        intro d_23_278
        induction d_23_278 with
        | zero => intro v_23_253 z_23_254 mu_23_279; exact absurd mu_23_279 (Nat.not_lt_zero _)
        | succ d_23_278 ih_23_280 =>
          intro v_23_253 z_23_254 mu_23_279 H locs hO ls hl
          refine lv_iload_n hx hb ddX6_is_23 rfl (lv_at hl 0 rfl) ?_
          refine lv_aload_n hx hb ddX6_is_24 rfl (lv_at hl 1 rfl) ?_
          refine cg_get hC hO 0 (by decide) o0 rfl i_X6 8 (by decide) (List.mem_of_getElem? (i := 2) rfl) rfl ddX6_is_25 ?_
          refine lv_icmp_ge (tgt := 58) hx hb ddX6_is_28 (by decide) (fun h_28_281 => ?_) (fun h_28_281 => ?_)
          · have q_28_282 := zr_le h_28_281
            have z_28_283 : zi 4 4 v_23_253 := zd_le q_28_282 z_16_147 z_23_254 (by decide)
            refine lv_iconst (v := 1) hx hb ddX6_is_58 (by decide) ?_
            exact cg_iret (nw := fun _ => 0) hC hr hlk hO.same rfl (Nat.le_of_ble_eq_true rfl) (Nat.le_of_ble_eq_true rfl) (⟨(zi_k (a := 0) (b := 1) (x := 1) rfl), rfl⟩) ddX6_is_59
          · have q_28_284 := zr_nle h_28_281
            have z_28_285 : zi 0 3 v_23_253 := zu_lt q_28_284 z_23_254 z_16_147 (by decide)
            refine lv_aload_n hx hb ddX6_is_31 rfl (lv_at hl 1 rfl) ?_
            refine cg_get hC hO 0 (by decide) o0 rfl i_X6 3 (by decide) (List.mem_of_getElem? (i := 15) rfl) rfl ddX6_is_32 ?_
            refine lv_aload_n hx hb ddX6_is_35 rfl (lv_at hl 1 rfl) ?_
            refine cg_get hC hO 0 (by decide) o0 rfl i_X6 7 (by decide) (List.mem_of_getElem? (i := 16) rfl) rfl ddX6_is_36 ?_
            refine lv_iload_n hx hb ddX6_is_39 rfl (lv_at hl 0 rfl) ?_
            have z_40_286 : zi 0 1596 x0_7 := ⟨b0_7.1, by have q1 := hw0 h_5_139; have q2 := z_16_147; omega⟩
            refine lv_iadd hx hb ddX6_is_40 ?_
            refine zg_top2 (P := fun v => zi 0 1599 v) (E := fun v => v.toInt = (x0_7 : Int32).toInt + (v_23_253 : Int32).toInt) (zi_add z_40_286 z_28_285 (by decide)) (fun v_40_287 z_40_288 q_40_289 => ?_)
            refine zg_iald hC hO 1 (by decide) a1 (za_all _) (zi_in z_40_288 (by decide)) ddX6_is_41 (fun v_41_290 z_41_291 => ?_)
            refine lv_aload_n hx hb ddX6_is_42 rfl (lv_at hl 2 rfl) ?_
            refine lv_iload_n hx hb ddX6_is_43 rfl (lv_at hl 0 rfl) ?_
            refine sg_Vi (As := [.int v_23_253]) (rest := [.int v_41_290]) (mc := 0) (ms := 0) (rm := { frames := 3, cells := 0, slots := 0, locals := 64 }) hC hl.1 hO [] (by decide +kernel) 1 (by decide) (k_charAt_1 l D cy _ _ (n := v_23_253) z_28_285) gq_k_is_1_k_charAt_1_226 rfl rfl rfl 1 (by decide +kernel) ⟨Nat.le_of_ble_eq_true rfl, Nat.le_of_ble_eq_true rfl⟩ rfl rfl (Nat.le_of_ble_eq_true rfl) ddX6_is_44 ⟨Nat.le_of_ble_eq_true rfl, Nat.le_of_ble_eq_true rfl⟩ (fun r_44_294 nw_44_292 l_44_293 H locs hw hO => ?_)
            obtain ⟨z_44_295, rfl⟩ := hw
            have hO : cO D cy A s.heap s 2 ad (cup [] g) _ _ := hO
            refine lv_icmp_eq (tgt := 52) hx hb ddX6_is_47 (by decide) (fun h_47_296 => ?_) (fun h_47_296 => ?_)
            · have q_47_297 := zr_eq h_47_296
              have z_47_298 : zi 0 65535 v_41_290 := ze_eq q_47_297 z_41_291 z_44_295
              obtain ⟨v_52_299, e_52_300, z_52_301, q_52_302⟩ := zi_inc (e := 1) (f := 4) 1 z_28_285 (by decide)
              refine lv_iinc (v := v_52_299) (lv' := [(2, .int v_52_299), (0, .ref (ad 0)), (1, .ref (cy (100 + 1)))]) hx hb ddX6_is_52 hl (k := 0) rfl e_52_300 (by decide) rfl (fun ls hl => ?_)
              refine lv_goto (tgt := 23) hx hb ddX6_is_55 (by decide) ?_
              exact ih_23_280 v_52_299 (zi_w (c := 0) (d := 4) z_52_301 (by decide)) (zm_up q_52_302 ((zi_w (c := 0) (d := 4) z_52_301 (by decide))).2 (by decide) mu_23_279) _ _ hO ls (lv_sub hl [0, 1, 2] rfl)
            · refine lv_iconst (v := 0) hx hb ddX6_is_50 (by decide) ?_
              exact cg_iret (nw := fun _ => 0) hC hr hlk hO.same rfl (Nat.le_of_ble_eq_true rfl) (Nat.le_of_ble_eq_true rfl) (⟨(zi_k (a := 0) (b := 1) (x := 0) rfl), rfl⟩) ddX6_is_51
      exact loop_23_277 ((4 + 1 - (0 : Int32).toInt).toNat + 1) 0 (zi_k (a := 0) (b := 4) (x := 0) rfl) (Nat.lt_succ_self _) _ _ hO ls (lv_sub hl [0, 1, 2] rfl)
    · refine lv_iconst (v := 0) hx hb ddX6_is_19 (by decide) ?_
      exact cg_iret (nw := fun _ => 0) hC hr hlk hO.same rfl (Nat.le_of_ble_eq_true rfl) (Nat.le_of_ble_eq_true rfl) (⟨(zi_k (a := 0) (b := 1) (x := 0) rfl), rfl⟩) ddX6_is_20

def wq_k_is_2 : List Cond := Cond.code yX6_is cX6_is 3 (some .boolean) :: (([Cond.fieldLink RX6 47 "CrowToll$Reader" "kind" "I", Cond.fieldLink RX6 218 "CrowToll$Reader" "size" "I", Cond.methodLink RX6 221 yJ0_length_8abf5, Cond.instanceMethod yJ0_length_8abf5, Cond.selects RJ0 yJ0_length_8abf5 yJ0_length_8abf5, Cond.initialized RJ0, Cond.code yJ0_length_8abf5 cJ0_length_8abf5 1 (some .int), Cond.fieldLink RJ0 9 "java/lang/String" "value" "[B", Cond.methodLink RJ0 335 yJ0_coder_7d493, Cond.instanceMethod yJ0_coder_7d493, Cond.selects RJ0 yJ0_coder_7d493 yJ0_coder_7d493, Cond.code yJ0_coder_7d493 cJ0_coder_7d493 1 (some .byte), Cond.fieldLink RJ0 38 "java/lang/String" "COMPACT_STRINGS" "Z", Cond.fieldLink RJ0 15 "java/lang/String" "coder" "B", Cond.fieldLink RX6 22 "CrowToll$Reader" "text" "[I", Cond.fieldLink RX6 212 "CrowToll$Reader" "place" "I", Cond.methodLink RX6 226 yJ0_charAt_5068e, Cond.instanceMethod yJ0_charAt_5068e, Cond.selects RJ0 yJ0_charAt_5068e yJ0_charAt_5068e, Cond.code yJ0_charAt_5068e cJ0_charAt_5068e 2 (some .char), Cond.methodLink RJ0 492 yJ0_isLatin1_aae02, Cond.instanceMethod yJ0_isLatin1_aae02, Cond.selects RJ0 yJ0_isLatin1_aae02 yJ0_isLatin1_aae02, Cond.code yJ0_isLatin1_aae02 cJ0_isLatin1_aae02 1 (some .boolean), Cond.methodLink RJ0 495 yJ1_charAt_3b067, Cond.static yJ1_charAt_3b067, Cond.initialized RJ1, Cond.code yJ1_charAt_3b067 cJ1_charAt_3b067 2 (some .char), Cond.methodLink RJ1 9 yJ0_checkIndex_df160, Cond.static yJ0_checkIndex_df160, Cond.code yJ0_checkIndex_df160 cJ0_checkIndex_df160 2 none, Cond.fieldLink RJ0 1053 "jdk/internal/util/Preconditions" "SIOOBE_FORMATTER" "Ljava/util/function/BiFunction;", Cond.methodLink RJ0 1059 yJ3_checkIndex_8e157, Cond.static yJ3_checkIndex_8e157, Cond.initialized RJ3, Cond.code yJ3_checkIndex_8e157 cJ3_checkIndex_8e157 3 (some .int)] : List Cond) ++ wsX60)
set_option maxRecDepth 20000 in
theorem gr_k_is_2_k_length_2 : GoodIn wq_k_is_2 wq_k_length_2 := List.forall_mem_cons.mpr ⟨⟨(List.mem_of_getElem? (i := 7) rfl), good_of_word rfl⟩, List.forall_mem_cons.mpr ⟨⟨(List.mem_of_getElem? (i := 8) rfl), good_of_word rfl⟩, List.forall_mem_cons.mpr ⟨⟨(List.mem_of_getElem? (i := 9) rfl), good_of_word rfl⟩, List.forall_mem_cons.mpr ⟨⟨(List.mem_of_getElem? (i := 10) rfl), good_of_word rfl⟩, List.forall_mem_cons.mpr ⟨⟨(List.mem_of_getElem? (i := 11) rfl), good_of_word rfl⟩, List.forall_mem_cons.mpr ⟨⟨(List.mem_of_getElem? (i := 6) rfl), good_of_word rfl⟩, List.forall_mem_cons.mpr ⟨⟨(List.mem_of_getElem? (i := 12) rfl), good_of_word rfl⟩, List.forall_mem_cons.mpr ⟨⟨(List.mem_of_getElem? (i := 13) rfl), good_of_word rfl⟩, List.forall_mem_cons.mpr ⟨⟨(List.mem_of_getElem? (i := 14) rfl), good_of_word rfl⟩, (fun _ h => absurd h List.not_mem_nil)⟩⟩⟩⟩⟩⟩⟩⟩⟩
set_option maxRecDepth 20000 in
theorem gq_k_is_2_k_length_2_221 : GoodIn wq_k_is_2 (wsV RX6 221 RJ0 yJ0_length_8abf5 wq_k_length_2) := goodIn_app (List.forall_mem_cons.mpr ⟨⟨(List.mem_of_getElem? (i := 3) rfl), good_of_word rfl⟩, List.forall_mem_cons.mpr ⟨⟨(List.mem_of_getElem? (i := 4) rfl), good_of_word rfl⟩, List.forall_mem_cons.mpr ⟨⟨(List.mem_of_getElem? (i := 5) rfl), good_of_word rfl⟩, List.forall_mem_cons.mpr ⟨⟨(List.mem_of_getElem? (i := 6) rfl), good_of_word rfl⟩, (fun _ h => absurd h List.not_mem_nil)⟩⟩⟩⟩) gr_k_is_2_k_length_2
set_option maxRecDepth 20000 in
theorem gr_k_is_2_k_charAt_2 : GoodIn wq_k_is_2 wq_k_charAt_2 := List.forall_mem_cons.mpr ⟨⟨(List.mem_of_getElem? (i := 20) rfl), good_of_word rfl⟩, List.forall_mem_cons.mpr ⟨⟨(List.mem_of_getElem? (i := 21) rfl), good_of_word rfl⟩, List.forall_mem_cons.mpr ⟨⟨(List.mem_of_getElem? (i := 22) rfl), good_of_word rfl⟩, List.forall_mem_cons.mpr ⟨⟨(List.mem_of_getElem? (i := 23) rfl), good_of_word rfl⟩, List.forall_mem_cons.mpr ⟨⟨(List.mem_of_getElem? (i := 6) rfl), good_of_word rfl⟩, List.forall_mem_cons.mpr ⟨⟨(List.mem_of_getElem? (i := 24) rfl), good_of_word rfl⟩, List.forall_mem_cons.mpr ⟨⟨(List.mem_of_getElem? (i := 13) rfl), good_of_word rfl⟩, List.forall_mem_cons.mpr ⟨⟨(List.mem_of_getElem? (i := 14) rfl), good_of_word rfl⟩, List.forall_mem_cons.mpr ⟨⟨(List.mem_of_getElem? (i := 8) rfl), good_of_word rfl⟩, List.forall_mem_cons.mpr ⟨⟨(List.mem_of_getElem? (i := 25) rfl), good_of_word rfl⟩, List.forall_mem_cons.mpr ⟨⟨(List.mem_of_getElem? (i := 26) rfl), good_of_word rfl⟩, List.forall_mem_cons.mpr ⟨⟨(List.mem_of_getElem? (i := 27) rfl), good_of_word rfl⟩, List.forall_mem_cons.mpr ⟨⟨(List.mem_of_getElem? (i := 28) rfl), good_of_word rfl⟩, List.forall_mem_cons.mpr ⟨⟨(List.mem_of_getElem? (i := 29) rfl), good_of_word rfl⟩, List.forall_mem_cons.mpr ⟨⟨(List.mem_of_getElem? (i := 30) rfl), good_of_word rfl⟩, List.forall_mem_cons.mpr ⟨⟨(List.mem_of_getElem? (i := 31) rfl), good_of_word rfl⟩, List.forall_mem_cons.mpr ⟨⟨(List.mem_of_getElem? (i := 32) rfl), good_of_word rfl⟩, List.forall_mem_cons.mpr ⟨⟨(List.mem_of_getElem? (i := 33) rfl), good_of_word rfl⟩, List.forall_mem_cons.mpr ⟨⟨(List.mem_of_getElem? (i := 34) rfl), good_of_word rfl⟩, List.forall_mem_cons.mpr ⟨⟨(List.mem_of_getElem? (i := 35) rfl), good_of_word rfl⟩, List.forall_mem_cons.mpr ⟨⟨(List.mem_of_getElem? (i := 36) rfl), good_of_word rfl⟩, (fun _ h => absurd h List.not_mem_nil)⟩⟩⟩⟩⟩⟩⟩⟩⟩⟩⟩⟩⟩⟩⟩⟩⟩⟩⟩⟩⟩
set_option maxRecDepth 20000 in
theorem gq_k_is_2_k_charAt_2_226 : GoodIn wq_k_is_2 (wsV RX6 226 RJ0 yJ0_charAt_5068e wq_k_charAt_2) := goodIn_app (List.forall_mem_cons.mpr ⟨⟨(List.mem_of_getElem? (i := 17) rfl), good_of_word rfl⟩, List.forall_mem_cons.mpr ⟨⟨(List.mem_of_getElem? (i := 18) rfl), good_of_word rfl⟩, List.forall_mem_cons.mpr ⟨⟨(List.mem_of_getElem? (i := 19) rfl), good_of_word rfl⟩, List.forall_mem_cons.mpr ⟨⟨(List.mem_of_getElem? (i := 6) rfl), good_of_word rfl⟩, (fun _ h => absurd h List.not_mem_nil)⟩⟩⟩⟩) gr_k_is_2_k_charAt_2
set_option maxHeartbeats 8000000 in
set_option maxRecDepth 100000 in
theorem k_is_2 (l : Launch) (D : va_G) (cy : Nat → ClassId) (ad : Nat → Nat) (g : Nat → va_E) {u0_0 : Value} {u0_1 : Value} {u0_2 : Value} {u0_4 : Value} {u0_5 : Value} {x0_6 : Int32} {x0_7 : Int32} {x0_8 : Int32} {u0_9 : Value} {u0_10 : Value} {u0_11 : Value} {c1 : Nat → Int32} (o0 : g 0 = .inr (6, [u0_0, u0_1, u0_2, .ref (ad 1), u0_4, u0_5, .int x0_6, .int x0_7, .int x0_8, u0_9, u0_10, u0_11])) (a1 : g 1 = .inl (cy 0, 1600, .inl c1)) (b0_7 : zi 0 1600 x0_7) (hw0 : ((x0_6 : Int32) = 1 → (x0_7 : Int32).toInt + (x0_8 : Int32).toInt ≤ 1600)) : cMi l yX6_is wq_k_is_2 { frames := 4, cells := 0, slots := 0, locals := 85 } 2 0 0 0 D cy ad g [.ref (ad 0), .ref (cy (100 + 2))] (fun r nw lu => (zi 0 1 r) ∧ (lu = [])) := by
  refine cM_of (Qc := fun A => cQi (fun r nw lu => (zi 0 1 r) ∧ (lu = [])) D 2 0 ad g A) (cc := cX6_is) (maxL := 3) (ret := (some .boolean)) (by decide) rfl (Nat.le_of_ble_eq_true rfl) ?_
  intro p e s m below meth c A hC hr hlk hnm hO ls hl
  have hC : CallFix p m c cX6_is 3 s [.ref (ad 0), .ref (cy (100 + 2))].toArray wq_k_is_2 RX6 := hC
  obtain ⟨hx, hb, hml, hown, hts⟩ := id hC
  have hl : lv_has ls 3 [(0, .ref (ad 0)), (1, .ref (cy (100 + 2)))] := hl
  have i_X6 : ∀ w ∈ wsX60, w ∈ wq_k_is_2 := fun w h => List.mem_cons_of_mem _ (List.mem_append_right _ h)
  refine lv_aload_n hx hb ddX6_is_0 rfl (lv_at hl 0 rfl) ?_
  refine cg_get hC hO 0 (by decide) o0 rfl i_X6 6 (by decide) (List.mem_of_getElem? (i := 1) rfl) rfl ddX6_is_1 ?_
  refine lv_iconst (v := 1) hx hb ddX6_is_4 (by decide) ?_
  refine lv_icmp_ne (tgt := 19) hx hb ddX6_is_5 (by decide) (fun h_5_139 => ?_) (fun h_5_139 => ?_)
  · refine lv_iconst (v := 0) hx hb ddX6_is_19 (by decide) ?_
    exact cg_iret (nw := fun _ => 0) hC hr hlk hO.same rfl (Nat.le_of_ble_eq_true rfl) (Nat.le_of_ble_eq_true rfl) (⟨(zi_k (a := 0) (b := 1) (x := 0) rfl), rfl⟩) ddX6_is_20
  · have q_5_140 := zr_eq h_5_139
    have z_5_141 : zi 1 1 x0_6 := ze_eq q_5_140 (zi_all x0_6) (zi_k (a := 1) (b := 1) (x := 1) rfl)
    refine lv_aload_n hx hb ddX6_is_8 rfl (lv_at hl 0 rfl) ?_
    refine cg_get hC hO 0 (by decide) o0 rfl i_X6 8 (by decide) (List.mem_of_getElem? (i := 2) rfl) rfl ddX6_is_9 ?_
    refine lv_aload_n hx hb ddX6_is_12 rfl (lv_at hl 1 rfl) ?_
    refine sg_Vi (As := []) (rest := [.int x0_8]) (mc := 0) (ms := 0) (rm := { frames := 1, cells := 0, slots := 0, locals := 20 }) hC hl.1 hO [] (by decide +kernel) 2 (by decide) (k_length_2 l D cy _ _  ) gq_k_is_2_k_length_2_221 rfl rfl rfl 0 (by decide +kernel) ⟨Nat.le_of_ble_eq_true rfl, Nat.le_of_ble_eq_true rfl⟩ rfl rfl (Nat.le_of_ble_eq_true rfl) ddX6_is_13 ⟨Nat.le_of_ble_eq_true rfl, Nat.le_of_ble_eq_true rfl⟩ (fun r_13_144 nw_13_142 l_13_143 H locs hw hO => ?_)
    obtain ⟨rfl, rfl⟩ := hw
    have hO : cO D cy A s.heap s 2 ad (cup [] g) _ _ := hO
    refine lv_icmp_eq (tgt := 21) hx hb ddX6_is_16 (by decide) (fun h_16_145 => ?_) (fun h_16_145 => ?_)
    · have q_16_146 := zr_eq h_16_145
      have z_16_147 : zi 4 4 x0_8 := ze_eq q_16_146 (zi_all x0_8) (zi_k (a := 4) (b := 4) (x := 4) rfl)
      refine lv_iconst (v := 0) hx hb ddX6_is_21 (by decide) ?_
      refine lv_istore_n (lv' := [(2, .int 0), (0, .ref (ad 0)), (1, .ref (cy (100 + 2)))]) hx hb ddX6_is_22 rfl hl (by decide) rfl (fun ls hl => ?_)
      have loop_23_277 : ∀ (d_23_278 : Nat) (v_23_253 : Int32), zi 0 4 v_23_253 → (4 + 1 - v_23_253.toInt).toNat < d_23_278 → ∀ (H : Heap) (locs : List Loc), cO D cy A s.heap s 2 ad (cup [] g) H locs → ∀ ls : Array Slot, lv_has ls 3 [(2, .int v_23_253), (0, .ref (ad 0)), (1, .ref (cy (100 + 2)))] → W p l e { frames := 4, cells := 0, slots := 0, locals := 85 } s m [.ref (ad 0), .ref (cy (100 + 2))].toArray below meth c H locs 0 0 (MQ below (cQi (fun r nw lu => (zi 0 1 r) ∧ (lu = [])) D 2 0 ad g A) [.ref (ad 0), .ref (cy (100 + 2))].toArray s 0 0 A) (F0 m 23 ls [])  := by
        intro d_23_278
        induction d_23_278 with
        | zero => intro v_23_253 z_23_254 mu_23_279; exact absurd mu_23_279 (Nat.not_lt_zero _)
        | succ d_23_278 ih_23_280 =>
          intro v_23_253 z_23_254 mu_23_279 H locs hO ls hl
          refine lv_iload_n hx hb ddX6_is_23 rfl (lv_at hl 0 rfl) ?_
          refine lv_aload_n hx hb ddX6_is_24 rfl (lv_at hl 1 rfl) ?_
          refine cg_get hC hO 0 (by decide) o0 rfl i_X6 8 (by decide) (List.mem_of_getElem? (i := 2) rfl) rfl ddX6_is_25 ?_
          refine lv_icmp_ge (tgt := 58) hx hb ddX6_is_28 (by decide) (fun h_28_281 => ?_) (fun h_28_281 => ?_)
          · have q_28_282 := zr_le h_28_281
            have z_28_283 : zi 4 4 v_23_253 := zd_le q_28_282 z_16_147 z_23_254 (by decide)
            refine lv_iconst (v := 1) hx hb ddX6_is_58 (by decide) ?_
            exact cg_iret (nw := fun _ => 0) hC hr hlk hO.same rfl (Nat.le_of_ble_eq_true rfl) (Nat.le_of_ble_eq_true rfl) (⟨(zi_k (a := 0) (b := 1) (x := 1) rfl), rfl⟩) ddX6_is_59
          · have q_28_284 := zr_nle h_28_281
            have z_28_285 : zi 0 3 v_23_253 := zu_lt q_28_284 z_23_254 z_16_147 (by decide)
            refine lv_aload_n hx hb ddX6_is_31 rfl (lv_at hl 1 rfl) ?_
            refine cg_get hC hO 0 (by decide) o0 rfl i_X6 3 (by decide) (List.mem_of_getElem? (i := 15) rfl) rfl ddX6_is_32 ?_
            refine lv_aload_n hx hb ddX6_is_35 rfl (lv_at hl 1 rfl) ?_
            refine cg_get hC hO 0 (by decide) o0 rfl i_X6 7 (by decide) (List.mem_of_getElem? (i := 16) rfl) rfl ddX6_is_36 ?_
            refine lv_iload_n hx hb ddX6_is_39 rfl (lv_at hl 0 rfl) ?_
            have z_40_286 : zi 0 1596 x0_7 := ⟨b0_7.1, by have q1 := hw0 h_5_139; have q2 := z_16_147; omega⟩
            refine lv_iadd hx hb ddX6_is_40 ?_
            refine zg_top2 (P := fun v => zi 0 1599 v) (E := fun v => v.toInt = (x0_7 : Int32).toInt + (v_23_253 : Int32).toInt) (zi_add z_40_286 z_28_285 (by decide)) (fun v_40_287 z_40_288 q_40_289 => ?_)
            refine zg_iald hC hO 1 (by decide) a1 (za_all _) (zi_in z_40_288 (by decide)) ddX6_is_41 (fun v_41_290 z_41_291 => ?_)
            refine lv_aload_n hx hb ddX6_is_42 rfl (lv_at hl 2 rfl) ?_
            refine lv_iload_n hx hb ddX6_is_43 rfl (lv_at hl 0 rfl) ?_
            refine sg_Vi (As := [.int v_23_253]) (rest := [.int v_41_290]) (mc := 0) (ms := 0) (rm := { frames := 3, cells := 0, slots := 0, locals := 64 }) hC hl.1 hO [] (by decide +kernel) 2 (by decide) (k_charAt_2 l D cy _ _ (n := v_23_253) z_28_285) gq_k_is_2_k_charAt_2_226 rfl rfl rfl 1 (by decide +kernel) ⟨Nat.le_of_ble_eq_true rfl, Nat.le_of_ble_eq_true rfl⟩ rfl rfl (Nat.le_of_ble_eq_true rfl) ddX6_is_44 ⟨Nat.le_of_ble_eq_true rfl, Nat.le_of_ble_eq_true rfl⟩ (fun r_44_294 nw_44_292 l_44_293 H locs hw hO => ?_)
            obtain ⟨z_44_295, rfl⟩ := hw
            have hO : cO D cy A s.heap s 2 ad (cup [] g) _ _ := hO
            refine lv_icmp_eq (tgt := 52) hx hb ddX6_is_47 (by decide) (fun h_47_296 => ?_) (fun h_47_296 => ?_)
            · have q_47_297 := zr_eq h_47_296
              have z_47_298 : zi 0 65535 v_41_290 := ze_eq q_47_297 z_41_291 z_44_295
              obtain ⟨v_52_299, e_52_300, z_52_301, q_52_302⟩ := zi_inc (e := 1) (f := 4) 1 z_28_285 (by decide)
              refine lv_iinc (v := v_52_299) (lv' := [(2, .int v_52_299), (0, .ref (ad 0)), (1, .ref (cy (100 + 2)))]) hx hb ddX6_is_52 hl (k := 0) rfl e_52_300 (by decide) rfl (fun ls hl => ?_)
              refine lv_goto (tgt := 23) hx hb ddX6_is_55 (by decide) ?_
              exact ih_23_280 v_52_299 (zi_w (c := 0) (d := 4) z_52_301 (by decide)) (zm_up q_52_302 ((zi_w (c := 0) (d := 4) z_52_301 (by decide))).2 (by decide) mu_23_279) _ _ hO ls (lv_sub hl [0, 1, 2] rfl)
            · refine lv_iconst (v := 0) hx hb ddX6_is_50 (by decide) ?_
              exact cg_iret (nw := fun _ => 0) hC hr hlk hO.same rfl (Nat.le_of_ble_eq_true rfl) (Nat.le_of_ble_eq_true rfl) (⟨(zi_k (a := 0) (b := 1) (x := 0) rfl), rfl⟩) ddX6_is_51
      exact loop_23_277 ((4 + 1 - (0 : Int32).toInt).toNat + 1) 0 (zi_k (a := 0) (b := 4) (x := 0) rfl) (Nat.lt_succ_self _) _ _ hO ls (lv_sub hl [0, 1, 2] rfl)
    · refine lv_iconst (v := 0) hx hb ddX6_is_19 (by decide) ?_
      exact cg_iret (nw := fun _ => 0) hC hr hlk hO.same rfl (Nat.le_of_ble_eq_true rfl) (Nat.le_of_ble_eq_true rfl) (⟨(zi_k (a := 0) (b := 1) (x := 0) rfl), rfl⟩) ddX6_is_20

def wq_k_is_3 : List Cond := Cond.code yX6_is cX6_is 3 (some .boolean) :: (([Cond.fieldLink RX6 47 "CrowToll$Reader" "kind" "I", Cond.fieldLink RX6 218 "CrowToll$Reader" "size" "I", Cond.methodLink RX6 221 yJ0_length_8abf5, Cond.instanceMethod yJ0_length_8abf5, Cond.selects RJ0 yJ0_length_8abf5 yJ0_length_8abf5, Cond.initialized RJ0, Cond.code yJ0_length_8abf5 cJ0_length_8abf5 1 (some .int), Cond.fieldLink RJ0 9 "java/lang/String" "value" "[B", Cond.methodLink RJ0 335 yJ0_coder_7d493, Cond.instanceMethod yJ0_coder_7d493, Cond.selects RJ0 yJ0_coder_7d493 yJ0_coder_7d493, Cond.code yJ0_coder_7d493 cJ0_coder_7d493 1 (some .byte), Cond.fieldLink RJ0 38 "java/lang/String" "COMPACT_STRINGS" "Z", Cond.fieldLink RJ0 15 "java/lang/String" "coder" "B", Cond.fieldLink RX6 22 "CrowToll$Reader" "text" "[I", Cond.fieldLink RX6 212 "CrowToll$Reader" "place" "I", Cond.methodLink RX6 226 yJ0_charAt_5068e, Cond.instanceMethod yJ0_charAt_5068e, Cond.selects RJ0 yJ0_charAt_5068e yJ0_charAt_5068e, Cond.code yJ0_charAt_5068e cJ0_charAt_5068e 2 (some .char), Cond.methodLink RJ0 492 yJ0_isLatin1_aae02, Cond.instanceMethod yJ0_isLatin1_aae02, Cond.selects RJ0 yJ0_isLatin1_aae02 yJ0_isLatin1_aae02, Cond.code yJ0_isLatin1_aae02 cJ0_isLatin1_aae02 1 (some .boolean), Cond.methodLink RJ0 495 yJ1_charAt_3b067, Cond.static yJ1_charAt_3b067, Cond.initialized RJ1, Cond.code yJ1_charAt_3b067 cJ1_charAt_3b067 2 (some .char), Cond.methodLink RJ1 9 yJ0_checkIndex_df160, Cond.static yJ0_checkIndex_df160, Cond.code yJ0_checkIndex_df160 cJ0_checkIndex_df160 2 none, Cond.fieldLink RJ0 1053 "jdk/internal/util/Preconditions" "SIOOBE_FORMATTER" "Ljava/util/function/BiFunction;", Cond.methodLink RJ0 1059 yJ3_checkIndex_8e157, Cond.static yJ3_checkIndex_8e157, Cond.initialized RJ3, Cond.code yJ3_checkIndex_8e157 cJ3_checkIndex_8e157 3 (some .int)] : List Cond) ++ wsX60)
set_option maxRecDepth 20000 in
theorem gr_k_is_3_k_length_3 : GoodIn wq_k_is_3 wq_k_length_3 := List.forall_mem_cons.mpr ⟨⟨(List.mem_of_getElem? (i := 7) rfl), good_of_word rfl⟩, List.forall_mem_cons.mpr ⟨⟨(List.mem_of_getElem? (i := 8) rfl), good_of_word rfl⟩, List.forall_mem_cons.mpr ⟨⟨(List.mem_of_getElem? (i := 9) rfl), good_of_word rfl⟩, List.forall_mem_cons.mpr ⟨⟨(List.mem_of_getElem? (i := 10) rfl), good_of_word rfl⟩, List.forall_mem_cons.mpr ⟨⟨(List.mem_of_getElem? (i := 11) rfl), good_of_word rfl⟩, List.forall_mem_cons.mpr ⟨⟨(List.mem_of_getElem? (i := 6) rfl), good_of_word rfl⟩, List.forall_mem_cons.mpr ⟨⟨(List.mem_of_getElem? (i := 12) rfl), good_of_word rfl⟩, List.forall_mem_cons.mpr ⟨⟨(List.mem_of_getElem? (i := 13) rfl), good_of_word rfl⟩, List.forall_mem_cons.mpr ⟨⟨(List.mem_of_getElem? (i := 14) rfl), good_of_word rfl⟩, (fun _ h => absurd h List.not_mem_nil)⟩⟩⟩⟩⟩⟩⟩⟩⟩
set_option maxRecDepth 20000 in
theorem gq_k_is_3_k_length_3_221 : GoodIn wq_k_is_3 (wsV RX6 221 RJ0 yJ0_length_8abf5 wq_k_length_3) := goodIn_app (List.forall_mem_cons.mpr ⟨⟨(List.mem_of_getElem? (i := 3) rfl), good_of_word rfl⟩, List.forall_mem_cons.mpr ⟨⟨(List.mem_of_getElem? (i := 4) rfl), good_of_word rfl⟩, List.forall_mem_cons.mpr ⟨⟨(List.mem_of_getElem? (i := 5) rfl), good_of_word rfl⟩, List.forall_mem_cons.mpr ⟨⟨(List.mem_of_getElem? (i := 6) rfl), good_of_word rfl⟩, (fun _ h => absurd h List.not_mem_nil)⟩⟩⟩⟩) gr_k_is_3_k_length_3
set_option maxRecDepth 20000 in
theorem gr_k_is_3_k_charAt_3 : GoodIn wq_k_is_3 wq_k_charAt_3 := List.forall_mem_cons.mpr ⟨⟨(List.mem_of_getElem? (i := 20) rfl), good_of_word rfl⟩, List.forall_mem_cons.mpr ⟨⟨(List.mem_of_getElem? (i := 21) rfl), good_of_word rfl⟩, List.forall_mem_cons.mpr ⟨⟨(List.mem_of_getElem? (i := 22) rfl), good_of_word rfl⟩, List.forall_mem_cons.mpr ⟨⟨(List.mem_of_getElem? (i := 23) rfl), good_of_word rfl⟩, List.forall_mem_cons.mpr ⟨⟨(List.mem_of_getElem? (i := 6) rfl), good_of_word rfl⟩, List.forall_mem_cons.mpr ⟨⟨(List.mem_of_getElem? (i := 24) rfl), good_of_word rfl⟩, List.forall_mem_cons.mpr ⟨⟨(List.mem_of_getElem? (i := 13) rfl), good_of_word rfl⟩, List.forall_mem_cons.mpr ⟨⟨(List.mem_of_getElem? (i := 14) rfl), good_of_word rfl⟩, List.forall_mem_cons.mpr ⟨⟨(List.mem_of_getElem? (i := 8) rfl), good_of_word rfl⟩, List.forall_mem_cons.mpr ⟨⟨(List.mem_of_getElem? (i := 25) rfl), good_of_word rfl⟩, List.forall_mem_cons.mpr ⟨⟨(List.mem_of_getElem? (i := 26) rfl), good_of_word rfl⟩, List.forall_mem_cons.mpr ⟨⟨(List.mem_of_getElem? (i := 27) rfl), good_of_word rfl⟩, List.forall_mem_cons.mpr ⟨⟨(List.mem_of_getElem? (i := 28) rfl), good_of_word rfl⟩, List.forall_mem_cons.mpr ⟨⟨(List.mem_of_getElem? (i := 29) rfl), good_of_word rfl⟩, List.forall_mem_cons.mpr ⟨⟨(List.mem_of_getElem? (i := 30) rfl), good_of_word rfl⟩, List.forall_mem_cons.mpr ⟨⟨(List.mem_of_getElem? (i := 31) rfl), good_of_word rfl⟩, List.forall_mem_cons.mpr ⟨⟨(List.mem_of_getElem? (i := 32) rfl), good_of_word rfl⟩, List.forall_mem_cons.mpr ⟨⟨(List.mem_of_getElem? (i := 33) rfl), good_of_word rfl⟩, List.forall_mem_cons.mpr ⟨⟨(List.mem_of_getElem? (i := 34) rfl), good_of_word rfl⟩, List.forall_mem_cons.mpr ⟨⟨(List.mem_of_getElem? (i := 35) rfl), good_of_word rfl⟩, List.forall_mem_cons.mpr ⟨⟨(List.mem_of_getElem? (i := 36) rfl), good_of_word rfl⟩, (fun _ h => absurd h List.not_mem_nil)⟩⟩⟩⟩⟩⟩⟩⟩⟩⟩⟩⟩⟩⟩⟩⟩⟩⟩⟩⟩⟩
set_option maxRecDepth 20000 in
theorem gq_k_is_3_k_charAt_3_226 : GoodIn wq_k_is_3 (wsV RX6 226 RJ0 yJ0_charAt_5068e wq_k_charAt_3) := goodIn_app (List.forall_mem_cons.mpr ⟨⟨(List.mem_of_getElem? (i := 17) rfl), good_of_word rfl⟩, List.forall_mem_cons.mpr ⟨⟨(List.mem_of_getElem? (i := 18) rfl), good_of_word rfl⟩, List.forall_mem_cons.mpr ⟨⟨(List.mem_of_getElem? (i := 19) rfl), good_of_word rfl⟩, List.forall_mem_cons.mpr ⟨⟨(List.mem_of_getElem? (i := 6) rfl), good_of_word rfl⟩, (fun _ h => absurd h List.not_mem_nil)⟩⟩⟩⟩) gr_k_is_3_k_charAt_3
set_option maxHeartbeats 8000000 in
set_option maxRecDepth 100000 in
theorem k_is_3 (l : Launch) (D : va_G) (cy : Nat → ClassId) (ad : Nat → Nat) (g : Nat → va_E) {u0_0 : Value} {u0_1 : Value} {u0_2 : Value} {u0_4 : Value} {u0_5 : Value} {x0_6 : Int32} {x0_7 : Int32} {x0_8 : Int32} {u0_9 : Value} {u0_10 : Value} {u0_11 : Value} {c1 : Nat → Int32} (o0 : g 0 = .inr (6, [u0_0, u0_1, u0_2, .ref (ad 1), u0_4, u0_5, .int x0_6, .int x0_7, .int x0_8, u0_9, u0_10, u0_11])) (a1 : g 1 = .inl (cy 0, 1600, .inl c1)) (b0_7 : zi 0 1600 x0_7) (hw0 : ((x0_6 : Int32) = 1 → (x0_7 : Int32).toInt + (x0_8 : Int32).toInt ≤ 1600)) : cMi l yX6_is wq_k_is_3 { frames := 4, cells := 0, slots := 0, locals := 85 } 2 0 0 0 D cy ad g [.ref (ad 0), .ref (cy (100 + 3))] (fun r nw lu => (zi 0 1 r) ∧ (lu = [])) := by
  refine cM_of (Qc := fun A => cQi (fun r nw lu => (zi 0 1 r) ∧ (lu = [])) D 2 0 ad g A) (cc := cX6_is) (maxL := 3) (ret := (some .boolean)) (by decide) rfl (Nat.le_of_ble_eq_true rfl) ?_
  intro p e s m below meth c A hC hr hlk hnm hO ls hl
  have hC : CallFix p m c cX6_is 3 s [.ref (ad 0), .ref (cy (100 + 3))].toArray wq_k_is_3 RX6 := hC
  obtain ⟨hx, hb, hml, hown, hts⟩ := id hC
  have hl : lv_has ls 3 [(0, .ref (ad 0)), (1, .ref (cy (100 + 3)))] := hl
  have i_X6 : ∀ w ∈ wsX60, w ∈ wq_k_is_3 := fun w h => List.mem_cons_of_mem _ (List.mem_append_right _ h)
  refine lv_aload_n hx hb ddX6_is_0 rfl (lv_at hl 0 rfl) ?_
  refine cg_get hC hO 0 (by decide) o0 rfl i_X6 6 (by decide) (List.mem_of_getElem? (i := 1) rfl) rfl ddX6_is_1 ?_
  refine lv_iconst (v := 1) hx hb ddX6_is_4 (by decide) ?_
  refine lv_icmp_ne (tgt := 19) hx hb ddX6_is_5 (by decide) (fun h_5_139 => ?_) (fun h_5_139 => ?_)
  · refine lv_iconst (v := 0) hx hb ddX6_is_19 (by decide) ?_
    exact cg_iret (nw := fun _ => 0) hC hr hlk hO.same rfl (Nat.le_of_ble_eq_true rfl) (Nat.le_of_ble_eq_true rfl) (⟨(zi_k (a := 0) (b := 1) (x := 0) rfl), rfl⟩) ddX6_is_20
  · have q_5_140 := zr_eq h_5_139
    have z_5_141 : zi 1 1 x0_6 := ze_eq q_5_140 (zi_all x0_6) (zi_k (a := 1) (b := 1) (x := 1) rfl)
    refine lv_aload_n hx hb ddX6_is_8 rfl (lv_at hl 0 rfl) ?_
    refine cg_get hC hO 0 (by decide) o0 rfl i_X6 8 (by decide) (List.mem_of_getElem? (i := 2) rfl) rfl ddX6_is_9 ?_
    refine lv_aload_n hx hb ddX6_is_12 rfl (lv_at hl 1 rfl) ?_
    refine sg_Vi (As := []) (rest := [.int x0_8]) (mc := 0) (ms := 0) (rm := { frames := 1, cells := 0, slots := 0, locals := 20 }) hC hl.1 hO [] (by decide +kernel) 3 (by decide) (k_length_3 l D cy _ _  ) gq_k_is_3_k_length_3_221 rfl rfl rfl 0 (by decide +kernel) ⟨Nat.le_of_ble_eq_true rfl, Nat.le_of_ble_eq_true rfl⟩ rfl rfl (Nat.le_of_ble_eq_true rfl) ddX6_is_13 ⟨Nat.le_of_ble_eq_true rfl, Nat.le_of_ble_eq_true rfl⟩ (fun r_13_144 nw_13_142 l_13_143 H locs hw hO => ?_)
    obtain ⟨rfl, rfl⟩ := hw
    have hO : cO D cy A s.heap s 2 ad (cup [] g) _ _ := hO
    refine lv_icmp_eq (tgt := 21) hx hb ddX6_is_16 (by decide) (fun h_16_145 => ?_) (fun h_16_145 => ?_)
    · have q_16_146 := zr_eq h_16_145
      have z_16_147 : zi 3 3 x0_8 := ze_eq q_16_146 (zi_all x0_8) (zi_k (a := 3) (b := 3) (x := 3) rfl)
      refine lv_iconst (v := 0) hx hb ddX6_is_21 (by decide) ?_
      refine lv_istore_n (lv' := [(2, .int 0), (0, .ref (ad 0)), (1, .ref (cy (100 + 3)))]) hx hb ddX6_is_22 rfl hl (by decide) rfl (fun ls hl => ?_)
      have loop_23_277 : ∀ (d_23_278 : Nat) (v_23_253 : Int32), zi 0 3 v_23_253 → (3 + 1 - v_23_253.toInt).toNat < d_23_278 → ∀ (H : Heap) (locs : List Loc), cO D cy A s.heap s 2 ad (cup [] g) H locs → ∀ ls : Array Slot, lv_has ls 3 [(2, .int v_23_253), (0, .ref (ad 0)), (1, .ref (cy (100 + 3)))] → W p l e { frames := 4, cells := 0, slots := 0, locals := 85 } s m [.ref (ad 0), .ref (cy (100 + 3))].toArray below meth c H locs 0 0 (MQ below (cQi (fun r nw lu => (zi 0 1 r) ∧ (lu = [])) D 2 0 ad g A) [.ref (ad 0), .ref (cy (100 + 3))].toArray s 0 0 A) (F0 m 23 ls [])  := by
        intro d_23_278
        induction d_23_278 with
        | zero => intro v_23_253 z_23_254 mu_23_279; exact absurd mu_23_279 (Nat.not_lt_zero _)
        | succ d_23_278 ih_23_280 =>
          intro v_23_253 z_23_254 mu_23_279 H locs hO ls hl
          refine lv_iload_n hx hb ddX6_is_23 rfl (lv_at hl 0 rfl) ?_
          refine lv_aload_n hx hb ddX6_is_24 rfl (lv_at hl 1 rfl) ?_
          refine cg_get hC hO 0 (by decide) o0 rfl i_X6 8 (by decide) (List.mem_of_getElem? (i := 2) rfl) rfl ddX6_is_25 ?_
          refine lv_icmp_ge (tgt := 58) hx hb ddX6_is_28 (by decide) (fun h_28_281 => ?_) (fun h_28_281 => ?_)
          · have q_28_282 := zr_le h_28_281
            have z_28_283 : zi 3 3 v_23_253 := zd_le q_28_282 z_16_147 z_23_254 (by decide)
            refine lv_iconst (v := 1) hx hb ddX6_is_58 (by decide) ?_
            exact cg_iret (nw := fun _ => 0) hC hr hlk hO.same rfl (Nat.le_of_ble_eq_true rfl) (Nat.le_of_ble_eq_true rfl) (⟨(zi_k (a := 0) (b := 1) (x := 1) rfl), rfl⟩) ddX6_is_59
          · have q_28_284 := zr_nle h_28_281
            have z_28_285 : zi 0 2 v_23_253 := zu_lt q_28_284 z_23_254 z_16_147 (by decide)
            refine lv_aload_n hx hb ddX6_is_31 rfl (lv_at hl 1 rfl) ?_
            refine cg_get hC hO 0 (by decide) o0 rfl i_X6 3 (by decide) (List.mem_of_getElem? (i := 15) rfl) rfl ddX6_is_32 ?_
            refine lv_aload_n hx hb ddX6_is_35 rfl (lv_at hl 1 rfl) ?_
            refine cg_get hC hO 0 (by decide) o0 rfl i_X6 7 (by decide) (List.mem_of_getElem? (i := 16) rfl) rfl ddX6_is_36 ?_
            refine lv_iload_n hx hb ddX6_is_39 rfl (lv_at hl 0 rfl) ?_
            have z_40_286 : zi 0 1597 x0_7 := ⟨b0_7.1, by have q1 := hw0 h_5_139; have q2 := z_16_147; omega⟩
            refine lv_iadd hx hb ddX6_is_40 ?_
            refine zg_top2 (P := fun v => zi 0 1599 v) (E := fun v => v.toInt = (x0_7 : Int32).toInt + (v_23_253 : Int32).toInt) (zi_add z_40_286 z_28_285 (by decide)) (fun v_40_287 z_40_288 q_40_289 => ?_)
            refine zg_iald hC hO 1 (by decide) a1 (za_all _) (zi_in z_40_288 (by decide)) ddX6_is_41 (fun v_41_290 z_41_291 => ?_)
            refine lv_aload_n hx hb ddX6_is_42 rfl (lv_at hl 2 rfl) ?_
            refine lv_iload_n hx hb ddX6_is_43 rfl (lv_at hl 0 rfl) ?_
            refine sg_Vi (As := [.int v_23_253]) (rest := [.int v_41_290]) (mc := 0) (ms := 0) (rm := { frames := 3, cells := 0, slots := 0, locals := 64 }) hC hl.1 hO [] (by decide +kernel) 3 (by decide) (k_charAt_3 l D cy _ _ (n := v_23_253) z_28_285) gq_k_is_3_k_charAt_3_226 rfl rfl rfl 1 (by decide +kernel) ⟨Nat.le_of_ble_eq_true rfl, Nat.le_of_ble_eq_true rfl⟩ rfl rfl (Nat.le_of_ble_eq_true rfl) ddX6_is_44 ⟨Nat.le_of_ble_eq_true rfl, Nat.le_of_ble_eq_true rfl⟩ (fun r_44_294 nw_44_292 l_44_293 H locs hw hO => ?_)
            obtain ⟨z_44_295, rfl⟩ := hw
            have hO : cO D cy A s.heap s 2 ad (cup [] g) _ _ := hO
            refine lv_icmp_eq (tgt := 52) hx hb ddX6_is_47 (by decide) (fun h_47_296 => ?_) (fun h_47_296 => ?_)
            · have q_47_297 := zr_eq h_47_296
              have z_47_298 : zi 0 65535 v_41_290 := ze_eq q_47_297 z_41_291 z_44_295
              obtain ⟨v_52_299, e_52_300, z_52_301, q_52_302⟩ := zi_inc (e := 1) (f := 3) 1 z_28_285 (by decide)
              refine lv_iinc (v := v_52_299) (lv' := [(2, .int v_52_299), (0, .ref (ad 0)), (1, .ref (cy (100 + 3)))]) hx hb ddX6_is_52 hl (k := 0) rfl e_52_300 (by decide) rfl (fun ls hl => ?_)
              refine lv_goto (tgt := 23) hx hb ddX6_is_55 (by decide) ?_
              exact ih_23_280 v_52_299 (zi_w (c := 0) (d := 3) z_52_301 (by decide)) (zm_up q_52_302 ((zi_w (c := 0) (d := 3) z_52_301 (by decide))).2 (by decide) mu_23_279) _ _ hO ls (lv_sub hl [0, 1, 2] rfl)
            · refine lv_iconst (v := 0) hx hb ddX6_is_50 (by decide) ?_
              exact cg_iret (nw := fun _ => 0) hC hr hlk hO.same rfl (Nat.le_of_ble_eq_true rfl) (Nat.le_of_ble_eq_true rfl) (⟨(zi_k (a := 0) (b := 1) (x := 0) rfl), rfl⟩) ddX6_is_51
      exact loop_23_277 ((3 + 1 - (0 : Int32).toInt).toNat + 1) 0 (zi_k (a := 0) (b := 3) (x := 0) rfl) (Nat.lt_succ_self _) _ _ hO ls (lv_sub hl [0, 1, 2] rfl)
    · refine lv_iconst (v := 0) hx hb ddX6_is_19 (by decide) ?_
      exact cg_iret (nw := fun _ => 0) hC hr hlk hO.same rfl (Nat.le_of_ble_eq_true rfl) (Nat.le_of_ble_eq_true rfl) (⟨(zi_k (a := 0) (b := 1) (x := 0) rfl), rfl⟩) ddX6_is_20

def wq_k_is_4 : List Cond := Cond.code yX6_is cX6_is 3 (some .boolean) :: (([Cond.fieldLink RX6 47 "CrowToll$Reader" "kind" "I", Cond.fieldLink RX6 218 "CrowToll$Reader" "size" "I", Cond.methodLink RX6 221 yJ0_length_8abf5, Cond.instanceMethod yJ0_length_8abf5, Cond.selects RJ0 yJ0_length_8abf5 yJ0_length_8abf5, Cond.initialized RJ0, Cond.code yJ0_length_8abf5 cJ0_length_8abf5 1 (some .int), Cond.fieldLink RJ0 9 "java/lang/String" "value" "[B", Cond.methodLink RJ0 335 yJ0_coder_7d493, Cond.instanceMethod yJ0_coder_7d493, Cond.selects RJ0 yJ0_coder_7d493 yJ0_coder_7d493, Cond.code yJ0_coder_7d493 cJ0_coder_7d493 1 (some .byte), Cond.fieldLink RJ0 38 "java/lang/String" "COMPACT_STRINGS" "Z", Cond.fieldLink RJ0 15 "java/lang/String" "coder" "B", Cond.fieldLink RX6 22 "CrowToll$Reader" "text" "[I", Cond.fieldLink RX6 212 "CrowToll$Reader" "place" "I", Cond.methodLink RX6 226 yJ0_charAt_5068e, Cond.instanceMethod yJ0_charAt_5068e, Cond.selects RJ0 yJ0_charAt_5068e yJ0_charAt_5068e, Cond.code yJ0_charAt_5068e cJ0_charAt_5068e 2 (some .char), Cond.methodLink RJ0 492 yJ0_isLatin1_aae02, Cond.instanceMethod yJ0_isLatin1_aae02, Cond.selects RJ0 yJ0_isLatin1_aae02 yJ0_isLatin1_aae02, Cond.code yJ0_isLatin1_aae02 cJ0_isLatin1_aae02 1 (some .boolean), Cond.methodLink RJ0 495 yJ1_charAt_3b067, Cond.static yJ1_charAt_3b067, Cond.initialized RJ1, Cond.code yJ1_charAt_3b067 cJ1_charAt_3b067 2 (some .char), Cond.methodLink RJ1 9 yJ0_checkIndex_df160, Cond.static yJ0_checkIndex_df160, Cond.code yJ0_checkIndex_df160 cJ0_checkIndex_df160 2 none, Cond.fieldLink RJ0 1053 "jdk/internal/util/Preconditions" "SIOOBE_FORMATTER" "Ljava/util/function/BiFunction;", Cond.methodLink RJ0 1059 yJ3_checkIndex_8e157, Cond.static yJ3_checkIndex_8e157, Cond.initialized RJ3, Cond.code yJ3_checkIndex_8e157 cJ3_checkIndex_8e157 3 (some .int)] : List Cond) ++ wsX60)
set_option maxRecDepth 20000 in
theorem gr_k_is_4_k_length_4 : GoodIn wq_k_is_4 wq_k_length_4 := List.forall_mem_cons.mpr ⟨⟨(List.mem_of_getElem? (i := 7) rfl), good_of_word rfl⟩, List.forall_mem_cons.mpr ⟨⟨(List.mem_of_getElem? (i := 8) rfl), good_of_word rfl⟩, List.forall_mem_cons.mpr ⟨⟨(List.mem_of_getElem? (i := 9) rfl), good_of_word rfl⟩, List.forall_mem_cons.mpr ⟨⟨(List.mem_of_getElem? (i := 10) rfl), good_of_word rfl⟩, List.forall_mem_cons.mpr ⟨⟨(List.mem_of_getElem? (i := 11) rfl), good_of_word rfl⟩, List.forall_mem_cons.mpr ⟨⟨(List.mem_of_getElem? (i := 6) rfl), good_of_word rfl⟩, List.forall_mem_cons.mpr ⟨⟨(List.mem_of_getElem? (i := 12) rfl), good_of_word rfl⟩, List.forall_mem_cons.mpr ⟨⟨(List.mem_of_getElem? (i := 13) rfl), good_of_word rfl⟩, List.forall_mem_cons.mpr ⟨⟨(List.mem_of_getElem? (i := 14) rfl), good_of_word rfl⟩, (fun _ h => absurd h List.not_mem_nil)⟩⟩⟩⟩⟩⟩⟩⟩⟩
set_option maxRecDepth 20000 in
theorem gq_k_is_4_k_length_4_221 : GoodIn wq_k_is_4 (wsV RX6 221 RJ0 yJ0_length_8abf5 wq_k_length_4) := goodIn_app (List.forall_mem_cons.mpr ⟨⟨(List.mem_of_getElem? (i := 3) rfl), good_of_word rfl⟩, List.forall_mem_cons.mpr ⟨⟨(List.mem_of_getElem? (i := 4) rfl), good_of_word rfl⟩, List.forall_mem_cons.mpr ⟨⟨(List.mem_of_getElem? (i := 5) rfl), good_of_word rfl⟩, List.forall_mem_cons.mpr ⟨⟨(List.mem_of_getElem? (i := 6) rfl), good_of_word rfl⟩, (fun _ h => absurd h List.not_mem_nil)⟩⟩⟩⟩) gr_k_is_4_k_length_4
set_option maxRecDepth 20000 in
theorem gr_k_is_4_k_charAt_4 : GoodIn wq_k_is_4 wq_k_charAt_4 := List.forall_mem_cons.mpr ⟨⟨(List.mem_of_getElem? (i := 20) rfl), good_of_word rfl⟩, List.forall_mem_cons.mpr ⟨⟨(List.mem_of_getElem? (i := 21) rfl), good_of_word rfl⟩, List.forall_mem_cons.mpr ⟨⟨(List.mem_of_getElem? (i := 22) rfl), good_of_word rfl⟩, List.forall_mem_cons.mpr ⟨⟨(List.mem_of_getElem? (i := 23) rfl), good_of_word rfl⟩, List.forall_mem_cons.mpr ⟨⟨(List.mem_of_getElem? (i := 6) rfl), good_of_word rfl⟩, List.forall_mem_cons.mpr ⟨⟨(List.mem_of_getElem? (i := 24) rfl), good_of_word rfl⟩, List.forall_mem_cons.mpr ⟨⟨(List.mem_of_getElem? (i := 13) rfl), good_of_word rfl⟩, List.forall_mem_cons.mpr ⟨⟨(List.mem_of_getElem? (i := 14) rfl), good_of_word rfl⟩, List.forall_mem_cons.mpr ⟨⟨(List.mem_of_getElem? (i := 8) rfl), good_of_word rfl⟩, List.forall_mem_cons.mpr ⟨⟨(List.mem_of_getElem? (i := 25) rfl), good_of_word rfl⟩, List.forall_mem_cons.mpr ⟨⟨(List.mem_of_getElem? (i := 26) rfl), good_of_word rfl⟩, List.forall_mem_cons.mpr ⟨⟨(List.mem_of_getElem? (i := 27) rfl), good_of_word rfl⟩, List.forall_mem_cons.mpr ⟨⟨(List.mem_of_getElem? (i := 28) rfl), good_of_word rfl⟩, List.forall_mem_cons.mpr ⟨⟨(List.mem_of_getElem? (i := 29) rfl), good_of_word rfl⟩, List.forall_mem_cons.mpr ⟨⟨(List.mem_of_getElem? (i := 30) rfl), good_of_word rfl⟩, List.forall_mem_cons.mpr ⟨⟨(List.mem_of_getElem? (i := 31) rfl), good_of_word rfl⟩, List.forall_mem_cons.mpr ⟨⟨(List.mem_of_getElem? (i := 32) rfl), good_of_word rfl⟩, List.forall_mem_cons.mpr ⟨⟨(List.mem_of_getElem? (i := 33) rfl), good_of_word rfl⟩, List.forall_mem_cons.mpr ⟨⟨(List.mem_of_getElem? (i := 34) rfl), good_of_word rfl⟩, List.forall_mem_cons.mpr ⟨⟨(List.mem_of_getElem? (i := 35) rfl), good_of_word rfl⟩, List.forall_mem_cons.mpr ⟨⟨(List.mem_of_getElem? (i := 36) rfl), good_of_word rfl⟩, (fun _ h => absurd h List.not_mem_nil)⟩⟩⟩⟩⟩⟩⟩⟩⟩⟩⟩⟩⟩⟩⟩⟩⟩⟩⟩⟩⟩
set_option maxRecDepth 20000 in
theorem gq_k_is_4_k_charAt_4_226 : GoodIn wq_k_is_4 (wsV RX6 226 RJ0 yJ0_charAt_5068e wq_k_charAt_4) := goodIn_app (List.forall_mem_cons.mpr ⟨⟨(List.mem_of_getElem? (i := 17) rfl), good_of_word rfl⟩, List.forall_mem_cons.mpr ⟨⟨(List.mem_of_getElem? (i := 18) rfl), good_of_word rfl⟩, List.forall_mem_cons.mpr ⟨⟨(List.mem_of_getElem? (i := 19) rfl), good_of_word rfl⟩, List.forall_mem_cons.mpr ⟨⟨(List.mem_of_getElem? (i := 6) rfl), good_of_word rfl⟩, (fun _ h => absurd h List.not_mem_nil)⟩⟩⟩⟩) gr_k_is_4_k_charAt_4
set_option maxHeartbeats 8000000 in
set_option maxRecDepth 100000 in
theorem k_is_4 (l : Launch) (D : va_G) (cy : Nat → ClassId) (ad : Nat → Nat) (g : Nat → va_E) {u0_0 : Value} {u0_1 : Value} {u0_2 : Value} {u0_4 : Value} {u0_5 : Value} {x0_6 : Int32} {x0_7 : Int32} {x0_8 : Int32} {u0_9 : Value} {u0_10 : Value} {u0_11 : Value} {c1 : Nat → Int32} (o0 : g 0 = .inr (6, [u0_0, u0_1, u0_2, .ref (ad 1), u0_4, u0_5, .int x0_6, .int x0_7, .int x0_8, u0_9, u0_10, u0_11])) (a1 : g 1 = .inl (cy 0, 1600, .inl c1)) (b0_7 : zi 0 1600 x0_7) (hw0 : ((x0_6 : Int32) = 1 → (x0_7 : Int32).toInt + (x0_8 : Int32).toInt ≤ 1600)) : cMi l yX6_is wq_k_is_4 { frames := 4, cells := 0, slots := 0, locals := 85 } 2 0 0 0 D cy ad g [.ref (ad 0), .ref (cy (100 + 4))] (fun r nw lu => (zi 0 1 r) ∧ (lu = [])) := by
  refine cM_of (Qc := fun A => cQi (fun r nw lu => (zi 0 1 r) ∧ (lu = [])) D 2 0 ad g A) (cc := cX6_is) (maxL := 3) (ret := (some .boolean)) (by decide) rfl (Nat.le_of_ble_eq_true rfl) ?_
  intro p e s m below meth c A hC hr hlk hnm hO ls hl
  have hC : CallFix p m c cX6_is 3 s [.ref (ad 0), .ref (cy (100 + 4))].toArray wq_k_is_4 RX6 := hC
  obtain ⟨hx, hb, hml, hown, hts⟩ := id hC
  have hl : lv_has ls 3 [(0, .ref (ad 0)), (1, .ref (cy (100 + 4)))] := hl
  have i_X6 : ∀ w ∈ wsX60, w ∈ wq_k_is_4 := fun w h => List.mem_cons_of_mem _ (List.mem_append_right _ h)
  refine lv_aload_n hx hb ddX6_is_0 rfl (lv_at hl 0 rfl) ?_
  refine cg_get hC hO 0 (by decide) o0 rfl i_X6 6 (by decide) (List.mem_of_getElem? (i := 1) rfl) rfl ddX6_is_1 ?_
  refine lv_iconst (v := 1) hx hb ddX6_is_4 (by decide) ?_
  refine lv_icmp_ne (tgt := 19) hx hb ddX6_is_5 (by decide) (fun h_5_139 => ?_) (fun h_5_139 => ?_)
  · refine lv_iconst (v := 0) hx hb ddX6_is_19 (by decide) ?_
    exact cg_iret (nw := fun _ => 0) hC hr hlk hO.same rfl (Nat.le_of_ble_eq_true rfl) (Nat.le_of_ble_eq_true rfl) (⟨(zi_k (a := 0) (b := 1) (x := 0) rfl), rfl⟩) ddX6_is_20
  · have q_5_140 := zr_eq h_5_139
    have z_5_141 : zi 1 1 x0_6 := ze_eq q_5_140 (zi_all x0_6) (zi_k (a := 1) (b := 1) (x := 1) rfl)
    refine lv_aload_n hx hb ddX6_is_8 rfl (lv_at hl 0 rfl) ?_
    refine cg_get hC hO 0 (by decide) o0 rfl i_X6 8 (by decide) (List.mem_of_getElem? (i := 2) rfl) rfl ddX6_is_9 ?_
    refine lv_aload_n hx hb ddX6_is_12 rfl (lv_at hl 1 rfl) ?_
    refine sg_Vi (As := []) (rest := [.int x0_8]) (mc := 0) (ms := 0) (rm := { frames := 1, cells := 0, slots := 0, locals := 20 }) hC hl.1 hO [] (by decide +kernel) 4 (by decide) (k_length_4 l D cy _ _  ) gq_k_is_4_k_length_4_221 rfl rfl rfl 0 (by decide +kernel) ⟨Nat.le_of_ble_eq_true rfl, Nat.le_of_ble_eq_true rfl⟩ rfl rfl (Nat.le_of_ble_eq_true rfl) ddX6_is_13 ⟨Nat.le_of_ble_eq_true rfl, Nat.le_of_ble_eq_true rfl⟩ (fun r_13_144 nw_13_142 l_13_143 H locs hw hO => ?_)
    obtain ⟨rfl, rfl⟩ := hw
    have hO : cO D cy A s.heap s 2 ad (cup [] g) _ _ := hO
    refine lv_icmp_eq (tgt := 21) hx hb ddX6_is_16 (by decide) (fun h_16_145 => ?_) (fun h_16_145 => ?_)
    · have q_16_146 := zr_eq h_16_145
      have z_16_147 : zi 6 6 x0_8 := ze_eq q_16_146 (zi_all x0_8) (zi_k (a := 6) (b := 6) (x := 6) rfl)
      refine lv_iconst (v := 0) hx hb ddX6_is_21 (by decide) ?_
      refine lv_istore_n (lv' := [(2, .int 0), (0, .ref (ad 0)), (1, .ref (cy (100 + 4)))]) hx hb ddX6_is_22 rfl hl (by decide) rfl (fun ls hl => ?_)
      have loop_23_277 : ∀ (d_23_278 : Nat) (v_23_253 : Int32), zi 0 6 v_23_253 → (6 + 1 - v_23_253.toInt).toNat < d_23_278 → ∀ (H : Heap) (locs : List Loc), cO D cy A s.heap s 2 ad (cup [] g) H locs → ∀ ls : Array Slot, lv_has ls 3 [(2, .int v_23_253), (0, .ref (ad 0)), (1, .ref (cy (100 + 4)))] → W p l e { frames := 4, cells := 0, slots := 0, locals := 85 } s m [.ref (ad 0), .ref (cy (100 + 4))].toArray below meth c H locs 0 0 (MQ below (cQi (fun r nw lu => (zi 0 1 r) ∧ (lu = [])) D 2 0 ad g A) [.ref (ad 0), .ref (cy (100 + 4))].toArray s 0 0 A) (F0 m 23 ls [])  := by
        intro d_23_278
        induction d_23_278 with
        | zero => intro v_23_253 z_23_254 mu_23_279; exact absurd mu_23_279 (Nat.not_lt_zero _)
        | succ d_23_278 ih_23_280 =>
          intro v_23_253 z_23_254 mu_23_279 H locs hO ls hl
          refine lv_iload_n hx hb ddX6_is_23 rfl (lv_at hl 0 rfl) ?_
          refine lv_aload_n hx hb ddX6_is_24 rfl (lv_at hl 1 rfl) ?_
          refine cg_get hC hO 0 (by decide) o0 rfl i_X6 8 (by decide) (List.mem_of_getElem? (i := 2) rfl) rfl ddX6_is_25 ?_
          refine lv_icmp_ge (tgt := 58) hx hb ddX6_is_28 (by decide) (fun h_28_281 => ?_) (fun h_28_281 => ?_)
          · have q_28_282 := zr_le h_28_281
            have z_28_283 : zi 6 6 v_23_253 := zd_le q_28_282 z_16_147 z_23_254 (by decide)
            refine lv_iconst (v := 1) hx hb ddX6_is_58 (by decide) ?_
            exact cg_iret (nw := fun _ => 0) hC hr hlk hO.same rfl (Nat.le_of_ble_eq_true rfl) (Nat.le_of_ble_eq_true rfl) (⟨(zi_k (a := 0) (b := 1) (x := 1) rfl), rfl⟩) ddX6_is_59
          · have q_28_284 := zr_nle h_28_281
            have z_28_285 : zi 0 5 v_23_253 := zu_lt q_28_284 z_23_254 z_16_147 (by decide)
            refine lv_aload_n hx hb ddX6_is_31 rfl (lv_at hl 1 rfl) ?_
            refine cg_get hC hO 0 (by decide) o0 rfl i_X6 3 (by decide) (List.mem_of_getElem? (i := 15) rfl) rfl ddX6_is_32 ?_
            refine lv_aload_n hx hb ddX6_is_35 rfl (lv_at hl 1 rfl) ?_
            refine cg_get hC hO 0 (by decide) o0 rfl i_X6 7 (by decide) (List.mem_of_getElem? (i := 16) rfl) rfl ddX6_is_36 ?_
            refine lv_iload_n hx hb ddX6_is_39 rfl (lv_at hl 0 rfl) ?_
            have z_40_286 : zi 0 1594 x0_7 := ⟨b0_7.1, by have q1 := hw0 h_5_139; have q2 := z_16_147; omega⟩
            refine lv_iadd hx hb ddX6_is_40 ?_
            refine zg_top2 (P := fun v => zi 0 1599 v) (E := fun v => v.toInt = (x0_7 : Int32).toInt + (v_23_253 : Int32).toInt) (zi_add z_40_286 z_28_285 (by decide)) (fun v_40_287 z_40_288 q_40_289 => ?_)
            refine zg_iald hC hO 1 (by decide) a1 (za_all _) (zi_in z_40_288 (by decide)) ddX6_is_41 (fun v_41_290 z_41_291 => ?_)
            refine lv_aload_n hx hb ddX6_is_42 rfl (lv_at hl 2 rfl) ?_
            refine lv_iload_n hx hb ddX6_is_43 rfl (lv_at hl 0 rfl) ?_
            refine sg_Vi (As := [.int v_23_253]) (rest := [.int v_41_290]) (mc := 0) (ms := 0) (rm := { frames := 3, cells := 0, slots := 0, locals := 64 }) hC hl.1 hO [] (by decide +kernel) 4 (by decide) (k_charAt_4 l D cy _ _ (n := v_23_253) z_28_285) gq_k_is_4_k_charAt_4_226 rfl rfl rfl 1 (by decide +kernel) ⟨Nat.le_of_ble_eq_true rfl, Nat.le_of_ble_eq_true rfl⟩ rfl rfl (Nat.le_of_ble_eq_true rfl) ddX6_is_44 ⟨Nat.le_of_ble_eq_true rfl, Nat.le_of_ble_eq_true rfl⟩ (fun r_44_294 nw_44_292 l_44_293 H locs hw hO => ?_)
            obtain ⟨z_44_295, rfl⟩ := hw
            have hO : cO D cy A s.heap s 2 ad (cup [] g) _ _ := hO
            refine lv_icmp_eq (tgt := 52) hx hb ddX6_is_47 (by decide) (fun h_47_296 => ?_) (fun h_47_296 => ?_)
            · have q_47_297 := zr_eq h_47_296
              have z_47_298 : zi 0 65535 v_41_290 := ze_eq q_47_297 z_41_291 z_44_295
              obtain ⟨v_52_299, e_52_300, z_52_301, q_52_302⟩ := zi_inc (e := 1) (f := 6) 1 z_28_285 (by decide)
              refine lv_iinc (v := v_52_299) (lv' := [(2, .int v_52_299), (0, .ref (ad 0)), (1, .ref (cy (100 + 4)))]) hx hb ddX6_is_52 hl (k := 0) rfl e_52_300 (by decide) rfl (fun ls hl => ?_)
              refine lv_goto (tgt := 23) hx hb ddX6_is_55 (by decide) ?_
              exact ih_23_280 v_52_299 (zi_w (c := 0) (d := 6) z_52_301 (by decide)) (zm_up q_52_302 ((zi_w (c := 0) (d := 6) z_52_301 (by decide))).2 (by decide) mu_23_279) _ _ hO ls (lv_sub hl [0, 1, 2] rfl)
            · refine lv_iconst (v := 0) hx hb ddX6_is_50 (by decide) ?_
              exact cg_iret (nw := fun _ => 0) hC hr hlk hO.same rfl (Nat.le_of_ble_eq_true rfl) (Nat.le_of_ble_eq_true rfl) (⟨(zi_k (a := 0) (b := 1) (x := 0) rfl), rfl⟩) ddX6_is_51
      exact loop_23_277 ((6 + 1 - (0 : Int32).toInt).toNat + 1) 0 (zi_k (a := 0) (b := 6) (x := 0) rfl) (Nat.lt_succ_self _) _ _ hO ls (lv_sub hl [0, 1, 2] rfl)
    · refine lv_iconst (v := 0) hx hb ddX6_is_19 (by decide) ?_
      exact cg_iret (nw := fun _ => 0) hC hr hlk hO.same rfl (Nat.le_of_ble_eq_true rfl) (Nat.le_of_ble_eq_true rfl) (⟨(zi_k (a := 0) (b := 1) (x := 0) rfl), rfl⟩) ddX6_is_20

def wq_k_is_5 : List Cond := Cond.code yX6_is cX6_is 3 (some .boolean) :: (([Cond.fieldLink RX6 47 "CrowToll$Reader" "kind" "I", Cond.fieldLink RX6 218 "CrowToll$Reader" "size" "I", Cond.methodLink RX6 221 yJ0_length_8abf5, Cond.instanceMethod yJ0_length_8abf5, Cond.selects RJ0 yJ0_length_8abf5 yJ0_length_8abf5, Cond.initialized RJ0, Cond.code yJ0_length_8abf5 cJ0_length_8abf5 1 (some .int), Cond.fieldLink RJ0 9 "java/lang/String" "value" "[B", Cond.methodLink RJ0 335 yJ0_coder_7d493, Cond.instanceMethod yJ0_coder_7d493, Cond.selects RJ0 yJ0_coder_7d493 yJ0_coder_7d493, Cond.code yJ0_coder_7d493 cJ0_coder_7d493 1 (some .byte), Cond.fieldLink RJ0 38 "java/lang/String" "COMPACT_STRINGS" "Z", Cond.fieldLink RJ0 15 "java/lang/String" "coder" "B", Cond.fieldLink RX6 22 "CrowToll$Reader" "text" "[I", Cond.fieldLink RX6 212 "CrowToll$Reader" "place" "I", Cond.methodLink RX6 226 yJ0_charAt_5068e, Cond.instanceMethod yJ0_charAt_5068e, Cond.selects RJ0 yJ0_charAt_5068e yJ0_charAt_5068e, Cond.code yJ0_charAt_5068e cJ0_charAt_5068e 2 (some .char), Cond.methodLink RJ0 492 yJ0_isLatin1_aae02, Cond.instanceMethod yJ0_isLatin1_aae02, Cond.selects RJ0 yJ0_isLatin1_aae02 yJ0_isLatin1_aae02, Cond.code yJ0_isLatin1_aae02 cJ0_isLatin1_aae02 1 (some .boolean), Cond.methodLink RJ0 495 yJ1_charAt_3b067, Cond.static yJ1_charAt_3b067, Cond.initialized RJ1, Cond.code yJ1_charAt_3b067 cJ1_charAt_3b067 2 (some .char), Cond.methodLink RJ1 9 yJ0_checkIndex_df160, Cond.static yJ0_checkIndex_df160, Cond.code yJ0_checkIndex_df160 cJ0_checkIndex_df160 2 none, Cond.fieldLink RJ0 1053 "jdk/internal/util/Preconditions" "SIOOBE_FORMATTER" "Ljava/util/function/BiFunction;", Cond.methodLink RJ0 1059 yJ3_checkIndex_8e157, Cond.static yJ3_checkIndex_8e157, Cond.initialized RJ3, Cond.code yJ3_checkIndex_8e157 cJ3_checkIndex_8e157 3 (some .int)] : List Cond) ++ wsX60)
set_option maxRecDepth 20000 in
theorem gr_k_is_5_k_length_5 : GoodIn wq_k_is_5 wq_k_length_5 := List.forall_mem_cons.mpr ⟨⟨(List.mem_of_getElem? (i := 7) rfl), good_of_word rfl⟩, List.forall_mem_cons.mpr ⟨⟨(List.mem_of_getElem? (i := 8) rfl), good_of_word rfl⟩, List.forall_mem_cons.mpr ⟨⟨(List.mem_of_getElem? (i := 9) rfl), good_of_word rfl⟩, List.forall_mem_cons.mpr ⟨⟨(List.mem_of_getElem? (i := 10) rfl), good_of_word rfl⟩, List.forall_mem_cons.mpr ⟨⟨(List.mem_of_getElem? (i := 11) rfl), good_of_word rfl⟩, List.forall_mem_cons.mpr ⟨⟨(List.mem_of_getElem? (i := 6) rfl), good_of_word rfl⟩, List.forall_mem_cons.mpr ⟨⟨(List.mem_of_getElem? (i := 12) rfl), good_of_word rfl⟩, List.forall_mem_cons.mpr ⟨⟨(List.mem_of_getElem? (i := 13) rfl), good_of_word rfl⟩, List.forall_mem_cons.mpr ⟨⟨(List.mem_of_getElem? (i := 14) rfl), good_of_word rfl⟩, (fun _ h => absurd h List.not_mem_nil)⟩⟩⟩⟩⟩⟩⟩⟩⟩
set_option maxRecDepth 20000 in
theorem gq_k_is_5_k_length_5_221 : GoodIn wq_k_is_5 (wsV RX6 221 RJ0 yJ0_length_8abf5 wq_k_length_5) := goodIn_app (List.forall_mem_cons.mpr ⟨⟨(List.mem_of_getElem? (i := 3) rfl), good_of_word rfl⟩, List.forall_mem_cons.mpr ⟨⟨(List.mem_of_getElem? (i := 4) rfl), good_of_word rfl⟩, List.forall_mem_cons.mpr ⟨⟨(List.mem_of_getElem? (i := 5) rfl), good_of_word rfl⟩, List.forall_mem_cons.mpr ⟨⟨(List.mem_of_getElem? (i := 6) rfl), good_of_word rfl⟩, (fun _ h => absurd h List.not_mem_nil)⟩⟩⟩⟩) gr_k_is_5_k_length_5
set_option maxRecDepth 20000 in
theorem gr_k_is_5_k_charAt_5 : GoodIn wq_k_is_5 wq_k_charAt_5 := List.forall_mem_cons.mpr ⟨⟨(List.mem_of_getElem? (i := 20) rfl), good_of_word rfl⟩, List.forall_mem_cons.mpr ⟨⟨(List.mem_of_getElem? (i := 21) rfl), good_of_word rfl⟩, List.forall_mem_cons.mpr ⟨⟨(List.mem_of_getElem? (i := 22) rfl), good_of_word rfl⟩, List.forall_mem_cons.mpr ⟨⟨(List.mem_of_getElem? (i := 23) rfl), good_of_word rfl⟩, List.forall_mem_cons.mpr ⟨⟨(List.mem_of_getElem? (i := 6) rfl), good_of_word rfl⟩, List.forall_mem_cons.mpr ⟨⟨(List.mem_of_getElem? (i := 24) rfl), good_of_word rfl⟩, List.forall_mem_cons.mpr ⟨⟨(List.mem_of_getElem? (i := 13) rfl), good_of_word rfl⟩, List.forall_mem_cons.mpr ⟨⟨(List.mem_of_getElem? (i := 14) rfl), good_of_word rfl⟩, List.forall_mem_cons.mpr ⟨⟨(List.mem_of_getElem? (i := 8) rfl), good_of_word rfl⟩, List.forall_mem_cons.mpr ⟨⟨(List.mem_of_getElem? (i := 25) rfl), good_of_word rfl⟩, List.forall_mem_cons.mpr ⟨⟨(List.mem_of_getElem? (i := 26) rfl), good_of_word rfl⟩, List.forall_mem_cons.mpr ⟨⟨(List.mem_of_getElem? (i := 27) rfl), good_of_word rfl⟩, List.forall_mem_cons.mpr ⟨⟨(List.mem_of_getElem? (i := 28) rfl), good_of_word rfl⟩, List.forall_mem_cons.mpr ⟨⟨(List.mem_of_getElem? (i := 29) rfl), good_of_word rfl⟩, List.forall_mem_cons.mpr ⟨⟨(List.mem_of_getElem? (i := 30) rfl), good_of_word rfl⟩, List.forall_mem_cons.mpr ⟨⟨(List.mem_of_getElem? (i := 31) rfl), good_of_word rfl⟩, List.forall_mem_cons.mpr ⟨⟨(List.mem_of_getElem? (i := 32) rfl), good_of_word rfl⟩, List.forall_mem_cons.mpr ⟨⟨(List.mem_of_getElem? (i := 33) rfl), good_of_word rfl⟩, List.forall_mem_cons.mpr ⟨⟨(List.mem_of_getElem? (i := 34) rfl), good_of_word rfl⟩, List.forall_mem_cons.mpr ⟨⟨(List.mem_of_getElem? (i := 35) rfl), good_of_word rfl⟩, List.forall_mem_cons.mpr ⟨⟨(List.mem_of_getElem? (i := 36) rfl), good_of_word rfl⟩, (fun _ h => absurd h List.not_mem_nil)⟩⟩⟩⟩⟩⟩⟩⟩⟩⟩⟩⟩⟩⟩⟩⟩⟩⟩⟩⟩⟩
set_option maxRecDepth 20000 in
theorem gq_k_is_5_k_charAt_5_226 : GoodIn wq_k_is_5 (wsV RX6 226 RJ0 yJ0_charAt_5068e wq_k_charAt_5) := goodIn_app (List.forall_mem_cons.mpr ⟨⟨(List.mem_of_getElem? (i := 17) rfl), good_of_word rfl⟩, List.forall_mem_cons.mpr ⟨⟨(List.mem_of_getElem? (i := 18) rfl), good_of_word rfl⟩, List.forall_mem_cons.mpr ⟨⟨(List.mem_of_getElem? (i := 19) rfl), good_of_word rfl⟩, List.forall_mem_cons.mpr ⟨⟨(List.mem_of_getElem? (i := 6) rfl), good_of_word rfl⟩, (fun _ h => absurd h List.not_mem_nil)⟩⟩⟩⟩) gr_k_is_5_k_charAt_5
set_option maxHeartbeats 8000000 in
set_option maxRecDepth 100000 in
theorem k_is_5 (l : Launch) (D : va_G) (cy : Nat → ClassId) (ad : Nat → Nat) (g : Nat → va_E) {u0_0 : Value} {u0_1 : Value} {u0_2 : Value} {u0_4 : Value} {u0_5 : Value} {x0_6 : Int32} {x0_7 : Int32} {x0_8 : Int32} {u0_9 : Value} {u0_10 : Value} {u0_11 : Value} {c1 : Nat → Int32} (o0 : g 0 = .inr (6, [u0_0, u0_1, u0_2, .ref (ad 1), u0_4, u0_5, .int x0_6, .int x0_7, .int x0_8, u0_9, u0_10, u0_11])) (a1 : g 1 = .inl (cy 0, 1600, .inl c1)) (b0_7 : zi 0 1600 x0_7) (hw0 : ((x0_6 : Int32) = 1 → (x0_7 : Int32).toInt + (x0_8 : Int32).toInt ≤ 1600)) : cMi l yX6_is wq_k_is_5 { frames := 4, cells := 0, slots := 0, locals := 85 } 2 0 0 0 D cy ad g [.ref (ad 0), .ref (cy (100 + 5))] (fun r nw lu => (zi 0 1 r) ∧ (lu = [])) := by
  refine cM_of (Qc := fun A => cQi (fun r nw lu => (zi 0 1 r) ∧ (lu = [])) D 2 0 ad g A) (cc := cX6_is) (maxL := 3) (ret := (some .boolean)) (by decide) rfl (Nat.le_of_ble_eq_true rfl) ?_
  intro p e s m below meth c A hC hr hlk hnm hO ls hl
  have hC : CallFix p m c cX6_is 3 s [.ref (ad 0), .ref (cy (100 + 5))].toArray wq_k_is_5 RX6 := hC
  obtain ⟨hx, hb, hml, hown, hts⟩ := id hC
  have hl : lv_has ls 3 [(0, .ref (ad 0)), (1, .ref (cy (100 + 5)))] := hl
  have i_X6 : ∀ w ∈ wsX60, w ∈ wq_k_is_5 := fun w h => List.mem_cons_of_mem _ (List.mem_append_right _ h)
  refine lv_aload_n hx hb ddX6_is_0 rfl (lv_at hl 0 rfl) ?_
  refine cg_get hC hO 0 (by decide) o0 rfl i_X6 6 (by decide) (List.mem_of_getElem? (i := 1) rfl) rfl ddX6_is_1 ?_
  refine lv_iconst (v := 1) hx hb ddX6_is_4 (by decide) ?_
  refine lv_icmp_ne (tgt := 19) hx hb ddX6_is_5 (by decide) (fun h_5_139 => ?_) (fun h_5_139 => ?_)
  · refine lv_iconst (v := 0) hx hb ddX6_is_19 (by decide) ?_
    exact cg_iret (nw := fun _ => 0) hC hr hlk hO.same rfl (Nat.le_of_ble_eq_true rfl) (Nat.le_of_ble_eq_true rfl) (⟨(zi_k (a := 0) (b := 1) (x := 0) rfl), rfl⟩) ddX6_is_20
  · have q_5_140 := zr_eq h_5_139
    have z_5_141 : zi 1 1 x0_6 := ze_eq q_5_140 (zi_all x0_6) (zi_k (a := 1) (b := 1) (x := 1) rfl)
    refine lv_aload_n hx hb ddX6_is_8 rfl (lv_at hl 0 rfl) ?_
    refine cg_get hC hO 0 (by decide) o0 rfl i_X6 8 (by decide) (List.mem_of_getElem? (i := 2) rfl) rfl ddX6_is_9 ?_
    refine lv_aload_n hx hb ddX6_is_12 rfl (lv_at hl 1 rfl) ?_
    refine sg_Vi (As := []) (rest := [.int x0_8]) (mc := 0) (ms := 0) (rm := { frames := 1, cells := 0, slots := 0, locals := 20 }) hC hl.1 hO [] (by decide +kernel) 5 (by decide) (k_length_5 l D cy _ _  ) gq_k_is_5_k_length_5_221 rfl rfl rfl 0 (by decide +kernel) ⟨Nat.le_of_ble_eq_true rfl, Nat.le_of_ble_eq_true rfl⟩ rfl rfl (Nat.le_of_ble_eq_true rfl) ddX6_is_13 ⟨Nat.le_of_ble_eq_true rfl, Nat.le_of_ble_eq_true rfl⟩ (fun r_13_144 nw_13_142 l_13_143 H locs hw hO => ?_)
    obtain ⟨rfl, rfl⟩ := hw
    have hO : cO D cy A s.heap s 2 ad (cup [] g) _ _ := hO
    refine lv_icmp_eq (tgt := 21) hx hb ddX6_is_16 (by decide) (fun h_16_145 => ?_) (fun h_16_145 => ?_)
    · have q_16_146 := zr_eq h_16_145
      have z_16_147 : zi 3 3 x0_8 := ze_eq q_16_146 (zi_all x0_8) (zi_k (a := 3) (b := 3) (x := 3) rfl)
      refine lv_iconst (v := 0) hx hb ddX6_is_21 (by decide) ?_
      refine lv_istore_n (lv' := [(2, .int 0), (0, .ref (ad 0)), (1, .ref (cy (100 + 5)))]) hx hb ddX6_is_22 rfl hl (by decide) rfl (fun ls hl => ?_)
      have loop_23_277 : ∀ (d_23_278 : Nat) (v_23_253 : Int32), zi 0 3 v_23_253 → (3 + 1 - v_23_253.toInt).toNat < d_23_278 → ∀ (H : Heap) (locs : List Loc), cO D cy A s.heap s 2 ad (cup [] g) H locs → ∀ ls : Array Slot, lv_has ls 3 [(2, .int v_23_253), (0, .ref (ad 0)), (1, .ref (cy (100 + 5)))] → W p l e { frames := 4, cells := 0, slots := 0, locals := 85 } s m [.ref (ad 0), .ref (cy (100 + 5))].toArray below meth c H locs 0 0 (MQ below (cQi (fun r nw lu => (zi 0 1 r) ∧ (lu = [])) D 2 0 ad g A) [.ref (ad 0), .ref (cy (100 + 5))].toArray s 0 0 A) (F0 m 23 ls [])  := by
        intro d_23_278
        induction d_23_278 with
        | zero => intro v_23_253 z_23_254 mu_23_279; exact absurd mu_23_279 (Nat.not_lt_zero _)
        | succ d_23_278 ih_23_280 =>
          intro v_23_253 z_23_254 mu_23_279 H locs hO ls hl
          refine lv_iload_n hx hb ddX6_is_23 rfl (lv_at hl 0 rfl) ?_
          refine lv_aload_n hx hb ddX6_is_24 rfl (lv_at hl 1 rfl) ?_
          refine cg_get hC hO 0 (by decide) o0 rfl i_X6 8 (by decide) (List.mem_of_getElem? (i := 2) rfl) rfl ddX6_is_25 ?_
          refine lv_icmp_ge (tgt := 58) hx hb ddX6_is_28 (by decide) (fun h_28_281 => ?_) (fun h_28_281 => ?_)
          · have q_28_282 := zr_le h_28_281
            have z_28_283 : zi 3 3 v_23_253 := zd_le q_28_282 z_16_147 z_23_254 (by decide)
            refine lv_iconst (v := 1) hx hb ddX6_is_58 (by decide) ?_
            exact cg_iret (nw := fun _ => 0) hC hr hlk hO.same rfl (Nat.le_of_ble_eq_true rfl) (Nat.le_of_ble_eq_true rfl) (⟨(zi_k (a := 0) (b := 1) (x := 1) rfl), rfl⟩) ddX6_is_59
          · have q_28_284 := zr_nle h_28_281
            have z_28_285 : zi 0 2 v_23_253 := zu_lt q_28_284 z_23_254 z_16_147 (by decide)
            refine lv_aload_n hx hb ddX6_is_31 rfl (lv_at hl 1 rfl) ?_
            refine cg_get hC hO 0 (by decide) o0 rfl i_X6 3 (by decide) (List.mem_of_getElem? (i := 15) rfl) rfl ddX6_is_32 ?_
            refine lv_aload_n hx hb ddX6_is_35 rfl (lv_at hl 1 rfl) ?_
            refine cg_get hC hO 0 (by decide) o0 rfl i_X6 7 (by decide) (List.mem_of_getElem? (i := 16) rfl) rfl ddX6_is_36 ?_
            refine lv_iload_n hx hb ddX6_is_39 rfl (lv_at hl 0 rfl) ?_
            have z_40_286 : zi 0 1597 x0_7 := ⟨b0_7.1, by have q1 := hw0 h_5_139; have q2 := z_16_147; omega⟩
            refine lv_iadd hx hb ddX6_is_40 ?_
            refine zg_top2 (P := fun v => zi 0 1599 v) (E := fun v => v.toInt = (x0_7 : Int32).toInt + (v_23_253 : Int32).toInt) (zi_add z_40_286 z_28_285 (by decide)) (fun v_40_287 z_40_288 q_40_289 => ?_)
            refine zg_iald hC hO 1 (by decide) a1 (za_all _) (zi_in z_40_288 (by decide)) ddX6_is_41 (fun v_41_290 z_41_291 => ?_)
            refine lv_aload_n hx hb ddX6_is_42 rfl (lv_at hl 2 rfl) ?_
            refine lv_iload_n hx hb ddX6_is_43 rfl (lv_at hl 0 rfl) ?_
            refine sg_Vi (As := [.int v_23_253]) (rest := [.int v_41_290]) (mc := 0) (ms := 0) (rm := { frames := 3, cells := 0, slots := 0, locals := 64 }) hC hl.1 hO [] (by decide +kernel) 5 (by decide) (k_charAt_5 l D cy _ _ (n := v_23_253) z_28_285) gq_k_is_5_k_charAt_5_226 rfl rfl rfl 1 (by decide +kernel) ⟨Nat.le_of_ble_eq_true rfl, Nat.le_of_ble_eq_true rfl⟩ rfl rfl (Nat.le_of_ble_eq_true rfl) ddX6_is_44 ⟨Nat.le_of_ble_eq_true rfl, Nat.le_of_ble_eq_true rfl⟩ (fun r_44_294 nw_44_292 l_44_293 H locs hw hO => ?_)
            obtain ⟨z_44_295, rfl⟩ := hw
            have hO : cO D cy A s.heap s 2 ad (cup [] g) _ _ := hO
            refine lv_icmp_eq (tgt := 52) hx hb ddX6_is_47 (by decide) (fun h_47_296 => ?_) (fun h_47_296 => ?_)
            · have q_47_297 := zr_eq h_47_296
              have z_47_298 : zi 0 65535 v_41_290 := ze_eq q_47_297 z_41_291 z_44_295
              obtain ⟨v_52_299, e_52_300, z_52_301, q_52_302⟩ := zi_inc (e := 1) (f := 3) 1 z_28_285 (by decide)
              refine lv_iinc (v := v_52_299) (lv' := [(2, .int v_52_299), (0, .ref (ad 0)), (1, .ref (cy (100 + 5)))]) hx hb ddX6_is_52 hl (k := 0) rfl e_52_300 (by decide) rfl (fun ls hl => ?_)
              refine lv_goto (tgt := 23) hx hb ddX6_is_55 (by decide) ?_
              exact ih_23_280 v_52_299 (zi_w (c := 0) (d := 3) z_52_301 (by decide)) (zm_up q_52_302 ((zi_w (c := 0) (d := 3) z_52_301 (by decide))).2 (by decide) mu_23_279) _ _ hO ls (lv_sub hl [0, 1, 2] rfl)
            · refine lv_iconst (v := 0) hx hb ddX6_is_50 (by decide) ?_
              exact cg_iret (nw := fun _ => 0) hC hr hlk hO.same rfl (Nat.le_of_ble_eq_true rfl) (Nat.le_of_ble_eq_true rfl) (⟨(zi_k (a := 0) (b := 1) (x := 0) rfl), rfl⟩) ddX6_is_51
      exact loop_23_277 ((3 + 1 - (0 : Int32).toInt).toNat + 1) 0 (zi_k (a := 0) (b := 3) (x := 0) rfl) (Nat.lt_succ_self _) _ _ hO ls (lv_sub hl [0, 1, 2] rfl)
    · refine lv_iconst (v := 0) hx hb ddX6_is_19 (by decide) ?_
      exact cg_iret (nw := fun _ => 0) hC hr hlk hO.same rfl (Nat.le_of_ble_eq_true rfl) (Nat.le_of_ble_eq_true rfl) (⟨(zi_k (a := 0) (b := 1) (x := 0) rfl), rfl⟩) ddX6_is_20

def wq_k_is_6 : List Cond := Cond.code yX6_is cX6_is 3 (some .boolean) :: (([Cond.fieldLink RX6 47 "CrowToll$Reader" "kind" "I", Cond.fieldLink RX6 218 "CrowToll$Reader" "size" "I", Cond.methodLink RX6 221 yJ0_length_8abf5, Cond.instanceMethod yJ0_length_8abf5, Cond.selects RJ0 yJ0_length_8abf5 yJ0_length_8abf5, Cond.initialized RJ0, Cond.code yJ0_length_8abf5 cJ0_length_8abf5 1 (some .int), Cond.fieldLink RJ0 9 "java/lang/String" "value" "[B", Cond.methodLink RJ0 335 yJ0_coder_7d493, Cond.instanceMethod yJ0_coder_7d493, Cond.selects RJ0 yJ0_coder_7d493 yJ0_coder_7d493, Cond.code yJ0_coder_7d493 cJ0_coder_7d493 1 (some .byte), Cond.fieldLink RJ0 38 "java/lang/String" "COMPACT_STRINGS" "Z", Cond.fieldLink RJ0 15 "java/lang/String" "coder" "B", Cond.fieldLink RX6 22 "CrowToll$Reader" "text" "[I", Cond.fieldLink RX6 212 "CrowToll$Reader" "place" "I", Cond.methodLink RX6 226 yJ0_charAt_5068e, Cond.instanceMethod yJ0_charAt_5068e, Cond.selects RJ0 yJ0_charAt_5068e yJ0_charAt_5068e, Cond.code yJ0_charAt_5068e cJ0_charAt_5068e 2 (some .char), Cond.methodLink RJ0 492 yJ0_isLatin1_aae02, Cond.instanceMethod yJ0_isLatin1_aae02, Cond.selects RJ0 yJ0_isLatin1_aae02 yJ0_isLatin1_aae02, Cond.code yJ0_isLatin1_aae02 cJ0_isLatin1_aae02 1 (some .boolean), Cond.methodLink RJ0 495 yJ1_charAt_3b067, Cond.static yJ1_charAt_3b067, Cond.initialized RJ1, Cond.code yJ1_charAt_3b067 cJ1_charAt_3b067 2 (some .char), Cond.methodLink RJ1 9 yJ0_checkIndex_df160, Cond.static yJ0_checkIndex_df160, Cond.code yJ0_checkIndex_df160 cJ0_checkIndex_df160 2 none, Cond.fieldLink RJ0 1053 "jdk/internal/util/Preconditions" "SIOOBE_FORMATTER" "Ljava/util/function/BiFunction;", Cond.methodLink RJ0 1059 yJ3_checkIndex_8e157, Cond.static yJ3_checkIndex_8e157, Cond.initialized RJ3, Cond.code yJ3_checkIndex_8e157 cJ3_checkIndex_8e157 3 (some .int)] : List Cond) ++ wsX60)
set_option maxRecDepth 20000 in
theorem gr_k_is_6_k_length_6 : GoodIn wq_k_is_6 wq_k_length_6 := List.forall_mem_cons.mpr ⟨⟨(List.mem_of_getElem? (i := 7) rfl), good_of_word rfl⟩, List.forall_mem_cons.mpr ⟨⟨(List.mem_of_getElem? (i := 8) rfl), good_of_word rfl⟩, List.forall_mem_cons.mpr ⟨⟨(List.mem_of_getElem? (i := 9) rfl), good_of_word rfl⟩, List.forall_mem_cons.mpr ⟨⟨(List.mem_of_getElem? (i := 10) rfl), good_of_word rfl⟩, List.forall_mem_cons.mpr ⟨⟨(List.mem_of_getElem? (i := 11) rfl), good_of_word rfl⟩, List.forall_mem_cons.mpr ⟨⟨(List.mem_of_getElem? (i := 6) rfl), good_of_word rfl⟩, List.forall_mem_cons.mpr ⟨⟨(List.mem_of_getElem? (i := 12) rfl), good_of_word rfl⟩, List.forall_mem_cons.mpr ⟨⟨(List.mem_of_getElem? (i := 13) rfl), good_of_word rfl⟩, List.forall_mem_cons.mpr ⟨⟨(List.mem_of_getElem? (i := 14) rfl), good_of_word rfl⟩, (fun _ h => absurd h List.not_mem_nil)⟩⟩⟩⟩⟩⟩⟩⟩⟩
set_option maxRecDepth 20000 in
theorem gq_k_is_6_k_length_6_221 : GoodIn wq_k_is_6 (wsV RX6 221 RJ0 yJ0_length_8abf5 wq_k_length_6) := goodIn_app (List.forall_mem_cons.mpr ⟨⟨(List.mem_of_getElem? (i := 3) rfl), good_of_word rfl⟩, List.forall_mem_cons.mpr ⟨⟨(List.mem_of_getElem? (i := 4) rfl), good_of_word rfl⟩, List.forall_mem_cons.mpr ⟨⟨(List.mem_of_getElem? (i := 5) rfl), good_of_word rfl⟩, List.forall_mem_cons.mpr ⟨⟨(List.mem_of_getElem? (i := 6) rfl), good_of_word rfl⟩, (fun _ h => absurd h List.not_mem_nil)⟩⟩⟩⟩) gr_k_is_6_k_length_6
set_option maxRecDepth 20000 in
theorem gr_k_is_6_k_charAt_6 : GoodIn wq_k_is_6 wq_k_charAt_6 := List.forall_mem_cons.mpr ⟨⟨(List.mem_of_getElem? (i := 20) rfl), good_of_word rfl⟩, List.forall_mem_cons.mpr ⟨⟨(List.mem_of_getElem? (i := 21) rfl), good_of_word rfl⟩, List.forall_mem_cons.mpr ⟨⟨(List.mem_of_getElem? (i := 22) rfl), good_of_word rfl⟩, List.forall_mem_cons.mpr ⟨⟨(List.mem_of_getElem? (i := 23) rfl), good_of_word rfl⟩, List.forall_mem_cons.mpr ⟨⟨(List.mem_of_getElem? (i := 6) rfl), good_of_word rfl⟩, List.forall_mem_cons.mpr ⟨⟨(List.mem_of_getElem? (i := 24) rfl), good_of_word rfl⟩, List.forall_mem_cons.mpr ⟨⟨(List.mem_of_getElem? (i := 13) rfl), good_of_word rfl⟩, List.forall_mem_cons.mpr ⟨⟨(List.mem_of_getElem? (i := 14) rfl), good_of_word rfl⟩, List.forall_mem_cons.mpr ⟨⟨(List.mem_of_getElem? (i := 8) rfl), good_of_word rfl⟩, List.forall_mem_cons.mpr ⟨⟨(List.mem_of_getElem? (i := 25) rfl), good_of_word rfl⟩, List.forall_mem_cons.mpr ⟨⟨(List.mem_of_getElem? (i := 26) rfl), good_of_word rfl⟩, List.forall_mem_cons.mpr ⟨⟨(List.mem_of_getElem? (i := 27) rfl), good_of_word rfl⟩, List.forall_mem_cons.mpr ⟨⟨(List.mem_of_getElem? (i := 28) rfl), good_of_word rfl⟩, List.forall_mem_cons.mpr ⟨⟨(List.mem_of_getElem? (i := 29) rfl), good_of_word rfl⟩, List.forall_mem_cons.mpr ⟨⟨(List.mem_of_getElem? (i := 30) rfl), good_of_word rfl⟩, List.forall_mem_cons.mpr ⟨⟨(List.mem_of_getElem? (i := 31) rfl), good_of_word rfl⟩, List.forall_mem_cons.mpr ⟨⟨(List.mem_of_getElem? (i := 32) rfl), good_of_word rfl⟩, List.forall_mem_cons.mpr ⟨⟨(List.mem_of_getElem? (i := 33) rfl), good_of_word rfl⟩, List.forall_mem_cons.mpr ⟨⟨(List.mem_of_getElem? (i := 34) rfl), good_of_word rfl⟩, List.forall_mem_cons.mpr ⟨⟨(List.mem_of_getElem? (i := 35) rfl), good_of_word rfl⟩, List.forall_mem_cons.mpr ⟨⟨(List.mem_of_getElem? (i := 36) rfl), good_of_word rfl⟩, (fun _ h => absurd h List.not_mem_nil)⟩⟩⟩⟩⟩⟩⟩⟩⟩⟩⟩⟩⟩⟩⟩⟩⟩⟩⟩⟩⟩
set_option maxRecDepth 20000 in
theorem gq_k_is_6_k_charAt_6_226 : GoodIn wq_k_is_6 (wsV RX6 226 RJ0 yJ0_charAt_5068e wq_k_charAt_6) := goodIn_app (List.forall_mem_cons.mpr ⟨⟨(List.mem_of_getElem? (i := 17) rfl), good_of_word rfl⟩, List.forall_mem_cons.mpr ⟨⟨(List.mem_of_getElem? (i := 18) rfl), good_of_word rfl⟩, List.forall_mem_cons.mpr ⟨⟨(List.mem_of_getElem? (i := 19) rfl), good_of_word rfl⟩, List.forall_mem_cons.mpr ⟨⟨(List.mem_of_getElem? (i := 6) rfl), good_of_word rfl⟩, (fun _ h => absurd h List.not_mem_nil)⟩⟩⟩⟩) gr_k_is_6_k_charAt_6
set_option maxHeartbeats 8000000 in
set_option maxRecDepth 100000 in
theorem k_is_6 (l : Launch) (D : va_G) (cy : Nat → ClassId) (ad : Nat → Nat) (g : Nat → va_E) {u0_0 : Value} {u0_1 : Value} {u0_2 : Value} {u0_4 : Value} {u0_5 : Value} {x0_6 : Int32} {x0_7 : Int32} {x0_8 : Int32} {u0_9 : Value} {u0_10 : Value} {u0_11 : Value} {c1 : Nat → Int32} (o0 : g 0 = .inr (6, [u0_0, u0_1, u0_2, .ref (ad 1), u0_4, u0_5, .int x0_6, .int x0_7, .int x0_8, u0_9, u0_10, u0_11])) (a1 : g 1 = .inl (cy 0, 1600, .inl c1)) (b0_7 : zi 0 1600 x0_7) (hw0 : ((x0_6 : Int32) = 1 → (x0_7 : Int32).toInt + (x0_8 : Int32).toInt ≤ 1600)) : cMi l yX6_is wq_k_is_6 { frames := 4, cells := 0, slots := 0, locals := 85 } 2 0 0 0 D cy ad g [.ref (ad 0), .ref (cy (100 + 6))] (fun r nw lu => (zi 0 1 r) ∧ (lu = [])) := by
  refine cM_of (Qc := fun A => cQi (fun r nw lu => (zi 0 1 r) ∧ (lu = [])) D 2 0 ad g A) (cc := cX6_is) (maxL := 3) (ret := (some .boolean)) (by decide) rfl (Nat.le_of_ble_eq_true rfl) ?_
  intro p e s m below meth c A hC hr hlk hnm hO ls hl
  have hC : CallFix p m c cX6_is 3 s [.ref (ad 0), .ref (cy (100 + 6))].toArray wq_k_is_6 RX6 := hC
  obtain ⟨hx, hb, hml, hown, hts⟩ := id hC
  have hl : lv_has ls 3 [(0, .ref (ad 0)), (1, .ref (cy (100 + 6)))] := hl
  have i_X6 : ∀ w ∈ wsX60, w ∈ wq_k_is_6 := fun w h => List.mem_cons_of_mem _ (List.mem_append_right _ h)
  refine lv_aload_n hx hb ddX6_is_0 rfl (lv_at hl 0 rfl) ?_
  refine cg_get hC hO 0 (by decide) o0 rfl i_X6 6 (by decide) (List.mem_of_getElem? (i := 1) rfl) rfl ddX6_is_1 ?_
  refine lv_iconst (v := 1) hx hb ddX6_is_4 (by decide) ?_
  refine lv_icmp_ne (tgt := 19) hx hb ddX6_is_5 (by decide) (fun h_5_139 => ?_) (fun h_5_139 => ?_)
  · refine lv_iconst (v := 0) hx hb ddX6_is_19 (by decide) ?_
    exact cg_iret (nw := fun _ => 0) hC hr hlk hO.same rfl (Nat.le_of_ble_eq_true rfl) (Nat.le_of_ble_eq_true rfl) (⟨(zi_k (a := 0) (b := 1) (x := 0) rfl), rfl⟩) ddX6_is_20
  · have q_5_140 := zr_eq h_5_139
    have z_5_141 : zi 1 1 x0_6 := ze_eq q_5_140 (zi_all x0_6) (zi_k (a := 1) (b := 1) (x := 1) rfl)
    refine lv_aload_n hx hb ddX6_is_8 rfl (lv_at hl 0 rfl) ?_
    refine cg_get hC hO 0 (by decide) o0 rfl i_X6 8 (by decide) (List.mem_of_getElem? (i := 2) rfl) rfl ddX6_is_9 ?_
    refine lv_aload_n hx hb ddX6_is_12 rfl (lv_at hl 1 rfl) ?_
    refine sg_Vi (As := []) (rest := [.int x0_8]) (mc := 0) (ms := 0) (rm := { frames := 1, cells := 0, slots := 0, locals := 20 }) hC hl.1 hO [] (by decide +kernel) 6 (by decide) (k_length_6 l D cy _ _  ) gq_k_is_6_k_length_6_221 rfl rfl rfl 0 (by decide +kernel) ⟨Nat.le_of_ble_eq_true rfl, Nat.le_of_ble_eq_true rfl⟩ rfl rfl (Nat.le_of_ble_eq_true rfl) ddX6_is_13 ⟨Nat.le_of_ble_eq_true rfl, Nat.le_of_ble_eq_true rfl⟩ (fun r_13_144 nw_13_142 l_13_143 H locs hw hO => ?_)
    obtain ⟨rfl, rfl⟩ := hw
    have hO : cO D cy A s.heap s 2 ad (cup [] g) _ _ := hO
    refine lv_icmp_eq (tgt := 21) hx hb ddX6_is_16 (by decide) (fun h_16_145 => ?_) (fun h_16_145 => ?_)
    · have q_16_146 := zr_eq h_16_145
      have z_16_147 : zi 5 5 x0_8 := ze_eq q_16_146 (zi_all x0_8) (zi_k (a := 5) (b := 5) (x := 5) rfl)
      refine lv_iconst (v := 0) hx hb ddX6_is_21 (by decide) ?_
      refine lv_istore_n (lv' := [(2, .int 0), (0, .ref (ad 0)), (1, .ref (cy (100 + 6)))]) hx hb ddX6_is_22 rfl hl (by decide) rfl (fun ls hl => ?_)
      have loop_23_277 : ∀ (d_23_278 : Nat) (v_23_253 : Int32), zi 0 5 v_23_253 → (5 + 1 - v_23_253.toInt).toNat < d_23_278 → ∀ (H : Heap) (locs : List Loc), cO D cy A s.heap s 2 ad (cup [] g) H locs → ∀ ls : Array Slot, lv_has ls 3 [(2, .int v_23_253), (0, .ref (ad 0)), (1, .ref (cy (100 + 6)))] → W p l e { frames := 4, cells := 0, slots := 0, locals := 85 } s m [.ref (ad 0), .ref (cy (100 + 6))].toArray below meth c H locs 0 0 (MQ below (cQi (fun r nw lu => (zi 0 1 r) ∧ (lu = [])) D 2 0 ad g A) [.ref (ad 0), .ref (cy (100 + 6))].toArray s 0 0 A) (F0 m 23 ls [])  := by
        intro d_23_278
        induction d_23_278 with
        | zero => intro v_23_253 z_23_254 mu_23_279; exact absurd mu_23_279 (Nat.not_lt_zero _)
        | succ d_23_278 ih_23_280 =>
          intro v_23_253 z_23_254 mu_23_279 H locs hO ls hl
          refine lv_iload_n hx hb ddX6_is_23 rfl (lv_at hl 0 rfl) ?_
          refine lv_aload_n hx hb ddX6_is_24 rfl (lv_at hl 1 rfl) ?_
          refine cg_get hC hO 0 (by decide) o0 rfl i_X6 8 (by decide) (List.mem_of_getElem? (i := 2) rfl) rfl ddX6_is_25 ?_
          refine lv_icmp_ge (tgt := 58) hx hb ddX6_is_28 (by decide) (fun h_28_281 => ?_) (fun h_28_281 => ?_)
          · have q_28_282 := zr_le h_28_281
            have z_28_283 : zi 5 5 v_23_253 := zd_le q_28_282 z_16_147 z_23_254 (by decide)
            refine lv_iconst (v := 1) hx hb ddX6_is_58 (by decide) ?_
            exact cg_iret (nw := fun _ => 0) hC hr hlk hO.same rfl (Nat.le_of_ble_eq_true rfl) (Nat.le_of_ble_eq_true rfl) (⟨(zi_k (a := 0) (b := 1) (x := 1) rfl), rfl⟩) ddX6_is_59
          · have q_28_284 := zr_nle h_28_281
            have z_28_285 : zi 0 4 v_23_253 := zu_lt q_28_284 z_23_254 z_16_147 (by decide)
            refine lv_aload_n hx hb ddX6_is_31 rfl (lv_at hl 1 rfl) ?_
            refine cg_get hC hO 0 (by decide) o0 rfl i_X6 3 (by decide) (List.mem_of_getElem? (i := 15) rfl) rfl ddX6_is_32 ?_
            refine lv_aload_n hx hb ddX6_is_35 rfl (lv_at hl 1 rfl) ?_
            refine cg_get hC hO 0 (by decide) o0 rfl i_X6 7 (by decide) (List.mem_of_getElem? (i := 16) rfl) rfl ddX6_is_36 ?_
            refine lv_iload_n hx hb ddX6_is_39 rfl (lv_at hl 0 rfl) ?_
            have z_40_286 : zi 0 1595 x0_7 := ⟨b0_7.1, by have q1 := hw0 h_5_139; have q2 := z_16_147; omega⟩
            refine lv_iadd hx hb ddX6_is_40 ?_
            refine zg_top2 (P := fun v => zi 0 1599 v) (E := fun v => v.toInt = (x0_7 : Int32).toInt + (v_23_253 : Int32).toInt) (zi_add z_40_286 z_28_285 (by decide)) (fun v_40_287 z_40_288 q_40_289 => ?_)
            refine zg_iald hC hO 1 (by decide) a1 (za_all _) (zi_in z_40_288 (by decide)) ddX6_is_41 (fun v_41_290 z_41_291 => ?_)
            refine lv_aload_n hx hb ddX6_is_42 rfl (lv_at hl 2 rfl) ?_
            refine lv_iload_n hx hb ddX6_is_43 rfl (lv_at hl 0 rfl) ?_
            refine sg_Vi (As := [.int v_23_253]) (rest := [.int v_41_290]) (mc := 0) (ms := 0) (rm := { frames := 3, cells := 0, slots := 0, locals := 64 }) hC hl.1 hO [] (by decide +kernel) 6 (by decide) (k_charAt_6 l D cy _ _ (n := v_23_253) z_28_285) gq_k_is_6_k_charAt_6_226 rfl rfl rfl 1 (by decide +kernel) ⟨Nat.le_of_ble_eq_true rfl, Nat.le_of_ble_eq_true rfl⟩ rfl rfl (Nat.le_of_ble_eq_true rfl) ddX6_is_44 ⟨Nat.le_of_ble_eq_true rfl, Nat.le_of_ble_eq_true rfl⟩ (fun r_44_294 nw_44_292 l_44_293 H locs hw hO => ?_)
            obtain ⟨z_44_295, rfl⟩ := hw
            have hO : cO D cy A s.heap s 2 ad (cup [] g) _ _ := hO
            refine lv_icmp_eq (tgt := 52) hx hb ddX6_is_47 (by decide) (fun h_47_296 => ?_) (fun h_47_296 => ?_)
            · have q_47_297 := zr_eq h_47_296
              have z_47_298 : zi 0 65535 v_41_290 := ze_eq q_47_297 z_41_291 z_44_295
              obtain ⟨v_52_299, e_52_300, z_52_301, q_52_302⟩ := zi_inc (e := 1) (f := 5) 1 z_28_285 (by decide)
              refine lv_iinc (v := v_52_299) (lv' := [(2, .int v_52_299), (0, .ref (ad 0)), (1, .ref (cy (100 + 6)))]) hx hb ddX6_is_52 hl (k := 0) rfl e_52_300 (by decide) rfl (fun ls hl => ?_)
              refine lv_goto (tgt := 23) hx hb ddX6_is_55 (by decide) ?_
              exact ih_23_280 v_52_299 (zi_w (c := 0) (d := 5) z_52_301 (by decide)) (zm_up q_52_302 ((zi_w (c := 0) (d := 5) z_52_301 (by decide))).2 (by decide) mu_23_279) _ _ hO ls (lv_sub hl [0, 1, 2] rfl)
            · refine lv_iconst (v := 0) hx hb ddX6_is_50 (by decide) ?_
              exact cg_iret (nw := fun _ => 0) hC hr hlk hO.same rfl (Nat.le_of_ble_eq_true rfl) (Nat.le_of_ble_eq_true rfl) (⟨(zi_k (a := 0) (b := 1) (x := 0) rfl), rfl⟩) ddX6_is_51
      exact loop_23_277 ((5 + 1 - (0 : Int32).toInt).toNat + 1) 0 (zi_k (a := 0) (b := 5) (x := 0) rfl) (Nat.lt_succ_self _) _ _ hO ls (lv_sub hl [0, 1, 2] rfl)
    · refine lv_iconst (v := 0) hx hb ddX6_is_19 (by decide) ?_
      exact cg_iret (nw := fun _ => 0) hC hr hlk hO.same rfl (Nat.le_of_ble_eq_true rfl) (Nat.le_of_ble_eq_true rfl) (⟨(zi_k (a := 0) (b := 1) (x := 0) rfl), rfl⟩) ddX6_is_20

def wq_k_is_7 : List Cond := Cond.code yX6_is cX6_is 3 (some .boolean) :: (([Cond.fieldLink RX6 47 "CrowToll$Reader" "kind" "I", Cond.fieldLink RX6 218 "CrowToll$Reader" "size" "I", Cond.methodLink RX6 221 yJ0_length_8abf5, Cond.instanceMethod yJ0_length_8abf5, Cond.selects RJ0 yJ0_length_8abf5 yJ0_length_8abf5, Cond.initialized RJ0, Cond.code yJ0_length_8abf5 cJ0_length_8abf5 1 (some .int), Cond.fieldLink RJ0 9 "java/lang/String" "value" "[B", Cond.methodLink RJ0 335 yJ0_coder_7d493, Cond.instanceMethod yJ0_coder_7d493, Cond.selects RJ0 yJ0_coder_7d493 yJ0_coder_7d493, Cond.code yJ0_coder_7d493 cJ0_coder_7d493 1 (some .byte), Cond.fieldLink RJ0 38 "java/lang/String" "COMPACT_STRINGS" "Z", Cond.fieldLink RJ0 15 "java/lang/String" "coder" "B", Cond.fieldLink RX6 22 "CrowToll$Reader" "text" "[I", Cond.fieldLink RX6 212 "CrowToll$Reader" "place" "I", Cond.methodLink RX6 226 yJ0_charAt_5068e, Cond.instanceMethod yJ0_charAt_5068e, Cond.selects RJ0 yJ0_charAt_5068e yJ0_charAt_5068e, Cond.code yJ0_charAt_5068e cJ0_charAt_5068e 2 (some .char), Cond.methodLink RJ0 492 yJ0_isLatin1_aae02, Cond.instanceMethod yJ0_isLatin1_aae02, Cond.selects RJ0 yJ0_isLatin1_aae02 yJ0_isLatin1_aae02, Cond.code yJ0_isLatin1_aae02 cJ0_isLatin1_aae02 1 (some .boolean), Cond.methodLink RJ0 495 yJ1_charAt_3b067, Cond.static yJ1_charAt_3b067, Cond.initialized RJ1, Cond.code yJ1_charAt_3b067 cJ1_charAt_3b067 2 (some .char), Cond.methodLink RJ1 9 yJ0_checkIndex_df160, Cond.static yJ0_checkIndex_df160, Cond.code yJ0_checkIndex_df160 cJ0_checkIndex_df160 2 none, Cond.fieldLink RJ0 1053 "jdk/internal/util/Preconditions" "SIOOBE_FORMATTER" "Ljava/util/function/BiFunction;", Cond.methodLink RJ0 1059 yJ3_checkIndex_8e157, Cond.static yJ3_checkIndex_8e157, Cond.initialized RJ3, Cond.code yJ3_checkIndex_8e157 cJ3_checkIndex_8e157 3 (some .int)] : List Cond) ++ wsX60)
set_option maxRecDepth 20000 in
theorem gr_k_is_7_k_length_7 : GoodIn wq_k_is_7 wq_k_length_7 := List.forall_mem_cons.mpr ⟨⟨(List.mem_of_getElem? (i := 7) rfl), good_of_word rfl⟩, List.forall_mem_cons.mpr ⟨⟨(List.mem_of_getElem? (i := 8) rfl), good_of_word rfl⟩, List.forall_mem_cons.mpr ⟨⟨(List.mem_of_getElem? (i := 9) rfl), good_of_word rfl⟩, List.forall_mem_cons.mpr ⟨⟨(List.mem_of_getElem? (i := 10) rfl), good_of_word rfl⟩, List.forall_mem_cons.mpr ⟨⟨(List.mem_of_getElem? (i := 11) rfl), good_of_word rfl⟩, List.forall_mem_cons.mpr ⟨⟨(List.mem_of_getElem? (i := 6) rfl), good_of_word rfl⟩, List.forall_mem_cons.mpr ⟨⟨(List.mem_of_getElem? (i := 12) rfl), good_of_word rfl⟩, List.forall_mem_cons.mpr ⟨⟨(List.mem_of_getElem? (i := 13) rfl), good_of_word rfl⟩, List.forall_mem_cons.mpr ⟨⟨(List.mem_of_getElem? (i := 14) rfl), good_of_word rfl⟩, (fun _ h => absurd h List.not_mem_nil)⟩⟩⟩⟩⟩⟩⟩⟩⟩
set_option maxRecDepth 20000 in
theorem gq_k_is_7_k_length_7_221 : GoodIn wq_k_is_7 (wsV RX6 221 RJ0 yJ0_length_8abf5 wq_k_length_7) := goodIn_app (List.forall_mem_cons.mpr ⟨⟨(List.mem_of_getElem? (i := 3) rfl), good_of_word rfl⟩, List.forall_mem_cons.mpr ⟨⟨(List.mem_of_getElem? (i := 4) rfl), good_of_word rfl⟩, List.forall_mem_cons.mpr ⟨⟨(List.mem_of_getElem? (i := 5) rfl), good_of_word rfl⟩, List.forall_mem_cons.mpr ⟨⟨(List.mem_of_getElem? (i := 6) rfl), good_of_word rfl⟩, (fun _ h => absurd h List.not_mem_nil)⟩⟩⟩⟩) gr_k_is_7_k_length_7
set_option maxRecDepth 20000 in
theorem gr_k_is_7_k_charAt_7 : GoodIn wq_k_is_7 wq_k_charAt_7 := List.forall_mem_cons.mpr ⟨⟨(List.mem_of_getElem? (i := 20) rfl), good_of_word rfl⟩, List.forall_mem_cons.mpr ⟨⟨(List.mem_of_getElem? (i := 21) rfl), good_of_word rfl⟩, List.forall_mem_cons.mpr ⟨⟨(List.mem_of_getElem? (i := 22) rfl), good_of_word rfl⟩, List.forall_mem_cons.mpr ⟨⟨(List.mem_of_getElem? (i := 23) rfl), good_of_word rfl⟩, List.forall_mem_cons.mpr ⟨⟨(List.mem_of_getElem? (i := 6) rfl), good_of_word rfl⟩, List.forall_mem_cons.mpr ⟨⟨(List.mem_of_getElem? (i := 24) rfl), good_of_word rfl⟩, List.forall_mem_cons.mpr ⟨⟨(List.mem_of_getElem? (i := 13) rfl), good_of_word rfl⟩, List.forall_mem_cons.mpr ⟨⟨(List.mem_of_getElem? (i := 14) rfl), good_of_word rfl⟩, List.forall_mem_cons.mpr ⟨⟨(List.mem_of_getElem? (i := 8) rfl), good_of_word rfl⟩, List.forall_mem_cons.mpr ⟨⟨(List.mem_of_getElem? (i := 25) rfl), good_of_word rfl⟩, List.forall_mem_cons.mpr ⟨⟨(List.mem_of_getElem? (i := 26) rfl), good_of_word rfl⟩, List.forall_mem_cons.mpr ⟨⟨(List.mem_of_getElem? (i := 27) rfl), good_of_word rfl⟩, List.forall_mem_cons.mpr ⟨⟨(List.mem_of_getElem? (i := 28) rfl), good_of_word rfl⟩, List.forall_mem_cons.mpr ⟨⟨(List.mem_of_getElem? (i := 29) rfl), good_of_word rfl⟩, List.forall_mem_cons.mpr ⟨⟨(List.mem_of_getElem? (i := 30) rfl), good_of_word rfl⟩, List.forall_mem_cons.mpr ⟨⟨(List.mem_of_getElem? (i := 31) rfl), good_of_word rfl⟩, List.forall_mem_cons.mpr ⟨⟨(List.mem_of_getElem? (i := 32) rfl), good_of_word rfl⟩, List.forall_mem_cons.mpr ⟨⟨(List.mem_of_getElem? (i := 33) rfl), good_of_word rfl⟩, List.forall_mem_cons.mpr ⟨⟨(List.mem_of_getElem? (i := 34) rfl), good_of_word rfl⟩, List.forall_mem_cons.mpr ⟨⟨(List.mem_of_getElem? (i := 35) rfl), good_of_word rfl⟩, List.forall_mem_cons.mpr ⟨⟨(List.mem_of_getElem? (i := 36) rfl), good_of_word rfl⟩, (fun _ h => absurd h List.not_mem_nil)⟩⟩⟩⟩⟩⟩⟩⟩⟩⟩⟩⟩⟩⟩⟩⟩⟩⟩⟩⟩⟩
set_option maxRecDepth 20000 in
theorem gq_k_is_7_k_charAt_7_226 : GoodIn wq_k_is_7 (wsV RX6 226 RJ0 yJ0_charAt_5068e wq_k_charAt_7) := goodIn_app (List.forall_mem_cons.mpr ⟨⟨(List.mem_of_getElem? (i := 17) rfl), good_of_word rfl⟩, List.forall_mem_cons.mpr ⟨⟨(List.mem_of_getElem? (i := 18) rfl), good_of_word rfl⟩, List.forall_mem_cons.mpr ⟨⟨(List.mem_of_getElem? (i := 19) rfl), good_of_word rfl⟩, List.forall_mem_cons.mpr ⟨⟨(List.mem_of_getElem? (i := 6) rfl), good_of_word rfl⟩, (fun _ h => absurd h List.not_mem_nil)⟩⟩⟩⟩) gr_k_is_7_k_charAt_7
set_option maxHeartbeats 8000000 in
set_option maxRecDepth 100000 in
theorem k_is_7 (l : Launch) (D : va_G) (cy : Nat → ClassId) (ad : Nat → Nat) (g : Nat → va_E) {u0_0 : Value} {u0_1 : Value} {u0_2 : Value} {u0_4 : Value} {u0_5 : Value} {x0_6 : Int32} {x0_7 : Int32} {x0_8 : Int32} {u0_9 : Value} {u0_10 : Value} {u0_11 : Value} {c1 : Nat → Int32} (o0 : g 0 = .inr (6, [u0_0, u0_1, u0_2, .ref (ad 1), u0_4, u0_5, .int x0_6, .int x0_7, .int x0_8, u0_9, u0_10, u0_11])) (a1 : g 1 = .inl (cy 0, 1600, .inl c1)) (b0_7 : zi 0 1600 x0_7) (hw0 : ((x0_6 : Int32) = 1 → (x0_7 : Int32).toInt + (x0_8 : Int32).toInt ≤ 1600)) : cMi l yX6_is wq_k_is_7 { frames := 4, cells := 0, slots := 0, locals := 85 } 2 0 0 0 D cy ad g [.ref (ad 0), .ref (cy (100 + 7))] (fun r nw lu => (zi 0 1 r) ∧ (lu = [])) := by
  refine cM_of (Qc := fun A => cQi (fun r nw lu => (zi 0 1 r) ∧ (lu = [])) D 2 0 ad g A) (cc := cX6_is) (maxL := 3) (ret := (some .boolean)) (by decide) rfl (Nat.le_of_ble_eq_true rfl) ?_
  intro p e s m below meth c A hC hr hlk hnm hO ls hl
  have hC : CallFix p m c cX6_is 3 s [.ref (ad 0), .ref (cy (100 + 7))].toArray wq_k_is_7 RX6 := hC
  obtain ⟨hx, hb, hml, hown, hts⟩ := id hC
  have hl : lv_has ls 3 [(0, .ref (ad 0)), (1, .ref (cy (100 + 7)))] := hl
  have i_X6 : ∀ w ∈ wsX60, w ∈ wq_k_is_7 := fun w h => List.mem_cons_of_mem _ (List.mem_append_right _ h)
  refine lv_aload_n hx hb ddX6_is_0 rfl (lv_at hl 0 rfl) ?_
  refine cg_get hC hO 0 (by decide) o0 rfl i_X6 6 (by decide) (List.mem_of_getElem? (i := 1) rfl) rfl ddX6_is_1 ?_
  refine lv_iconst (v := 1) hx hb ddX6_is_4 (by decide) ?_
  refine lv_icmp_ne (tgt := 19) hx hb ddX6_is_5 (by decide) (fun h_5_94 => ?_) (fun h_5_94 => ?_)
  · refine lv_iconst (v := 0) hx hb ddX6_is_19 (by decide) ?_
    exact cg_iret (nw := fun _ => 0) hC hr hlk hO.same rfl (Nat.le_of_ble_eq_true rfl) (Nat.le_of_ble_eq_true rfl) (⟨(zi_k (a := 0) (b := 1) (x := 0) rfl), rfl⟩) ddX6_is_20
  · have q_5_95 := zr_eq h_5_94
    have z_5_96 : zi 1 1 x0_6 := ze_eq q_5_95 (zi_all x0_6) (zi_k (a := 1) (b := 1) (x := 1) rfl)
    refine lv_aload_n hx hb ddX6_is_8 rfl (lv_at hl 0 rfl) ?_
    refine cg_get hC hO 0 (by decide) o0 rfl i_X6 8 (by decide) (List.mem_of_getElem? (i := 2) rfl) rfl ddX6_is_9 ?_
    refine lv_aload_n hx hb ddX6_is_12 rfl (lv_at hl 1 rfl) ?_
    refine sg_Vi (As := []) (rest := [.int x0_8]) (mc := 0) (ms := 0) (rm := { frames := 1, cells := 0, slots := 0, locals := 20 }) hC hl.1 hO [] (by decide +kernel) 7 (by decide) (k_length_7 l D cy _ _  ) gq_k_is_7_k_length_7_221 rfl rfl rfl 0 (by decide +kernel) ⟨Nat.le_of_ble_eq_true rfl, Nat.le_of_ble_eq_true rfl⟩ rfl rfl (Nat.le_of_ble_eq_true rfl) ddX6_is_13 ⟨Nat.le_of_ble_eq_true rfl, Nat.le_of_ble_eq_true rfl⟩ (fun r_13_99 nw_13_97 l_13_98 H locs hw hO => ?_)
    obtain ⟨rfl, rfl⟩ := hw
    have hO : cO D cy A s.heap s 2 ad (cup [] g) _ _ := hO
    refine lv_icmp_eq (tgt := 21) hx hb ddX6_is_16 (by decide) (fun h_16_100 => ?_) (fun h_16_100 => ?_)
    · have q_16_101 := zr_eq h_16_100
      have z_16_102 : zi 2 2 x0_8 := ze_eq q_16_101 (zi_all x0_8) (zi_k (a := 2) (b := 2) (x := 2) rfl)
      refine lv_iconst (v := 0) hx hb ddX6_is_21 (by decide) ?_
      refine lv_istore_n (lv' := [(2, .int 0), (0, .ref (ad 0)), (1, .ref (cy (100 + 7)))]) hx hb ddX6_is_22 rfl hl (by decide) rfl (fun ls hl => ?_)
      have loop_23_187 : ∀ (d_23_188 : Nat) (v_23_163 : Int32), zi 0 2 v_23_163 → (2 + 1 - v_23_163.toInt).toNat < d_23_188 → ∀ (H : Heap) (locs : List Loc), cO D cy A s.heap s 2 ad (cup [] g) H locs → ∀ ls : Array Slot, lv_has ls 3 [(2, .int v_23_163), (0, .ref (ad 0)), (1, .ref (cy (100 + 7)))] → W p l e { frames := 4, cells := 0, slots := 0, locals := 85 } s m [.ref (ad 0), .ref (cy (100 + 7))].toArray below meth c H locs 0 0 (MQ below (cQi (fun r nw lu => (zi 0 1 r) ∧ (lu = [])) D 2 0 ad g A) [.ref (ad 0), .ref (cy (100 + 7))].toArray s 0 0 A) (F0 m 23 ls [])  := by
        intro d_23_188
        induction d_23_188 with
        | zero => intro v_23_163 z_23_164 mu_23_189; exact absurd mu_23_189 (Nat.not_lt_zero _)
        | succ d_23_188 ih_23_190 =>
          intro v_23_163 z_23_164 mu_23_189 H locs hO ls hl
          refine lv_iload_n hx hb ddX6_is_23 rfl (lv_at hl 0 rfl) ?_
          refine lv_aload_n hx hb ddX6_is_24 rfl (lv_at hl 1 rfl) ?_
          refine cg_get hC hO 0 (by decide) o0 rfl i_X6 8 (by decide) (List.mem_of_getElem? (i := 2) rfl) rfl ddX6_is_25 ?_
          refine lv_icmp_ge (tgt := 58) hx hb ddX6_is_28 (by decide) (fun h_28_191 => ?_) (fun h_28_191 => ?_)
          · have q_28_192 := zr_le h_28_191
            have z_28_193 : zi 2 2 v_23_163 := zd_le q_28_192 z_16_102 z_23_164 (by decide)
            refine lv_iconst (v := 1) hx hb ddX6_is_58 (by decide) ?_
            exact cg_iret (nw := fun _ => 0) hC hr hlk hO.same rfl (Nat.le_of_ble_eq_true rfl) (Nat.le_of_ble_eq_true rfl) (⟨(zi_k (a := 0) (b := 1) (x := 1) rfl), rfl⟩) ddX6_is_59
          · have q_28_194 := zr_nle h_28_191
            have z_28_195 : zi 0 1 v_23_163 := zu_lt q_28_194 z_23_164 z_16_102 (by decide)
            refine lv_aload_n hx hb ddX6_is_31 rfl (lv_at hl 1 rfl) ?_
            refine cg_get hC hO 0 (by decide) o0 rfl i_X6 3 (by decide) (List.mem_of_getElem? (i := 15) rfl) rfl ddX6_is_32 ?_
            refine lv_aload_n hx hb ddX6_is_35 rfl (lv_at hl 1 rfl) ?_
            refine cg_get hC hO 0 (by decide) o0 rfl i_X6 7 (by decide) (List.mem_of_getElem? (i := 16) rfl) rfl ddX6_is_36 ?_
            refine lv_iload_n hx hb ddX6_is_39 rfl (lv_at hl 0 rfl) ?_
            have z_40_196 : zi 0 1598 x0_7 := ⟨b0_7.1, by have q1 := hw0 h_5_94; have q2 := z_16_102; omega⟩
            refine lv_iadd hx hb ddX6_is_40 ?_
            refine zg_top2 (P := fun v => zi 0 1599 v) (E := fun v => v.toInt = (x0_7 : Int32).toInt + (v_23_163 : Int32).toInt) (zi_add z_40_196 z_28_195 (by decide)) (fun v_40_197 z_40_198 q_40_199 => ?_)
            refine zg_iald hC hO 1 (by decide) a1 (za_all _) (zi_in z_40_198 (by decide)) ddX6_is_41 (fun v_41_200 z_41_201 => ?_)
            refine lv_aload_n hx hb ddX6_is_42 rfl (lv_at hl 2 rfl) ?_
            refine lv_iload_n hx hb ddX6_is_43 rfl (lv_at hl 0 rfl) ?_
            refine sg_Vi (As := [.int v_23_163]) (rest := [.int v_41_200]) (mc := 0) (ms := 0) (rm := { frames := 3, cells := 0, slots := 0, locals := 64 }) hC hl.1 hO [] (by decide +kernel) 7 (by decide) (k_charAt_7 l D cy _ _ (n := v_23_163) z_28_195) gq_k_is_7_k_charAt_7_226 rfl rfl rfl 1 (by decide +kernel) ⟨Nat.le_of_ble_eq_true rfl, Nat.le_of_ble_eq_true rfl⟩ rfl rfl (Nat.le_of_ble_eq_true rfl) ddX6_is_44 ⟨Nat.le_of_ble_eq_true rfl, Nat.le_of_ble_eq_true rfl⟩ (fun r_44_204 nw_44_202 l_44_203 H locs hw hO => ?_)
            obtain ⟨z_44_205, rfl⟩ := hw
            have hO : cO D cy A s.heap s 2 ad (cup [] g) _ _ := hO
            refine lv_icmp_eq (tgt := 52) hx hb ddX6_is_47 (by decide) (fun h_47_206 => ?_) (fun h_47_206 => ?_)
            · have q_47_207 := zr_eq h_47_206
              have z_47_208 : zi 0 65535 v_41_200 := ze_eq q_47_207 z_41_201 z_44_205
              obtain ⟨v_52_209, e_52_210, z_52_211, q_52_212⟩ := zi_inc (e := 1) (f := 2) 1 z_28_195 (by decide)
              refine lv_iinc (v := v_52_209) (lv' := [(2, .int v_52_209), (0, .ref (ad 0)), (1, .ref (cy (100 + 7)))]) hx hb ddX6_is_52 hl (k := 0) rfl e_52_210 (by decide) rfl (fun ls hl => ?_)
              refine lv_goto (tgt := 23) hx hb ddX6_is_55 (by decide) ?_
              exact ih_23_190 v_52_209 (zi_w (c := 0) (d := 2) z_52_211 (by decide)) (zm_up q_52_212 ((zi_w (c := 0) (d := 2) z_52_211 (by decide))).2 (by decide) mu_23_189) _ _ hO ls (lv_sub hl [0, 1, 2] rfl)
            · refine lv_iconst (v := 0) hx hb ddX6_is_50 (by decide) ?_
              exact cg_iret (nw := fun _ => 0) hC hr hlk hO.same rfl (Nat.le_of_ble_eq_true rfl) (Nat.le_of_ble_eq_true rfl) (⟨(zi_k (a := 0) (b := 1) (x := 0) rfl), rfl⟩) ddX6_is_51
      exact loop_23_187 ((2 + 1 - (0 : Int32).toInt).toNat + 1) 0 (zi_k (a := 0) (b := 2) (x := 0) rfl) (Nat.lt_succ_self _) _ _ hO ls (lv_sub hl [0, 1, 2] rfl)
    · refine lv_iconst (v := 0) hx hb ddX6_is_19 (by decide) ?_
      exact cg_iret (nw := fun _ => 0) hC hr hlk hO.same rfl (Nat.le_of_ble_eq_true rfl) (Nat.le_of_ble_eq_true rfl) (⟨(zi_k (a := 0) (b := 1) (x := 0) rfl), rfl⟩) ddX6_is_20

def wq_k_is_8 : List Cond := Cond.code yX6_is cX6_is 3 (some .boolean) :: (([Cond.fieldLink RX6 47 "CrowToll$Reader" "kind" "I", Cond.fieldLink RX6 218 "CrowToll$Reader" "size" "I", Cond.methodLink RX6 221 yJ0_length_8abf5, Cond.instanceMethod yJ0_length_8abf5, Cond.selects RJ0 yJ0_length_8abf5 yJ0_length_8abf5, Cond.initialized RJ0, Cond.code yJ0_length_8abf5 cJ0_length_8abf5 1 (some .int), Cond.fieldLink RJ0 9 "java/lang/String" "value" "[B", Cond.methodLink RJ0 335 yJ0_coder_7d493, Cond.instanceMethod yJ0_coder_7d493, Cond.selects RJ0 yJ0_coder_7d493 yJ0_coder_7d493, Cond.code yJ0_coder_7d493 cJ0_coder_7d493 1 (some .byte), Cond.fieldLink RJ0 38 "java/lang/String" "COMPACT_STRINGS" "Z", Cond.fieldLink RJ0 15 "java/lang/String" "coder" "B", Cond.fieldLink RX6 22 "CrowToll$Reader" "text" "[I", Cond.fieldLink RX6 212 "CrowToll$Reader" "place" "I", Cond.methodLink RX6 226 yJ0_charAt_5068e, Cond.instanceMethod yJ0_charAt_5068e, Cond.selects RJ0 yJ0_charAt_5068e yJ0_charAt_5068e, Cond.code yJ0_charAt_5068e cJ0_charAt_5068e 2 (some .char), Cond.methodLink RJ0 492 yJ0_isLatin1_aae02, Cond.instanceMethod yJ0_isLatin1_aae02, Cond.selects RJ0 yJ0_isLatin1_aae02 yJ0_isLatin1_aae02, Cond.code yJ0_isLatin1_aae02 cJ0_isLatin1_aae02 1 (some .boolean), Cond.methodLink RJ0 495 yJ1_charAt_3b067, Cond.static yJ1_charAt_3b067, Cond.initialized RJ1, Cond.code yJ1_charAt_3b067 cJ1_charAt_3b067 2 (some .char), Cond.methodLink RJ1 9 yJ0_checkIndex_df160, Cond.static yJ0_checkIndex_df160, Cond.code yJ0_checkIndex_df160 cJ0_checkIndex_df160 2 none, Cond.fieldLink RJ0 1053 "jdk/internal/util/Preconditions" "SIOOBE_FORMATTER" "Ljava/util/function/BiFunction;", Cond.methodLink RJ0 1059 yJ3_checkIndex_8e157, Cond.static yJ3_checkIndex_8e157, Cond.initialized RJ3, Cond.code yJ3_checkIndex_8e157 cJ3_checkIndex_8e157 3 (some .int)] : List Cond) ++ wsX60)
set_option maxRecDepth 20000 in
theorem gr_k_is_8_k_length_8 : GoodIn wq_k_is_8 wq_k_length_8 := List.forall_mem_cons.mpr ⟨⟨(List.mem_of_getElem? (i := 7) rfl), good_of_word rfl⟩, List.forall_mem_cons.mpr ⟨⟨(List.mem_of_getElem? (i := 8) rfl), good_of_word rfl⟩, List.forall_mem_cons.mpr ⟨⟨(List.mem_of_getElem? (i := 9) rfl), good_of_word rfl⟩, List.forall_mem_cons.mpr ⟨⟨(List.mem_of_getElem? (i := 10) rfl), good_of_word rfl⟩, List.forall_mem_cons.mpr ⟨⟨(List.mem_of_getElem? (i := 11) rfl), good_of_word rfl⟩, List.forall_mem_cons.mpr ⟨⟨(List.mem_of_getElem? (i := 6) rfl), good_of_word rfl⟩, List.forall_mem_cons.mpr ⟨⟨(List.mem_of_getElem? (i := 12) rfl), good_of_word rfl⟩, List.forall_mem_cons.mpr ⟨⟨(List.mem_of_getElem? (i := 13) rfl), good_of_word rfl⟩, List.forall_mem_cons.mpr ⟨⟨(List.mem_of_getElem? (i := 14) rfl), good_of_word rfl⟩, (fun _ h => absurd h List.not_mem_nil)⟩⟩⟩⟩⟩⟩⟩⟩⟩
set_option maxRecDepth 20000 in
theorem gq_k_is_8_k_length_8_221 : GoodIn wq_k_is_8 (wsV RX6 221 RJ0 yJ0_length_8abf5 wq_k_length_8) := goodIn_app (List.forall_mem_cons.mpr ⟨⟨(List.mem_of_getElem? (i := 3) rfl), good_of_word rfl⟩, List.forall_mem_cons.mpr ⟨⟨(List.mem_of_getElem? (i := 4) rfl), good_of_word rfl⟩, List.forall_mem_cons.mpr ⟨⟨(List.mem_of_getElem? (i := 5) rfl), good_of_word rfl⟩, List.forall_mem_cons.mpr ⟨⟨(List.mem_of_getElem? (i := 6) rfl), good_of_word rfl⟩, (fun _ h => absurd h List.not_mem_nil)⟩⟩⟩⟩) gr_k_is_8_k_length_8
set_option maxRecDepth 20000 in
theorem gr_k_is_8_k_charAt_8 : GoodIn wq_k_is_8 wq_k_charAt_8 := List.forall_mem_cons.mpr ⟨⟨(List.mem_of_getElem? (i := 20) rfl), good_of_word rfl⟩, List.forall_mem_cons.mpr ⟨⟨(List.mem_of_getElem? (i := 21) rfl), good_of_word rfl⟩, List.forall_mem_cons.mpr ⟨⟨(List.mem_of_getElem? (i := 22) rfl), good_of_word rfl⟩, List.forall_mem_cons.mpr ⟨⟨(List.mem_of_getElem? (i := 23) rfl), good_of_word rfl⟩, List.forall_mem_cons.mpr ⟨⟨(List.mem_of_getElem? (i := 6) rfl), good_of_word rfl⟩, List.forall_mem_cons.mpr ⟨⟨(List.mem_of_getElem? (i := 24) rfl), good_of_word rfl⟩, List.forall_mem_cons.mpr ⟨⟨(List.mem_of_getElem? (i := 13) rfl), good_of_word rfl⟩, List.forall_mem_cons.mpr ⟨⟨(List.mem_of_getElem? (i := 14) rfl), good_of_word rfl⟩, List.forall_mem_cons.mpr ⟨⟨(List.mem_of_getElem? (i := 8) rfl), good_of_word rfl⟩, List.forall_mem_cons.mpr ⟨⟨(List.mem_of_getElem? (i := 25) rfl), good_of_word rfl⟩, List.forall_mem_cons.mpr ⟨⟨(List.mem_of_getElem? (i := 26) rfl), good_of_word rfl⟩, List.forall_mem_cons.mpr ⟨⟨(List.mem_of_getElem? (i := 27) rfl), good_of_word rfl⟩, List.forall_mem_cons.mpr ⟨⟨(List.mem_of_getElem? (i := 28) rfl), good_of_word rfl⟩, List.forall_mem_cons.mpr ⟨⟨(List.mem_of_getElem? (i := 29) rfl), good_of_word rfl⟩, List.forall_mem_cons.mpr ⟨⟨(List.mem_of_getElem? (i := 30) rfl), good_of_word rfl⟩, List.forall_mem_cons.mpr ⟨⟨(List.mem_of_getElem? (i := 31) rfl), good_of_word rfl⟩, List.forall_mem_cons.mpr ⟨⟨(List.mem_of_getElem? (i := 32) rfl), good_of_word rfl⟩, List.forall_mem_cons.mpr ⟨⟨(List.mem_of_getElem? (i := 33) rfl), good_of_word rfl⟩, List.forall_mem_cons.mpr ⟨⟨(List.mem_of_getElem? (i := 34) rfl), good_of_word rfl⟩, List.forall_mem_cons.mpr ⟨⟨(List.mem_of_getElem? (i := 35) rfl), good_of_word rfl⟩, List.forall_mem_cons.mpr ⟨⟨(List.mem_of_getElem? (i := 36) rfl), good_of_word rfl⟩, (fun _ h => absurd h List.not_mem_nil)⟩⟩⟩⟩⟩⟩⟩⟩⟩⟩⟩⟩⟩⟩⟩⟩⟩⟩⟩⟩⟩
set_option maxRecDepth 20000 in
theorem gq_k_is_8_k_charAt_8_226 : GoodIn wq_k_is_8 (wsV RX6 226 RJ0 yJ0_charAt_5068e wq_k_charAt_8) := goodIn_app (List.forall_mem_cons.mpr ⟨⟨(List.mem_of_getElem? (i := 17) rfl), good_of_word rfl⟩, List.forall_mem_cons.mpr ⟨⟨(List.mem_of_getElem? (i := 18) rfl), good_of_word rfl⟩, List.forall_mem_cons.mpr ⟨⟨(List.mem_of_getElem? (i := 19) rfl), good_of_word rfl⟩, List.forall_mem_cons.mpr ⟨⟨(List.mem_of_getElem? (i := 6) rfl), good_of_word rfl⟩, (fun _ h => absurd h List.not_mem_nil)⟩⟩⟩⟩) gr_k_is_8_k_charAt_8
set_option maxHeartbeats 8000000 in
set_option maxRecDepth 100000 in
theorem k_is_8 (l : Launch) (D : va_G) (cy : Nat → ClassId) (ad : Nat → Nat) (g : Nat → va_E) {u0_0 : Value} {u0_1 : Value} {u0_2 : Value} {u0_4 : Value} {u0_5 : Value} {x0_6 : Int32} {x0_7 : Int32} {x0_8 : Int32} {u0_9 : Value} {u0_10 : Value} {u0_11 : Value} {c1 : Nat → Int32} (o0 : g 0 = .inr (6, [u0_0, u0_1, u0_2, .ref (ad 1), u0_4, u0_5, .int x0_6, .int x0_7, .int x0_8, u0_9, u0_10, u0_11])) (a1 : g 1 = .inl (cy 0, 1600, .inl c1)) (b0_7 : zi 0 1600 x0_7) (hw0 : ((x0_6 : Int32) = 1 → (x0_7 : Int32).toInt + (x0_8 : Int32).toInt ≤ 1600)) : cMi l yX6_is wq_k_is_8 { frames := 4, cells := 0, slots := 0, locals := 85 } 2 0 0 0 D cy ad g [.ref (ad 0), .ref (cy (100 + 8))] (fun r nw lu => (zi 0 1 r) ∧ (lu = [])) := by
  refine cM_of (Qc := fun A => cQi (fun r nw lu => (zi 0 1 r) ∧ (lu = [])) D 2 0 ad g A) (cc := cX6_is) (maxL := 3) (ret := (some .boolean)) (by decide) rfl (Nat.le_of_ble_eq_true rfl) ?_
  intro p e s m below meth c A hC hr hlk hnm hO ls hl
  have hC : CallFix p m c cX6_is 3 s [.ref (ad 0), .ref (cy (100 + 8))].toArray wq_k_is_8 RX6 := hC
  obtain ⟨hx, hb, hml, hown, hts⟩ := id hC
  have hl : lv_has ls 3 [(0, .ref (ad 0)), (1, .ref (cy (100 + 8)))] := hl
  have i_X6 : ∀ w ∈ wsX60, w ∈ wq_k_is_8 := fun w h => List.mem_cons_of_mem _ (List.mem_append_right _ h)
  refine lv_aload_n hx hb ddX6_is_0 rfl (lv_at hl 0 rfl) ?_
  refine cg_get hC hO 0 (by decide) o0 rfl i_X6 6 (by decide) (List.mem_of_getElem? (i := 1) rfl) rfl ddX6_is_1 ?_
  refine lv_iconst (v := 1) hx hb ddX6_is_4 (by decide) ?_
  refine lv_icmp_ne (tgt := 19) hx hb ddX6_is_5 (by decide) (fun h_5_139 => ?_) (fun h_5_139 => ?_)
  · refine lv_iconst (v := 0) hx hb ddX6_is_19 (by decide) ?_
    exact cg_iret (nw := fun _ => 0) hC hr hlk hO.same rfl (Nat.le_of_ble_eq_true rfl) (Nat.le_of_ble_eq_true rfl) (⟨(zi_k (a := 0) (b := 1) (x := 0) rfl), rfl⟩) ddX6_is_20
  · have q_5_140 := zr_eq h_5_139
    have z_5_141 : zi 1 1 x0_6 := ze_eq q_5_140 (zi_all x0_6) (zi_k (a := 1) (b := 1) (x := 1) rfl)
    refine lv_aload_n hx hb ddX6_is_8 rfl (lv_at hl 0 rfl) ?_
    refine cg_get hC hO 0 (by decide) o0 rfl i_X6 8 (by decide) (List.mem_of_getElem? (i := 2) rfl) rfl ddX6_is_9 ?_
    refine lv_aload_n hx hb ddX6_is_12 rfl (lv_at hl 1 rfl) ?_
    refine sg_Vi (As := []) (rest := [.int x0_8]) (mc := 0) (ms := 0) (rm := { frames := 1, cells := 0, slots := 0, locals := 20 }) hC hl.1 hO [] (by decide +kernel) 8 (by decide) (k_length_8 l D cy _ _  ) gq_k_is_8_k_length_8_221 rfl rfl rfl 0 (by decide +kernel) ⟨Nat.le_of_ble_eq_true rfl, Nat.le_of_ble_eq_true rfl⟩ rfl rfl (Nat.le_of_ble_eq_true rfl) ddX6_is_13 ⟨Nat.le_of_ble_eq_true rfl, Nat.le_of_ble_eq_true rfl⟩ (fun r_13_144 nw_13_142 l_13_143 H locs hw hO => ?_)
    obtain ⟨rfl, rfl⟩ := hw
    have hO : cO D cy A s.heap s 2 ad (cup [] g) _ _ := hO
    refine lv_icmp_eq (tgt := 21) hx hb ddX6_is_16 (by decide) (fun h_16_145 => ?_) (fun h_16_145 => ?_)
    · have q_16_146 := zr_eq h_16_145
      have z_16_147 : zi 4 4 x0_8 := ze_eq q_16_146 (zi_all x0_8) (zi_k (a := 4) (b := 4) (x := 4) rfl)
      refine lv_iconst (v := 0) hx hb ddX6_is_21 (by decide) ?_
      refine lv_istore_n (lv' := [(2, .int 0), (0, .ref (ad 0)), (1, .ref (cy (100 + 8)))]) hx hb ddX6_is_22 rfl hl (by decide) rfl (fun ls hl => ?_)
      have loop_23_277 : ∀ (d_23_278 : Nat) (v_23_253 : Int32), zi 0 4 v_23_253 → (4 + 1 - v_23_253.toInt).toNat < d_23_278 → ∀ (H : Heap) (locs : List Loc), cO D cy A s.heap s 2 ad (cup [] g) H locs → ∀ ls : Array Slot, lv_has ls 3 [(2, .int v_23_253), (0, .ref (ad 0)), (1, .ref (cy (100 + 8)))] → W p l e { frames := 4, cells := 0, slots := 0, locals := 85 } s m [.ref (ad 0), .ref (cy (100 + 8))].toArray below meth c H locs 0 0 (MQ below (cQi (fun r nw lu => (zi 0 1 r) ∧ (lu = [])) D 2 0 ad g A) [.ref (ad 0), .ref (cy (100 + 8))].toArray s 0 0 A) (F0 m 23 ls [])  := by
        intro d_23_278
        induction d_23_278 with
        | zero => intro v_23_253 z_23_254 mu_23_279; exact absurd mu_23_279 (Nat.not_lt_zero _)
        | succ d_23_278 ih_23_280 =>
          intro v_23_253 z_23_254 mu_23_279 H locs hO ls hl
          refine lv_iload_n hx hb ddX6_is_23 rfl (lv_at hl 0 rfl) ?_
          refine lv_aload_n hx hb ddX6_is_24 rfl (lv_at hl 1 rfl) ?_
          refine cg_get hC hO 0 (by decide) o0 rfl i_X6 8 (by decide) (List.mem_of_getElem? (i := 2) rfl) rfl ddX6_is_25 ?_
          refine lv_icmp_ge (tgt := 58) hx hb ddX6_is_28 (by decide) (fun h_28_281 => ?_) (fun h_28_281 => ?_)
          · have q_28_282 := zr_le h_28_281
            have z_28_283 : zi 4 4 v_23_253 := zd_le q_28_282 z_16_147 z_23_254 (by decide)
            refine lv_iconst (v := 1) hx hb ddX6_is_58 (by decide) ?_
            exact cg_iret (nw := fun _ => 0) hC hr hlk hO.same rfl (Nat.le_of_ble_eq_true rfl) (Nat.le_of_ble_eq_true rfl) (⟨(zi_k (a := 0) (b := 1) (x := 1) rfl), rfl⟩) ddX6_is_59
          · have q_28_284 := zr_nle h_28_281
            have z_28_285 : zi 0 3 v_23_253 := zu_lt q_28_284 z_23_254 z_16_147 (by decide)
            refine lv_aload_n hx hb ddX6_is_31 rfl (lv_at hl 1 rfl) ?_
            refine cg_get hC hO 0 (by decide) o0 rfl i_X6 3 (by decide) (List.mem_of_getElem? (i := 15) rfl) rfl ddX6_is_32 ?_
            refine lv_aload_n hx hb ddX6_is_35 rfl (lv_at hl 1 rfl) ?_
            refine cg_get hC hO 0 (by decide) o0 rfl i_X6 7 (by decide) (List.mem_of_getElem? (i := 16) rfl) rfl ddX6_is_36 ?_
            refine lv_iload_n hx hb ddX6_is_39 rfl (lv_at hl 0 rfl) ?_
            have z_40_286 : zi 0 1596 x0_7 := ⟨b0_7.1, by have q1 := hw0 h_5_139; have q2 := z_16_147; omega⟩
            refine lv_iadd hx hb ddX6_is_40 ?_
            refine zg_top2 (P := fun v => zi 0 1599 v) (E := fun v => v.toInt = (x0_7 : Int32).toInt + (v_23_253 : Int32).toInt) (zi_add z_40_286 z_28_285 (by decide)) (fun v_40_287 z_40_288 q_40_289 => ?_)
            refine zg_iald hC hO 1 (by decide) a1 (za_all _) (zi_in z_40_288 (by decide)) ddX6_is_41 (fun v_41_290 z_41_291 => ?_)
            refine lv_aload_n hx hb ddX6_is_42 rfl (lv_at hl 2 rfl) ?_
            refine lv_iload_n hx hb ddX6_is_43 rfl (lv_at hl 0 rfl) ?_
            refine sg_Vi (As := [.int v_23_253]) (rest := [.int v_41_290]) (mc := 0) (ms := 0) (rm := { frames := 3, cells := 0, slots := 0, locals := 64 }) hC hl.1 hO [] (by decide +kernel) 8 (by decide) (k_charAt_8 l D cy _ _ (n := v_23_253) z_28_285) gq_k_is_8_k_charAt_8_226 rfl rfl rfl 1 (by decide +kernel) ⟨Nat.le_of_ble_eq_true rfl, Nat.le_of_ble_eq_true rfl⟩ rfl rfl (Nat.le_of_ble_eq_true rfl) ddX6_is_44 ⟨Nat.le_of_ble_eq_true rfl, Nat.le_of_ble_eq_true rfl⟩ (fun r_44_294 nw_44_292 l_44_293 H locs hw hO => ?_)
            obtain ⟨z_44_295, rfl⟩ := hw
            have hO : cO D cy A s.heap s 2 ad (cup [] g) _ _ := hO
            refine lv_icmp_eq (tgt := 52) hx hb ddX6_is_47 (by decide) (fun h_47_296 => ?_) (fun h_47_296 => ?_)
            · have q_47_297 := zr_eq h_47_296
              have z_47_298 : zi 0 65535 v_41_290 := ze_eq q_47_297 z_41_291 z_44_295
              obtain ⟨v_52_299, e_52_300, z_52_301, q_52_302⟩ := zi_inc (e := 1) (f := 4) 1 z_28_285 (by decide)
              refine lv_iinc (v := v_52_299) (lv' := [(2, .int v_52_299), (0, .ref (ad 0)), (1, .ref (cy (100 + 8)))]) hx hb ddX6_is_52 hl (k := 0) rfl e_52_300 (by decide) rfl (fun ls hl => ?_)
              refine lv_goto (tgt := 23) hx hb ddX6_is_55 (by decide) ?_
              exact ih_23_280 v_52_299 (zi_w (c := 0) (d := 4) z_52_301 (by decide)) (zm_up q_52_302 ((zi_w (c := 0) (d := 4) z_52_301 (by decide))).2 (by decide) mu_23_279) _ _ hO ls (lv_sub hl [0, 1, 2] rfl)
            · refine lv_iconst (v := 0) hx hb ddX6_is_50 (by decide) ?_
              exact cg_iret (nw := fun _ => 0) hC hr hlk hO.same rfl (Nat.le_of_ble_eq_true rfl) (Nat.le_of_ble_eq_true rfl) (⟨(zi_k (a := 0) (b := 1) (x := 0) rfl), rfl⟩) ddX6_is_51
      exact loop_23_277 ((4 + 1 - (0 : Int32).toInt).toNat + 1) 0 (zi_k (a := 0) (b := 4) (x := 0) rfl) (Nat.lt_succ_self _) _ _ hO ls (lv_sub hl [0, 1, 2] rfl)
    · refine lv_iconst (v := 0) hx hb ddX6_is_19 (by decide) ?_
      exact cg_iret (nw := fun _ => 0) hC hr hlk hO.same rfl (Nat.le_of_ble_eq_true rfl) (Nat.le_of_ble_eq_true rfl) (⟨(zi_k (a := 0) (b := 1) (x := 0) rfl), rfl⟩) ddX6_is_20

def wq_k_is_9 : List Cond := Cond.code yX6_is cX6_is 3 (some .boolean) :: (([Cond.fieldLink RX6 47 "CrowToll$Reader" "kind" "I", Cond.fieldLink RX6 218 "CrowToll$Reader" "size" "I", Cond.methodLink RX6 221 yJ0_length_8abf5, Cond.instanceMethod yJ0_length_8abf5, Cond.selects RJ0 yJ0_length_8abf5 yJ0_length_8abf5, Cond.initialized RJ0, Cond.code yJ0_length_8abf5 cJ0_length_8abf5 1 (some .int), Cond.fieldLink RJ0 9 "java/lang/String" "value" "[B", Cond.methodLink RJ0 335 yJ0_coder_7d493, Cond.instanceMethod yJ0_coder_7d493, Cond.selects RJ0 yJ0_coder_7d493 yJ0_coder_7d493, Cond.code yJ0_coder_7d493 cJ0_coder_7d493 1 (some .byte), Cond.fieldLink RJ0 38 "java/lang/String" "COMPACT_STRINGS" "Z", Cond.fieldLink RJ0 15 "java/lang/String" "coder" "B", Cond.fieldLink RX6 22 "CrowToll$Reader" "text" "[I", Cond.fieldLink RX6 212 "CrowToll$Reader" "place" "I", Cond.methodLink RX6 226 yJ0_charAt_5068e, Cond.instanceMethod yJ0_charAt_5068e, Cond.selects RJ0 yJ0_charAt_5068e yJ0_charAt_5068e, Cond.code yJ0_charAt_5068e cJ0_charAt_5068e 2 (some .char), Cond.methodLink RJ0 492 yJ0_isLatin1_aae02, Cond.instanceMethod yJ0_isLatin1_aae02, Cond.selects RJ0 yJ0_isLatin1_aae02 yJ0_isLatin1_aae02, Cond.code yJ0_isLatin1_aae02 cJ0_isLatin1_aae02 1 (some .boolean), Cond.methodLink RJ0 495 yJ1_charAt_3b067, Cond.static yJ1_charAt_3b067, Cond.initialized RJ1, Cond.code yJ1_charAt_3b067 cJ1_charAt_3b067 2 (some .char), Cond.methodLink RJ1 9 yJ0_checkIndex_df160, Cond.static yJ0_checkIndex_df160, Cond.code yJ0_checkIndex_df160 cJ0_checkIndex_df160 2 none, Cond.fieldLink RJ0 1053 "jdk/internal/util/Preconditions" "SIOOBE_FORMATTER" "Ljava/util/function/BiFunction;", Cond.methodLink RJ0 1059 yJ3_checkIndex_8e157, Cond.static yJ3_checkIndex_8e157, Cond.initialized RJ3, Cond.code yJ3_checkIndex_8e157 cJ3_checkIndex_8e157 3 (some .int)] : List Cond) ++ wsX60)
set_option maxRecDepth 20000 in
theorem gr_k_is_9_k_length_9 : GoodIn wq_k_is_9 wq_k_length_9 := List.forall_mem_cons.mpr ⟨⟨(List.mem_of_getElem? (i := 7) rfl), good_of_word rfl⟩, List.forall_mem_cons.mpr ⟨⟨(List.mem_of_getElem? (i := 8) rfl), good_of_word rfl⟩, List.forall_mem_cons.mpr ⟨⟨(List.mem_of_getElem? (i := 9) rfl), good_of_word rfl⟩, List.forall_mem_cons.mpr ⟨⟨(List.mem_of_getElem? (i := 10) rfl), good_of_word rfl⟩, List.forall_mem_cons.mpr ⟨⟨(List.mem_of_getElem? (i := 11) rfl), good_of_word rfl⟩, List.forall_mem_cons.mpr ⟨⟨(List.mem_of_getElem? (i := 6) rfl), good_of_word rfl⟩, List.forall_mem_cons.mpr ⟨⟨(List.mem_of_getElem? (i := 12) rfl), good_of_word rfl⟩, List.forall_mem_cons.mpr ⟨⟨(List.mem_of_getElem? (i := 13) rfl), good_of_word rfl⟩, List.forall_mem_cons.mpr ⟨⟨(List.mem_of_getElem? (i := 14) rfl), good_of_word rfl⟩, (fun _ h => absurd h List.not_mem_nil)⟩⟩⟩⟩⟩⟩⟩⟩⟩
set_option maxRecDepth 20000 in
theorem gq_k_is_9_k_length_9_221 : GoodIn wq_k_is_9 (wsV RX6 221 RJ0 yJ0_length_8abf5 wq_k_length_9) := goodIn_app (List.forall_mem_cons.mpr ⟨⟨(List.mem_of_getElem? (i := 3) rfl), good_of_word rfl⟩, List.forall_mem_cons.mpr ⟨⟨(List.mem_of_getElem? (i := 4) rfl), good_of_word rfl⟩, List.forall_mem_cons.mpr ⟨⟨(List.mem_of_getElem? (i := 5) rfl), good_of_word rfl⟩, List.forall_mem_cons.mpr ⟨⟨(List.mem_of_getElem? (i := 6) rfl), good_of_word rfl⟩, (fun _ h => absurd h List.not_mem_nil)⟩⟩⟩⟩) gr_k_is_9_k_length_9
set_option maxRecDepth 20000 in
theorem gr_k_is_9_k_charAt_9 : GoodIn wq_k_is_9 wq_k_charAt_9 := List.forall_mem_cons.mpr ⟨⟨(List.mem_of_getElem? (i := 20) rfl), good_of_word rfl⟩, List.forall_mem_cons.mpr ⟨⟨(List.mem_of_getElem? (i := 21) rfl), good_of_word rfl⟩, List.forall_mem_cons.mpr ⟨⟨(List.mem_of_getElem? (i := 22) rfl), good_of_word rfl⟩, List.forall_mem_cons.mpr ⟨⟨(List.mem_of_getElem? (i := 23) rfl), good_of_word rfl⟩, List.forall_mem_cons.mpr ⟨⟨(List.mem_of_getElem? (i := 6) rfl), good_of_word rfl⟩, List.forall_mem_cons.mpr ⟨⟨(List.mem_of_getElem? (i := 24) rfl), good_of_word rfl⟩, List.forall_mem_cons.mpr ⟨⟨(List.mem_of_getElem? (i := 13) rfl), good_of_word rfl⟩, List.forall_mem_cons.mpr ⟨⟨(List.mem_of_getElem? (i := 14) rfl), good_of_word rfl⟩, List.forall_mem_cons.mpr ⟨⟨(List.mem_of_getElem? (i := 8) rfl), good_of_word rfl⟩, List.forall_mem_cons.mpr ⟨⟨(List.mem_of_getElem? (i := 25) rfl), good_of_word rfl⟩, List.forall_mem_cons.mpr ⟨⟨(List.mem_of_getElem? (i := 26) rfl), good_of_word rfl⟩, List.forall_mem_cons.mpr ⟨⟨(List.mem_of_getElem? (i := 27) rfl), good_of_word rfl⟩, List.forall_mem_cons.mpr ⟨⟨(List.mem_of_getElem? (i := 28) rfl), good_of_word rfl⟩, List.forall_mem_cons.mpr ⟨⟨(List.mem_of_getElem? (i := 29) rfl), good_of_word rfl⟩, List.forall_mem_cons.mpr ⟨⟨(List.mem_of_getElem? (i := 30) rfl), good_of_word rfl⟩, List.forall_mem_cons.mpr ⟨⟨(List.mem_of_getElem? (i := 31) rfl), good_of_word rfl⟩, List.forall_mem_cons.mpr ⟨⟨(List.mem_of_getElem? (i := 32) rfl), good_of_word rfl⟩, List.forall_mem_cons.mpr ⟨⟨(List.mem_of_getElem? (i := 33) rfl), good_of_word rfl⟩, List.forall_mem_cons.mpr ⟨⟨(List.mem_of_getElem? (i := 34) rfl), good_of_word rfl⟩, List.forall_mem_cons.mpr ⟨⟨(List.mem_of_getElem? (i := 35) rfl), good_of_word rfl⟩, List.forall_mem_cons.mpr ⟨⟨(List.mem_of_getElem? (i := 36) rfl), good_of_word rfl⟩, (fun _ h => absurd h List.not_mem_nil)⟩⟩⟩⟩⟩⟩⟩⟩⟩⟩⟩⟩⟩⟩⟩⟩⟩⟩⟩⟩⟩
set_option maxRecDepth 20000 in
theorem gq_k_is_9_k_charAt_9_226 : GoodIn wq_k_is_9 (wsV RX6 226 RJ0 yJ0_charAt_5068e wq_k_charAt_9) := goodIn_app (List.forall_mem_cons.mpr ⟨⟨(List.mem_of_getElem? (i := 17) rfl), good_of_word rfl⟩, List.forall_mem_cons.mpr ⟨⟨(List.mem_of_getElem? (i := 18) rfl), good_of_word rfl⟩, List.forall_mem_cons.mpr ⟨⟨(List.mem_of_getElem? (i := 19) rfl), good_of_word rfl⟩, List.forall_mem_cons.mpr ⟨⟨(List.mem_of_getElem? (i := 6) rfl), good_of_word rfl⟩, (fun _ h => absurd h List.not_mem_nil)⟩⟩⟩⟩) gr_k_is_9_k_charAt_9
set_option maxHeartbeats 8000000 in
set_option maxRecDepth 100000 in
theorem k_is_9 (l : Launch) (D : va_G) (cy : Nat → ClassId) (ad : Nat → Nat) (g : Nat → va_E) {u0_0 : Value} {u0_1 : Value} {u0_2 : Value} {u0_4 : Value} {u0_5 : Value} {x0_6 : Int32} {x0_7 : Int32} {x0_8 : Int32} {u0_9 : Value} {u0_10 : Value} {u0_11 : Value} {c1 : Nat → Int32} (o0 : g 0 = .inr (6, [u0_0, u0_1, u0_2, .ref (ad 1), u0_4, u0_5, .int x0_6, .int x0_7, .int x0_8, u0_9, u0_10, u0_11])) (a1 : g 1 = .inl (cy 0, 1600, .inl c1)) (b0_7 : zi 0 1600 x0_7) (hw0 : ((x0_6 : Int32) = 1 → (x0_7 : Int32).toInt + (x0_8 : Int32).toInt ≤ 1600)) : cMi l yX6_is wq_k_is_9 { frames := 4, cells := 0, slots := 0, locals := 85 } 2 0 0 0 D cy ad g [.ref (ad 0), .ref (cy (100 + 9))] (fun r nw lu => (zi 0 1 r) ∧ (lu = [])) := by
  refine cM_of (Qc := fun A => cQi (fun r nw lu => (zi 0 1 r) ∧ (lu = [])) D 2 0 ad g A) (cc := cX6_is) (maxL := 3) (ret := (some .boolean)) (by decide) rfl (Nat.le_of_ble_eq_true rfl) ?_
  intro p e s m below meth c A hC hr hlk hnm hO ls hl
  have hC : CallFix p m c cX6_is 3 s [.ref (ad 0), .ref (cy (100 + 9))].toArray wq_k_is_9 RX6 := hC
  obtain ⟨hx, hb, hml, hown, hts⟩ := id hC
  have hl : lv_has ls 3 [(0, .ref (ad 0)), (1, .ref (cy (100 + 9)))] := hl
  have i_X6 : ∀ w ∈ wsX60, w ∈ wq_k_is_9 := fun w h => List.mem_cons_of_mem _ (List.mem_append_right _ h)
  refine lv_aload_n hx hb ddX6_is_0 rfl (lv_at hl 0 rfl) ?_
  refine cg_get hC hO 0 (by decide) o0 rfl i_X6 6 (by decide) (List.mem_of_getElem? (i := 1) rfl) rfl ddX6_is_1 ?_
  refine lv_iconst (v := 1) hx hb ddX6_is_4 (by decide) ?_
  refine lv_icmp_ne (tgt := 19) hx hb ddX6_is_5 (by decide) (fun h_5_139 => ?_) (fun h_5_139 => ?_)
  · refine lv_iconst (v := 0) hx hb ddX6_is_19 (by decide) ?_
    exact cg_iret (nw := fun _ => 0) hC hr hlk hO.same rfl (Nat.le_of_ble_eq_true rfl) (Nat.le_of_ble_eq_true rfl) (⟨(zi_k (a := 0) (b := 1) (x := 0) rfl), rfl⟩) ddX6_is_20
  · have q_5_140 := zr_eq h_5_139
    have z_5_141 : zi 1 1 x0_6 := ze_eq q_5_140 (zi_all x0_6) (zi_k (a := 1) (b := 1) (x := 1) rfl)
    refine lv_aload_n hx hb ddX6_is_8 rfl (lv_at hl 0 rfl) ?_
    refine cg_get hC hO 0 (by decide) o0 rfl i_X6 8 (by decide) (List.mem_of_getElem? (i := 2) rfl) rfl ddX6_is_9 ?_
    refine lv_aload_n hx hb ddX6_is_12 rfl (lv_at hl 1 rfl) ?_
    refine sg_Vi (As := []) (rest := [.int x0_8]) (mc := 0) (ms := 0) (rm := { frames := 1, cells := 0, slots := 0, locals := 20 }) hC hl.1 hO [] (by decide +kernel) 9 (by decide) (k_length_9 l D cy _ _  ) gq_k_is_9_k_length_9_221 rfl rfl rfl 0 (by decide +kernel) ⟨Nat.le_of_ble_eq_true rfl, Nat.le_of_ble_eq_true rfl⟩ rfl rfl (Nat.le_of_ble_eq_true rfl) ddX6_is_13 ⟨Nat.le_of_ble_eq_true rfl, Nat.le_of_ble_eq_true rfl⟩ (fun r_13_144 nw_13_142 l_13_143 H locs hw hO => ?_)
    obtain ⟨rfl, rfl⟩ := hw
    have hO : cO D cy A s.heap s 2 ad (cup [] g) _ _ := hO
    refine lv_icmp_eq (tgt := 21) hx hb ddX6_is_16 (by decide) (fun h_16_145 => ?_) (fun h_16_145 => ?_)
    · have q_16_146 := zr_eq h_16_145
      have z_16_147 : zi 5 5 x0_8 := ze_eq q_16_146 (zi_all x0_8) (zi_k (a := 5) (b := 5) (x := 5) rfl)
      refine lv_iconst (v := 0) hx hb ddX6_is_21 (by decide) ?_
      refine lv_istore_n (lv' := [(2, .int 0), (0, .ref (ad 0)), (1, .ref (cy (100 + 9)))]) hx hb ddX6_is_22 rfl hl (by decide) rfl (fun ls hl => ?_)
      have loop_23_277 : ∀ (d_23_278 : Nat) (v_23_253 : Int32), zi 0 5 v_23_253 → (5 + 1 - v_23_253.toInt).toNat < d_23_278 → ∀ (H : Heap) (locs : List Loc), cO D cy A s.heap s 2 ad (cup [] g) H locs → ∀ ls : Array Slot, lv_has ls 3 [(2, .int v_23_253), (0, .ref (ad 0)), (1, .ref (cy (100 + 9)))] → W p l e { frames := 4, cells := 0, slots := 0, locals := 85 } s m [.ref (ad 0), .ref (cy (100 + 9))].toArray below meth c H locs 0 0 (MQ below (cQi (fun r nw lu => (zi 0 1 r) ∧ (lu = [])) D 2 0 ad g A) [.ref (ad 0), .ref (cy (100 + 9))].toArray s 0 0 A) (F0 m 23 ls [])  := by
        intro d_23_278
        induction d_23_278 with
        | zero => intro v_23_253 z_23_254 mu_23_279; exact absurd mu_23_279 (Nat.not_lt_zero _)
        | succ d_23_278 ih_23_280 =>
          intro v_23_253 z_23_254 mu_23_279 H locs hO ls hl
          refine lv_iload_n hx hb ddX6_is_23 rfl (lv_at hl 0 rfl) ?_
          refine lv_aload_n hx hb ddX6_is_24 rfl (lv_at hl 1 rfl) ?_
          refine cg_get hC hO 0 (by decide) o0 rfl i_X6 8 (by decide) (List.mem_of_getElem? (i := 2) rfl) rfl ddX6_is_25 ?_
          refine lv_icmp_ge (tgt := 58) hx hb ddX6_is_28 (by decide) (fun h_28_281 => ?_) (fun h_28_281 => ?_)
          · have q_28_282 := zr_le h_28_281
            have z_28_283 : zi 5 5 v_23_253 := zd_le q_28_282 z_16_147 z_23_254 (by decide)
            refine lv_iconst (v := 1) hx hb ddX6_is_58 (by decide) ?_
            exact cg_iret (nw := fun _ => 0) hC hr hlk hO.same rfl (Nat.le_of_ble_eq_true rfl) (Nat.le_of_ble_eq_true rfl) (⟨(zi_k (a := 0) (b := 1) (x := 1) rfl), rfl⟩) ddX6_is_59
          · have q_28_284 := zr_nle h_28_281
            have z_28_285 : zi 0 4 v_23_253 := zu_lt q_28_284 z_23_254 z_16_147 (by decide)
            refine lv_aload_n hx hb ddX6_is_31 rfl (lv_at hl 1 rfl) ?_
            refine cg_get hC hO 0 (by decide) o0 rfl i_X6 3 (by decide) (List.mem_of_getElem? (i := 15) rfl) rfl ddX6_is_32 ?_
            refine lv_aload_n hx hb ddX6_is_35 rfl (lv_at hl 1 rfl) ?_
            refine cg_get hC hO 0 (by decide) o0 rfl i_X6 7 (by decide) (List.mem_of_getElem? (i := 16) rfl) rfl ddX6_is_36 ?_
            refine lv_iload_n hx hb ddX6_is_39 rfl (lv_at hl 0 rfl) ?_
            have z_40_286 : zi 0 1595 x0_7 := ⟨b0_7.1, by have q1 := hw0 h_5_139; have q2 := z_16_147; omega⟩
            refine lv_iadd hx hb ddX6_is_40 ?_
            refine zg_top2 (P := fun v => zi 0 1599 v) (E := fun v => v.toInt = (x0_7 : Int32).toInt + (v_23_253 : Int32).toInt) (zi_add z_40_286 z_28_285 (by decide)) (fun v_40_287 z_40_288 q_40_289 => ?_)
            refine zg_iald hC hO 1 (by decide) a1 (za_all _) (zi_in z_40_288 (by decide)) ddX6_is_41 (fun v_41_290 z_41_291 => ?_)
            refine lv_aload_n hx hb ddX6_is_42 rfl (lv_at hl 2 rfl) ?_
            refine lv_iload_n hx hb ddX6_is_43 rfl (lv_at hl 0 rfl) ?_
            refine sg_Vi (As := [.int v_23_253]) (rest := [.int v_41_290]) (mc := 0) (ms := 0) (rm := { frames := 3, cells := 0, slots := 0, locals := 64 }) hC hl.1 hO [] (by decide +kernel) 9 (by decide) (k_charAt_9 l D cy _ _ (n := v_23_253) z_28_285) gq_k_is_9_k_charAt_9_226 rfl rfl rfl 1 (by decide +kernel) ⟨Nat.le_of_ble_eq_true rfl, Nat.le_of_ble_eq_true rfl⟩ rfl rfl (Nat.le_of_ble_eq_true rfl) ddX6_is_44 ⟨Nat.le_of_ble_eq_true rfl, Nat.le_of_ble_eq_true rfl⟩ (fun r_44_294 nw_44_292 l_44_293 H locs hw hO => ?_)
            obtain ⟨z_44_295, rfl⟩ := hw
            have hO : cO D cy A s.heap s 2 ad (cup [] g) _ _ := hO
            refine lv_icmp_eq (tgt := 52) hx hb ddX6_is_47 (by decide) (fun h_47_296 => ?_) (fun h_47_296 => ?_)
            · have q_47_297 := zr_eq h_47_296
              have z_47_298 : zi 0 65535 v_41_290 := ze_eq q_47_297 z_41_291 z_44_295
              obtain ⟨v_52_299, e_52_300, z_52_301, q_52_302⟩ := zi_inc (e := 1) (f := 5) 1 z_28_285 (by decide)
              refine lv_iinc (v := v_52_299) (lv' := [(2, .int v_52_299), (0, .ref (ad 0)), (1, .ref (cy (100 + 9)))]) hx hb ddX6_is_52 hl (k := 0) rfl e_52_300 (by decide) rfl (fun ls hl => ?_)
              refine lv_goto (tgt := 23) hx hb ddX6_is_55 (by decide) ?_
              exact ih_23_280 v_52_299 (zi_w (c := 0) (d := 5) z_52_301 (by decide)) (zm_up q_52_302 ((zi_w (c := 0) (d := 5) z_52_301 (by decide))).2 (by decide) mu_23_279) _ _ hO ls (lv_sub hl [0, 1, 2] rfl)
            · refine lv_iconst (v := 0) hx hb ddX6_is_50 (by decide) ?_
              exact cg_iret (nw := fun _ => 0) hC hr hlk hO.same rfl (Nat.le_of_ble_eq_true rfl) (Nat.le_of_ble_eq_true rfl) (⟨(zi_k (a := 0) (b := 1) (x := 0) rfl), rfl⟩) ddX6_is_51
      exact loop_23_277 ((5 + 1 - (0 : Int32).toInt).toNat + 1) 0 (zi_k (a := 0) (b := 5) (x := 0) rfl) (Nat.lt_succ_self _) _ _ hO ls (lv_sub hl [0, 1, 2] rfl)
    · refine lv_iconst (v := 0) hx hb ddX6_is_19 (by decide) ?_
      exact cg_iret (nw := fun _ => 0) hC hr hlk hO.same rfl (Nat.le_of_ble_eq_true rfl) (Nat.le_of_ble_eq_true rfl) (⟨(zi_k (a := 0) (b := 1) (x := 0) rfl), rfl⟩) ddX6_is_20

def wq_k_is_10 : List Cond := Cond.code yX6_is cX6_is 3 (some .boolean) :: (([Cond.fieldLink RX6 47 "CrowToll$Reader" "kind" "I", Cond.fieldLink RX6 218 "CrowToll$Reader" "size" "I", Cond.methodLink RX6 221 yJ0_length_8abf5, Cond.instanceMethod yJ0_length_8abf5, Cond.selects RJ0 yJ0_length_8abf5 yJ0_length_8abf5, Cond.initialized RJ0, Cond.code yJ0_length_8abf5 cJ0_length_8abf5 1 (some .int), Cond.fieldLink RJ0 9 "java/lang/String" "value" "[B", Cond.methodLink RJ0 335 yJ0_coder_7d493, Cond.instanceMethod yJ0_coder_7d493, Cond.selects RJ0 yJ0_coder_7d493 yJ0_coder_7d493, Cond.code yJ0_coder_7d493 cJ0_coder_7d493 1 (some .byte), Cond.fieldLink RJ0 38 "java/lang/String" "COMPACT_STRINGS" "Z", Cond.fieldLink RJ0 15 "java/lang/String" "coder" "B", Cond.fieldLink RX6 22 "CrowToll$Reader" "text" "[I", Cond.fieldLink RX6 212 "CrowToll$Reader" "place" "I", Cond.methodLink RX6 226 yJ0_charAt_5068e, Cond.instanceMethod yJ0_charAt_5068e, Cond.selects RJ0 yJ0_charAt_5068e yJ0_charAt_5068e, Cond.code yJ0_charAt_5068e cJ0_charAt_5068e 2 (some .char), Cond.methodLink RJ0 492 yJ0_isLatin1_aae02, Cond.instanceMethod yJ0_isLatin1_aae02, Cond.selects RJ0 yJ0_isLatin1_aae02 yJ0_isLatin1_aae02, Cond.code yJ0_isLatin1_aae02 cJ0_isLatin1_aae02 1 (some .boolean), Cond.methodLink RJ0 495 yJ1_charAt_3b067, Cond.static yJ1_charAt_3b067, Cond.initialized RJ1, Cond.code yJ1_charAt_3b067 cJ1_charAt_3b067 2 (some .char), Cond.methodLink RJ1 9 yJ0_checkIndex_df160, Cond.static yJ0_checkIndex_df160, Cond.code yJ0_checkIndex_df160 cJ0_checkIndex_df160 2 none, Cond.fieldLink RJ0 1053 "jdk/internal/util/Preconditions" "SIOOBE_FORMATTER" "Ljava/util/function/BiFunction;", Cond.methodLink RJ0 1059 yJ3_checkIndex_8e157, Cond.static yJ3_checkIndex_8e157, Cond.initialized RJ3, Cond.code yJ3_checkIndex_8e157 cJ3_checkIndex_8e157 3 (some .int)] : List Cond) ++ wsX60)
set_option maxRecDepth 20000 in
theorem gr_k_is_10_k_length_10 : GoodIn wq_k_is_10 wq_k_length_10 := List.forall_mem_cons.mpr ⟨⟨(List.mem_of_getElem? (i := 7) rfl), good_of_word rfl⟩, List.forall_mem_cons.mpr ⟨⟨(List.mem_of_getElem? (i := 8) rfl), good_of_word rfl⟩, List.forall_mem_cons.mpr ⟨⟨(List.mem_of_getElem? (i := 9) rfl), good_of_word rfl⟩, List.forall_mem_cons.mpr ⟨⟨(List.mem_of_getElem? (i := 10) rfl), good_of_word rfl⟩, List.forall_mem_cons.mpr ⟨⟨(List.mem_of_getElem? (i := 11) rfl), good_of_word rfl⟩, List.forall_mem_cons.mpr ⟨⟨(List.mem_of_getElem? (i := 6) rfl), good_of_word rfl⟩, List.forall_mem_cons.mpr ⟨⟨(List.mem_of_getElem? (i := 12) rfl), good_of_word rfl⟩, List.forall_mem_cons.mpr ⟨⟨(List.mem_of_getElem? (i := 13) rfl), good_of_word rfl⟩, List.forall_mem_cons.mpr ⟨⟨(List.mem_of_getElem? (i := 14) rfl), good_of_word rfl⟩, (fun _ h => absurd h List.not_mem_nil)⟩⟩⟩⟩⟩⟩⟩⟩⟩
set_option maxRecDepth 20000 in
theorem gq_k_is_10_k_length_10_221 : GoodIn wq_k_is_10 (wsV RX6 221 RJ0 yJ0_length_8abf5 wq_k_length_10) := goodIn_app (List.forall_mem_cons.mpr ⟨⟨(List.mem_of_getElem? (i := 3) rfl), good_of_word rfl⟩, List.forall_mem_cons.mpr ⟨⟨(List.mem_of_getElem? (i := 4) rfl), good_of_word rfl⟩, List.forall_mem_cons.mpr ⟨⟨(List.mem_of_getElem? (i := 5) rfl), good_of_word rfl⟩, List.forall_mem_cons.mpr ⟨⟨(List.mem_of_getElem? (i := 6) rfl), good_of_word rfl⟩, (fun _ h => absurd h List.not_mem_nil)⟩⟩⟩⟩) gr_k_is_10_k_length_10
set_option maxRecDepth 20000 in
theorem gr_k_is_10_k_charAt_10 : GoodIn wq_k_is_10 wq_k_charAt_10 := List.forall_mem_cons.mpr ⟨⟨(List.mem_of_getElem? (i := 20) rfl), good_of_word rfl⟩, List.forall_mem_cons.mpr ⟨⟨(List.mem_of_getElem? (i := 21) rfl), good_of_word rfl⟩, List.forall_mem_cons.mpr ⟨⟨(List.mem_of_getElem? (i := 22) rfl), good_of_word rfl⟩, List.forall_mem_cons.mpr ⟨⟨(List.mem_of_getElem? (i := 23) rfl), good_of_word rfl⟩, List.forall_mem_cons.mpr ⟨⟨(List.mem_of_getElem? (i := 6) rfl), good_of_word rfl⟩, List.forall_mem_cons.mpr ⟨⟨(List.mem_of_getElem? (i := 24) rfl), good_of_word rfl⟩, List.forall_mem_cons.mpr ⟨⟨(List.mem_of_getElem? (i := 13) rfl), good_of_word rfl⟩, List.forall_mem_cons.mpr ⟨⟨(List.mem_of_getElem? (i := 14) rfl), good_of_word rfl⟩, List.forall_mem_cons.mpr ⟨⟨(List.mem_of_getElem? (i := 8) rfl), good_of_word rfl⟩, List.forall_mem_cons.mpr ⟨⟨(List.mem_of_getElem? (i := 25) rfl), good_of_word rfl⟩, List.forall_mem_cons.mpr ⟨⟨(List.mem_of_getElem? (i := 26) rfl), good_of_word rfl⟩, List.forall_mem_cons.mpr ⟨⟨(List.mem_of_getElem? (i := 27) rfl), good_of_word rfl⟩, List.forall_mem_cons.mpr ⟨⟨(List.mem_of_getElem? (i := 28) rfl), good_of_word rfl⟩, List.forall_mem_cons.mpr ⟨⟨(List.mem_of_getElem? (i := 29) rfl), good_of_word rfl⟩, List.forall_mem_cons.mpr ⟨⟨(List.mem_of_getElem? (i := 30) rfl), good_of_word rfl⟩, List.forall_mem_cons.mpr ⟨⟨(List.mem_of_getElem? (i := 31) rfl), good_of_word rfl⟩, List.forall_mem_cons.mpr ⟨⟨(List.mem_of_getElem? (i := 32) rfl), good_of_word rfl⟩, List.forall_mem_cons.mpr ⟨⟨(List.mem_of_getElem? (i := 33) rfl), good_of_word rfl⟩, List.forall_mem_cons.mpr ⟨⟨(List.mem_of_getElem? (i := 34) rfl), good_of_word rfl⟩, List.forall_mem_cons.mpr ⟨⟨(List.mem_of_getElem? (i := 35) rfl), good_of_word rfl⟩, List.forall_mem_cons.mpr ⟨⟨(List.mem_of_getElem? (i := 36) rfl), good_of_word rfl⟩, (fun _ h => absurd h List.not_mem_nil)⟩⟩⟩⟩⟩⟩⟩⟩⟩⟩⟩⟩⟩⟩⟩⟩⟩⟩⟩⟩⟩
set_option maxRecDepth 20000 in
theorem gq_k_is_10_k_charAt_10_226 : GoodIn wq_k_is_10 (wsV RX6 226 RJ0 yJ0_charAt_5068e wq_k_charAt_10) := goodIn_app (List.forall_mem_cons.mpr ⟨⟨(List.mem_of_getElem? (i := 17) rfl), good_of_word rfl⟩, List.forall_mem_cons.mpr ⟨⟨(List.mem_of_getElem? (i := 18) rfl), good_of_word rfl⟩, List.forall_mem_cons.mpr ⟨⟨(List.mem_of_getElem? (i := 19) rfl), good_of_word rfl⟩, List.forall_mem_cons.mpr ⟨⟨(List.mem_of_getElem? (i := 6) rfl), good_of_word rfl⟩, (fun _ h => absurd h List.not_mem_nil)⟩⟩⟩⟩) gr_k_is_10_k_charAt_10
set_option maxHeartbeats 8000000 in
set_option maxRecDepth 100000 in
theorem k_is_10 (l : Launch) (D : va_G) (cy : Nat → ClassId) (ad : Nat → Nat) (g : Nat → va_E) {u0_0 : Value} {u0_1 : Value} {u0_2 : Value} {u0_4 : Value} {u0_5 : Value} {x0_6 : Int32} {x0_7 : Int32} {x0_8 : Int32} {u0_9 : Value} {u0_10 : Value} {u0_11 : Value} {c1 : Nat → Int32} (o0 : g 0 = .inr (6, [u0_0, u0_1, u0_2, .ref (ad 1), u0_4, u0_5, .int x0_6, .int x0_7, .int x0_8, u0_9, u0_10, u0_11])) (a1 : g 1 = .inl (cy 0, 1600, .inl c1)) (b0_7 : zi 0 1600 x0_7) (hw0 : ((x0_6 : Int32) = 1 → (x0_7 : Int32).toInt + (x0_8 : Int32).toInt ≤ 1600)) : cMi l yX6_is wq_k_is_10 { frames := 4, cells := 0, slots := 0, locals := 85 } 2 0 0 0 D cy ad g [.ref (ad 0), .ref (cy (100 + 10))] (fun r nw lu => (zi 0 1 r) ∧ (lu = [])) := by
  refine cM_of (Qc := fun A => cQi (fun r nw lu => (zi 0 1 r) ∧ (lu = [])) D 2 0 ad g A) (cc := cX6_is) (maxL := 3) (ret := (some .boolean)) (by decide) rfl (Nat.le_of_ble_eq_true rfl) ?_
  intro p e s m below meth c A hC hr hlk hnm hO ls hl
  have hC : CallFix p m c cX6_is 3 s [.ref (ad 0), .ref (cy (100 + 10))].toArray wq_k_is_10 RX6 := hC
  obtain ⟨hx, hb, hml, hown, hts⟩ := id hC
  have hl : lv_has ls 3 [(0, .ref (ad 0)), (1, .ref (cy (100 + 10)))] := hl
  have i_X6 : ∀ w ∈ wsX60, w ∈ wq_k_is_10 := fun w h => List.mem_cons_of_mem _ (List.mem_append_right _ h)
  refine lv_aload_n hx hb ddX6_is_0 rfl (lv_at hl 0 rfl) ?_
  refine cg_get hC hO 0 (by decide) o0 rfl i_X6 6 (by decide) (List.mem_of_getElem? (i := 1) rfl) rfl ddX6_is_1 ?_
  refine lv_iconst (v := 1) hx hb ddX6_is_4 (by decide) ?_
  refine lv_icmp_ne (tgt := 19) hx hb ddX6_is_5 (by decide) (fun h_5_139 => ?_) (fun h_5_139 => ?_)
  · refine lv_iconst (v := 0) hx hb ddX6_is_19 (by decide) ?_
    exact cg_iret (nw := fun _ => 0) hC hr hlk hO.same rfl (Nat.le_of_ble_eq_true rfl) (Nat.le_of_ble_eq_true rfl) (⟨(zi_k (a := 0) (b := 1) (x := 0) rfl), rfl⟩) ddX6_is_20
  · have q_5_140 := zr_eq h_5_139
    have z_5_141 : zi 1 1 x0_6 := ze_eq q_5_140 (zi_all x0_6) (zi_k (a := 1) (b := 1) (x := 1) rfl)
    refine lv_aload_n hx hb ddX6_is_8 rfl (lv_at hl 0 rfl) ?_
    refine cg_get hC hO 0 (by decide) o0 rfl i_X6 8 (by decide) (List.mem_of_getElem? (i := 2) rfl) rfl ddX6_is_9 ?_
    refine lv_aload_n hx hb ddX6_is_12 rfl (lv_at hl 1 rfl) ?_
    refine sg_Vi (As := []) (rest := [.int x0_8]) (mc := 0) (ms := 0) (rm := { frames := 1, cells := 0, slots := 0, locals := 20 }) hC hl.1 hO [] (by decide +kernel) 10 (by decide) (k_length_10 l D cy _ _  ) gq_k_is_10_k_length_10_221 rfl rfl rfl 0 (by decide +kernel) ⟨Nat.le_of_ble_eq_true rfl, Nat.le_of_ble_eq_true rfl⟩ rfl rfl (Nat.le_of_ble_eq_true rfl) ddX6_is_13 ⟨Nat.le_of_ble_eq_true rfl, Nat.le_of_ble_eq_true rfl⟩ (fun r_13_144 nw_13_142 l_13_143 H locs hw hO => ?_)
    obtain ⟨rfl, rfl⟩ := hw
    have hO : cO D cy A s.heap s 2 ad (cup [] g) _ _ := hO
    refine lv_icmp_eq (tgt := 21) hx hb ddX6_is_16 (by decide) (fun h_16_145 => ?_) (fun h_16_145 => ?_)
    · have q_16_146 := zr_eq h_16_145
      have z_16_147 : zi 5 5 x0_8 := ze_eq q_16_146 (zi_all x0_8) (zi_k (a := 5) (b := 5) (x := 5) rfl)
      refine lv_iconst (v := 0) hx hb ddX6_is_21 (by decide) ?_
      refine lv_istore_n (lv' := [(2, .int 0), (0, .ref (ad 0)), (1, .ref (cy (100 + 10)))]) hx hb ddX6_is_22 rfl hl (by decide) rfl (fun ls hl => ?_)
      have loop_23_277 : ∀ (d_23_278 : Nat) (v_23_253 : Int32), zi 0 5 v_23_253 → (5 + 1 - v_23_253.toInt).toNat < d_23_278 → ∀ (H : Heap) (locs : List Loc), cO D cy A s.heap s 2 ad (cup [] g) H locs → ∀ ls : Array Slot, lv_has ls 3 [(2, .int v_23_253), (0, .ref (ad 0)), (1, .ref (cy (100 + 10)))] → W p l e { frames := 4, cells := 0, slots := 0, locals := 85 } s m [.ref (ad 0), .ref (cy (100 + 10))].toArray below meth c H locs 0 0 (MQ below (cQi (fun r nw lu => (zi 0 1 r) ∧ (lu = [])) D 2 0 ad g A) [.ref (ad 0), .ref (cy (100 + 10))].toArray s 0 0 A) (F0 m 23 ls [])  := by
        intro d_23_278
        induction d_23_278 with
        | zero => intro v_23_253 z_23_254 mu_23_279; exact absurd mu_23_279 (Nat.not_lt_zero _)
        | succ d_23_278 ih_23_280 =>
          intro v_23_253 z_23_254 mu_23_279 H locs hO ls hl
          refine lv_iload_n hx hb ddX6_is_23 rfl (lv_at hl 0 rfl) ?_
          refine lv_aload_n hx hb ddX6_is_24 rfl (lv_at hl 1 rfl) ?_
          refine cg_get hC hO 0 (by decide) o0 rfl i_X6 8 (by decide) (List.mem_of_getElem? (i := 2) rfl) rfl ddX6_is_25 ?_
          refine lv_icmp_ge (tgt := 58) hx hb ddX6_is_28 (by decide) (fun h_28_281 => ?_) (fun h_28_281 => ?_)
          · have q_28_282 := zr_le h_28_281
            have z_28_283 : zi 5 5 v_23_253 := zd_le q_28_282 z_16_147 z_23_254 (by decide)
            refine lv_iconst (v := 1) hx hb ddX6_is_58 (by decide) ?_
            exact cg_iret (nw := fun _ => 0) hC hr hlk hO.same rfl (Nat.le_of_ble_eq_true rfl) (Nat.le_of_ble_eq_true rfl) (⟨(zi_k (a := 0) (b := 1) (x := 1) rfl), rfl⟩) ddX6_is_59
          · have q_28_284 := zr_nle h_28_281
            have z_28_285 : zi 0 4 v_23_253 := zu_lt q_28_284 z_23_254 z_16_147 (by decide)
            refine lv_aload_n hx hb ddX6_is_31 rfl (lv_at hl 1 rfl) ?_
            refine cg_get hC hO 0 (by decide) o0 rfl i_X6 3 (by decide) (List.mem_of_getElem? (i := 15) rfl) rfl ddX6_is_32 ?_
            refine lv_aload_n hx hb ddX6_is_35 rfl (lv_at hl 1 rfl) ?_
            refine cg_get hC hO 0 (by decide) o0 rfl i_X6 7 (by decide) (List.mem_of_getElem? (i := 16) rfl) rfl ddX6_is_36 ?_
            refine lv_iload_n hx hb ddX6_is_39 rfl (lv_at hl 0 rfl) ?_
            have z_40_286 : zi 0 1595 x0_7 := ⟨b0_7.1, by have q1 := hw0 h_5_139; have q2 := z_16_147; omega⟩
            refine lv_iadd hx hb ddX6_is_40 ?_
            refine zg_top2 (P := fun v => zi 0 1599 v) (E := fun v => v.toInt = (x0_7 : Int32).toInt + (v_23_253 : Int32).toInt) (zi_add z_40_286 z_28_285 (by decide)) (fun v_40_287 z_40_288 q_40_289 => ?_)
            refine zg_iald hC hO 1 (by decide) a1 (za_all _) (zi_in z_40_288 (by decide)) ddX6_is_41 (fun v_41_290 z_41_291 => ?_)
            refine lv_aload_n hx hb ddX6_is_42 rfl (lv_at hl 2 rfl) ?_
            refine lv_iload_n hx hb ddX6_is_43 rfl (lv_at hl 0 rfl) ?_
            refine sg_Vi (As := [.int v_23_253]) (rest := [.int v_41_290]) (mc := 0) (ms := 0) (rm := { frames := 3, cells := 0, slots := 0, locals := 64 }) hC hl.1 hO [] (by decide +kernel) 10 (by decide) (k_charAt_10 l D cy _ _ (n := v_23_253) z_28_285) gq_k_is_10_k_charAt_10_226 rfl rfl rfl 1 (by decide +kernel) ⟨Nat.le_of_ble_eq_true rfl, Nat.le_of_ble_eq_true rfl⟩ rfl rfl (Nat.le_of_ble_eq_true rfl) ddX6_is_44 ⟨Nat.le_of_ble_eq_true rfl, Nat.le_of_ble_eq_true rfl⟩ (fun r_44_294 nw_44_292 l_44_293 H locs hw hO => ?_)
            obtain ⟨z_44_295, rfl⟩ := hw
            have hO : cO D cy A s.heap s 2 ad (cup [] g) _ _ := hO
            refine lv_icmp_eq (tgt := 52) hx hb ddX6_is_47 (by decide) (fun h_47_296 => ?_) (fun h_47_296 => ?_)
            · have q_47_297 := zr_eq h_47_296
              have z_47_298 : zi 0 65535 v_41_290 := ze_eq q_47_297 z_41_291 z_44_295
              obtain ⟨v_52_299, e_52_300, z_52_301, q_52_302⟩ := zi_inc (e := 1) (f := 5) 1 z_28_285 (by decide)
              refine lv_iinc (v := v_52_299) (lv' := [(2, .int v_52_299), (0, .ref (ad 0)), (1, .ref (cy (100 + 10)))]) hx hb ddX6_is_52 hl (k := 0) rfl e_52_300 (by decide) rfl (fun ls hl => ?_)
              refine lv_goto (tgt := 23) hx hb ddX6_is_55 (by decide) ?_
              exact ih_23_280 v_52_299 (zi_w (c := 0) (d := 5) z_52_301 (by decide)) (zm_up q_52_302 ((zi_w (c := 0) (d := 5) z_52_301 (by decide))).2 (by decide) mu_23_279) _ _ hO ls (lv_sub hl [0, 1, 2] rfl)
            · refine lv_iconst (v := 0) hx hb ddX6_is_50 (by decide) ?_
              exact cg_iret (nw := fun _ => 0) hC hr hlk hO.same rfl (Nat.le_of_ble_eq_true rfl) (Nat.le_of_ble_eq_true rfl) (⟨(zi_k (a := 0) (b := 1) (x := 0) rfl), rfl⟩) ddX6_is_51
      exact loop_23_277 ((5 + 1 - (0 : Int32).toInt).toNat + 1) 0 (zi_k (a := 0) (b := 5) (x := 0) rfl) (Nat.lt_succ_self _) _ _ hO ls (lv_sub hl [0, 1, 2] rfl)
    · refine lv_iconst (v := 0) hx hb ddX6_is_19 (by decide) ?_
      exact cg_iret (nw := fun _ => 0) hC hr hlk hO.same rfl (Nat.le_of_ble_eq_true rfl) (Nat.le_of_ble_eq_true rfl) (⟨(zi_k (a := 0) (b := 1) (x := 0) rfl), rfl⟩) ddX6_is_20

