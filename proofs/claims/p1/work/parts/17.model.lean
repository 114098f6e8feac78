theorem dX12_sign_0 : decode cX12_sign 0 = .ok (.iload_n 1, 1) := by decide +kernel
theorem dX12_sign_1 : decode cX12_sign 1 = .ok (.aload_n 0, 1) := by decide +kernel
theorem dX12_sign_2 : decode cX12_sign 2 = .ok (.getfield 182, 3) := by decide +kernel
theorem dX12_sign_5 : decode cX12_sign 5 = .ok (.if_icmp .ge 16, 3) := by decide +kernel
theorem dX12_sign_21 : decode cX12_sign 21 = .ok (.iconst 0, 1) := by decide +kernel
theorem dX12_sign_22 : decode cX12_sign 22 = .ok (.ireturn, 1) := by decide +kernel
def wq_c_X12_sign : List Cond := Cond.code yX12_sign cX12_sign 2 (some .int) :: (([Cond.fieldLink RX12 182 "CrowTollModel" "size" "I"] : List Cond) ++ wsX120)
set_option maxHeartbeats 8000000 in
set_option maxRecDepth 100000 in
theorem c_X12_sign (l : Launch) (D : va_G) (cy : Nat → ClassId) (ad : Nat → Nat) (g : Nat → va_E) {f0 : List Value} (o0 : g 0 = .inr (12, f0)) (f0_3 : f0[3]? = some (.int 0)) : cMi l yX12_sign wq_c_X12_sign { frames := 0, cells := 0, slots := 0, locals := 0 } 1 0 0 0 D cy ad g [.ref (ad 0), .int 0] (fun r nw lu => (r = 0) ∧ (lu = [])) := by
  refine cM_of (Qc := fun A => cQi (fun r nw lu => (r = 0) ∧ (lu = [])) D 1 0 ad g A) (cc := cX12_sign) (maxL := 2) (ret := (some .int)) (by decide) rfl (Nat.le_of_ble_eq_true rfl) ?_
  intro p e s m below meth c A hC hr hlk hnm hO ls hl
  have hC : CallFix p m c cX12_sign 2 s [.ref (ad 0), .int 0].toArray wq_c_X12_sign RX12 := hC
  obtain ⟨hx, hb, hml, hown, hts⟩ := id hC
  have hl : lv_has ls 2 [(0, .ref (ad 0)), (1, .int 0)] := hl
  have i_X12 : ∀ w ∈ wsX120, w ∈ wq_c_X12_sign := fun w h => List.mem_cons_of_mem _ (List.mem_append_right _ h)
  refine lv_iload_n hx hb dX12_sign_0 rfl (lv_at hl 1 rfl) ?_
  refine lv_aload_n hx hb dX12_sign_1 rfl (lv_at hl 0 rfl) ?_
  refine cg_get hC hO 0 (by decide) o0 rfl i_X12 3 (by decide) (List.mem_of_getElem? (i := 1) rfl) f0_3 dX12_sign_2 ?_
  refine lv_icmp_ge (tgt := 21) hx hb dX12_sign_5 (by decide) (fun _ => ?_) (fun h => absurd h (by decide))
  refine lv_iconst (v := 0) hx hb dX12_sign_21 (by decide) ?_
  exact cg_iret (nw := fun _ => 0) hC hr hlk hO.same rfl (Nat.le_of_ble_eq_true rfl) (Nat.le_of_ble_eq_true rfl) (⟨rfl, rfl⟩) dX12_sign_22

theorem dX12_isGood_0 : decode cX12_isGood 0 = .ok (.aload_n 0, 1) := by decide +kernel
theorem dX12_isGood_1 : decode cX12_isGood 1 = .ok (.getfield 185, 3) := by decide +kernel
theorem dX12_isGood_4 : decode cX12_isGood 4 = .ok (.ifCond .ne 7, 3) := by decide +kernel
theorem dX12_isGood_7 : decode cX12_isGood 7 = .ok (.iconst 1, 1) := by decide +kernel
theorem dX12_isGood_8 : decode cX12_isGood 8 = .ok (.goto 4, 3) := by decide +kernel
theorem dX12_isGood_12 : decode cX12_isGood 12 = .ok (.ireturn, 1) := by decide +kernel
def wq_c_X12_isGood : List Cond := Cond.code yX12_isGood cX12_isGood 1 (some .boolean) :: (([Cond.fieldLink RX12 185 "CrowTollModel" "faultKind" "I"] : List Cond) ++ wsX120)
set_option maxHeartbeats 8000000 in
set_option maxRecDepth 100000 in
theorem c_X12_isGood (l : Launch) (D : va_G) (cy : Nat → ClassId) (ad : Nat → Nat) (g : Nat → va_E) {f0 : List Value} (o0 : g 0 = .inr (12, f0)) (f0_4 : f0[4]? = some (.int 0)) : cMi l yX12_isGood wq_c_X12_isGood { frames := 0, cells := 0, slots := 0, locals := 0 } 1 0 0 0 D cy ad g [.ref (ad 0)] (fun r nw lu => (r = 1) ∧ (lu = [])) := by
  refine cM_of (Qc := fun A => cQi (fun r nw lu => (r = 1) ∧ (lu = [])) D 1 0 ad g A) (cc := cX12_isGood) (maxL := 1) (ret := (some .boolean)) (by decide) rfl (Nat.le_of_ble_eq_true rfl) ?_
  intro p e s m below meth c A hC hr hlk hnm hO ls hl
  have hC : CallFix p m c cX12_isGood 1 s [.ref (ad 0)].toArray wq_c_X12_isGood RX12 := hC
  obtain ⟨hx, hb, hml, hown, hts⟩ := id hC
  have hl : lv_has ls 1 [(0, .ref (ad 0))] := hl
  have i_X12 : ∀ w ∈ wsX120, w ∈ wq_c_X12_isGood := fun w h => List.mem_cons_of_mem _ (List.mem_append_right _ h)
  refine lv_aload_n hx hb dX12_isGood_0 rfl (lv_at hl 0 rfl) ?_
  refine cg_get hC hO 0 (by decide) o0 rfl i_X12 4 (by decide) (List.mem_of_getElem? (i := 1) rfl) f0_4 dX12_isGood_1 ?_
  refine lv_if_ne (tgt := 11) hx hb dX12_isGood_4 (by decide) (fun h => absurd h (by decide)) (fun _ => ?_)
  refine lv_iconst (v := 1) hx hb dX12_isGood_7 (by decide) ?_
  refine lv_goto (tgt := 12) hx hb dX12_isGood_8 (by decide) ?_
  exact cg_iret (nw := fun _ => 0) hC hr hlk hO.same rfl (Nat.le_of_ble_eq_true rfl) (Nat.le_of_ble_eq_true rfl) (⟨rfl, rfl⟩) dX12_isGood_12

theorem dX12_isBird_0 : decode cX12_isBird 0 = .ok (.iload_n 1, 1) := by decide +kernel
theorem dX12_isBird_1 : decode cX12_isBird 1 = .ok (.iconst 0, 1) := by decide +kernel
theorem dX12_isBird_2 : decode cX12_isBird 2 = .ok (.aload_n 0, 1) := by decide +kernel
theorem dX12_isBird_3 : decode cX12_isBird 3 = .ok (.invokevirtual 363, 3) := by decide +kernel
theorem dX12_isBird_6 : decode cX12_isBird 6 = .ok (.iconst 1, 1) := by decide +kernel
theorem dX12_isBird_7 : decode cX12_isBird 7 = .ok (.isub, 1) := by decide +kernel
theorem dX12_isBird_8 : decode cX12_isBird 8 = .ok (.invokestatic 366, 3) := by decide +kernel
theorem dX12_isBird_11 : decode cX12_isBird 11 = .ok (.ireturn, 1) := by decide +kernel
def wq_c_X12_isBird : List Cond := Cond.code yX12_isBird cX12_isBird 2 (some .boolean) :: (([Cond.methodLink RX12 363 yX12_birdMany, Cond.instanceMethod yX12_birdMany, Cond.selects RX12 yX12_birdMany yX12_birdMany, Cond.initialized RX12, Cond.code yX12_birdMany cX12_birdMany 1 (some .int), Cond.fieldLink RX12 20 "CrowTollModel" "birds" "[I", Cond.fieldLink RX12 286 "CrowTollModel" "bank" "I", Cond.methodLink RX12 366 yX12_isIn, Cond.static yX12_isIn, Cond.code yX12_isIn cX12_isIn 3 (some .boolean)] : List Cond) ++ wsX120)
set_option maxRecDepth 20000 in
theorem gr_c_X12_isBird_c_birdMany0 : GoodIn wq_c_X12_isBird wq_c_birdMany0 := List.forall_mem_cons.mpr ⟨⟨(List.mem_of_getElem? (i := 5) rfl), good_of_word rfl⟩, List.forall_mem_append.mpr ⟨List.forall_mem_cons.mpr ⟨⟨(List.mem_of_getElem? (i := 6) rfl), good_of_word rfl⟩, List.forall_mem_cons.mpr ⟨⟨(List.mem_of_getElem? (i := 7) rfl), good_of_word rfl⟩, (fun _ h => absurd h List.not_mem_nil)⟩⟩, fun w h => ⟨(fun w h => List.mem_cons_of_mem _ (List.mem_append_right _ h)) w h, good_of_word (List.all_eq_true.mp gw_X12 w h)⟩⟩⟩
set_option maxRecDepth 20000 in
theorem gq_c_X12_isBird_c_birdMany0_363 : GoodIn wq_c_X12_isBird (wsV RX12 363 RX12 yX12_birdMany wq_c_birdMany0) := goodIn_app (List.forall_mem_cons.mpr ⟨⟨(List.mem_of_getElem? (i := 1) rfl), good_of_word rfl⟩, List.forall_mem_cons.mpr ⟨⟨(List.mem_of_getElem? (i := 2) rfl), good_of_word rfl⟩, List.forall_mem_cons.mpr ⟨⟨(List.mem_of_getElem? (i := 3) rfl), good_of_word rfl⟩, List.forall_mem_cons.mpr ⟨⟨(List.mem_of_getElem? (i := 4) rfl), good_of_word rfl⟩, (fun _ h => absurd h List.not_mem_nil)⟩⟩⟩⟩) gr_c_X12_isBird_c_birdMany0
set_option maxRecDepth 20000 in
theorem gr_c_X12_isBird_c_X12_isIn : GoodIn wq_c_X12_isBird wq_c_X12_isIn := List.forall_mem_cons.mpr ⟨⟨(List.mem_of_getElem? (i := 10) rfl), good_of_word rfl⟩, (fun _ h => absurd h List.not_mem_nil)⟩
set_option maxRecDepth 20000 in
theorem gq_c_X12_isBird_c_X12_isIn_366 : GoodIn wq_c_X12_isBird (va_wsS RX12 366 yX12_isIn wq_c_X12_isIn) := goodIn_app (List.forall_mem_cons.mpr ⟨⟨(List.mem_of_getElem? (i := 8) rfl), good_of_word rfl⟩, List.forall_mem_cons.mpr ⟨⟨(List.mem_of_getElem? (i := 9) rfl), good_of_word rfl⟩, List.forall_mem_cons.mpr ⟨⟨(List.mem_of_getElem? (i := 4) rfl), good_of_word rfl⟩, (fun _ h => absurd h List.not_mem_nil)⟩⟩⟩) gr_c_X12_isBird_c_X12_isIn
set_option maxHeartbeats 8000000 in
set_option maxRecDepth 100000 in
theorem c_X12_isBird (l : Launch) (D : va_G) (cy : Nat → ClassId) (ad : Nat → Nat) (g : Nat → va_E) {f0 : List Value} {n : Int32} (o0 : g 0 = .inr (12, f0)) (f0_11 : f0[11]? = some (.ref (ad 1))) (f0_36 : f0[36]? = some (.int 0)) (a1 : g 1 = .inl (cy 0, 2, .inl (fun _ => 0))) : cMi l yX12_isBird wq_c_X12_isBird { frames := 1, cells := 0, slots := 0, locals := 22 } 2 0 0 0 D cy ad g [.ref (ad 0), .int n] (fun r nw lu => (r = 0) ∧ (lu = [])) := by
  refine cM_of (Qc := fun A => cQi (fun r nw lu => (r = 0) ∧ (lu = [])) D 2 0 ad g A) (cc := cX12_isBird) (maxL := 2) (ret := (some .boolean)) (by decide) rfl (Nat.le_of_ble_eq_true rfl) ?_
  intro p e s m below meth c A hC hr hlk hnm hO ls hl
  have hC : CallFix p m c cX12_isBird 2 s [.ref (ad 0), .int n].toArray wq_c_X12_isBird RX12 := hC
  obtain ⟨hx, hb, hml, hown, hts⟩ := id hC
  have hl : lv_has ls 2 [(0, .ref (ad 0)), (1, .int n)] := hl
  have i_X12 : ∀ w ∈ wsX120, w ∈ wq_c_X12_isBird := fun w h => List.mem_cons_of_mem _ (List.mem_append_right _ h)
  refine lv_iload_n hx hb dX12_isBird_0 rfl (lv_at hl 1 rfl) ?_
  refine lv_iconst (v := 0) hx hb dX12_isBird_1 (by decide) ?_
  refine lv_aload_n hx hb dX12_isBird_2 rfl (lv_at hl 0 rfl) ?_
  refine cg_Vi (As := []) (rest := [.int 0, .int n]) (mc := 0) (ms := 0) (rm := { frames := 0, cells := 0, slots := 0, locals := 0 }) hC hl.1 hO [0, 1] rfl (c_birdMany0 l D cy _ _ (f0 := f0) o0 f0_11 f0_36 a1) gq_c_X12_isBird_c_birdMany0_363 rfl rfl rfl 0 (by decide +kernel) ⟨Nat.le_of_ble_eq_true rfl, Nat.le_of_ble_eq_true rfl⟩ rfl (by decide) o0 rfl rfl (Nat.le_of_ble_eq_true rfl) dX12_isBird_3 ⟨Nat.le_of_ble_eq_true rfl, Nat.le_of_ble_eq_true rfl⟩ (fun r_3_3 nw_3_1 l_3_2 H locs hw hO => ?_)
  obtain ⟨rfl, rfl⟩ := hw
  have hO : cO D cy A s.heap s 2 ad (cup [] g) _ _ := hO
  refine lv_iconst (v := 1) hx hb dX12_isBird_6 (by decide) ?_
  refine lv_isub hx hb dX12_isBird_7 ?_
  refine cg_ev (v := (-1)) (by decide) ?_
  refine cg_Si (As := [.int n, .int 0, .int (-1)]) (rest := []) (mc := 0) (ms := 0) (rm := { frames := 0, cells := 0, slots := 0, locals := 0 }) hC hl.1 hO [] rfl (c_X12_isIn l D cy _ _ (x := n) (y := 0) (z := (-1)) ) gq_c_X12_isBird_c_X12_isIn_366 rfl rfl rfl 3 (by decide +kernel) ⟨Nat.le_of_ble_eq_true rfl, Nat.le_of_ble_eq_true rfl⟩ rfl rfl (Nat.le_of_ble_eq_true rfl) dX12_isBird_8 ⟨Nat.le_of_ble_eq_true rfl, Nat.le_of_ble_eq_true rfl⟩ (fun r_8_6 nw_8_4 l_8_5 H locs hw hO => ?_)
  rcases hw with hw | hw
  · obtain ⟨hr_8_7, rfl, rfl⟩ := hw
    exact absurd (Int32.le_trans hr_8_7.1 hr_8_7.2) (by decide)
  · obtain ⟨hr_8_8, rfl, rfl⟩ := hw
    have hO : cO D cy A s.heap s 2 ad (cup [] g) _ _ := hO
    exact cg_iret (nw := fun _ => 0) hC hr hlk hO.same rfl (Nat.le_of_ble_eq_true rfl) (Nat.le_of_ble_eq_true rfl) (⟨rfl, rfl⟩) dX12_isBird_11

theorem dX12_isPost_0 : decode cX12_isPost 0 = .ok (.iload_n 1, 1) := by decide +kernel
theorem dX12_isPost_1 : decode cX12_isPost 1 = .ok (.iconst 0, 1) := by decide +kernel
theorem dX12_isPost_2 : decode cX12_isPost 2 = .ok (.aload_n 0, 1) := by decide +kernel
theorem dX12_isPost_3 : decode cX12_isPost 3 = .ok (.invokevirtual 370, 3) := by decide +kernel
theorem dX12_isPost_6 : decode cX12_isPost 6 = .ok (.iconst 1, 1) := by decide +kernel
theorem dX12_isPost_7 : decode cX12_isPost 7 = .ok (.isub, 1) := by decide +kernel
theorem dX12_isPost_8 : decode cX12_isPost 8 = .ok (.invokestatic 366, 3) := by decide +kernel
theorem dX12_isPost_11 : decode cX12_isPost 11 = .ok (.ireturn, 1) := by decide +kernel
def wq_c_X12_isPost : List Cond := Cond.code yX12_isPost cX12_isPost 2 (some .boolean) :: (([Cond.methodLink RX12 370 yX12_postMany, Cond.instanceMethod yX12_postMany, Cond.selects RX12 yX12_postMany yX12_postMany, Cond.initialized RX12, Cond.code yX12_postMany cX12_postMany 1 (some .int), Cond.fieldLink RX12 24 "CrowTollModel" "posts" "[I", Cond.fieldLink RX12 286 "CrowTollModel" "bank" "I", Cond.methodLink RX12 366 yX12_isIn, Cond.static yX12_isIn, Cond.code yX12_isIn cX12_isIn 3 (some .boolean)] : List Cond) ++ wsX120)
set_option maxRecDepth 20000 in
theorem gr_c_X12_isPost_c_X12_postMany : GoodIn wq_c_X12_isPost wq_c_X12_postMany := List.forall_mem_cons.mpr ⟨⟨(List.mem_of_getElem? (i := 5) rfl), good_of_word rfl⟩, List.forall_mem_append.mpr ⟨List.forall_mem_cons.mpr ⟨⟨(List.mem_of_getElem? (i := 6) rfl), good_of_word rfl⟩, List.forall_mem_cons.mpr ⟨⟨(List.mem_of_getElem? (i := 7) rfl), good_of_word rfl⟩, (fun _ h => absurd h List.not_mem_nil)⟩⟩, fun w h => ⟨(fun w h => List.mem_cons_of_mem _ (List.mem_append_right _ h)) w h, good_of_word (List.all_eq_true.mp gw_X12 w h)⟩⟩⟩
set_option maxRecDepth 20000 in
theorem gq_c_X12_isPost_c_X12_postMany_370 : GoodIn wq_c_X12_isPost (wsV RX12 370 RX12 yX12_postMany wq_c_X12_postMany) := goodIn_app (List.forall_mem_cons.mpr ⟨⟨(List.mem_of_getElem? (i := 1) rfl), good_of_word rfl⟩, List.forall_mem_cons.mpr ⟨⟨(List.mem_of_getElem? (i := 2) rfl), good_of_word rfl⟩, List.forall_mem_cons.mpr ⟨⟨(List.mem_of_getElem? (i := 3) rfl), good_of_word rfl⟩, List.forall_mem_cons.mpr ⟨⟨(List.mem_of_getElem? (i := 4) rfl), good_of_word rfl⟩, (fun _ h => absurd h List.not_mem_nil)⟩⟩⟩⟩) gr_c_X12_isPost_c_X12_postMany
set_option maxRecDepth 20000 in
theorem gr_c_X12_isPost_c_X12_isIn : GoodIn wq_c_X12_isPost wq_c_X12_isIn := List.forall_mem_cons.mpr ⟨⟨(List.mem_of_getElem? (i := 10) rfl), good_of_word rfl⟩, (fun _ h => absurd h List.not_mem_nil)⟩
set_option maxRecDepth 20000 in
theorem gq_c_X12_isPost_c_X12_isIn_366 : GoodIn wq_c_X12_isPost (va_wsS RX12 366 yX12_isIn wq_c_X12_isIn) := goodIn_app (List.forall_mem_cons.mpr ⟨⟨(List.mem_of_getElem? (i := 8) rfl), good_of_word rfl⟩, List.forall_mem_cons.mpr ⟨⟨(List.mem_of_getElem? (i := 9) rfl), good_of_word rfl⟩, List.forall_mem_cons.mpr ⟨⟨(List.mem_of_getElem? (i := 4) rfl), good_of_word rfl⟩, (fun _ h => absurd h List.not_mem_nil)⟩⟩⟩) gr_c_X12_isPost_c_X12_isIn
set_option maxHeartbeats 8000000 in
set_option maxRecDepth 100000 in
theorem c_X12_isPost (l : Launch) (D : va_G) (cy : Nat → ClassId) (ad : Nat → Nat) (g : Nat → va_E) {f0 : List Value} {n : Int32} (o0 : g 0 = .inr (12, f0)) (f0_12 : f0[12]? = some (.ref (ad 1))) (f0_36 : f0[36]? = some (.int 0)) (a1 : g 1 = .inl (cy 0, 2, .inl (fun _ => 0))) : cMi l yX12_isPost wq_c_X12_isPost { frames := 1, cells := 0, slots := 0, locals := 22 } 2 0 0 0 D cy ad g [.ref (ad 0), .int n] (fun r nw lu => (r = 0) ∧ (lu = [])) := by
  refine cM_of (Qc := fun A => cQi (fun r nw lu => (r = 0) ∧ (lu = [])) D 2 0 ad g A) (cc := cX12_isPost) (maxL := 2) (ret := (some .boolean)) (by decide) rfl (Nat.le_of_ble_eq_true rfl) ?_
  intro p e s m below meth c A hC hr hlk hnm hO ls hl
  have hC : CallFix p m c cX12_isPost 2 s [.ref (ad 0), .int n].toArray wq_c_X12_isPost RX12 := hC
  obtain ⟨hx, hb, hml, hown, hts⟩ := id hC
  have hl : lv_has ls 2 [(0, .ref (ad 0)), (1, .int n)] := hl
  have i_X12 : ∀ w ∈ wsX120, w ∈ wq_c_X12_isPost := fun w h => List.mem_cons_of_mem _ (List.mem_append_right _ h)
  refine lv_iload_n hx hb dX12_isPost_0 rfl (lv_at hl 1 rfl) ?_
  refine lv_iconst (v := 0) hx hb dX12_isPost_1 (by decide) ?_
  refine lv_aload_n hx hb dX12_isPost_2 rfl (lv_at hl 0 rfl) ?_
  refine cg_Vi (As := []) (rest := [.int 0, .int n]) (mc := 0) (ms := 0) (rm := { frames := 0, cells := 0, slots := 0, locals := 0 }) hC hl.1 hO [0, 1] rfl (c_X12_postMany l D cy _ _ (f0 := f0) o0 f0_12 f0_36 a1) gq_c_X12_isPost_c_X12_postMany_370 rfl rfl rfl 0 (by decide +kernel) ⟨Nat.le_of_ble_eq_true rfl, Nat.le_of_ble_eq_true rfl⟩ rfl (by decide) o0 rfl rfl (Nat.le_of_ble_eq_true rfl) dX12_isPost_3 ⟨Nat.le_of_ble_eq_true rfl, Nat.le_of_ble_eq_true rfl⟩ (fun r_3_3 nw_3_1 l_3_2 H locs hw hO => ?_)
  obtain ⟨rfl, rfl⟩ := hw
  have hO : cO D cy A s.heap s 2 ad (cup [] g) _ _ := hO
  refine lv_iconst (v := 1) hx hb dX12_isPost_6 (by decide) ?_
  refine lv_isub hx hb dX12_isPost_7 ?_
  refine cg_ev (v := (-1)) (by decide) ?_
  refine cg_Si (As := [.int n, .int 0, .int (-1)]) (rest := []) (mc := 0) (ms := 0) (rm := { frames := 0, cells := 0, slots := 0, locals := 0 }) hC hl.1 hO [] rfl (c_X12_isIn l D cy _ _ (x := n) (y := 0) (z := (-1)) ) gq_c_X12_isPost_c_X12_isIn_366 rfl rfl rfl 3 (by decide +kernel) ⟨Nat.le_of_ble_eq_true rfl, Nat.le_of_ble_eq_true rfl⟩ rfl rfl (Nat.le_of_ble_eq_true rfl) dX12_isPost_8 ⟨Nat.le_of_ble_eq_true rfl, Nat.le_of_ble_eq_true rfl⟩ (fun r_8_6 nw_8_4 l_8_5 H locs hw hO => ?_)
  rcases hw with hw | hw
  · obtain ⟨hr_8_7, rfl, rfl⟩ := hw
    exact absurd (Int32.le_trans hr_8_7.1 hr_8_7.2) (by decide)
  · obtain ⟨hr_8_8, rfl, rfl⟩ := hw
    have hO : cO D cy A s.heap s 2 ad (cup [] g) _ _ := hO
    exact cg_iret (nw := fun _ => 0) hC hr hlk hO.same rfl (Nat.le_of_ble_eq_true rfl) (Nat.le_of_ble_eq_true rfl) (⟨rfl, rfl⟩) dX12_isPost_11

theorem dX12_isCart_0 : decode cX12_isCart 0 = .ok (.iload_n 1, 1) := by decide +kernel
theorem dX12_isCart_1 : decode cX12_isCart 1 = .ok (.iconst 0, 1) := by decide +kernel
theorem dX12_isCart_2 : decode cX12_isCart 2 = .ok (.aload_n 0, 1) := by decide +kernel
theorem dX12_isCart_3 : decode cX12_isCart 3 = .ok (.getfield 98, 3) := by decide +kernel
theorem dX12_isCart_6 : decode cX12_isCart 6 = .ok (.iconst 0, 1) := by decide +kernel
theorem dX12_isCart_7 : decode cX12_isCart 7 = .ok (.iaload, 1) := by decide +kernel
theorem dX12_isCart_8 : decode cX12_isCart 8 = .ok (.iconst 1, 1) := by decide +kernel
theorem dX12_isCart_9 : decode cX12_isCart 9 = .ok (.isub, 1) := by decide +kernel
theorem dX12_isCart_10 : decode cX12_isCart 10 = .ok (.invokestatic 366, 3) := by decide +kernel
theorem dX12_isCart_13 : decode cX12_isCart 13 = .ok (.ireturn, 1) := by decide +kernel
def wq_c_X12_isCart : List Cond := Cond.code yX12_isCart cX12_isCart 2 (some .boolean) :: (([Cond.fieldLink RX12 98 "CrowTollModel" "state" "[I", Cond.methodLink RX12 366 yX12_isIn, Cond.static yX12_isIn, Cond.initialized RX12, Cond.code yX12_isIn cX12_isIn 3 (some .boolean)] : List Cond) ++ wsX120)
set_option maxRecDepth 20000 in
theorem gr_c_X12_isCart_c_X12_isIn : GoodIn wq_c_X12_isCart wq_c_X12_isIn := List.forall_mem_cons.mpr ⟨⟨(List.mem_of_getElem? (i := 5) rfl), good_of_word rfl⟩, (fun _ h => absurd h List.not_mem_nil)⟩
set_option maxRecDepth 20000 in
theorem gq_c_X12_isCart_c_X12_isIn_366 : GoodIn wq_c_X12_isCart (va_wsS RX12 366 yX12_isIn wq_c_X12_isIn) := goodIn_app (List.forall_mem_cons.mpr ⟨⟨(List.mem_of_getElem? (i := 2) rfl), good_of_word rfl⟩, List.forall_mem_cons.mpr ⟨⟨(List.mem_of_getElem? (i := 3) rfl), good_of_word rfl⟩, List.forall_mem_cons.mpr ⟨⟨(List.mem_of_getElem? (i := 4) rfl), good_of_word rfl⟩, (fun _ h => absurd h List.not_mem_nil)⟩⟩⟩) gr_c_X12_isCart_c_X12_isIn
set_option maxHeartbeats 8000000 in
set_option maxRecDepth 100000 in
theorem c_X12_isCart (l : Launch) (D : va_G) (cy : Nat → ClassId) (ad : Nat → Nat) (g : Nat → va_E) {f0 : List Value} {n : Int32} (o0 : g 0 = .inr (12, f0)) (f0_41 : f0[41]? = some (.ref (ad 1))) (a1 : g 1 = .inl (cy 0, 80, .inl (fun _ => 0))) : cMi l yX12_isCart wq_c_X12_isCart { frames := 1, cells := 0, slots := 0, locals := 22 } 2 0 0 0 D cy ad g [.ref (ad 0), .int n] (fun r nw lu => (r = 0) ∧ (lu = [])) := by
  refine cM_of (Qc := fun A => cQi (fun r nw lu => (r = 0) ∧ (lu = [])) D 2 0 ad g A) (cc := cX12_isCart) (maxL := 2) (ret := (some .boolean)) (by decide) rfl (Nat.le_of_ble_eq_true rfl) ?_
  intro p e s m below meth c A hC hr hlk hnm hO ls hl
  have hC : CallFix p m c cX12_isCart 2 s [.ref (ad 0), .int n].toArray wq_c_X12_isCart RX12 := hC
  obtain ⟨hx, hb, hml, hown, hts⟩ := id hC
  have hl : lv_has ls 2 [(0, .ref (ad 0)), (1, .int n)] := hl
  have i_X12 : ∀ w ∈ wsX120, w ∈ wq_c_X12_isCart := fun w h => List.mem_cons_of_mem _ (List.mem_append_right _ h)
  refine lv_iload_n hx hb dX12_isCart_0 rfl (lv_at hl 1 rfl) ?_
  refine lv_iconst (v := 0) hx hb dX12_isCart_1 (by decide) ?_
  refine lv_aload_n hx hb dX12_isCart_2 rfl (lv_at hl 0 rfl) ?_
  refine cg_get hC hO 0 (by decide) o0 rfl i_X12 41 (by decide) (List.mem_of_getElem? (i := 1) rfl) f0_41 dX12_isCart_3 ?_
  refine lv_iconst (v := 0) hx hb dX12_isCart_6 (by decide) ?_
  refine cg_iald hC hO 1 (by decide) a1 (cin (by decide)) dX12_isCart_7 ?_
  refine cg_ev (v := 0) (rfl) ?_
  refine lv_iconst (v := 1) hx hb dX12_isCart_8 (by decide) ?_
  refine lv_isub hx hb dX12_isCart_9 ?_
  refine cg_ev (v := (-1)) (by decide) ?_
  refine cg_Si (As := [.int n, .int 0, .int (-1)]) (rest := []) (mc := 0) (ms := 0) (rm := { frames := 0, cells := 0, slots := 0, locals := 0 }) hC hl.1 hO [] rfl (c_X12_isIn l D cy _ _ (x := n) (y := 0) (z := (-1)) ) gq_c_X12_isCart_c_X12_isIn_366 rfl rfl rfl 3 (by decide +kernel) ⟨Nat.le_of_ble_eq_true rfl, Nat.le_of_ble_eq_true rfl⟩ rfl rfl (Nat.le_of_ble_eq_true rfl) dX12_isCart_10 ⟨Nat.le_of_ble_eq_true rfl, Nat.le_of_ble_eq_true rfl⟩ (fun r_10_3 nw_10_1 l_10_2 H locs hw hO => ?_)
  rcases hw with hw | hw
  · obtain ⟨hr_10_4, rfl, rfl⟩ := hw
    exact absurd (Int32.le_trans hr_10_4.1 hr_10_4.2) (by decide)
  · obtain ⟨hr_10_5, rfl, rfl⟩ := hw
    have hO : cO D cy A s.heap s 2 ad (cup [] g) _ _ := hO
    exact cg_iret (nw := fun _ => 0) hC hr hlk hO.same rfl (Nat.le_of_ble_eq_true rfl) (Nat.le_of_ble_eq_true rfl) (⟨rfl, rfl⟩) dX12_isCart_13

theorem dX12_laySeats_0 : decode cX12_laySeats 0 = .ok (.iconst 0, 1) := by decide +kernel
theorem dX12_laySeats_1 : decode cX12_laySeats 1 = .ok (.istore_n 1, 1) := by decide +kernel
theorem dX12_laySeats_2 : decode cX12_laySeats 2 = .ok (.iload_n 1, 1) := by decide +kernel
theorem dX12_laySeats_3 : decode cX12_laySeats 3 = .ok (.aload_n 0, 1) := by decide +kernel
theorem dX12_laySeats_4 : decode cX12_laySeats 4 = .ok (.invokevirtual 370, 3) := by decide +kernel
theorem dX12_laySeats_7 : decode cX12_laySeats 7 = .ok (.if_icmp .ge 73, 3) := by decide +kernel
theorem dX12_laySeats_80 : decode cX12_laySeats 80 = .ok (.return_, 1) := by decide +kernel
def wq_c_X12_laySeats : List Cond := Cond.code yX12_laySeats cX12_laySeats 3 none :: (([Cond.methodLink RX12 370 yX12_postMany, Cond.instanceMethod yX12_postMany, Cond.selects RX12 yX12_postMany yX12_postMany, Cond.initialized RX12, Cond.code yX12_postMany cX12_postMany 1 (some .int), Cond.fieldLink RX12 24 "CrowTollModel" "posts" "[I", Cond.fieldLink RX12 286 "CrowTollModel" "bank" "I"] : List Cond) ++ wsX120)
set_option maxRecDepth 20000 in
theorem gr_c_X12_laySeats_c_X12_postMany : GoodIn wq_c_X12_laySeats wq_c_X12_postMany := List.forall_mem_cons.mpr ⟨⟨(List.mem_of_getElem? (i := 5) rfl), good_of_word rfl⟩, List.forall_mem_append.mpr ⟨List.forall_mem_cons.mpr ⟨⟨(List.mem_of_getElem? (i := 6) rfl), good_of_word rfl⟩, List.forall_mem_cons.mpr ⟨⟨(List.mem_of_getElem? (i := 7) rfl), good_of_word rfl⟩, (fun _ h => absurd h List.not_mem_nil)⟩⟩, fun w h => ⟨(fun w h => List.mem_cons_of_mem _ (List.mem_append_right _ h)) w h, good_of_word (List.all_eq_true.mp gw_X12 w h)⟩⟩⟩
set_option maxRecDepth 20000 in
theorem gq_c_X12_laySeats_c_X12_postMany_370 : GoodIn wq_c_X12_laySeats (wsV RX12 370 RX12 yX12_postMany wq_c_X12_postMany) := goodIn_app (List.forall_mem_cons.mpr ⟨⟨(List.mem_of_getElem? (i := 1) rfl), good_of_word rfl⟩, List.forall_mem_cons.mpr ⟨⟨(List.mem_of_getElem? (i := 2) rfl), good_of_word rfl⟩, List.forall_mem_cons.mpr ⟨⟨(List.mem_of_getElem? (i := 3) rfl), good_of_word rfl⟩, List.forall_mem_cons.mpr ⟨⟨(List.mem_of_getElem? (i := 4) rfl), good_of_word rfl⟩, (fun _ h => absurd h List.not_mem_nil)⟩⟩⟩⟩) gr_c_X12_laySeats_c_X12_postMany
set_option maxHeartbeats 8000000 in
set_option maxRecDepth 100000 in
theorem c_X12_laySeats (l : Launch) (D : va_G) (cy : Nat → ClassId) (ad : Nat → Nat) (g : Nat → va_E) {f0 : List Value} (o0 : g 0 = .inr (12, f0)) (f0_12 : f0[12]? = some (.ref (ad 1))) (f0_36 : f0[36]? = some (.int 0)) (a1 : g 1 = .inl (cy 0, 2, .inl (fun _ => 0))) : cMv l yX12_laySeats wq_c_X12_laySeats { frames := 1, cells := 0, slots := 0, locals := 20 } 2 0 0 0 D cy ad g [.ref (ad 0)] (fun nw lu => lu = []) := by
  refine cM_of (Qc := fun A => cQv (fun nw lu => lu = []) D 2 0 ad g A) (cc := cX12_laySeats) (maxL := 3) (ret := none) (by decide) rfl (Nat.le_of_ble_eq_true rfl) ?_
  intro p e s m below meth c A hC hr hlk hnm hO ls hl
  have hC : CallFix p m c cX12_laySeats 3 s [.ref (ad 0)].toArray wq_c_X12_laySeats RX12 := hC
  obtain ⟨hx, hb, hml, hown, hts⟩ := id hC
  have hl : lv_has ls 3 [(0, .ref (ad 0))] := hl
  have i_X12 : ∀ w ∈ wsX120, w ∈ wq_c_X12_laySeats := fun w h => List.mem_cons_of_mem _ (List.mem_append_right _ h)
  refine lv_iconst (v := 0) hx hb dX12_laySeats_0 (by decide) ?_
  refine lv_istore_n (lv' := [(1, .int 0), (0, .ref (ad 0))]) hx hb dX12_laySeats_1 rfl hl (by decide) rfl (fun ls hl => ?_)
  refine lv_iload_n hx hb dX12_laySeats_2 rfl (lv_at hl 0 rfl) ?_
  refine lv_aload_n hx hb dX12_laySeats_3 rfl (lv_at hl 1 rfl) ?_
  refine cg_Vi (As := []) (rest := [.int 0]) (mc := 0) (ms := 0) (rm := { frames := 0, cells := 0, slots := 0, locals := 0 }) hC hl.1 hO [0, 1] rfl (c_X12_postMany l D cy _ _ (f0 := f0) o0 f0_12 f0_36 a1) gq_c_X12_laySeats_c_X12_postMany_370 rfl rfl rfl 0 (by decide +kernel) ⟨Nat.le_of_ble_eq_true rfl, Nat.le_of_ble_eq_true rfl⟩ rfl (by decide) o0 rfl rfl (Nat.le_of_ble_eq_true rfl) dX12_laySeats_4 ⟨Nat.le_of_ble_eq_true rfl, Nat.le_of_ble_eq_true rfl⟩ (fun r_4_3 nw_4_1 l_4_2 H locs hw hO => ?_)
  obtain ⟨rfl, rfl⟩ := hw
  have hO : cO D cy A s.heap s 2 ad (cup [] g) _ _ := hO
  refine lv_icmp_ge (tgt := 80) hx hb dX12_laySeats_7 (by decide) (fun _ => ?_) (fun h => absurd h (by decide))
  exact cg_vret (nw := fun _ => 0) hC hr hlk hO.same (Nat.le_of_ble_eq_true rfl) (Nat.le_of_ble_eq_true rfl) rfl dX12_laySeats_80

theorem dX12_layDay_0 : decode cX12_layDay 0 = .ok (.aload_n 0, 1) := by decide +kernel
theorem dX12_layDay_1 : decode cX12_layDay 1 = .ok (.aload_n 0, 1) := by decide +kernel
theorem dX12_layDay_2 : decode cX12_layDay 2 = .ok (.getfield 98, 3) := by decide +kernel
theorem dX12_layDay_5 : decode cX12_layDay 5 = .ok (.iconst 0, 1) := by decide +kernel
theorem dX12_layDay_6 : decode cX12_layDay 6 = .ok (.iaload, 1) := by decide +kernel
theorem dX12_layDay_7 : decode cX12_layDay 7 = .ok (.putfield 379, 3) := by decide +kernel
theorem dX12_layDay_10 : decode cX12_layDay 10 = .ok (.aload_n 0, 1) := by decide +kernel
theorem dX12_layDay_11 : decode cX12_layDay 11 = .ok (.sipush 10000, 3) := by decide +kernel
theorem dX12_layDay_14 : decode cX12_layDay 14 = .ok (.putfield 382, 3) := by decide +kernel
theorem dX12_layDay_17 : decode cX12_layDay 17 = .ok (.iconst 0, 1) := by decide +kernel
theorem dX12_layDay_18 : decode cX12_layDay 18 = .ok (.istore_n 1, 1) := by decide +kernel
theorem dX12_layDay_19 : decode cX12_layDay 19 = .ok (.iload_n 1, 1) := by decide +kernel
theorem dX12_layDay_20 : decode cX12_layDay 20 = .ok (.aload_n 0, 1) := by decide +kernel
theorem dX12_layDay_21 : decode cX12_layDay 21 = .ok (.getfield 379, 3) := by decide +kernel
theorem dX12_layDay_24 : decode cX12_layDay 24 = .ok (.if_icmp .ge 62, 3) := by decide +kernel
theorem dX12_layDay_86 : decode cX12_layDay 86 = .ok (.iconst 0, 1) := by decide +kernel
theorem dX12_layDay_87 : decode cX12_layDay 87 = .ok (.istore_n 1, 1) := by decide +kernel
theorem dX12_layDay_88 : decode cX12_layDay 88 = .ok (.iload_n 1, 1) := by decide +kernel
theorem dX12_layDay_89 : decode cX12_layDay 89 = .ok (.iconst 5, 1) := by decide +kernel
theorem dX12_layDay_90 : decode cX12_layDay 90 = .ok (.if_icmp .ge 24, 3) := by decide +kernel
theorem dX12_layDay_93 : decode cX12_layDay 93 = .ok (.aload_n 0, 1) := by decide +kernel
theorem dX12_layDay_94 : decode cX12_layDay 94 = .ok (.getfield 107, 3) := by decide +kernel
theorem dX12_layDay_97 : decode cX12_layDay 97 = .ok (.iload_n 1, 1) := by decide +kernel
theorem dX12_layDay_98 : decode cX12_layDay 98 = .ok (.aload_n 0, 1) := by decide +kernel
theorem dX12_layDay_99 : decode cX12_layDay 99 = .ok (.getfield 98, 3) := by decide +kernel
theorem dX12_layDay_102 : decode cX12_layDay 102 = .ok (.bipush 73, 2) := by decide +kernel
theorem dX12_layDay_104 : decode cX12_layDay 104 = .ok (.iload_n 1, 1) := by decide +kernel
theorem dX12_layDay_105 : decode cX12_layDay 105 = .ok (.iadd, 1) := by decide +kernel
theorem dX12_layDay_106 : decode cX12_layDay 106 = .ok (.iaload, 1) := by decide +kernel
theorem dX12_layDay_107 : decode cX12_layDay 107 = .ok (.iastore, 1) := by decide +kernel
theorem dX12_layDay_108 : decode cX12_layDay 108 = .ok (.iinc 1 1, 3) := by decide +kernel
theorem dX12_layDay_111 : decode cX12_layDay 111 = .ok (.goto (-23), 3) := by decide +kernel
theorem dX12_layDay_114 : decode cX12_layDay 114 = .ok (.aload_n 0, 1) := by decide +kernel
theorem dX12_layDay_115 : decode cX12_layDay 115 = .ok (.invokevirtual 385, 3) := by decide +kernel
theorem dX12_layDay_118 : decode cX12_layDay 118 = .ok (.return_, 1) := by decide +kernel
def wq_c_X12_layDay : List Cond := Cond.code yX12_layDay cX12_layDay 2 none :: (([Cond.fieldLink RX12 98 "CrowTollModel" "state" "[I", Cond.fieldLink RX12 379 "CrowTollModel" "dMany" "I", Cond.fieldLink RX12 382 "CrowTollModel" "dLimit" "I", Cond.fieldLink RX12 107 "CrowTollModel" "dFar" "[I", Cond.methodLink RX12 385 yX12_laySeats, Cond.instanceMethod yX12_laySeats, Cond.selects RX12 yX12_laySeats yX12_laySeats, Cond.initialized RX12, Cond.code yX12_laySeats cX12_laySeats 3 none, Cond.methodLink RX12 370 yX12_postMany, Cond.instanceMethod yX12_postMany, Cond.selects RX12 yX12_postMany yX12_postMany, Cond.code yX12_postMany cX12_postMany 1 (some .int), Cond.fieldLink RX12 24 "CrowTollModel" "posts" "[I", Cond.fieldLink RX12 286 "CrowTollModel" "bank" "I"] : List Cond) ++ wsX120)
set_option maxRecDepth 20000 in
theorem gr_c_X12_layDay_c_X12_laySeats : GoodIn wq_c_X12_layDay wq_c_X12_laySeats := List.forall_mem_cons.mpr ⟨⟨(List.mem_of_getElem? (i := 9) rfl), good_of_word rfl⟩, List.forall_mem_append.mpr ⟨List.forall_mem_cons.mpr ⟨⟨(List.mem_of_getElem? (i := 10) rfl), good_of_word rfl⟩, List.forall_mem_cons.mpr ⟨⟨(List.mem_of_getElem? (i := 11) rfl), good_of_word rfl⟩, List.forall_mem_cons.mpr ⟨⟨(List.mem_of_getElem? (i := 12) rfl), good_of_word rfl⟩, List.forall_mem_cons.mpr ⟨⟨(List.mem_of_getElem? (i := 8) rfl), good_of_word rfl⟩, List.forall_mem_cons.mpr ⟨⟨(List.mem_of_getElem? (i := 13) rfl), good_of_word rfl⟩, List.forall_mem_cons.mpr ⟨⟨(List.mem_of_getElem? (i := 14) rfl), good_of_word rfl⟩, List.forall_mem_cons.mpr ⟨⟨(List.mem_of_getElem? (i := 15) rfl), good_of_word rfl⟩, (fun _ h => absurd h List.not_mem_nil)⟩⟩⟩⟩⟩⟩⟩, fun w h => ⟨(fun w h => List.mem_cons_of_mem _ (List.mem_append_right _ h)) w h, good_of_word (List.all_eq_true.mp gw_X12 w h)⟩⟩⟩
set_option maxRecDepth 20000 in
theorem gq_c_X12_layDay_c_X12_laySeats_385 : GoodIn wq_c_X12_layDay (wsV RX12 385 RX12 yX12_laySeats wq_c_X12_laySeats) := goodIn_app (List.forall_mem_cons.mpr ⟨⟨(List.mem_of_getElem? (i := 5) rfl), good_of_word rfl⟩, List.forall_mem_cons.mpr ⟨⟨(List.mem_of_getElem? (i := 6) rfl), good_of_word rfl⟩, List.forall_mem_cons.mpr ⟨⟨(List.mem_of_getElem? (i := 7) rfl), good_of_word rfl⟩, List.forall_mem_cons.mpr ⟨⟨(List.mem_of_getElem? (i := 8) rfl), good_of_word rfl⟩, (fun _ h => absurd h List.not_mem_nil)⟩⟩⟩⟩) gr_c_X12_layDay_c_X12_laySeats
set_option maxHeartbeats 8000000 in
set_option maxRecDepth 100000 in
theorem c_X12_layDay (l : Launch) (D : va_G) (cy : Nat → ClassId) (ad : Nat → Nat) (g : Nat → va_E) {f0 : List Value} {xm : Int32} {xl : Int32} (o0 : g 0 = .inr (12, f0)) (f0_12 : f0[12]? = some (.ref (ad 3))) (f0_36 : f0[36]? = some (.int 0)) (f0_41 : f0[41]? = some (.ref (ad 1))) (f0_44 : f0[44]? = some (.ref (ad 2))) (f0_56 : f0[56]? = some (.int xm)) (f0_57 : f0[57]? = some (.int xl)) (a1 : g 1 = .inl (cy 0, 80, .inl (fun _ => 0))) (a2 : g 2 = .inl (cy 0, 5, .inl (fun _ => 0))) (a3 : g 3 = .inl (cy 0, 2, .inl (fun _ => 0))) : cMv l yX12_layDay wq_c_X12_layDay { frames := 2, cells := 0, slots := 0, locals := 42 } 4 0 0 0 D cy ad g [.ref (ad 0)] (fun nw lu => lu = [(0, .inr (12, ((f0.set 56 (.int 0)).set 57 (.int 10000)))), (2, .inl (cy 0, 5, .inl (fun _ => 0)))]) := by
  refine cM_of (Qc := fun A => cQv (fun nw lu => lu = [(0, .inr (12, ((f0.set 56 (.int 0)).set 57 (.int 10000)))), (2, .inl (cy 0, 5, .inl (fun _ => 0)))]) D 4 0 ad g A) (cc := cX12_layDay) (maxL := 2) (ret := none) (by decide) rfl (Nat.le_of_ble_eq_true rfl) ?_
  intro p e s m below meth c A hC hr hlk hnm hO ls hl
  have hC : CallFix p m c cX12_layDay 2 s [.ref (ad 0)].toArray wq_c_X12_layDay RX12 := hC
  obtain ⟨hx, hb, hml, hown, hts⟩ := id hC
  have hl : lv_has ls 2 [(0, .ref (ad 0))] := hl
  have i_X12 : ∀ w ∈ wsX120, w ∈ wq_c_X12_layDay := fun w h => List.mem_cons_of_mem _ (List.mem_append_right _ h)
  refine lv_aload_n hx hb dX12_layDay_0 rfl (lv_at hl 0 rfl) ?_
  refine lv_aload_n hx hb dX12_layDay_1 rfl (lv_at hl 0 rfl) ?_
  refine cg_get hC hO 0 (by decide) o0 rfl i_X12 41 (by decide) (List.mem_of_getElem? (i := 1) rfl) f0_41 dX12_layDay_2 ?_
  refine lv_iconst (v := 0) hx hb dX12_layDay_5 (by decide) ?_
  refine cg_iald hC hO 1 (by decide) a1 (cin (by decide)) dX12_layDay_6 ?_
  refine cg_ev (v := 0) (rfl) ?_
  refine cg_put hC hO 0 (by decide) o0 rfl i_X12 tyX12_ok nmX12 56 (by decide) (List.mem_of_getElem? (i := 2) rfl) rfl rfl rfl (fs_lt f0_56) dX12_layDay_7 (fun H locs hO => ?_)
  have hO : cO D cy A s.heap s 4 ad (cup [(0, .inr (12, (f0.set 56 (.int 0))))] g) _ _ := hO
  refine lv_aload_n hx hb dX12_layDay_10 rfl (lv_at hl 0 rfl) ?_
  refine lv_sipush (v := 10000) hx hb dX12_layDay_11 (by decide) ?_
  refine cg_put hC hO 0 (by decide) rfl rfl i_X12 tyX12_ok nmX12 57 (by decide) (List.mem_of_getElem? (i := 3) rfl) rfl rfl rfl (fs_lt (fs_ne (by decide) f0_57)) dX12_layDay_14 (fun H locs hO => ?_)
  have hO : cO D cy A s.heap s 4 ad (cup [(0, .inr (12, ((f0.set 56 (.int 0)).set 57 (.int 10000))))] g) _ _ := hO
  refine lv_iconst (v := 0) hx hb dX12_layDay_17 (by decide) ?_
  refine lv_istore_n (lv' := [(1, .int 0), (0, .ref (ad 0))]) hx hb dX12_layDay_18 rfl hl (by decide) rfl (fun ls hl => ?_)
  refine lv_iload_n hx hb dX12_layDay_19 rfl (lv_at hl 0 rfl) ?_
  refine lv_aload_n hx hb dX12_layDay_20 rfl (lv_at hl 1 rfl) ?_
  refine cg_get hC hO 0 (by decide) rfl rfl i_X12 56 (by decide) (List.mem_of_getElem? (i := 2) rfl) (fs_ne (by decide) (fs_eq f0_56)) dX12_layDay_21 ?_
  refine lv_icmp_ge (tgt := 86) hx hb dX12_layDay_24 (by decide) (fun _ => ?_) (fun h => absurd h (by decide))
  refine lv_iconst (v := 0) hx hb dX12_layDay_86 (by decide) ?_
  refine lv_istore_n (lv' := [(1, .int 0), (0, .ref (ad 0))]) hx hb dX12_layDay_87 rfl hl (by decide) rfl (fun ls hl => ?_)
  refine lv_iload_n hx hb dX12_layDay_88 rfl (lv_at hl 0 rfl) ?_
  refine lv_iconst (v := 5) hx hb dX12_layDay_89 (by decide) ?_
  refine lv_icmp_ge (tgt := 114) hx hb dX12_layDay_90 (by decide) (fun h => absurd h (by decide)) (fun _ => ?_)
  refine lv_aload_n hx hb dX12_layDay_93 rfl (lv_at hl 1 rfl) ?_
  refine cg_get hC hO 0 (by decide) rfl rfl i_X12 44 (by decide) (List.mem_of_getElem? (i := 4) rfl) (fs_ne (by decide) (fs_ne (by decide) f0_44)) dX12_layDay_94 ?_
  refine lv_iload_n hx hb dX12_layDay_97 rfl (lv_at hl 0 rfl) ?_
  refine lv_aload_n hx hb dX12_layDay_98 rfl (lv_at hl 1 rfl) ?_
  refine cg_get hC hO 0 (by decide) rfl rfl i_X12 41 (by decide) (List.mem_of_getElem? (i := 1) rfl) (fs_ne (by decide) (fs_ne (by decide) f0_41)) dX12_layDay_99 ?_
  refine lv_bipush (v := 73) hx hb dX12_layDay_102 (by decide) ?_
  refine lv_iload_n hx hb dX12_layDay_104 rfl (lv_at hl 0 rfl) ?_
  refine lv_iadd hx hb dX12_layDay_105 ?_
  refine cg_ev (v := 73) (by decide) ?_
  refine cg_iald hC hO 1 (by decide) a1 (cin (by decide)) dX12_layDay_106 ?_
  refine cg_ev (v := 0) (rfl) ?_
  refine cg_iast hC hO 2 (by decide) a2 (cin (by decide)) dX12_layDay_107 (fun H locs hO => ?_)
  have hO : cO D cy A s.heap s 4 ad (cup [(0, .inr (12, ((f0.set 56 (.int 0)).set 57 (.int 10000)))), (2, .inl (cy 0, 5, .inl (upd (fun _ => 0) (0 : Int32).toNatClampNeg 0)))] g) _ _ := hO
  rw [upd_const] at hO
  have hO : cO D cy A s.heap s 4 ad (cup [(0, .inr (12, ((f0.set 56 (.int 0)).set 57 (.int 10000)))), (2, .inl (cy 0, 5, .inl (fun _ => 0)))] g) _ _ := hO
  refine lv_iinc (v := 1) (lv' := [(1, .int 1), (0, .ref (ad 0))]) hx hb dX12_layDay_108 hl (k := 0) rfl (by decide) (by decide) rfl (fun ls hl => ?_)
  refine lv_goto (tgt := 88) hx hb dX12_layDay_111 (by decide) ?_
  refine lv_iload_n hx hb dX12_layDay_88 rfl (lv_at hl 0 rfl) ?_
  refine lv_iconst (v := 5) hx hb dX12_layDay_89 (by decide) ?_
  refine lv_icmp_ge (tgt := 114) hx hb dX12_layDay_90 (by decide) (fun h => absurd h (by decide)) (fun _ => ?_)
  refine lv_aload_n hx hb dX12_layDay_93 rfl (lv_at hl 1 rfl) ?_
  refine cg_get hC hO 0 (by decide) rfl rfl i_X12 44 (by decide) (List.mem_of_getElem? (i := 4) rfl) (fs_ne (by decide) (fs_ne (by decide) f0_44)) dX12_layDay_94 ?_
  refine lv_iload_n hx hb dX12_layDay_97 rfl (lv_at hl 0 rfl) ?_
  refine lv_aload_n hx hb dX12_layDay_98 rfl (lv_at hl 1 rfl) ?_
  refine cg_get hC hO 0 (by decide) rfl rfl i_X12 41 (by decide) (List.mem_of_getElem? (i := 1) rfl) (fs_ne (by decide) (fs_ne (by decide) f0_41)) dX12_layDay_99 ?_
  refine lv_bipush (v := 73) hx hb dX12_layDay_102 (by decide) ?_
  refine lv_iload_n hx hb dX12_layDay_104 rfl (lv_at hl 0 rfl) ?_
  refine lv_iadd hx hb dX12_layDay_105 ?_
  refine cg_ev (v := 74) (by decide) ?_
  refine cg_iald hC hO 1 (by decide) a1 (cin (by decide)) dX12_layDay_106 ?_
  refine cg_ev (v := 0) (rfl) ?_
  refine cg_iast hC hO 2 (by decide) rfl (cin (by decide)) dX12_layDay_107 (fun H locs hO => ?_)
  have hO : cO D cy A s.heap s 4 ad (cup [(0, .inr (12, ((f0.set 56 (.int 0)).set 57 (.int 10000)))), (2, .inl (cy 0, 5, .inl (upd (fun _ => 0) (1 : Int32).toNatClampNeg 0)))] g) _ _ := hO
  rw [upd_const] at hO
  have hO : cO D cy A s.heap s 4 ad (cup [(0, .inr (12, ((f0.set 56 (.int 0)).set 57 (.int 10000)))), (2, .inl (cy 0, 5, .inl (fun _ => 0)))] g) _ _ := hO
  refine lv_iinc (v := 2) (lv' := [(1, .int 2), (0, .ref (ad 0))]) hx hb dX12_layDay_108 hl (k := 0) rfl (by decide) (by decide) rfl (fun ls hl => ?_)
  refine lv_goto (tgt := 88) hx hb dX12_layDay_111 (by decide) ?_
  refine lv_iload_n hx hb dX12_layDay_88 rfl (lv_at hl 0 rfl) ?_
  refine lv_iconst (v := 5) hx hb dX12_layDay_89 (by decide) ?_
  refine lv_icmp_ge (tgt := 114) hx hb dX12_layDay_90 (by decide) (fun h => absurd h (by decide)) (fun _ => ?_)
  refine lv_aload_n hx hb dX12_layDay_93 rfl (lv_at hl 1 rfl) ?_
  refine cg_get hC hO 0 (by decide) rfl rfl i_X12 44 (by decide) (List.mem_of_getElem? (i := 4) rfl) (fs_ne (by decide) (fs_ne (by decide) f0_44)) dX12_layDay_94 ?_
  refine lv_iload_n hx hb dX12_layDay_97 rfl (lv_at hl 0 rfl) ?_
  refine lv_aload_n hx hb dX12_layDay_98 rfl (lv_at hl 1 rfl) ?_
  refine cg_get hC hO 0 (by decide) rfl rfl i_X12 41 (by decide) (List.mem_of_getElem? (i := 1) rfl) (fs_ne (by decide) (fs_ne (by decide) f0_41)) dX12_layDay_99 ?_
  refine lv_bipush (v := 73) hx hb dX12_layDay_102 (by decide) ?_
  refine lv_iload_n hx hb dX12_layDay_104 rfl (lv_at hl 0 rfl) ?_
  refine lv_iadd hx hb dX12_layDay_105 ?_
  refine cg_ev (v := 75) (by decide) ?_
  refine cg_iald hC hO 1 (by decide) a1 (cin (by decide)) dX12_layDay_106 ?_
  refine cg_ev (v := 0) (rfl) ?_
  refine cg_iast hC hO 2 (by decide) rfl (cin (by decide)) dX12_layDay_107 (fun H locs hO => ?_)
  have hO : cO D cy A s.heap s 4 ad (cup [(0, .inr (12, ((f0.set 56 (.int 0)).set 57 (.int 10000)))), (2, .inl (cy 0, 5, .inl (upd (fun _ => 0) (2 : Int32).toNatClampNeg 0)))] g) _ _ := hO
  rw [upd_const] at hO
  have hO : cO D cy A s.heap s 4 ad (cup [(0, .inr (12, ((f0.set 56 (.int 0)).set 57 (.int 10000)))), (2, .inl (cy 0, 5, .inl (fun _ => 0)))] g) _ _ := hO
  refine lv_iinc (v := 3) (lv' := [(1, .int 3), (0, .ref (ad 0))]) hx hb dX12_layDay_108 hl (k := 0) rfl (by decide) (by decide) rfl (fun ls hl => ?_)
  refine lv_goto (tgt := 88) hx hb dX12_layDay_111 (by decide) ?_
  refine lv_iload_n hx hb dX12_layDay_88 rfl (lv_at hl 0 rfl) ?_
  refine lv_iconst (v := 5) hx hb dX12_layDay_89 (by decide) ?_
  refine lv_icmp_ge (tgt := 114) hx hb dX12_layDay_90 (by decide) (fun h => absurd h (by decide)) (fun _ => ?_)
  refine lv_aload_n hx hb dX12_layDay_93 rfl (lv_at hl 1 rfl) ?_
  refine cg_get hC hO 0 (by decide) rfl rfl i_X12 44 (by decide) (List.mem_of_getElem? (i := 4) rfl) (fs_ne (by decide) (fs_ne (by decide) f0_44)) dX12_layDay_94 ?_
  refine lv_iload_n hx hb dX12_layDay_97 rfl (lv_at hl 0 rfl) ?_
  refine lv_aload_n hx hb dX12_layDay_98 rfl (lv_at hl 1 rfl) ?_
  refine cg_get hC hO 0 (by decide) rfl rfl i_X12 41 (by decide) (List.mem_of_getElem? (i := 1) rfl) (fs_ne (by decide) (fs_ne (by decide) f0_41)) dX12_layDay_99 ?_
  refine lv_bipush (v := 73) hx hb dX12_layDay_102 (by decide) ?_
  refine lv_iload_n hx hb dX12_layDay_104 rfl (lv_at hl 0 rfl) ?_
  refine lv_iadd hx hb dX12_layDay_105 ?_
  refine cg_ev (v := 76) (by decide) ?_
  refine cg_iald hC hO 1 (by decide) a1 (cin (by decide)) dX12_layDay_106 ?_
  refine cg_ev (v := 0) (rfl) ?_
  refine cg_iast hC hO 2 (by decide) rfl (cin (by decide)) dX12_layDay_107 (fun H locs hO => ?_)
  have hO : cO D cy A s.heap s 4 ad (cup [(0, .inr (12, ((f0.set 56 (.int 0)).set 57 (.int 10000)))), (2, .inl (cy 0, 5, .inl (upd (fun _ => 0) (3 : Int32).toNatClampNeg 0)))] g) _ _ := hO
  rw [upd_const] at hO
  have hO : cO D cy A s.heap s 4 ad (cup [(0, .inr (12, ((f0.set 56 (.int 0)).set 57 (.int 10000)))), (2, .inl (cy 0, 5, .inl (fun _ => 0)))] g) _ _ := hO
  refine lv_iinc (v := 4) (lv' := [(1, .int 4), (0, .ref (ad 0))]) hx hb dX12_layDay_108 hl (k := 0) rfl (by decide) (by decide) rfl (fun ls hl => ?_)
  refine lv_goto (tgt := 88) hx hb dX12_layDay_111 (by decide) ?_
  refine lv_iload_n hx hb dX12_layDay_88 rfl (lv_at hl 0 rfl) ?_
  refine lv_iconst (v := 5) hx hb dX12_layDay_89 (by decide) ?_
  refine lv_icmp_ge (tgt := 114) hx hb dX12_layDay_90 (by decide) (fun h => absurd h (by decide)) (fun _ => ?_)
  refine lv_aload_n hx hb dX12_layDay_93 rfl (lv_at hl 1 rfl) ?_
  refine cg_get hC hO 0 (by decide) rfl rfl i_X12 44 (by decide) (List.mem_of_getElem? (i := 4) rfl) (fs_ne (by decide) (fs_ne (by decide) f0_44)) dX12_layDay_94 ?_
  refine lv_iload_n hx hb dX12_layDay_97 rfl (lv_at hl 0 rfl) ?_
  refine lv_aload_n hx hb dX12_layDay_98 rfl (lv_at hl 1 rfl) ?_
  refine cg_get hC hO 0 (by decide) rfl rfl i_X12 41 (by decide) (List.mem_of_getElem? (i := 1) rfl) (fs_ne (by decide) (fs_ne (by decide) f0_41)) dX12_layDay_99 ?_
  refine lv_bipush (v := 73) hx hb dX12_layDay_102 (by decide) ?_
  refine lv_iload_n hx hb dX12_layDay_104 rfl (lv_at hl 0 rfl) ?_
  refine lv_iadd hx hb dX12_layDay_105 ?_
  refine cg_ev (v := 77) (by decide) ?_
  refine cg_iald hC hO 1 (by decide) a1 (cin (by decide)) dX12_layDay_106 ?_
  refine cg_ev (v := 0) (rfl) ?_
  refine cg_iast hC hO 2 (by decide) rfl (cin (by decide)) dX12_layDay_107 (fun H locs hO => ?_)
  have hO : cO D cy A s.heap s 4 ad (cup [(0, .inr (12, ((f0.set 56 (.int 0)).set 57 (.int 10000)))), (2, .inl (cy 0, 5, .inl (upd (fun _ => 0) (4 : Int32).toNatClampNeg 0)))] g) _ _ := hO
  rw [upd_const] at hO
  have hO : cO D cy A s.heap s 4 ad (cup [(0, .inr (12, ((f0.set 56 (.int 0)).set 57 (.int 10000)))), (2, .inl (cy 0, 5, .inl (fun _ => 0)))] g) _ _ := hO
  refine lv_iinc (v := 5) (lv' := [(1, .int 5), (0, .ref (ad 0))]) hx hb dX12_layDay_108 hl (k := 0) rfl (by decide) (by decide) rfl (fun ls hl => ?_)
  refine lv_goto (tgt := 88) hx hb dX12_layDay_111 (by decide) ?_
  refine lv_iload_n hx hb dX12_layDay_88 rfl (lv_at hl 0 rfl) ?_
  refine lv_iconst (v := 5) hx hb dX12_layDay_89 (by decide) ?_
  refine lv_icmp_ge (tgt := 114) hx hb dX12_layDay_90 (by decide) (fun _ => ?_) (fun h => absurd h (by decide))
  refine lv_aload_n hx hb dX12_layDay_114 rfl (lv_at hl 1 rfl) ?_
  refine cg_Vv (As := []) (rest := []) (mc := 0) (ms := 0) (rm := { frames := 1, cells := 0, slots := 0, locals := 20 }) hC hl.1 hO [0, 3] rfl (c_X12_laySeats l D cy _ _ (f0 := ((f0.set 56 (.int 0)).set 57 (.int 10000))) rfl (fs_ne (by decide) (fs_ne (by decide) f0_12)) (fs_ne (by decide) (fs_ne (by decide) f0_36)) a3) gq_c_X12_layDay_c_X12_laySeats_385 rfl rfl rfl 0 (by decide +kernel) ⟨Nat.le_of_ble_eq_true rfl, Nat.le_of_ble_eq_true rfl⟩ rfl (by decide) rfl rfl rfl (Nat.le_of_ble_eq_true rfl) dX12_layDay_115 ⟨Nat.le_of_ble_eq_true rfl, Nat.le_of_ble_eq_true rfl⟩ (fun nw_115_1 l_115_2 H locs hw hO => ?_)
  obtain rfl := hw
  have hO : cO D cy A s.heap s 4 ad (cup [(0, .inr (12, ((f0.set 56 (.int 0)).set 57 (.int 10000)))), (2, .inl (cy 0, 5, .inl (fun _ => 0)))] g) _ _ := hO
  exact cg_vret (nw := fun _ => 0) hC hr hlk hO.same (Nat.le_of_ble_eq_true rfl) (Nat.le_of_ble_eq_true rfl) rfl dX12_layDay_118

theorem dX12_paidBy_0 : decode cX12_paidBy 0 = .ok (.iconst 0, 1) := by decide +kernel
theorem dX12_paidBy_1 : decode cX12_paidBy 1 = .ok (.istore_n 2, 1) := by decide +kernel
theorem dX12_paidBy_2 : decode cX12_paidBy 2 = .ok (.iconst 0, 1) := by decide +kernel
theorem dX12_paidBy_3 : decode cX12_paidBy 3 = .ok (.istore_n 3, 1) := by decide +kernel
theorem dX12_paidBy_4 : decode cX12_paidBy 4 = .ok (.iload_n 3, 1) := by decide +kernel
theorem dX12_paidBy_5 : decode cX12_paidBy 5 = .ok (.aload_n 0, 1) := by decide +kernel
theorem dX12_paidBy_6 : decode cX12_paidBy 6 = .ok (.invokevirtual 370, 3) := by decide +kernel
theorem dX12_paidBy_9 : decode cX12_paidBy 9 = .ok (.if_icmp .ge 22, 3) := by decide +kernel
theorem dX12_paidBy_31 : decode cX12_paidBy 31 = .ok (.iload_n 2, 1) := by decide +kernel
theorem dX12_paidBy_32 : decode cX12_paidBy 32 = .ok (.ireturn, 1) := by decide +kernel
def wq_c_X12_paidBy : List Cond := Cond.code yX12_paidBy cX12_paidBy 4 (some .int) :: (([Cond.methodLink RX12 370 yX12_postMany, Cond.instanceMethod yX12_postMany, Cond.selects RX12 yX12_postMany yX12_postMany, Cond.initialized RX12, Cond.code yX12_postMany cX12_postMany 1 (some .int), Cond.fieldLink RX12 24 "CrowTollModel" "posts" "[I", Cond.fieldLink RX12 286 "CrowTollModel" "bank" "I"] : List Cond) ++ wsX120)
set_option maxRecDepth 20000 in
theorem gr_c_X12_paidBy_c_X12_postMany : GoodIn wq_c_X12_paidBy wq_c_X12_postMany := List.forall_mem_cons.mpr ⟨⟨(List.mem_of_getElem? (i := 5) rfl), good_of_word rfl⟩, List.forall_mem_append.mpr ⟨List.forall_mem_cons.mpr ⟨⟨(List.mem_of_getElem? (i := 6) rfl), good_of_word rfl⟩, List.forall_mem_cons.mpr ⟨⟨(List.mem_of_getElem? (i := 7) rfl), good_of_word rfl⟩, (fun _ h => absurd h List.not_mem_nil)⟩⟩, fun w h => ⟨(fun w h => List.mem_cons_of_mem _ (List.mem_append_right _ h)) w h, good_of_word (List.all_eq_true.mp gw_X12 w h)⟩⟩⟩
set_option maxRecDepth 20000 in
theorem gq_c_X12_paidBy_c_X12_postMany_370 : GoodIn wq_c_X12_paidBy (wsV RX12 370 RX12 yX12_postMany wq_c_X12_postMany) := goodIn_app (List.forall_mem_cons.mpr ⟨⟨(List.mem_of_getElem? (i := 1) rfl), good_of_word rfl⟩, List.forall_mem_cons.mpr ⟨⟨(List.mem_of_getElem? (i := 2) rfl), good_of_word rfl⟩, List.forall_mem_cons.mpr ⟨⟨(List.mem_of_getElem? (i := 3) rfl), good_of_word rfl⟩, List.forall_mem_cons.mpr ⟨⟨(List.mem_of_getElem? (i := 4) rfl), good_of_word rfl⟩, (fun _ h => absurd h List.not_mem_nil)⟩⟩⟩⟩) gr_c_X12_paidBy_c_X12_postMany
set_option maxHeartbeats 8000000 in
set_option maxRecDepth 100000 in
theorem c_X12_paidBy (l : Launch) (D : va_G) (cy : Nat → ClassId) (ad : Nat → Nat) (g : Nat → va_E) {f0 : List Value} {n : Int32} (o0 : g 0 = .inr (12, f0)) (f0_12 : f0[12]? = some (.ref (ad 1))) (f0_36 : f0[36]? = some (.int 0)) (a1 : g 1 = .inl (cy 0, 2, .inl (fun _ => 0))) : cMi l yX12_paidBy wq_c_X12_paidBy { frames := 1, cells := 0, slots := 0, locals := 20 } 2 0 0 0 D cy ad g [.ref (ad 0), .int n] (fun r nw lu => (r = 0) ∧ (lu = [])) := by
  refine cM_of (Qc := fun A => cQi (fun r nw lu => (r = 0) ∧ (lu = [])) D 2 0 ad g A) (cc := cX12_paidBy) (maxL := 4) (ret := (some .int)) (by decide) rfl (Nat.le_of_ble_eq_true rfl) ?_
  intro p e s m below meth c A hC hr hlk hnm hO ls hl
  have hC : CallFix p m c cX12_paidBy 4 s [.ref (ad 0), .int n].toArray wq_c_X12_paidBy RX12 := hC
  obtain ⟨hx, hb, hml, hown, hts⟩ := id hC
  have hl : lv_has ls 4 [(0, .ref (ad 0)), (1, .int n)] := hl
  have i_X12 : ∀ w ∈ wsX120, w ∈ wq_c_X12_paidBy := fun w h => List.mem_cons_of_mem _ (List.mem_append_right _ h)
  refine lv_iconst (v := 0) hx hb dX12_paidBy_0 (by decide) ?_
  refine lv_istore_n (lv' := [(2, .int 0), (0, .ref (ad 0)), (1, .int n)]) hx hb dX12_paidBy_1 rfl hl (by decide) rfl (fun ls hl => ?_)
  refine lv_iconst (v := 0) hx hb dX12_paidBy_2 (by decide) ?_
  refine lv_istore_n (lv' := [(3, .int 0), (2, .int 0), (0, .ref (ad 0)), (1, .int n)]) hx hb dX12_paidBy_3 rfl hl (by decide) rfl (fun ls hl => ?_)
  refine lv_iload_n hx hb dX12_paidBy_4 rfl (lv_at hl 0 rfl) ?_
  refine lv_aload_n hx hb dX12_paidBy_5 rfl (lv_at hl 2 rfl) ?_
  refine cg_Vi (As := []) (rest := [.int 0]) (mc := 0) (ms := 0) (rm := { frames := 0, cells := 0, slots := 0, locals := 0 }) hC hl.1 hO [0, 1] rfl (c_X12_postMany l D cy _ _ (f0 := f0) o0 f0_12 f0_36 a1) gq_c_X12_paidBy_c_X12_postMany_370 rfl rfl rfl 0 (by decide +kernel) ⟨Nat.le_of_ble_eq_true rfl, Nat.le_of_ble_eq_true rfl⟩ rfl (by decide) o0 rfl rfl (Nat.le_of_ble_eq_true rfl) dX12_paidBy_6 ⟨Nat.le_of_ble_eq_true rfl, Nat.le_of_ble_eq_true rfl⟩ (fun r_6_3 nw_6_1 l_6_2 H locs hw hO => ?_)
  obtain ⟨rfl, rfl⟩ := hw
  have hO : cO D cy A s.heap s 2 ad (cup [] g) _ _ := hO
  refine lv_icmp_ge (tgt := 31) hx hb dX12_paidBy_9 (by decide) (fun _ => ?_) (fun h => absurd h (by decide))
  refine lv_iload_n hx hb dX12_paidBy_31 rfl (lv_at hl 1 rfl) ?_
  exact cg_iret (nw := fun _ => 0) hC hr hlk hO.same rfl (Nat.le_of_ble_eq_true rfl) (Nat.le_of_ble_eq_true rfl) (⟨rfl, rfl⟩) dX12_paidBy_32

theorem dX12_feed_0 : decode cX12_feed 0 = .ok (.aload_n 0, 1) := by decide +kernel
theorem dX12_feed_1 : decode cX12_feed 1 = .ok (.getfield 283, 3) := by decide +kernel
theorem dX12_feed_4 : decode cX12_feed 4 = .ok (.bipush 20, 2) := by decide +kernel
theorem dX12_feed_6 : decode cX12_feed 6 = .ok (.iadd, 1) := by decide +kernel
theorem dX12_feed_7 : decode cX12_feed 7 = .ok (.sipush 1600, 3) := by decide +kernel
theorem dX12_feed_10 : decode cX12_feed 10 = .ok (.if_icmp .le 5, 3) := by decide +kernel
theorem dX12_feed_15 : decode cX12_feed 15 = .ok (.iconst 0, 1) := by decide +kernel
theorem dX12_feed_16 : decode cX12_feed 16 = .ok (.istore 6, 2) := by decide +kernel
theorem dX12_feed_18 : decode cX12_feed 18 = .ok (.iload 6, 2) := by decide +kernel
theorem dX12_feed_20 : decode cX12_feed 20 = .ok (.bipush 20, 2) := by decide +kernel
theorem dX12_feed_22 : decode cX12_feed 22 = .ok (.if_icmp .ge 83, 3) := by decide +kernel
theorem dX12_feed_25 : decode cX12_feed 25 = .ok (.iload 6, 2) := by decide +kernel
theorem dX12_feed_27 : decode cX12_feed 27 = .ok (.iconst 4, 1) := by decide +kernel
theorem dX12_feed_28 : decode cX12_feed 28 = .ok (.if_icmp .ge 7, 3) := by decide +kernel
theorem dX12_feed_31 : decode cX12_feed 31 = .ok (.iload_n 1, 1) := by decide +kernel
theorem dX12_feed_32 : decode cX12_feed 32 = .ok (.goto 39, 3) := by decide +kernel
theorem dX12_feed_35 : decode cX12_feed 35 = .ok (.iload 6, 2) := by decide +kernel
theorem dX12_feed_37 : decode cX12_feed 37 = .ok (.bipush 8, 2) := by decide +kernel
theorem dX12_feed_39 : decode cX12_feed 39 = .ok (.if_icmp .ge 7, 3) := by decide +kernel
theorem dX12_feed_42 : decode cX12_feed 42 = .ok (.iload_n 2, 1) := by decide +kernel
theorem dX12_feed_43 : decode cX12_feed 43 = .ok (.goto 28, 3) := by decide +kernel
theorem dX12_feed_46 : decode cX12_feed 46 = .ok (.iload 6, 2) := by decide +kernel
theorem dX12_feed_48 : decode cX12_feed 48 = .ok (.bipush 12, 2) := by decide +kernel
theorem dX12_feed_50 : decode cX12_feed 50 = .ok (.if_icmp .ge 7, 3) := by decide +kernel
theorem dX12_feed_53 : decode cX12_feed 53 = .ok (.iload_n 3, 1) := by decide +kernel
theorem dX12_feed_54 : decode cX12_feed 54 = .ok (.goto 17, 3) := by decide +kernel
theorem dX12_feed_57 : decode cX12_feed 57 = .ok (.iload 6, 2) := by decide +kernel
theorem dX12_feed_59 : decode cX12_feed 59 = .ok (.bipush 16, 2) := by decide +kernel
theorem dX12_feed_61 : decode cX12_feed 61 = .ok (.if_icmp .ge 8, 3) := by decide +kernel
theorem dX12_feed_64 : decode cX12_feed 64 = .ok (.iload 4, 2) := by decide +kernel
theorem dX12_feed_66 : decode cX12_feed 66 = .ok (.goto 5, 3) := by decide +kernel
theorem dX12_feed_69 : decode cX12_feed 69 = .ok (.iload 5, 2) := by decide +kernel
theorem dX12_feed_71 : decode cX12_feed 71 = .ok (.istore 7, 2) := by decide +kernel
theorem dX12_feed_73 : decode cX12_feed 73 = .ok (.aload_n 0, 1) := by decide +kernel
theorem dX12_feed_74 : decode cX12_feed 74 = .ok (.getfield 7, 3) := by decide +kernel
theorem dX12_feed_77 : decode cX12_feed 77 = .ok (.aload_n 0, 1) := by decide +kernel
theorem dX12_feed_78 : decode cX12_feed 78 = .ok (.getfield 283, 3) := by decide +kernel
theorem dX12_feed_81 : decode cX12_feed 81 = .ok (.iload 6, 2) := by decide +kernel
theorem dX12_feed_83 : decode cX12_feed 83 = .ok (.iadd, 1) := by decide +kernel
theorem dX12_feed_84 : decode cX12_feed 84 = .ok (.iload 7, 2) := by decide +kernel
theorem dX12_feed_86 : decode cX12_feed 86 = .ok (.bipush 24, 2) := by decide +kernel
theorem dX12_feed_88 : decode cX12_feed 88 = .ok (.bipush 8, 2) := by decide +kernel
theorem dX12_feed_90 : decode cX12_feed 90 = .ok (.iload 6, 2) := by decide +kernel
theorem dX12_feed_92 : decode cX12_feed 92 = .ok (.iconst 3, 1) := by decide +kernel
theorem dX12_feed_93 : decode cX12_feed 93 = .ok (.iand, 1) := by decide +kernel
theorem dX12_feed_94 : decode cX12_feed 94 = .ok (.imul, 1) := by decide +kernel
theorem dX12_feed_95 : decode cX12_feed 95 = .ok (.isub, 1) := by decide +kernel
theorem dX12_feed_96 : decode cX12_feed 96 = .ok (.ishr, 1) := by decide +kernel
theorem dX12_feed_97 : decode cX12_feed 97 = .ok (.i2b, 1) := by decide +kernel
theorem dX12_feed_98 : decode cX12_feed 98 = .ok (.bastore, 1) := by decide +kernel
theorem dX12_feed_99 : decode cX12_feed 99 = .ok (.iinc 6 1, 3) := by decide +kernel
theorem dX12_feed_102 : decode cX12_feed 102 = .ok (.goto (-84), 3) := by decide +kernel
theorem dX12_feed_105 : decode cX12_feed 105 = .ok (.aload_n 0, 1) := by decide +kernel
theorem dX12_feed_106 : decode cX12_feed 106 = .ok (.dup, 1) := by decide +kernel
theorem dX12_feed_107 : decode cX12_feed 107 = .ok (.getfield 283, 3) := by decide +kernel
theorem dX12_feed_110 : decode cX12_feed 110 = .ok (.bipush 20, 2) := by decide +kernel
theorem dX12_feed_112 : decode cX12_feed 112 = .ok (.iadd, 1) := by decide +kernel
theorem dX12_feed_113 : decode cX12_feed 113 = .ok (.putfield 283, 3) := by decide +kernel
theorem dX12_feed_116 : decode cX12_feed 116 = .ok (.aload_n 0, 1) := by decide +kernel
theorem dX12_feed_117 : decode cX12_feed 117 = .ok (.getfield 283, 3) := by decide +kernel
theorem dX12_feed_120 : decode cX12_feed 120 = .ok (.ireturn, 1) := by decide +kernel
def wq_c_X12_feed : List Cond := Cond.code yX12_feed cX12_feed 8 (some .int) :: (([Cond.fieldLink RX12 283 "CrowTollModel" "taped" "I", Cond.fieldLink RX12 7 "CrowTollModel" "tape" "[B"] : List Cond) ++ wsX120)
set_option maxHeartbeats 8000000 in
set_option maxRecDepth 100000 in
theorem c_X12_feed (l : Launch) (D : va_G) (cy : Nat → ClassId) (ad : Nat → Nat) (g : Nat → va_E) {f0 : List Value} {c1 : Nat → Int32} {x1 : Int32} {x2 : Int32} {x3 : Int32} {x4 : Int32} {x5 : Int32} (o0 : g 0 = .inr (12, f0)) (f0_0 : f0[0]? = some (.ref (ad 1))) (f0_2 : f0[2]? = some (.int 0)) (a1 : g 1 = .inl (cy 3, 1620, .inl c1)) : cMi l yX12_feed wq_c_X12_feed { frames := 0, cells := 0, slots := 0, locals := 0 } 2 0 0 0 D cy ad g [.ref (ad 0), .int x1, .int x2, .int x3, .int x4, .int x5] (fun r nw lu => r = 20) := by
  refine cM_of (Qc := fun A => cQi (fun r nw lu => r = 20) D 2 0 ad g A) (cc := cX12_feed) (maxL := 8) (ret := (some .int)) (by decide) rfl (Nat.le_of_ble_eq_true rfl) ?_
  intro p e s m below meth c A hC hr hlk hnm hO ls hl
  have hC : CallFix p m c cX12_feed 8 s [.ref (ad 0), .int x1, .int x2, .int x3, .int x4, .int x5].toArray wq_c_X12_feed RX12 := hC
  obtain ⟨hx, hb, hml, hown, hts⟩ := id hC
  have hl : lv_has ls 8 [(0, .ref (ad 0)), (1, .int x1), (2, .int x2), (3, .int x3), (4, .int x4), (5, .int x5)] := hl
  have i_X12 : ∀ w ∈ wsX120, w ∈ wq_c_X12_feed := fun w h => List.mem_cons_of_mem _ (List.mem_append_right _ h)
  refine lv_aload_n hx hb dX12_feed_0 rfl (lv_at hl 0 rfl) ?_
  refine cg_get hC hO 0 (by decide) o0 rfl i_X12 2 (by decide) (List.mem_of_getElem? (i := 1) rfl) f0_2 dX12_feed_1 ?_
  refine lv_bipush (v := 20) hx hb dX12_feed_4 (by decide) ?_
  refine lv_iadd hx hb dX12_feed_6 ?_
  refine cg_ev (v := 20) (by decide) ?_
  refine lv_sipush (v := 1600) hx hb dX12_feed_7 (by decide) ?_
  refine lv_icmp_le (tgt := 15) hx hb dX12_feed_10 (by decide) (fun _ => ?_) (fun h => absurd h (by decide))
  refine lv_iconst (v := 0) hx hb dX12_feed_15 (by decide) ?_
  refine lv_istore (lv' := [(6, .int 0), (0, .ref (ad 0)), (1, .int x1), (2, .int x2), (3, .int x3), (4, .int x4), (5, .int x5)]) hx hb dX12_feed_16 hl (by decide) rfl (fun ls hl => ?_)
  refine lv_iload hx hb dX12_feed_18 (lv_at hl 0 rfl) ?_
  refine lv_bipush (v := 20) hx hb dX12_feed_20 (by decide) ?_
  refine lv_icmp_ge (tgt := 105) hx hb dX12_feed_22 (by decide) (fun h => absurd h (by decide)) (fun _ => ?_)
  refine lv_iload hx hb dX12_feed_25 (lv_at hl 0 rfl) ?_
  refine lv_iconst (v := 4) hx hb dX12_feed_27 (by decide) ?_
  refine lv_icmp_ge (tgt := 35) hx hb dX12_feed_28 (by decide) (fun h => absurd h (by decide)) (fun _ => ?_)
  refine lv_iload_n hx hb dX12_feed_31 rfl (lv_at hl 2 rfl) ?_
  refine lv_goto (tgt := 71) hx hb dX12_feed_32 (by decide) ?_
  refine lv_istore (lv' := [(7, .int x1), (6, .int 0), (0, .ref (ad 0)), (1, .int x1), (2, .int x2), (3, .int x3), (4, .int x4), (5, .int x5)]) hx hb dX12_feed_71 hl (by decide) rfl (fun ls hl => ?_)
  refine lv_aload_n hx hb dX12_feed_73 rfl (lv_at hl 2 rfl) ?_
  refine cg_get hC hO 0 (by decide) o0 rfl i_X12 0 (by decide) (List.mem_of_getElem? (i := 2) rfl) f0_0 dX12_feed_74 ?_
  refine lv_aload_n hx hb dX12_feed_77 rfl (lv_at hl 2 rfl) ?_
  refine cg_get hC hO 0 (by decide) o0 rfl i_X12 2 (by decide) (List.mem_of_getElem? (i := 1) rfl) f0_2 dX12_feed_78 ?_
  refine lv_iload hx hb dX12_feed_81 (lv_at hl 1 rfl) ?_
  refine lv_iadd hx hb dX12_feed_83 ?_
  refine cg_ev (v := 0) (by decide) ?_
  refine lv_iload hx hb dX12_feed_84 (lv_at hl 0 rfl) ?_
  refine lv_bipush (v := 24) hx hb dX12_feed_86 (by decide) ?_
  refine lv_bipush (v := 8) hx hb dX12_feed_88 (by decide) ?_
  refine lv_iload hx hb dX12_feed_90 (lv_at hl 1 rfl) ?_
  refine lv_iconst (v := 3) hx hb dX12_feed_92 (by decide) ?_
  refine lv_iand hx hb dX12_feed_93 ?_
  refine cg_ev (v := 0) (by decide) ?_
  refine lv_imul hx hb dX12_feed_94 ?_
  refine cg_ev (v := 0) (by decide) ?_
  refine lv_isub hx hb dX12_feed_95 ?_
  refine cg_ev (v := 24) (by decide) ?_
  refine lv_ishr hx hb dX12_feed_96 ?_
  refine lv_i2b (v := ((x1 >>> 24)).toInt8.toInt32) hx hb dX12_feed_97 rfl ?_
  refine cg_bast hC hO 1 (by decide) a1 (cin (by decide)) dX12_feed_98 (fun H locs hO => ?_)
  have hO : cO D cy A s.heap s 2 ad (cup [(1, .inl (cy 3, 1620, .inl (upd c1 (0 : Int32).toNatClampNeg (vp_nar .byte (((x1 >>> 24)).toInt8.toInt32)))))] g) _ _ := hO
  obtain ⟨c1_98_1, ec1_98_1⟩ : ∃ z, z = (upd c1 (0 : Int32).toNatClampNeg (vp_nar .byte (((x1 >>> 24)).toInt8.toInt32))) := ⟨_, rfl⟩
  rw [← ec1_98_1] at hO
  have hO : cO D cy A s.heap s 2 ad (cup [(1, .inl (cy 3, 1620, .inl c1_98_1))] g) _ _ := hO
  refine lv_iinc (v := 1) (lv' := [(6, .int 1), (7, .int x1), (0, .ref (ad 0)), (1, .int x1), (2, .int x2), (3, .int x3), (4, .int x4), (5, .int x5)]) hx hb dX12_feed_99 hl (k := 1) rfl (by decide) (by decide) rfl (fun ls hl => ?_)
  refine lv_goto (tgt := 18) hx hb dX12_feed_102 (by decide) ?_
  refine lv_iload hx hb dX12_feed_18 (lv_at hl 0 rfl) ?_
  refine lv_bipush (v := 20) hx hb dX12_feed_20 (by decide) ?_
  refine lv_icmp_ge (tgt := 105) hx hb dX12_feed_22 (by decide) (fun h => absurd h (by decide)) (fun _ => ?_)
  refine lv_iload hx hb dX12_feed_25 (lv_at hl 0 rfl) ?_
  refine lv_iconst (v := 4) hx hb dX12_feed_27 (by decide) ?_
  refine lv_icmp_ge (tgt := 35) hx hb dX12_feed_28 (by decide) (fun h => absurd h (by decide)) (fun _ => ?_)
  refine lv_iload_n hx hb dX12_feed_31 rfl (lv_at hl 3 rfl) ?_
  refine lv_goto (tgt := 71) hx hb dX12_feed_32 (by decide) ?_
  refine lv_istore (lv' := [(7, .int x1), (6, .int 1), (0, .ref (ad 0)), (1, .int x1), (2, .int x2), (3, .int x3), (4, .int x4), (5, .int x5)]) hx hb dX12_feed_71 hl (by decide) rfl (fun ls hl => ?_)
  refine lv_aload_n hx hb dX12_feed_73 rfl (lv_at hl 2 rfl) ?_
  refine cg_get hC hO 0 (by decide) o0 rfl i_X12 0 (by decide) (List.mem_of_getElem? (i := 2) rfl) f0_0 dX12_feed_74 ?_
  refine lv_aload_n hx hb dX12_feed_77 rfl (lv_at hl 2 rfl) ?_
  refine cg_get hC hO 0 (by decide) o0 rfl i_X12 2 (by decide) (List.mem_of_getElem? (i := 1) rfl) f0_2 dX12_feed_78 ?_
  refine lv_iload hx hb dX12_feed_81 (lv_at hl 1 rfl) ?_
  refine lv_iadd hx hb dX12_feed_83 ?_
  refine cg_ev (v := 1) (by decide) ?_
  refine lv_iload hx hb dX12_feed_84 (lv_at hl 0 rfl) ?_
  refine lv_bipush (v := 24) hx hb dX12_feed_86 (by decide) ?_
  refine lv_bipush (v := 8) hx hb dX12_feed_88 (by decide) ?_
  refine lv_iload hx hb dX12_feed_90 (lv_at hl 1 rfl) ?_
  refine lv_iconst (v := 3) hx hb dX12_feed_92 (by decide) ?_
  refine lv_iand hx hb dX12_feed_93 ?_
  refine cg_ev (v := 1) (by decide) ?_
  refine lv_imul hx hb dX12_feed_94 ?_
  refine cg_ev (v := 8) (by decide) ?_
  refine lv_isub hx hb dX12_feed_95 ?_
  refine cg_ev (v := 16) (by decide) ?_
  refine lv_ishr hx hb dX12_feed_96 ?_
  refine lv_i2b (v := ((x1 >>> 16)).toInt8.toInt32) hx hb dX12_feed_97 rfl ?_
  refine cg_bast hC hO 1 (by decide) rfl (cin (by decide)) dX12_feed_98 (fun H locs hO => ?_)
  have hO : cO D cy A s.heap s 2 ad (cup [(1, .inl (cy 3, 1620, .inl (upd c1_98_1 (1 : Int32).toNatClampNeg (vp_nar .byte (((x1 >>> 16)).toInt8.toInt32)))))] g) _ _ := hO
  obtain ⟨c1_98_2, ec1_98_2⟩ : ∃ z, z = (upd c1_98_1 (1 : Int32).toNatClampNeg (vp_nar .byte (((x1 >>> 16)).toInt8.toInt32))) := ⟨_, rfl⟩
  rw [← ec1_98_2] at hO
  have hO : cO D cy A s.heap s 2 ad (cup [(1, .inl (cy 3, 1620, .inl c1_98_2))] g) _ _ := hO
  refine lv_iinc (v := 2) (lv' := [(6, .int 2), (7, .int x1), (0, .ref (ad 0)), (1, .int x1), (2, .int x2), (3, .int x3), (4, .int x4), (5, .int x5)]) hx hb dX12_feed_99 hl (k := 1) rfl (by decide) (by decide) rfl (fun ls hl => ?_)
  refine lv_goto (tgt := 18) hx hb dX12_feed_102 (by decide) ?_
  refine lv_iload hx hb dX12_feed_18 (lv_at hl 0 rfl) ?_
  refine lv_bipush (v := 20) hx hb dX12_feed_20 (by decide) ?_
  refine lv_icmp_ge (tgt := 105) hx hb dX12_feed_22 (by decide) (fun h => absurd h (by decide)) (fun _ => ?_)
  refine lv_iload hx hb dX12_feed_25 (lv_at hl 0 rfl) ?_
  refine lv_iconst (v := 4) hx hb dX12_feed_27 (by decide) ?_
  refine lv_icmp_ge (tgt := 35) hx hb dX12_feed_28 (by decide) (fun h => absurd h (by decide)) (fun _ => ?_)
  refine lv_iload_n hx hb dX12_feed_31 rfl (lv_at hl 3 rfl) ?_
  refine lv_goto (tgt := 71) hx hb dX12_feed_32 (by decide) ?_
  refine lv_istore (lv' := [(7, .int x1), (6, .int 2), (0, .ref (ad 0)), (1, .int x1), (2, .int x2), (3, .int x3), (4, .int x4), (5, .int x5)]) hx hb dX12_feed_71 hl (by decide) rfl (fun ls hl => ?_)
  refine lv_aload_n hx hb dX12_feed_73 rfl (lv_at hl 2 rfl) ?_
  refine cg_get hC hO 0 (by decide) o0 rfl i_X12 0 (by decide) (List.mem_of_getElem? (i := 2) rfl) f0_0 dX12_feed_74 ?_
  refine lv_aload_n hx hb dX12_feed_77 rfl (lv_at hl 2 rfl) ?_
  refine cg_get hC hO 0 (by decide) o0 rfl i_X12 2 (by decide) (List.mem_of_getElem? (i := 1) rfl) f0_2 dX12_feed_78 ?_
  refine lv_iload hx hb dX12_feed_81 (lv_at hl 1 rfl) ?_
  refine lv_iadd hx hb dX12_feed_83 ?_
  refine cg_ev (v := 2) (by decide) ?_
  refine lv_iload hx hb dX12_feed_84 (lv_at hl 0 rfl) ?_
  refine lv_bipush (v := 24) hx hb dX12_feed_86 (by decide) ?_
  refine lv_bipush (v := 8) hx hb dX12_feed_88 (by decide) ?_
  refine lv_iload hx hb dX12_feed_90 (lv_at hl 1 rfl) ?_
  refine lv_iconst (v := 3) hx hb dX12_feed_92 (by decide) ?_
  refine lv_iand hx hb dX12_feed_93 ?_
  refine cg_ev (v := 2) (by decide) ?_
  refine lv_imul hx hb dX12_feed_94 ?_
  refine cg_ev (v := 16) (by decide) ?_
  refine lv_isub hx hb dX12_feed_95 ?_
  refine cg_ev (v := 8) (by decide) ?_
  refine lv_ishr hx hb dX12_feed_96 ?_
  refine lv_i2b (v := ((x1 >>> 8)).toInt8.toInt32) hx hb dX12_feed_97 rfl ?_
  refine cg_bast hC hO 1 (by decide) rfl (cin (by decide)) dX12_feed_98 (fun H locs hO => ?_)
  have hO : cO D cy A s.heap s 2 ad (cup [(1, .inl (cy 3, 1620, .inl (upd c1_98_2 (2 : Int32).toNatClampNeg (vp_nar .byte (((x1 >>> 8)).toInt8.toInt32)))))] g) _ _ := hO
  obtain ⟨c1_98_3, ec1_98_3⟩ : ∃ z, z = (upd c1_98_2 (2 : Int32).toNatClampNeg (vp_nar .byte (((x1 >>> 8)).toInt8.toInt32))) := ⟨_, rfl⟩
  rw [← ec1_98_3] at hO
  have hO : cO D cy A s.heap s 2 ad (cup [(1, .inl (cy 3, 1620, .inl c1_98_3))] g) _ _ := hO
  refine lv_iinc (v := 3) (lv' := [(6, .int 3), (7, .int x1), (0, .ref (ad 0)), (1, .int x1), (2, .int x2), (3, .int x3), (4, .int x4), (5, .int x5)]) hx hb dX12_feed_99 hl (k := 1) rfl (by decide) (by decide) rfl (fun ls hl => ?_)
  refine lv_goto (tgt := 18) hx hb dX12_feed_102 (by decide) ?_
  refine lv_iload hx hb dX12_feed_18 (lv_at hl 0 rfl) ?_
  refine lv_bipush (v := 20) hx hb dX12_feed_20 (by decide) ?_
  refine lv_icmp_ge (tgt := 105) hx hb dX12_feed_22 (by decide) (fun h => absurd h (by decide)) (fun _ => ?_)
  refine lv_iload hx hb dX12_feed_25 (lv_at hl 0 rfl) ?_
  refine lv_iconst (v := 4) hx hb dX12_feed_27 (by decide) ?_
  refine lv_icmp_ge (tgt := 35) hx hb dX12_feed_28 (by decide) (fun h => absurd h (by decide)) (fun _ => ?_)
  refine lv_iload_n hx hb dX12_feed_31 rfl (lv_at hl 3 rfl) ?_
  refine lv_goto (tgt := 71) hx hb dX12_feed_32 (by decide) ?_
  refine lv_istore (lv' := [(7, .int x1), (6, .int 3), (0, .ref (ad 0)), (1, .int x1), (2, .int x2), (3, .int x3), (4, .int x4), (5, .int x5)]) hx hb dX12_feed_71 hl (by decide) rfl (fun ls hl => ?_)
  refine lv_aload_n hx hb dX12_feed_73 rfl (lv_at hl 2 rfl) ?_
  refine cg_get hC hO 0 (by decide) o0 rfl i_X12 0 (by decide) (List.mem_of_getElem? (i := 2) rfl) f0_0 dX12_feed_74 ?_
  refine lv_aload_n hx hb dX12_feed_77 rfl (lv_at hl 2 rfl) ?_
  refine cg_get hC hO 0 (by decide) o0 rfl i_X12 2 (by decide) (List.mem_of_getElem? (i := 1) rfl) f0_2 dX12_feed_78 ?_
  refine lv_iload hx hb dX12_feed_81 (lv_at hl 1 rfl) ?_
  refine lv_iadd hx hb dX12_feed_83 ?_
  refine cg_ev (v := 3) (by decide) ?_
  refine lv_iload hx hb dX12_feed_84 (lv_at hl 0 rfl) ?_
  refine lv_bipush (v := 24) hx hb dX12_feed_86 (by decide) ?_
  refine lv_bipush (v := 8) hx hb dX12_feed_88 (by decide) ?_
  refine lv_iload hx hb dX12_feed_90 (lv_at hl 1 rfl) ?_
  refine lv_iconst (v := 3) hx hb dX12_feed_92 (by decide) ?_
  refine lv_iand hx hb dX12_feed_93 ?_
  refine cg_ev (v := 3) (by decide) ?_
  refine lv_imul hx hb dX12_feed_94 ?_
  refine cg_ev (v := 24) (by decide) ?_
  refine lv_isub hx hb dX12_feed_95 ?_
  refine cg_ev (v := 0) (by decide) ?_
  refine lv_ishr hx hb dX12_feed_96 ?_
  refine lv_i2b (v := ((x1 >>> 0)).toInt8.toInt32) hx hb dX12_feed_97 rfl ?_
  refine cg_bast hC hO 1 (by decide) rfl (cin (by decide)) dX12_feed_98 (fun H locs hO => ?_)
  have hO : cO D cy A s.heap s 2 ad (cup [(1, .inl (cy 3, 1620, .inl (upd c1_98_3 (3 : Int32).toNatClampNeg (vp_nar .byte (((x1 >>> 0)).toInt8.toInt32)))))] g) _ _ := hO
  obtain ⟨c1_98_4, ec1_98_4⟩ : ∃ z, z = (upd c1_98_3 (3 : Int32).toNatClampNeg (vp_nar .byte (((x1 >>> 0)).toInt8.toInt32))) := ⟨_, rfl⟩
  rw [← ec1_98_4] at hO
  have hO : cO D cy A s.heap s 2 ad (cup [(1, .inl (cy 3, 1620, .inl c1_98_4))] g) _ _ := hO
  refine lv_iinc (v := 4) (lv' := [(6, .int 4), (7, .int x1), (0, .ref (ad 0)), (1, .int x1), (2, .int x2), (3, .int x3), (4, .int x4), (5, .int x5)]) hx hb dX12_feed_99 hl (k := 1) rfl (by decide) (by decide) rfl (fun ls hl => ?_)
  refine lv_goto (tgt := 18) hx hb dX12_feed_102 (by decide) ?_
  refine lv_iload hx hb dX12_feed_18 (lv_at hl 0 rfl) ?_
  refine lv_bipush (v := 20) hx hb dX12_feed_20 (by decide) ?_
  refine lv_icmp_ge (tgt := 105) hx hb dX12_feed_22 (by decide) (fun h => absurd h (by decide)) (fun _ => ?_)
  refine lv_iload hx hb dX12_feed_25 (lv_at hl 0 rfl) ?_
  refine lv_iconst (v := 4) hx hb dX12_feed_27 (by decide) ?_
  refine lv_icmp_ge (tgt := 35) hx hb dX12_feed_28 (by decide) (fun _ => ?_) (fun h => absurd h (by decide))
  refine lv_iload hx hb dX12_feed_35 (lv_at hl 0 rfl) ?_
  refine lv_bipush (v := 8) hx hb dX12_feed_37 (by decide) ?_
  refine lv_icmp_ge (tgt := 46) hx hb dX12_feed_39 (by decide) (fun h => absurd h (by decide)) (fun _ => ?_)
  refine lv_iload_n hx hb dX12_feed_42 rfl (lv_at hl 4 rfl) ?_
  refine lv_goto (tgt := 71) hx hb dX12_feed_43 (by decide) ?_
  refine lv_istore (lv' := [(7, .int x2), (6, .int 4), (0, .ref (ad 0)), (1, .int x1), (2, .int x2), (3, .int x3), (4, .int x4), (5, .int x5)]) hx hb dX12_feed_71 hl (by decide) rfl (fun ls hl => ?_)
  refine lv_aload_n hx hb dX12_feed_73 rfl (lv_at hl 2 rfl) ?_
  refine cg_get hC hO 0 (by decide) o0 rfl i_X12 0 (by decide) (List.mem_of_getElem? (i := 2) rfl) f0_0 dX12_feed_74 ?_
  refine lv_aload_n hx hb dX12_feed_77 rfl (lv_at hl 2 rfl) ?_
  refine cg_get hC hO 0 (by decide) o0 rfl i_X12 2 (by decide) (List.mem_of_getElem? (i := 1) rfl) f0_2 dX12_feed_78 ?_
  refine lv_iload hx hb dX12_feed_81 (lv_at hl 1 rfl) ?_
  refine lv_iadd hx hb dX12_feed_83 ?_
  refine cg_ev (v := 4) (by decide) ?_
  refine lv_iload hx hb dX12_feed_84 (lv_at hl 0 rfl) ?_
  refine lv_bipush (v := 24) hx hb dX12_feed_86 (by decide) ?_
  refine lv_bipush (v := 8) hx hb dX12_feed_88 (by decide) ?_
  refine lv_iload hx hb dX12_feed_90 (lv_at hl 1 rfl) ?_
  refine lv_iconst (v := 3) hx hb dX12_feed_92 (by decide) ?_
  refine lv_iand hx hb dX12_feed_93 ?_
  refine cg_ev (v := 0) (by decide) ?_
  refine lv_imul hx hb dX12_feed_94 ?_
  refine cg_ev (v := 0) (by decide) ?_
  refine lv_isub hx hb dX12_feed_95 ?_
  refine cg_ev (v := 24) (by decide) ?_
  refine lv_ishr hx hb dX12_feed_96 ?_
  refine lv_i2b (v := ((x2 >>> 24)).toInt8.toInt32) hx hb dX12_feed_97 rfl ?_
  refine cg_bast hC hO 1 (by decide) rfl (cin (by decide)) dX12_feed_98 (fun H locs hO => ?_)
  have hO : cO D cy A s.heap s 2 ad (cup [(1, .inl (cy 3, 1620, .inl (upd c1_98_4 (4 : Int32).toNatClampNeg (vp_nar .byte (((x2 >>> 24)).toInt8.toInt32)))))] g) _ _ := hO
  obtain ⟨c1_98_5, ec1_98_5⟩ : ∃ z, z = (upd c1_98_4 (4 : Int32).toNatClampNeg (vp_nar .byte (((x2 >>> 24)).toInt8.toInt32))) := ⟨_, rfl⟩
  rw [← ec1_98_5] at hO
  have hO : cO D cy A s.heap s 2 ad (cup [(1, .inl (cy 3, 1620, .inl c1_98_5))] g) _ _ := hO
  refine lv_iinc (v := 5) (lv' := [(6, .int 5), (7, .int x2), (0, .ref (ad 0)), (1, .int x1), (2, .int x2), (3, .int x3), (4, .int x4), (5, .int x5)]) hx hb dX12_feed_99 hl (k := 1) rfl (by decide) (by decide) rfl (fun ls hl => ?_)
  refine lv_goto (tgt := 18) hx hb dX12_feed_102 (by decide) ?_
  refine lv_iload hx hb dX12_feed_18 (lv_at hl 0 rfl) ?_
  refine lv_bipush (v := 20) hx hb dX12_feed_20 (by decide) ?_
  refine lv_icmp_ge (tgt := 105) hx hb dX12_feed_22 (by decide) (fun h => absurd h (by decide)) (fun _ => ?_)
  refine lv_iload hx hb dX12_feed_25 (lv_at hl 0 rfl) ?_
  refine lv_iconst (v := 4) hx hb dX12_feed_27 (by decide) ?_
  refine lv_icmp_ge (tgt := 35) hx hb dX12_feed_28 (by decide) (fun _ => ?_) (fun h => absurd h (by decide))
  refine lv_iload hx hb dX12_feed_35 (lv_at hl 0 rfl) ?_
  refine lv_bipush (v := 8) hx hb dX12_feed_37 (by decide) ?_
  refine lv_icmp_ge (tgt := 46) hx hb dX12_feed_39 (by decide) (fun h => absurd h (by decide)) (fun _ => ?_)
  refine lv_iload_n hx hb dX12_feed_42 rfl (lv_at hl 4 rfl) ?_
  refine lv_goto (tgt := 71) hx hb dX12_feed_43 (by decide) ?_
  refine lv_istore (lv' := [(7, .int x2), (6, .int 5), (0, .ref (ad 0)), (1, .int x1), (2, .int x2), (3, .int x3), (4, .int x4), (5, .int x5)]) hx hb dX12_feed_71 hl (by decide) rfl (fun ls hl => ?_)
  refine lv_aload_n hx hb dX12_feed_73 rfl (lv_at hl 2 rfl) ?_
  refine cg_get hC hO 0 (by decide) o0 rfl i_X12 0 (by decide) (List.mem_of_getElem? (i := 2) rfl) f0_0 dX12_feed_74 ?_
  refine lv_aload_n hx hb dX12_feed_77 rfl (lv_at hl 2 rfl) ?_
  refine cg_get hC hO 0 (by decide) o0 rfl i_X12 2 (by decide) (List.mem_of_getElem? (i := 1) rfl) f0_2 dX12_feed_78 ?_
  refine lv_iload hx hb dX12_feed_81 (lv_at hl 1 rfl) ?_
  refine lv_iadd hx hb dX12_feed_83 ?_
  refine cg_ev (v := 5) (by decide) ?_
  refine lv_iload hx hb dX12_feed_84 (lv_at hl 0 rfl) ?_
  refine lv_bipush (v := 24) hx hb dX12_feed_86 (by decide) ?_
  refine lv_bipush (v := 8) hx hb dX12_feed_88 (by decide) ?_
  refine lv_iload hx hb dX12_feed_90 (lv_at hl 1 rfl) ?_
  refine lv_iconst (v := 3) hx hb dX12_feed_92 (by decide) ?_
  refine lv_iand hx hb dX12_feed_93 ?_
  refine cg_ev (v := 1) (by decide) ?_
  refine lv_imul hx hb dX12_feed_94 ?_
  refine cg_ev (v := 8) (by decide) ?_
  refine lv_isub hx hb dX12_feed_95 ?_
  refine cg_ev (v := 16) (by decide) ?_
  refine lv_ishr hx hb dX12_feed_96 ?_
  refine lv_i2b (v := ((x2 >>> 16)).toInt8.toInt32) hx hb dX12_feed_97 rfl ?_
  refine cg_bast hC hO 1 (by decide) rfl (cin (by decide)) dX12_feed_98 (fun H locs hO => ?_)
  have hO : cO D cy A s.heap s 2 ad (cup [(1, .inl (cy 3, 1620, .inl (upd c1_98_5 (5 : Int32).toNatClampNeg (vp_nar .byte (((x2 >>> 16)).toInt8.toInt32)))))] g) _ _ := hO
  obtain ⟨c1_98_6, ec1_98_6⟩ : ∃ z, z = (upd c1_98_5 (5 : Int32).toNatClampNeg (vp_nar .byte (((x2 >>> 16)).toInt8.toInt32))) := ⟨_, rfl⟩
  rw [← ec1_98_6] at hO
  have hO : cO D cy A s.heap s 2 ad (cup [(1, .inl (cy 3, 1620, .inl c1_98_6))] g) _ _ := hO
  refine lv_iinc (v := 6) (lv' := [(6, .int 6), (7, .int x2), (0, .ref (ad 0)), (1, .int x1), (2, .int x2), (3, .int x3), (4, .int x4), (5, .int x5)]) hx hb dX12_feed_99 hl (k := 1) rfl (by decide) (by decide) rfl (fun ls hl => ?_)
  refine lv_goto (tgt := 18) hx hb dX12_feed_102 (by decide) ?_
  refine lv_iload hx hb dX12_feed_18 (lv_at hl 0 rfl) ?_
  refine lv_bipush (v := 20) hx hb dX12_feed_20 (by decide) ?_
  refine lv_icmp_ge (tgt := 105) hx hb dX12_feed_22 (by decide) (fun h => absurd h (by decide)) (fun _ => ?_)
  refine lv_iload hx hb dX12_feed_25 (lv_at hl 0 rfl) ?_
  refine lv_iconst (v := 4) hx hb dX12_feed_27 (by decide) ?_
  refine lv_icmp_ge (tgt := 35) hx hb dX12_feed_28 (by decide) (fun _ => ?_) (fun h => absurd h (by decide))
  refine lv_iload hx hb dX12_feed_35 (lv_at hl 0 rfl) ?_
  refine lv_bipush (v := 8) hx hb dX12_feed_37 (by decide) ?_
  refine lv_icmp_ge (tgt := 46) hx hb dX12_feed_39 (by decide) (fun h => absurd h (by decide)) (fun _ => ?_)
  refine lv_iload_n hx hb dX12_feed_42 rfl (lv_at hl 4 rfl) ?_
  refine lv_goto (tgt := 71) hx hb dX12_feed_43 (by decide) ?_
  refine lv_istore (lv' := [(7, .int x2), (6, .int 6), (0, .ref (ad 0)), (1, .int x1), (2, .int x2), (3, .int x3), (4, .int x4), (5, .int x5)]) hx hb dX12_feed_71 hl (by decide) rfl (fun ls hl => ?_)
  refine lv_aload_n hx hb dX12_feed_73 rfl (lv_at hl 2 rfl) ?_
  refine cg_get hC hO 0 (by decide) o0 rfl i_X12 0 (by decide) (List.mem_of_getElem? (i := 2) rfl) f0_0 dX12_feed_74 ?_
  refine lv_aload_n hx hb dX12_feed_77 rfl (lv_at hl 2 rfl) ?_
  refine cg_get hC hO 0 (by decide) o0 rfl i_X12 2 (by decide) (List.mem_of_getElem? (i := 1) rfl) f0_2 dX12_feed_78 ?_
  refine lv_iload hx hb dX12_feed_81 (lv_at hl 1 rfl) ?_
  refine lv_iadd hx hb dX12_feed_83 ?_
  refine cg_ev (v := 6) (by decide) ?_
  refine lv_iload hx hb dX12_feed_84 (lv_at hl 0 rfl) ?_
  refine lv_bipush (v := 24) hx hb dX12_feed_86 (by decide) ?_
  refine lv_bipush (v := 8) hx hb dX12_feed_88 (by decide) ?_
  refine lv_iload hx hb dX12_feed_90 (lv_at hl 1 rfl) ?_
  refine lv_iconst (v := 3) hx hb dX12_feed_92 (by decide) ?_
  refine lv_iand hx hb dX12_feed_93 ?_
  refine cg_ev (v := 2) (by decide) ?_
  refine lv_imul hx hb dX12_feed_94 ?_
  refine cg_ev (v := 16) (by decide) ?_
  refine lv_isub hx hb dX12_feed_95 ?_
  refine cg_ev (v := 8) (by decide) ?_
  refine lv_ishr hx hb dX12_feed_96 ?_
  refine lv_i2b (v := ((x2 >>> 8)).toInt8.toInt32) hx hb dX12_feed_97 rfl ?_
  refine cg_bast hC hO 1 (by decide) rfl (cin (by decide)) dX12_feed_98 (fun H locs hO => ?_)
  have hO : cO D cy A s.heap s 2 ad (cup [(1, .inl (cy 3, 1620, .inl (upd c1_98_6 (6 : Int32).toNatClampNeg (vp_nar .byte (((x2 >>> 8)).toInt8.toInt32)))))] g) _ _ := hO
  obtain ⟨c1_98_7, ec1_98_7⟩ : ∃ z, z = (upd c1_98_6 (6 : Int32).toNatClampNeg (vp_nar .byte (((x2 >>> 8)).toInt8.toInt32))) := ⟨_, rfl⟩
  rw [← ec1_98_7] at hO
  have hO : cO D cy A s.heap s 2 ad (cup [(1, .inl (cy 3, 1620, .inl c1_98_7))] g) _ _ := hO
  refine lv_iinc (v := 7) (lv' := [(6, .int 7), (7, .int x2), (0, .ref (ad 0)), (1, .int x1), (2, .int x2), (3, .int x3), (4, .int x4), (5, .int x5)]) hx hb dX12_feed_99 hl (k := 1) rfl (by decide) (by decide) rfl (fun ls hl => ?_)
  refine lv_goto (tgt := 18) hx hb dX12_feed_102 (by decide) ?_
  refine lv_iload hx hb dX12_feed_18 (lv_at hl 0 rfl) ?_
  refine lv_bipush (v := 20) hx hb dX12_feed_20 (by decide) ?_
  refine lv_icmp_ge (tgt := 105) hx hb dX12_feed_22 (by decide) (fun h => absurd h (by decide)) (fun _ => ?_)
  refine lv_iload hx hb dX12_feed_25 (lv_at hl 0 rfl) ?_
  refine lv_iconst (v := 4) hx hb dX12_feed_27 (by decide) ?_
  refine lv_icmp_ge (tgt := 35) hx hb dX12_feed_28 (by decide) (fun _ => ?_) (fun h => absurd h (by decide))
  refine lv_iload hx hb dX12_feed_35 (lv_at hl 0 rfl) ?_
  refine lv_bipush (v := 8) hx hb dX12_feed_37 (by decide) ?_
  refine lv_icmp_ge (tgt := 46) hx hb dX12_feed_39 (by decide) (fun h => absurd h (by decide)) (fun _ => ?_)
  refine lv_iload_n hx hb dX12_feed_42 rfl (lv_at hl 4 rfl) ?_
  refine lv_goto (tgt := 71) hx hb dX12_feed_43 (by decide) ?_
  refine lv_istore (lv' := [(7, .int x2), (6, .int 7), (0, .ref (ad 0)), (1, .int x1), (2, .int x2), (3, .int x3), (4, .int x4), (5, .int x5)]) hx hb dX12_feed_71 hl (by decide) rfl (fun ls hl => ?_)
  refine lv_aload_n hx hb dX12_feed_73 rfl (lv_at hl 2 rfl) ?_
  refine cg_get hC hO 0 (by decide) o0 rfl i_X12 0 (by decide) (List.mem_of_getElem? (i := 2) rfl) f0_0 dX12_feed_74 ?_
  refine lv_aload_n hx hb dX12_feed_77 rfl (lv_at hl 2 rfl) ?_
  refine cg_get hC hO 0 (by decide) o0 rfl i_X12 2 (by decide) (List.mem_of_getElem? (i := 1) rfl) f0_2 dX12_feed_78 ?_
  refine lv_iload hx hb dX12_feed_81 (lv_at hl 1 rfl) ?_
  refine lv_iadd hx hb dX12_feed_83 ?_
  refine cg_ev (v := 7) (by decide) ?_
  refine lv_iload hx hb dX12_feed_84 (lv_at hl 0 rfl) ?_
  refine lv_bipush (v := 24) hx hb dX12_feed_86 (by decide) ?_
  refine lv_bipush (v := 8) hx hb dX12_feed_88 (by decide) ?_
  refine lv_iload hx hb dX12_feed_90 (lv_at hl 1 rfl) ?_
  refine lv_iconst (v := 3) hx hb dX12_feed_92 (by decide) ?_
  refine lv_iand hx hb dX12_feed_93 ?_
  refine cg_ev (v := 3) (by decide) ?_
  refine lv_imul hx hb dX12_feed_94 ?_
  refine cg_ev (v := 24) (by decide) ?_
  refine lv_isub hx hb dX12_feed_95 ?_
  refine cg_ev (v := 0) (by decide) ?_
  refine lv_ishr hx hb dX12_feed_96 ?_
  refine lv_i2b (v := ((x2 >>> 0)).toInt8.toInt32) hx hb dX12_feed_97 rfl ?_
  refine cg_bast hC hO 1 (by decide) rfl (cin (by decide)) dX12_feed_98 (fun H locs hO => ?_)
  have hO : cO D cy A s.heap s 2 ad (cup [(1, .inl (cy 3, 1620, .inl (upd c1_98_7 (7 : Int32).toNatClampNeg (vp_nar .byte (((x2 >>> 0)).toInt8.toInt32)))))] g) _ _ := hO
  obtain ⟨c1_98_8, ec1_98_8⟩ : ∃ z, z = (upd c1_98_7 (7 : Int32).toNatClampNeg (vp_nar .byte (((x2 >>> 0)).toInt8.toInt32))) := ⟨_, rfl⟩
  rw [← ec1_98_8] at hO
  have hO : cO D cy A s.heap s 2 ad (cup [(1, .inl (cy 3, 1620, .inl c1_98_8))] g) _ _ := hO
  refine lv_iinc (v := 8) (lv' := [(6, .int 8), (7, .int x2), (0, .ref (ad 0)), (1, .int x1), (2, .int x2), (3, .int x3), (4, .int x4), (5, .int x5)]) hx hb dX12_feed_99 hl (k := 1) rfl (by decide) (by decide) rfl (fun ls hl => ?_)
  refine lv_goto (tgt := 18) hx hb dX12_feed_102 (by decide) ?_
  refine lv_iload hx hb dX12_feed_18 (lv_at hl 0 rfl) ?_
  refine lv_bipush (v := 20) hx hb dX12_feed_20 (by decide) ?_
  refine lv_icmp_ge (tgt := 105) hx hb dX12_feed_22 (by decide) (fun h => absurd h (by decide)) (fun _ => ?_)
  refine lv_iload hx hb dX12_feed_25 (lv_at hl 0 rfl) ?_
  refine lv_iconst (v := 4) hx hb dX12_feed_27 (by decide) ?_
  refine lv_icmp_ge (tgt := 35) hx hb dX12_feed_28 (by decide) (fun _ => ?_) (fun h => absurd h (by decide))
  refine lv_iload hx hb dX12_feed_35 (lv_at hl 0 rfl) ?_
  refine lv_bipush (v := 8) hx hb dX12_feed_37 (by decide) ?_
  refine lv_icmp_ge (tgt := 46) hx hb dX12_feed_39 (by decide) (fun _ => ?_) (fun h => absurd h (by decide))
  refine lv_iload hx hb dX12_feed_46 (lv_at hl 0 rfl) ?_
  refine lv_bipush (v := 12) hx hb dX12_feed_48 (by decide) ?_
  refine lv_icmp_ge (tgt := 57) hx hb dX12_feed_50 (by decide) (fun h => absurd h (by decide)) (fun _ => ?_)
  refine lv_iload_n hx hb dX12_feed_53 rfl (lv_at hl 5 rfl) ?_
  refine lv_goto (tgt := 71) hx hb dX12_feed_54 (by decide) ?_
  refine lv_istore (lv' := [(7, .int x3), (6, .int 8), (0, .ref (ad 0)), (1, .int x1), (2, .int x2), (3, .int x3), (4, .int x4), (5, .int x5)]) hx hb dX12_feed_71 hl (by decide) rfl (fun ls hl => ?_)
  refine lv_aload_n hx hb dX12_feed_73 rfl (lv_at hl 2 rfl) ?_
  refine cg_get hC hO 0 (by decide) o0 rfl i_X12 0 (by decide) (List.mem_of_getElem? (i := 2) rfl) f0_0 dX12_feed_74 ?_
  refine lv_aload_n hx hb dX12_feed_77 rfl (lv_at hl 2 rfl) ?_
  refine cg_get hC hO 0 (by decide) o0 rfl i_X12 2 (by decide) (List.mem_of_getElem? (i := 1) rfl) f0_2 dX12_feed_78 ?_
  refine lv_iload hx hb dX12_feed_81 (lv_at hl 1 rfl) ?_
  refine lv_iadd hx hb dX12_feed_83 ?_
  refine cg_ev (v := 8) (by decide) ?_
  refine lv_iload hx hb dX12_feed_84 (lv_at hl 0 rfl) ?_
  refine lv_bipush (v := 24) hx hb dX12_feed_86 (by decide) ?_
  refine lv_bipush (v := 8) hx hb dX12_feed_88 (by decide) ?_
  refine lv_iload hx hb dX12_feed_90 (lv_at hl 1 rfl) ?_
  refine lv_iconst (v := 3) hx hb dX12_feed_92 (by decide) ?_
  refine lv_iand hx hb dX12_feed_93 ?_
  refine cg_ev (v := 0) (by decide) ?_
  refine lv_imul hx hb dX12_feed_94 ?_
  refine cg_ev (v := 0) (by decide) ?_
  refine lv_isub hx hb dX12_feed_95 ?_
  refine cg_ev (v := 24) (by decide) ?_
  refine lv_ishr hx hb dX12_feed_96 ?_
  refine lv_i2b (v := ((x3 >>> 24)).toInt8.toInt32) hx hb dX12_feed_97 rfl ?_
  refine cg_bast hC hO 1 (by decide) rfl (cin (by decide)) dX12_feed_98 (fun H locs hO => ?_)
  have hO : cO D cy A s.heap s 2 ad (cup [(1, .inl (cy 3, 1620, .inl (upd c1_98_8 (8 : Int32).toNatClampNeg (vp_nar .byte (((x3 >>> 24)).toInt8.toInt32)))))] g) _ _ := hO
  obtain ⟨c1_98_9, ec1_98_9⟩ : ∃ z, z = (upd c1_98_8 (8 : Int32).toNatClampNeg (vp_nar .byte (((x3 >>> 24)).toInt8.toInt32))) := ⟨_, rfl⟩
  rw [← ec1_98_9] at hO
  have hO : cO D cy A s.heap s 2 ad (cup [(1, .inl (cy 3, 1620, .inl c1_98_9))] g) _ _ := hO
  refine lv_iinc (v := 9) (lv' := [(6, .int 9), (7, .int x3), (0, .ref (ad 0)), (1, .int x1), (2, .int x2), (3, .int x3), (4, .int x4), (5, .int x5)]) hx hb dX12_feed_99 hl (k := 1) rfl (by decide) (by decide) rfl (fun ls hl => ?_)
  refine lv_goto (tgt := 18) hx hb dX12_feed_102 (by decide) ?_
  refine lv_iload hx hb dX12_feed_18 (lv_at hl 0 rfl) ?_
  refine lv_bipush (v := 20) hx hb dX12_feed_20 (by decide) ?_
  refine lv_icmp_ge (tgt := 105) hx hb dX12_feed_22 (by decide) (fun h => absurd h (by decide)) (fun _ => ?_)
  refine lv_iload hx hb dX12_feed_25 (lv_at hl 0 rfl) ?_
  refine lv_iconst (v := 4) hx hb dX12_feed_27 (by decide) ?_
  refine lv_icmp_ge (tgt := 35) hx hb dX12_feed_28 (by decide) (fun _ => ?_) (fun h => absurd h (by decide))
  refine lv_iload hx hb dX12_feed_35 (lv_at hl 0 rfl) ?_
  refine lv_bipush (v := 8) hx hb dX12_feed_37 (by decide) ?_
  refine lv_icmp_ge (tgt := 46) hx hb dX12_feed_39 (by decide) (fun _ => ?_) (fun h => absurd h (by decide))
  refine lv_iload hx hb dX12_feed_46 (lv_at hl 0 rfl) ?_
  refine lv_bipush (v := 12) hx hb dX12_feed_48 (by decide) ?_
  refine lv_icmp_ge (tgt := 57) hx hb dX12_feed_50 (by decide) (fun h => absurd h (by decide)) (fun _ => ?_)
  refine lv_iload_n hx hb dX12_feed_53 rfl (lv_at hl 5 rfl) ?_
  refine lv_goto (tgt := 71) hx hb dX12_feed_54 (by decide) ?_
  refine lv_istore (lv' := [(7, .int x3), (6, .int 9), (0, .ref (ad 0)), (1, .int x1), (2, .int x2), (3, .int x3), (4, .int x4), (5, .int x5)]) hx hb dX12_feed_71 hl (by decide) rfl (fun ls hl => ?_)
  refine lv_aload_n hx hb dX12_feed_73 rfl (lv_at hl 2 rfl) ?_
  refine cg_get hC hO 0 (by decide) o0 rfl i_X12 0 (by decide) (List.mem_of_getElem? (i := 2) rfl) f0_0 dX12_feed_74 ?_
  refine lv_aload_n hx hb dX12_feed_77 rfl (lv_at hl 2 rfl) ?_
  refine cg_get hC hO 0 (by decide) o0 rfl i_X12 2 (by decide) (List.mem_of_getElem? (i := 1) rfl) f0_2 dX12_feed_78 ?_
  refine lv_iload hx hb dX12_feed_81 (lv_at hl 1 rfl) ?_
  refine lv_iadd hx hb dX12_feed_83 ?_
  refine cg_ev (v := 9) (by decide) ?_
  refine lv_iload hx hb dX12_feed_84 (lv_at hl 0 rfl) ?_
  refine lv_bipush (v := 24) hx hb dX12_feed_86 (by decide) ?_
  refine lv_bipush (v := 8) hx hb dX12_feed_88 (by decide) ?_
  refine lv_iload hx hb dX12_feed_90 (lv_at hl 1 rfl) ?_
  refine lv_iconst (v := 3) hx hb dX12_feed_92 (by decide) ?_
  refine lv_iand hx hb dX12_feed_93 ?_
  refine cg_ev (v := 1) (by decide) ?_
  refine lv_imul hx hb dX12_feed_94 ?_
  refine cg_ev (v := 8) (by decide) ?_
  refine lv_isub hx hb dX12_feed_95 ?_
  refine cg_ev (v := 16) (by decide) ?_
  refine lv_ishr hx hb dX12_feed_96 ?_
  refine lv_i2b (v := ((x3 >>> 16)).toInt8.toInt32) hx hb dX12_feed_97 rfl ?_
  refine cg_bast hC hO 1 (by decide) rfl (cin (by decide)) dX12_feed_98 (fun H locs hO => ?_)
  have hO : cO D cy A s.heap s 2 ad (cup [(1, .inl (cy 3, 1620, .inl (upd c1_98_9 (9 : Int32).toNatClampNeg (vp_nar .byte (((x3 >>> 16)).toInt8.toInt32)))))] g) _ _ := hO
  obtain ⟨c1_98_10, ec1_98_10⟩ : ∃ z, z = (upd c1_98_9 (9 : Int32).toNatClampNeg (vp_nar .byte (((x3 >>> 16)).toInt8.toInt32))) := ⟨_, rfl⟩
  rw [← ec1_98_10] at hO
  have hO : cO D cy A s.heap s 2 ad (cup [(1, .inl (cy 3, 1620, .inl c1_98_10))] g) _ _ := hO
  refine lv_iinc (v := 10) (lv' := [(6, .int 10), (7, .int x3), (0, .ref (ad 0)), (1, .int x1), (2, .int x2), (3, .int x3), (4, .int x4), (5, .int x5)]) hx hb dX12_feed_99 hl (k := 1) rfl (by decide) (by decide) rfl (fun ls hl => ?_)
  refine lv_goto (tgt := 18) hx hb dX12_feed_102 (by decide) ?_
  refine lv_iload hx hb dX12_feed_18 (lv_at hl 0 rfl) ?_
  refine lv_bipush (v := 20) hx hb dX12_feed_20 (by decide) ?_
  refine lv_icmp_ge (tgt := 105) hx hb dX12_feed_22 (by decide) (fun h => absurd h (by decide)) (fun _ => ?_)
  refine lv_iload hx hb dX12_feed_25 (lv_at hl 0 rfl) ?_
  refine lv_iconst (v := 4) hx hb dX12_feed_27 (by decide) ?_
  refine lv_icmp_ge (tgt := 35) hx hb dX12_feed_28 (by decide) (fun _ => ?_) (fun h => absurd h (by decide))
  refine lv_iload hx hb dX12_feed_35 (lv_at hl 0 rfl) ?_
  refine lv_bipush (v := 8) hx hb dX12_feed_37 (by decide) ?_
  refine lv_icmp_ge (tgt := 46) hx hb dX12_feed_39 (by decide) (fun _ => ?_) (fun h => absurd h (by decide))
  refine lv_iload hx hb dX12_feed_46 (lv_at hl 0 rfl) ?_
  refine lv_bipush (v := 12) hx hb dX12_feed_48 (by decide) ?_
  refine lv_icmp_ge (tgt := 57) hx hb dX12_feed_50 (by decide) (fun h => absurd h (by decide)) (fun _ => ?_)
  refine lv_iload_n hx hb dX12_feed_53 rfl (lv_at hl 5 rfl) ?_
  refine lv_goto (tgt := 71) hx hb dX12_feed_54 (by decide) ?_
  refine lv_istore (lv' := [(7, .int x3), (6, .int 10), (0, .ref (ad 0)), (1, .int x1), (2, .int x2), (3, .int x3), (4, .int x4), (5, .int x5)]) hx hb dX12_feed_71 hl (by decide) rfl (fun ls hl => ?_)
  refine lv_aload_n hx hb dX12_feed_73 rfl (lv_at hl 2 rfl) ?_
  refine cg_get hC hO 0 (by decide) o0 rfl i_X12 0 (by decide) (List.mem_of_getElem? (i := 2) rfl) f0_0 dX12_feed_74 ?_
  refine lv_aload_n hx hb dX12_feed_77 rfl (lv_at hl 2 rfl) ?_
  refine cg_get hC hO 0 (by decide) o0 rfl i_X12 2 (by decide) (List.mem_of_getElem? (i := 1) rfl) f0_2 dX12_feed_78 ?_
  refine lv_iload hx hb dX12_feed_81 (lv_at hl 1 rfl) ?_
  refine lv_iadd hx hb dX12_feed_83 ?_
  refine cg_ev (v := 10) (by decide) ?_
  refine lv_iload hx hb dX12_feed_84 (lv_at hl 0 rfl) ?_
  refine lv_bipush (v := 24) hx hb dX12_feed_86 (by decide) ?_
  refine lv_bipush (v := 8) hx hb dX12_feed_88 (by decide) ?_
  refine lv_iload hx hb dX12_feed_90 (lv_at hl 1 rfl) ?_
  refine lv_iconst (v := 3) hx hb dX12_feed_92 (by decide) ?_
  refine lv_iand hx hb dX12_feed_93 ?_
  refine cg_ev (v := 2) (by decide) ?_
  refine lv_imul hx hb dX12_feed_94 ?_
  refine cg_ev (v := 16) (by decide) ?_
  refine lv_isub hx hb dX12_feed_95 ?_
  refine cg_ev (v := 8) (by decide) ?_
  refine lv_ishr hx hb dX12_feed_96 ?_
  refine lv_i2b (v := ((x3 >>> 8)).toInt8.toInt32) hx hb dX12_feed_97 rfl ?_
  refine cg_bast hC hO 1 (by decide) rfl (cin (by decide)) dX12_feed_98 (fun H locs hO => ?_)
  have hO : cO D cy A s.heap s 2 ad (cup [(1, .inl (cy 3, 1620, .inl (upd c1_98_10 (10 : Int32).toNatClampNeg (vp_nar .byte (((x3 >>> 8)).toInt8.toInt32)))))] g) _ _ := hO
  obtain ⟨c1_98_11, ec1_98_11⟩ : ∃ z, z = (upd c1_98_10 (10 : Int32).toNatClampNeg (vp_nar .byte (((x3 >>> 8)).toInt8.toInt32))) := ⟨_, rfl⟩
  rw [← ec1_98_11] at hO
  have hO : cO D cy A s.heap s 2 ad (cup [(1, .inl (cy 3, 1620, .inl c1_98_11))] g) _ _ := hO
  refine lv_iinc (v := 11) (lv' := [(6, .int 11), (7, .int x3), (0, .ref (ad 0)), (1, .int x1), (2, .int x2), (3, .int x3), (4, .int x4), (5, .int x5)]) hx hb dX12_feed_99 hl (k := 1) rfl (by decide) (by decide) rfl (fun ls hl => ?_)
  refine lv_goto (tgt := 18) hx hb dX12_feed_102 (by decide) ?_
  refine lv_iload hx hb dX12_feed_18 (lv_at hl 0 rfl) ?_
  refine lv_bipush (v := 20) hx hb dX12_feed_20 (by decide) ?_
  refine lv_icmp_ge (tgt := 105) hx hb dX12_feed_22 (by decide) (fun h => absurd h (by decide)) (fun _ => ?_)
  refine lv_iload hx hb dX12_feed_25 (lv_at hl 0 rfl) ?_
  refine lv_iconst (v := 4) hx hb dX12_feed_27 (by decide) ?_
  refine lv_icmp_ge (tgt := 35) hx hb dX12_feed_28 (by decide) (fun _ => ?_) (fun h => absurd h (by decide))
  refine lv_iload hx hb dX12_feed_35 (lv_at hl 0 rfl) ?_
  refine lv_bipush (v := 8) hx hb dX12_feed_37 (by decide) ?_
  refine lv_icmp_ge (tgt := 46) hx hb dX12_feed_39 (by decide) (fun _ => ?_) (fun h => absurd h (by decide))
  refine lv_iload hx hb dX12_feed_46 (lv_at hl 0 rfl) ?_
  refine lv_bipush (v := 12) hx hb dX12_feed_48 (by decide) ?_
  refine lv_icmp_ge (tgt := 57) hx hb dX12_feed_50 (by decide) (fun h => absurd h (by decide)) (fun _ => ?_)
  refine lv_iload_n hx hb dX12_feed_53 rfl (lv_at hl 5 rfl) ?_
  refine lv_goto (tgt := 71) hx hb dX12_feed_54 (by decide) ?_
  refine lv_istore (lv' := [(7, .int x3), (6, .int 11), (0, .ref (ad 0)), (1, .int x1), (2, .int x2), (3, .int x3), (4, .int x4), (5, .int x5)]) hx hb dX12_feed_71 hl (by decide) rfl (fun ls hl => ?_)
  refine lv_aload_n hx hb dX12_feed_73 rfl (lv_at hl 2 rfl) ?_
  refine cg_get hC hO 0 (by decide) o0 rfl i_X12 0 (by decide) (List.mem_of_getElem? (i := 2) rfl) f0_0 dX12_feed_74 ?_
  refine lv_aload_n hx hb dX12_feed_77 rfl (lv_at hl 2 rfl) ?_
  refine cg_get hC hO 0 (by decide) o0 rfl i_X12 2 (by decide) (List.mem_of_getElem? (i := 1) rfl) f0_2 dX12_feed_78 ?_
  refine lv_iload hx hb dX12_feed_81 (lv_at hl 1 rfl) ?_
  refine lv_iadd hx hb dX12_feed_83 ?_
  refine cg_ev (v := 11) (by decide) ?_
  refine lv_iload hx hb dX12_feed_84 (lv_at hl 0 rfl) ?_
  refine lv_bipush (v := 24) hx hb dX12_feed_86 (by decide) ?_
  refine lv_bipush (v := 8) hx hb dX12_feed_88 (by decide) ?_
  refine lv_iload hx hb dX12_feed_90 (lv_at hl 1 rfl) ?_
  refine lv_iconst (v := 3) hx hb dX12_feed_92 (by decide) ?_
  refine lv_iand hx hb dX12_feed_93 ?_
  refine cg_ev (v := 3) (by decide) ?_
  refine lv_imul hx hb dX12_feed_94 ?_
  refine cg_ev (v := 24) (by decide) ?_
  refine lv_isub hx hb dX12_feed_95 ?_
  refine cg_ev (v := 0) (by decide) ?_
  refine lv_ishr hx hb dX12_feed_96 ?_
  refine lv_i2b (v := ((x3 >>> 0)).toInt8.toInt32) hx hb dX12_feed_97 rfl ?_
  refine cg_bast hC hO 1 (by decide) rfl (cin (by decide)) dX12_feed_98 (fun H locs hO => ?_)
  have hO : cO D cy A s.heap s 2 ad (cup [(1, .inl (cy 3, 1620, .inl (upd c1_98_11 (11 : Int32).toNatClampNeg (vp_nar .byte (((x3 >>> 0)).toInt8.toInt32)))))] g) _ _ := hO
  obtain ⟨c1_98_12, ec1_98_12⟩ : ∃ z, z = (upd c1_98_11 (11 : Int32).toNatClampNeg (vp_nar .byte (((x3 >>> 0)).toInt8.toInt32))) := ⟨_, rfl⟩
  rw [← ec1_98_12] at hO
  have hO : cO D cy A s.heap s 2 ad (cup [(1, .inl (cy 3, 1620, .inl c1_98_12))] g) _ _ := hO
  refine lv_iinc (v := 12) (lv' := [(6, .int 12), (7, .int x3), (0, .ref (ad 0)), (1, .int x1), (2, .int x2), (3, .int x3), (4, .int x4), (5, .int x5)]) hx hb dX12_feed_99 hl (k := 1) rfl (by decide) (by decide) rfl (fun ls hl => ?_)
  refine lv_goto (tgt := 18) hx hb dX12_feed_102 (by decide) ?_
  refine lv_iload hx hb dX12_feed_18 (lv_at hl 0 rfl) ?_
  refine lv_bipush (v := 20) hx hb dX12_feed_20 (by decide) ?_
  refine lv_icmp_ge (tgt := 105) hx hb dX12_feed_22 (by decide) (fun h => absurd h (by decide)) (fun _ => ?_)
  refine lv_iload hx hb dX12_feed_25 (lv_at hl 0 rfl) ?_
  refine lv_iconst (v := 4) hx hb dX12_feed_27 (by decide) ?_
  refine lv_icmp_ge (tgt := 35) hx hb dX12_feed_28 (by decide) (fun _ => ?_) (fun h => absurd h (by decide))
  refine lv_iload hx hb dX12_feed_35 (lv_at hl 0 rfl) ?_
  refine lv_bipush (v := 8) hx hb dX12_feed_37 (by decide) ?_
  refine lv_icmp_ge (tgt := 46) hx hb dX12_feed_39 (by decide) (fun _ => ?_) (fun h => absurd h (by decide))
  refine lv_iload hx hb dX12_feed_46 (lv_at hl 0 rfl) ?_
  refine lv_bipush (v := 12) hx hb dX12_feed_48 (by decide) ?_
  refine lv_icmp_ge (tgt := 57) hx hb dX12_feed_50 (by decide) (fun _ => ?_) (fun h => absurd h (by decide))
  refine lv_iload hx hb dX12_feed_57 (lv_at hl 0 rfl) ?_
  refine lv_bipush (v := 16) hx hb dX12_feed_59 (by decide) ?_
  refine lv_icmp_ge (tgt := 69) hx hb dX12_feed_61 (by decide) (fun h => absurd h (by decide)) (fun _ => ?_)
  refine lv_iload hx hb dX12_feed_64 (lv_at hl 6 rfl) ?_
  refine lv_goto (tgt := 71) hx hb dX12_feed_66 (by decide) ?_
  refine lv_istore (lv' := [(7, .int x4), (6, .int 12), (0, .ref (ad 0)), (1, .int x1), (2, .int x2), (3, .int x3), (4, .int x4), (5, .int x5)]) hx hb dX12_feed_71 hl (by decide) rfl (fun ls hl => ?_)
  refine lv_aload_n hx hb dX12_feed_73 rfl (lv_at hl 2 rfl) ?_
  refine cg_get hC hO 0 (by decide) o0 rfl i_X12 0 (by decide) (List.mem_of_getElem? (i := 2) rfl) f0_0 dX12_feed_74 ?_
  refine lv_aload_n hx hb dX12_feed_77 rfl (lv_at hl 2 rfl) ?_
  refine cg_get hC hO 0 (by decide) o0 rfl i_X12 2 (by decide) (List.mem_of_getElem? (i := 1) rfl) f0_2 dX12_feed_78 ?_
  refine lv_iload hx hb dX12_feed_81 (lv_at hl 1 rfl) ?_
  refine lv_iadd hx hb dX12_feed_83 ?_
  refine cg_ev (v := 12) (by decide) ?_
  refine lv_iload hx hb dX12_feed_84 (lv_at hl 0 rfl) ?_
  refine lv_bipush (v := 24) hx hb dX12_feed_86 (by decide) ?_
  refine lv_bipush (v := 8) hx hb dX12_feed_88 (by decide) ?_
  refine lv_iload hx hb dX12_feed_90 (lv_at hl 1 rfl) ?_
  refine lv_iconst (v := 3) hx hb dX12_feed_92 (by decide) ?_
  refine lv_iand hx hb dX12_feed_93 ?_
  refine cg_ev (v := 0) (by decide) ?_
  refine lv_imul hx hb dX12_feed_94 ?_
  refine cg_ev (v := 0) (by decide) ?_
  refine lv_isub hx hb dX12_feed_95 ?_
  refine cg_ev (v := 24) (by decide) ?_
  refine lv_ishr hx hb dX12_feed_96 ?_
  refine lv_i2b (v := ((x4 >>> 24)).toInt8.toInt32) hx hb dX12_feed_97 rfl ?_
  refine cg_bast hC hO 1 (by decide) rfl (cin (by decide)) dX12_feed_98 (fun H locs hO => ?_)
  have hO : cO D cy A s.heap s 2 ad (cup [(1, .inl (cy 3, 1620, .inl (upd c1_98_12 (12 : Int32).toNatClampNeg (vp_nar .byte (((x4 >>> 24)).toInt8.toInt32)))))] g) _ _ := hO
  obtain ⟨c1_98_13, ec1_98_13⟩ : ∃ z, z = (upd c1_98_12 (12 : Int32).toNatClampNeg (vp_nar .byte (((x4 >>> 24)).toInt8.toInt32))) := ⟨_, rfl⟩
  rw [← ec1_98_13] at hO
  have hO : cO D cy A s.heap s 2 ad (cup [(1, .inl (cy 3, 1620, .inl c1_98_13))] g) _ _ := hO
  refine lv_iinc (v := 13) (lv' := [(6, .int 13), (7, .int x4), (0, .ref (ad 0)), (1, .int x1), (2, .int x2), (3, .int x3), (4, .int x4), (5, .int x5)]) hx hb dX12_feed_99 hl (k := 1) rfl (by decide) (by decide) rfl (fun ls hl => ?_)
  refine lv_goto (tgt := 18) hx hb dX12_feed_102 (by decide) ?_
  refine lv_iload hx hb dX12_feed_18 (lv_at hl 0 rfl) ?_
  refine lv_bipush (v := 20) hx hb dX12_feed_20 (by decide) ?_
  refine lv_icmp_ge (tgt := 105) hx hb dX12_feed_22 (by decide) (fun h => absurd h (by decide)) (fun _ => ?_)
  refine lv_iload hx hb dX12_feed_25 (lv_at hl 0 rfl) ?_
  refine lv_iconst (v := 4) hx hb dX12_feed_27 (by decide) ?_
  refine lv_icmp_ge (tgt := 35) hx hb dX12_feed_28 (by decide) (fun _ => ?_) (fun h => absurd h (by decide))
  refine lv_iload hx hb dX12_feed_35 (lv_at hl 0 rfl) ?_
  refine lv_bipush (v := 8) hx hb dX12_feed_37 (by decide) ?_
  refine lv_icmp_ge (tgt := 46) hx hb dX12_feed_39 (by decide) (fun _ => ?_) (fun h => absurd h (by decide))
  refine lv_iload hx hb dX12_feed_46 (lv_at hl 0 rfl) ?_
  refine lv_bipush (v := 12) hx hb dX12_feed_48 (by decide) ?_
  refine lv_icmp_ge (tgt := 57) hx hb dX12_feed_50 (by decide) (fun _ => ?_) (fun h => absurd h (by decide))
  refine lv_iload hx hb dX12_feed_57 (lv_at hl 0 rfl) ?_
  refine lv_bipush (v := 16) hx hb dX12_feed_59 (by decide) ?_
  refine lv_icmp_ge (tgt := 69) hx hb dX12_feed_61 (by decide) (fun h => absurd h (by decide)) (fun _ => ?_)
  refine lv_iload hx hb dX12_feed_64 (lv_at hl 6 rfl) ?_
  refine lv_goto (tgt := 71) hx hb dX12_feed_66 (by decide) ?_
  refine lv_istore (lv' := [(7, .int x4), (6, .int 13), (0, .ref (ad 0)), (1, .int x1), (2, .int x2), (3, .int x3), (4, .int x4), (5, .int x5)]) hx hb dX12_feed_71 hl (by decide) rfl (fun ls hl => ?_)
  refine lv_aload_n hx hb dX12_feed_73 rfl (lv_at hl 2 rfl) ?_
  refine cg_get hC hO 0 (by decide) o0 rfl i_X12 0 (by decide) (List.mem_of_getElem? (i := 2) rfl) f0_0 dX12_feed_74 ?_
  refine lv_aload_n hx hb dX12_feed_77 rfl (lv_at hl 2 rfl) ?_
  refine cg_get hC hO 0 (by decide) o0 rfl i_X12 2 (by decide) (List.mem_of_getElem? (i := 1) rfl) f0_2 dX12_feed_78 ?_
  refine lv_iload hx hb dX12_feed_81 (lv_at hl 1 rfl) ?_
  refine lv_iadd hx hb dX12_feed_83 ?_
  refine cg_ev (v := 13) (by decide) ?_
  refine lv_iload hx hb dX12_feed_84 (lv_at hl 0 rfl) ?_
  refine lv_bipush (v := 24) hx hb dX12_feed_86 (by decide) ?_
  refine lv_bipush (v := 8) hx hb dX12_feed_88 (by decide) ?_
  refine lv_iload hx hb dX12_feed_90 (lv_at hl 1 rfl) ?_
  refine lv_iconst (v := 3) hx hb dX12_feed_92 (by decide) ?_
  refine lv_iand hx hb dX12_feed_93 ?_
  refine cg_ev (v := 1) (by decide) ?_
  refine lv_imul hx hb dX12_feed_94 ?_
  refine cg_ev (v := 8) (by decide) ?_
  refine lv_isub hx hb dX12_feed_95 ?_
  refine cg_ev (v := 16) (by decide) ?_
  refine lv_ishr hx hb dX12_feed_96 ?_
  refine lv_i2b (v := ((x4 >>> 16)).toInt8.toInt32) hx hb dX12_feed_97 rfl ?_
  refine cg_bast hC hO 1 (by decide) rfl (cin (by decide)) dX12_feed_98 (fun H locs hO => ?_)
  have hO : cO D cy A s.heap s 2 ad (cup [(1, .inl (cy 3, 1620, .inl (upd c1_98_13 (13 : Int32).toNatClampNeg (vp_nar .byte (((x4 >>> 16)).toInt8.toInt32)))))] g) _ _ := hO
  obtain ⟨c1_98_14, ec1_98_14⟩ : ∃ z, z = (upd c1_98_13 (13 : Int32).toNatClampNeg (vp_nar .byte (((x4 >>> 16)).toInt8.toInt32))) := ⟨_, rfl⟩
  rw [← ec1_98_14] at hO
  have hO : cO D cy A s.heap s 2 ad (cup [(1, .inl (cy 3, 1620, .inl c1_98_14))] g) _ _ := hO
  refine lv_iinc (v := 14) (lv' := [(6, .int 14), (7, .int x4), (0, .ref (ad 0)), (1, .int x1), (2, .int x2), (3, .int x3), (4, .int x4), (5, .int x5)]) hx hb dX12_feed_99 hl (k := 1) rfl (by decide) (by decide) rfl (fun ls hl => ?_)
  refine lv_goto (tgt := 18) hx hb dX12_feed_102 (by decide) ?_
  refine lv_iload hx hb dX12_feed_18 (lv_at hl 0 rfl) ?_
  refine lv_bipush (v := 20) hx hb dX12_feed_20 (by decide) ?_
  refine lv_icmp_ge (tgt := 105) hx hb dX12_feed_22 (by decide) (fun h => absurd h (by decide)) (fun _ => ?_)
  refine lv_iload hx hb dX12_feed_25 (lv_at hl 0 rfl) ?_
  refine lv_iconst (v := 4) hx hb dX12_feed_27 (by decide) ?_
  refine lv_icmp_ge (tgt := 35) hx hb dX12_feed_28 (by decide) (fun _ => ?_) (fun h => absurd h (by decide))
  refine lv_iload hx hb dX12_feed_35 (lv_at hl 0 rfl) ?_
  refine lv_bipush (v := 8) hx hb dX12_feed_37 (by decide) ?_
  refine lv_icmp_ge (tgt := 46) hx hb dX12_feed_39 (by decide) (fun _ => ?_) (fun h => absurd h (by decide))
  refine lv_iload hx hb dX12_feed_46 (lv_at hl 0 rfl) ?_
  refine lv_bipush (v := 12) hx hb dX12_feed_48 (by decide) ?_
  refine lv_icmp_ge (tgt := 57) hx hb dX12_feed_50 (by decide) (fun _ => ?_) (fun h => absurd h (by decide))
  refine lv_iload hx hb dX12_feed_57 (lv_at hl 0 rfl) ?_
  refine lv_bipush (v := 16) hx hb dX12_feed_59 (by decide) ?_
  refine lv_icmp_ge (tgt := 69) hx hb dX12_feed_61 (by decide) (fun h => absurd h (by decide)) (fun _ => ?_)
  refine lv_iload hx hb dX12_feed_64 (lv_at hl 6 rfl) ?_
  refine lv_goto (tgt := 71) hx hb dX12_feed_66 (by decide) ?_
  refine lv_istore (lv' := [(7, .int x4), (6, .int 14), (0, .ref (ad 0)), (1, .int x1), (2, .int x2), (3, .int x3), (4, .int x4), (5, .int x5)]) hx hb dX12_feed_71 hl (by decide) rfl (fun ls hl => ?_)
  refine lv_aload_n hx hb dX12_feed_73 rfl (lv_at hl 2 rfl) ?_
  refine cg_get hC hO 0 (by decide) o0 rfl i_X12 0 (by decide) (List.mem_of_getElem? (i := 2) rfl) f0_0 dX12_feed_74 ?_
  refine lv_aload_n hx hb dX12_feed_77 rfl (lv_at hl 2 rfl) ?_
  refine cg_get hC hO 0 (by decide) o0 rfl i_X12 2 (by decide) (List.mem_of_getElem? (i := 1) rfl) f0_2 dX12_feed_78 ?_
  refine lv_iload hx hb dX12_feed_81 (lv_at hl 1 rfl) ?_
  refine lv_iadd hx hb dX12_feed_83 ?_
  refine cg_ev (v := 14) (by decide) ?_
  refine lv_iload hx hb dX12_feed_84 (lv_at hl 0 rfl) ?_
  refine lv_bipush (v := 24) hx hb dX12_feed_86 (by decide) ?_
  refine lv_bipush (v := 8) hx hb dX12_feed_88 (by decide) ?_
  refine lv_iload hx hb dX12_feed_90 (lv_at hl 1 rfl) ?_
  refine lv_iconst (v := 3) hx hb dX12_feed_92 (by decide) ?_
  refine lv_iand hx hb dX12_feed_93 ?_
  refine cg_ev (v := 2) (by decide) ?_
  refine lv_imul hx hb dX12_feed_94 ?_
  refine cg_ev (v := 16) (by decide) ?_
  refine lv_isub hx hb dX12_feed_95 ?_
  refine cg_ev (v := 8) (by decide) ?_
  refine lv_ishr hx hb dX12_feed_96 ?_
  refine lv_i2b (v := ((x4 >>> 8)).toInt8.toInt32) hx hb dX12_feed_97 rfl ?_
  refine cg_bast hC hO 1 (by decide) rfl (cin (by decide)) dX12_feed_98 (fun H locs hO => ?_)
  have hO : cO D cy A s.heap s 2 ad (cup [(1, .inl (cy 3, 1620, .inl (upd c1_98_14 (14 : Int32).toNatClampNeg (vp_nar .byte (((x4 >>> 8)).toInt8.toInt32)))))] g) _ _ := hO
  obtain ⟨c1_98_15, ec1_98_15⟩ : ∃ z, z = (upd c1_98_14 (14 : Int32).toNatClampNeg (vp_nar .byte (((x4 >>> 8)).toInt8.toInt32))) := ⟨_, rfl⟩
  rw [← ec1_98_15] at hO
  have hO : cO D cy A s.heap s 2 ad (cup [(1, .inl (cy 3, 1620, .inl c1_98_15))] g) _ _ := hO
  refine lv_iinc (v := 15) (lv' := [(6, .int 15), (7, .int x4), (0, .ref (ad 0)), (1, .int x1), (2, .int x2), (3, .int x3), (4, .int x4), (5, .int x5)]) hx hb dX12_feed_99 hl (k := 1) rfl (by decide) (by decide) rfl (fun ls hl => ?_)
  refine lv_goto (tgt := 18) hx hb dX12_feed_102 (by decide) ?_
  refine lv_iload hx hb dX12_feed_18 (lv_at hl 0 rfl) ?_
  refine lv_bipush (v := 20) hx hb dX12_feed_20 (by decide) ?_
  refine lv_icmp_ge (tgt := 105) hx hb dX12_feed_22 (by decide) (fun h => absurd h (by decide)) (fun _ => ?_)
  refine lv_iload hx hb dX12_feed_25 (lv_at hl 0 rfl) ?_
  refine lv_iconst (v := 4) hx hb dX12_feed_27 (by decide) ?_
  refine lv_icmp_ge (tgt := 35) hx hb dX12_feed_28 (by decide) (fun _ => ?_) (fun h => absurd h (by decide))
  refine lv_iload hx hb dX12_feed_35 (lv_at hl 0 rfl) ?_
  refine lv_bipush (v := 8) hx hb dX12_feed_37 (by decide) ?_
  refine lv_icmp_ge (tgt := 46) hx hb dX12_feed_39 (by decide) (fun _ => ?_) (fun h => absurd h (by decide))
  refine lv_iload hx hb dX12_feed_46 (lv_at hl 0 rfl) ?_
  refine lv_bipush (v := 12) hx hb dX12_feed_48 (by decide) ?_
  refine lv_icmp_ge (tgt := 57) hx hb dX12_feed_50 (by decide) (fun _ => ?_) (fun h => absurd h (by decide))
  refine lv_iload hx hb dX12_feed_57 (lv_at hl 0 rfl) ?_
  refine lv_bipush (v := 16) hx hb dX12_feed_59 (by decide) ?_
  refine lv_icmp_ge (tgt := 69) hx hb dX12_feed_61 (by decide) (fun h => absurd h (by decide)) (fun _ => ?_)
  refine lv_iload hx hb dX12_feed_64 (lv_at hl 6 rfl) ?_
  refine lv_goto (tgt := 71) hx hb dX12_feed_66 (by decide) ?_
  refine lv_istore (lv' := [(7, .int x4), (6, .int 15), (0, .ref (ad 0)), (1, .int x1), (2, .int x2), (3, .int x3), (4, .int x4), (5, .int x5)]) hx hb dX12_feed_71 hl (by decide) rfl (fun ls hl => ?_)
  refine lv_aload_n hx hb dX12_feed_73 rfl (lv_at hl 2 rfl) ?_
  refine cg_get hC hO 0 (by decide) o0 rfl i_X12 0 (by decide) (List.mem_of_getElem? (i := 2) rfl) f0_0 dX12_feed_74 ?_
  refine lv_aload_n hx hb dX12_feed_77 rfl (lv_at hl 2 rfl) ?_
  refine cg_get hC hO 0 (by decide) o0 rfl i_X12 2 (by decide) (List.mem_of_getElem? (i := 1) rfl) f0_2 dX12_feed_78 ?_
  refine lv_iload hx hb dX12_feed_81 (lv_at hl 1 rfl) ?_
  refine lv_iadd hx hb dX12_feed_83 ?_
  refine cg_ev (v := 15) (by decide) ?_
  refine lv_iload hx hb dX12_feed_84 (lv_at hl 0 rfl) ?_
  refine lv_bipush (v := 24) hx hb dX12_feed_86 (by decide) ?_
  refine lv_bipush (v := 8) hx hb dX12_feed_88 (by decide) ?_
  refine lv_iload hx hb dX12_feed_90 (lv_at hl 1 rfl) ?_
  refine lv_iconst (v := 3) hx hb dX12_feed_92 (by decide) ?_
  refine lv_iand hx hb dX12_feed_93 ?_
  refine cg_ev (v := 3) (by decide) ?_
  refine lv_imul hx hb dX12_feed_94 ?_
  refine cg_ev (v := 24) (by decide) ?_
  refine lv_isub hx hb dX12_feed_95 ?_
  refine cg_ev (v := 0) (by decide) ?_
  refine lv_ishr hx hb dX12_feed_96 ?_
  refine lv_i2b (v := ((x4 >>> 0)).toInt8.toInt32) hx hb dX12_feed_97 rfl ?_
  refine cg_bast hC hO 1 (by decide) rfl (cin (by decide)) dX12_feed_98 (fun H locs hO => ?_)
  have hO : cO D cy A s.heap s 2 ad (cup [(1, .inl (cy 3, 1620, .inl (upd c1_98_15 (15 : Int32).toNatClampNeg (vp_nar .byte (((x4 >>> 0)).toInt8.toInt32)))))] g) _ _ := hO
  obtain ⟨c1_98_16, ec1_98_16⟩ : ∃ z, z = (upd c1_98_15 (15 : Int32).toNatClampNeg (vp_nar .byte (((x4 >>> 0)).toInt8.toInt32))) := ⟨_, rfl⟩
  rw [← ec1_98_16] at hO
  have hO : cO D cy A s.heap s 2 ad (cup [(1, .inl (cy 3, 1620, .inl c1_98_16))] g) _ _ := hO
  refine lv_iinc (v := 16) (lv' := [(6, .int 16), (7, .int x4), (0, .ref (ad 0)), (1, .int x1), (2, .int x2), (3, .int x3), (4, .int x4), (5, .int x5)]) hx hb dX12_feed_99 hl (k := 1) rfl (by decide) (by decide) rfl (fun ls hl => ?_)
  refine lv_goto (tgt := 18) hx hb dX12_feed_102 (by decide) ?_
  refine lv_iload hx hb dX12_feed_18 (lv_at hl 0 rfl) ?_
  refine lv_bipush (v := 20) hx hb dX12_feed_20 (by decide) ?_
  refine lv_icmp_ge (tgt := 105) hx hb dX12_feed_22 (by decide) (fun h => absurd h (by decide)) (fun _ => ?_)
  refine lv_iload hx hb dX12_feed_25 (lv_at hl 0 rfl) ?_
  refine lv_iconst (v := 4) hx hb dX12_feed_27 (by decide) ?_
  refine lv_icmp_ge (tgt := 35) hx hb dX12_feed_28 (by decide) (fun _ => ?_) (fun h => absurd h (by decide))
  refine lv_iload hx hb dX12_feed_35 (lv_at hl 0 rfl) ?_
  refine lv_bipush (v := 8) hx hb dX12_feed_37 (by decide) ?_
  refine lv_icmp_ge (tgt := 46) hx hb dX12_feed_39 (by decide) (fun _ => ?_) (fun h => absurd h (by decide))
  refine lv_iload hx hb dX12_feed_46 (lv_at hl 0 rfl) ?_
  refine lv_bipush (v := 12) hx hb dX12_feed_48 (by decide) ?_
  refine lv_icmp_ge (tgt := 57) hx hb dX12_feed_50 (by decide) (fun _ => ?_) (fun h => absurd h (by decide))
  refine lv_iload hx hb dX12_feed_57 (lv_at hl 0 rfl) ?_
  refine lv_bipush (v := 16) hx hb dX12_feed_59 (by decide) ?_
  refine lv_icmp_ge (tgt := 69) hx hb dX12_feed_61 (by decide) (fun _ => ?_) (fun h => absurd h (by decide))
  refine lv_iload hx hb dX12_feed_69 (lv_at hl 7 rfl) ?_
  refine lv_istore (lv' := [(7, .int x5), (6, .int 16), (0, .ref (ad 0)), (1, .int x1), (2, .int x2), (3, .int x3), (4, .int x4), (5, .int x5)]) hx hb dX12_feed_71 hl (by decide) rfl (fun ls hl => ?_)
  refine lv_aload_n hx hb dX12_feed_73 rfl (lv_at hl 2 rfl) ?_
  refine cg_get hC hO 0 (by decide) o0 rfl i_X12 0 (by decide) (List.mem_of_getElem? (i := 2) rfl) f0_0 dX12_feed_74 ?_
  refine lv_aload_n hx hb dX12_feed_77 rfl (lv_at hl 2 rfl) ?_
  refine cg_get hC hO 0 (by decide) o0 rfl i_X12 2 (by decide) (List.mem_of_getElem? (i := 1) rfl) f0_2 dX12_feed_78 ?_
  refine lv_iload hx hb dX12_feed_81 (lv_at hl 1 rfl) ?_
  refine lv_iadd hx hb dX12_feed_83 ?_
  refine cg_ev (v := 16) (by decide) ?_
  refine lv_iload hx hb dX12_feed_84 (lv_at hl 0 rfl) ?_
  refine lv_bipush (v := 24) hx hb dX12_feed_86 (by decide) ?_
  refine lv_bipush (v := 8) hx hb dX12_feed_88 (by decide) ?_
  refine lv_iload hx hb dX12_feed_90 (lv_at hl 1 rfl) ?_
  refine lv_iconst (v := 3) hx hb dX12_feed_92 (by decide) ?_
  refine lv_iand hx hb dX12_feed_93 ?_
  refine cg_ev (v := 0) (by decide) ?_
  refine lv_imul hx hb dX12_feed_94 ?_
  refine cg_ev (v := 0) (by decide) ?_
  refine lv_isub hx hb dX12_feed_95 ?_
  refine cg_ev (v := 24) (by decide) ?_
  refine lv_ishr hx hb dX12_feed_96 ?_
  refine lv_i2b (v := ((x5 >>> 24)).toInt8.toInt32) hx hb dX12_feed_97 rfl ?_
  refine cg_bast hC hO 1 (by decide) rfl (cin (by decide)) dX12_feed_98 (fun H locs hO => ?_)
  have hO : cO D cy A s.heap s 2 ad (cup [(1, .inl (cy 3, 1620, .inl (upd c1_98_16 (16 : Int32).toNatClampNeg (vp_nar .byte (((x5 >>> 24)).toInt8.toInt32)))))] g) _ _ := hO
  obtain ⟨c1_98_17, ec1_98_17⟩ : ∃ z, z = (upd c1_98_16 (16 : Int32).toNatClampNeg (vp_nar .byte (((x5 >>> 24)).toInt8.toInt32))) := ⟨_, rfl⟩
  rw [← ec1_98_17] at hO
  have hO : cO D cy A s.heap s 2 ad (cup [(1, .inl (cy 3, 1620, .inl c1_98_17))] g) _ _ := hO
  refine lv_iinc (v := 17) (lv' := [(6, .int 17), (7, .int x5), (0, .ref (ad 0)), (1, .int x1), (2, .int x2), (3, .int x3), (4, .int x4), (5, .int x5)]) hx hb dX12_feed_99 hl (k := 1) rfl (by decide) (by decide) rfl (fun ls hl => ?_)
  refine lv_goto (tgt := 18) hx hb dX12_feed_102 (by decide) ?_
  refine lv_iload hx hb dX12_feed_18 (lv_at hl 0 rfl) ?_
  refine lv_bipush (v := 20) hx hb dX12_feed_20 (by decide) ?_
  refine lv_icmp_ge (tgt := 105) hx hb dX12_feed_22 (by decide) (fun h => absurd h (by decide)) (fun _ => ?_)
  refine lv_iload hx hb dX12_feed_25 (lv_at hl 0 rfl) ?_
  refine lv_iconst (v := 4) hx hb dX12_feed_27 (by decide) ?_
  refine lv_icmp_ge (tgt := 35) hx hb dX12_feed_28 (by decide) (fun _ => ?_) (fun h => absurd h (by decide))
  refine lv_iload hx hb dX12_feed_35 (lv_at hl 0 rfl) ?_
  refine lv_bipush (v := 8) hx hb dX12_feed_37 (by decide) ?_
  refine lv_icmp_ge (tgt := 46) hx hb dX12_feed_39 (by decide) (fun _ => ?_) (fun h => absurd h (by decide))
  refine lv_iload hx hb dX12_feed_46 (lv_at hl 0 rfl) ?_
  refine lv_bipush (v := 12) hx hb dX12_feed_48 (by decide) ?_
  refine lv_icmp_ge (tgt := 57) hx hb dX12_feed_50 (by decide) (fun _ => ?_) (fun h => absurd h (by decide))
  refine lv_iload hx hb dX12_feed_57 (lv_at hl 0 rfl) ?_
  refine lv_bipush (v := 16) hx hb dX12_feed_59 (by decide) ?_
  refine lv_icmp_ge (tgt := 69) hx hb dX12_feed_61 (by decide) (fun _ => ?_) (fun h => absurd h (by decide))
  refine lv_iload hx hb dX12_feed_69 (lv_at hl 7 rfl) ?_
  refine lv_istore (lv' := [(7, .int x5), (6, .int 17), (0, .ref (ad 0)), (1, .int x1), (2, .int x2), (3, .int x3), (4, .int x4), (5, .int x5)]) hx hb dX12_feed_71 hl (by decide) rfl (fun ls hl => ?_)
  refine lv_aload_n hx hb dX12_feed_73 rfl (lv_at hl 2 rfl) ?_
  refine cg_get hC hO 0 (by decide) o0 rfl i_X12 0 (by decide) (List.mem_of_getElem? (i := 2) rfl) f0_0 dX12_feed_74 ?_
  refine lv_aload_n hx hb dX12_feed_77 rfl (lv_at hl 2 rfl) ?_
  refine cg_get hC hO 0 (by decide) o0 rfl i_X12 2 (by decide) (List.mem_of_getElem? (i := 1) rfl) f0_2 dX12_feed_78 ?_
  refine lv_iload hx hb dX12_feed_81 (lv_at hl 1 rfl) ?_
  refine lv_iadd hx hb dX12_feed_83 ?_
  refine cg_ev (v := 17) (by decide) ?_
  refine lv_iload hx hb dX12_feed_84 (lv_at hl 0 rfl) ?_
  refine lv_bipush (v := 24) hx hb dX12_feed_86 (by decide) ?_
  refine lv_bipush (v := 8) hx hb dX12_feed_88 (by decide) ?_
  refine lv_iload hx hb dX12_feed_90 (lv_at hl 1 rfl) ?_
  refine lv_iconst (v := 3) hx hb dX12_feed_92 (by decide) ?_
  refine lv_iand hx hb dX12_feed_93 ?_
  refine cg_ev (v := 1) (by decide) ?_
  refine lv_imul hx hb dX12_feed_94 ?_
  refine cg_ev (v := 8) (by decide) ?_
  refine lv_isub hx hb dX12_feed_95 ?_
  refine cg_ev (v := 16) (by decide) ?_
  refine lv_ishr hx hb dX12_feed_96 ?_
  refine lv_i2b (v := ((x5 >>> 16)).toInt8.toInt32) hx hb dX12_feed_97 rfl ?_
  refine cg_bast hC hO 1 (by decide) rfl (cin (by decide)) dX12_feed_98 (fun H locs hO => ?_)
  have hO : cO D cy A s.heap s 2 ad (cup [(1, .inl (cy 3, 1620, .inl (upd c1_98_17 (17 : Int32).toNatClampNeg (vp_nar .byte (((x5 >>> 16)).toInt8.toInt32)))))] g) _ _ := hO
  obtain ⟨c1_98_18, ec1_98_18⟩ : ∃ z, z = (upd c1_98_17 (17 : Int32).toNatClampNeg (vp_nar .byte (((x5 >>> 16)).toInt8.toInt32))) := ⟨_, rfl⟩
  rw [← ec1_98_18] at hO
  have hO : cO D cy A s.heap s 2 ad (cup [(1, .inl (cy 3, 1620, .inl c1_98_18))] g) _ _ := hO
  refine lv_iinc (v := 18) (lv' := [(6, .int 18), (7, .int x5), (0, .ref (ad 0)), (1, .int x1), (2, .int x2), (3, .int x3), (4, .int x4), (5, .int x5)]) hx hb dX12_feed_99 hl (k := 1) rfl (by decide) (by decide) rfl (fun ls hl => ?_)
  refine lv_goto (tgt := 18) hx hb dX12_feed_102 (by decide) ?_
  refine lv_iload hx hb dX12_feed_18 (lv_at hl 0 rfl) ?_
  refine lv_bipush (v := 20) hx hb dX12_feed_20 (by decide) ?_
  refine lv_icmp_ge (tgt := 105) hx hb dX12_feed_22 (by decide) (fun h => absurd h (by decide)) (fun _ => ?_)
  refine lv_iload hx hb dX12_feed_25 (lv_at hl 0 rfl) ?_
  refine lv_iconst (v := 4) hx hb dX12_feed_27 (by decide) ?_
  refine lv_icmp_ge (tgt := 35) hx hb dX12_feed_28 (by decide) (fun _ => ?_) (fun h => absurd h (by decide))
  refine lv_iload hx hb dX12_feed_35 (lv_at hl 0 rfl) ?_
  refine lv_bipush (v := 8) hx hb dX12_feed_37 (by decide) ?_
  refine lv_icmp_ge (tgt := 46) hx hb dX12_feed_39 (by decide) (fun _ => ?_) (fun h => absurd h (by decide))
  refine lv_iload hx hb dX12_feed_46 (lv_at hl 0 rfl) ?_
  refine lv_bipush (v := 12) hx hb dX12_feed_48 (by decide) ?_
  refine lv_icmp_ge (tgt := 57) hx hb dX12_feed_50 (by decide) (fun _ => ?_) (fun h => absurd h (by decide))
  refine lv_iload hx hb dX12_feed_57 (lv_at hl 0 rfl) ?_
  refine lv_bipush (v := 16) hx hb dX12_feed_59 (by decide) ?_
  refine lv_icmp_ge (tgt := 69) hx hb dX12_feed_61 (by decide) (fun _ => ?_) (fun h => absurd h (by decide))
  refine lv_iload hx hb dX12_feed_69 (lv_at hl 7 rfl) ?_
  refine lv_istore (lv' := [(7, .int x5), (6, .int 18), (0, .ref (ad 0)), (1, .int x1), (2, .int x2), (3, .int x3), (4, .int x4), (5, .int x5)]) hx hb dX12_feed_71 hl (by decide) rfl (fun ls hl => ?_)
  refine lv_aload_n hx hb dX12_feed_73 rfl (lv_at hl 2 rfl) ?_
  refine cg_get hC hO 0 (by decide) o0 rfl i_X12 0 (by decide) (List.mem_of_getElem? (i := 2) rfl) f0_0 dX12_feed_74 ?_
  refine lv_aload_n hx hb dX12_feed_77 rfl (lv_at hl 2 rfl) ?_
  refine cg_get hC hO 0 (by decide) o0 rfl i_X12 2 (by decide) (List.mem_of_getElem? (i := 1) rfl) f0_2 dX12_feed_78 ?_
  refine lv_iload hx hb dX12_feed_81 (lv_at hl 1 rfl) ?_
  refine lv_iadd hx hb dX12_feed_83 ?_
  refine cg_ev (v := 18) (by decide) ?_
  refine lv_iload hx hb dX12_feed_84 (lv_at hl 0 rfl) ?_
  refine lv_bipush (v := 24) hx hb dX12_feed_86 (by decide) ?_
  refine lv_bipush (v := 8) hx hb dX12_feed_88 (by decide) ?_
  refine lv_iload hx hb dX12_feed_90 (lv_at hl 1 rfl) ?_
  refine lv_iconst (v := 3) hx hb dX12_feed_92 (by decide) ?_
  refine lv_iand hx hb dX12_feed_93 ?_
  refine cg_ev (v := 2) (by decide) ?_
  refine lv_imul hx hb dX12_feed_94 ?_
  refine cg_ev (v := 16) (by decide) ?_
  refine lv_isub hx hb dX12_feed_95 ?_
  refine cg_ev (v := 8) (by decide) ?_
  refine lv_ishr hx hb dX12_feed_96 ?_
  refine lv_i2b (v := ((x5 >>> 8)).toInt8.toInt32) hx hb dX12_feed_97 rfl ?_
  refine cg_bast hC hO 1 (by decide) rfl (cin (by decide)) dX12_feed_98 (fun H locs hO => ?_)
  have hO : cO D cy A s.heap s 2 ad (cup [(1, .inl (cy 3, 1620, .inl (upd c1_98_18 (18 : Int32).toNatClampNeg (vp_nar .byte (((x5 >>> 8)).toInt8.toInt32)))))] g) _ _ := hO
  obtain ⟨c1_98_19, ec1_98_19⟩ : ∃ z, z = (upd c1_98_18 (18 : Int32).toNatClampNeg (vp_nar .byte (((x5 >>> 8)).toInt8.toInt32))) := ⟨_, rfl⟩
  rw [← ec1_98_19] at hO
  have hO : cO D cy A s.heap s 2 ad (cup [(1, .inl (cy 3, 1620, .inl c1_98_19))] g) _ _ := hO
  refine lv_iinc (v := 19) (lv' := [(6, .int 19), (7, .int x5), (0, .ref (ad 0)), (1, .int x1), (2, .int x2), (3, .int x3), (4, .int x4), (5, .int x5)]) hx hb dX12_feed_99 hl (k := 1) rfl (by decide) (by decide) rfl (fun ls hl => ?_)
  refine lv_goto (tgt := 18) hx hb dX12_feed_102 (by decide) ?_
  refine lv_iload hx hb dX12_feed_18 (lv_at hl 0 rfl) ?_
  refine lv_bipush (v := 20) hx hb dX12_feed_20 (by decide) ?_
  refine lv_icmp_ge (tgt := 105) hx hb dX12_feed_22 (by decide) (fun h => absurd h (by decide)) (fun _ => ?_)
  refine lv_iload hx hb dX12_feed_25 (lv_at hl 0 rfl) ?_
  refine lv_iconst (v := 4) hx hb dX12_feed_27 (by decide) ?_
  refine lv_icmp_ge (tgt := 35) hx hb dX12_feed_28 (by decide) (fun _ => ?_) (fun h => absurd h (by decide))
  refine lv_iload hx hb dX12_feed_35 (lv_at hl 0 rfl) ?_
  refine lv_bipush (v := 8) hx hb dX12_feed_37 (by decide) ?_
  refine lv_icmp_ge (tgt := 46) hx hb dX12_feed_39 (by decide) (fun _ => ?_) (fun h => absurd h (by decide))
  refine lv_iload hx hb dX12_feed_46 (lv_at hl 0 rfl) ?_
  refine lv_bipush (v := 12) hx hb dX12_feed_48 (by decide) ?_
  refine lv_icmp_ge (tgt := 57) hx hb dX12_feed_50 (by decide) (fun _ => ?_) (fun h => absurd h (by decide))
  refine lv_iload hx hb dX12_feed_57 (lv_at hl 0 rfl) ?_
  refine lv_bipush (v := 16) hx hb dX12_feed_59 (by decide) ?_
  refine lv_icmp_ge (tgt := 69) hx hb dX12_feed_61 (by decide) (fun _ => ?_) (fun h => absurd h (by decide))
  refine lv_iload hx hb dX12_feed_69 (lv_at hl 7 rfl) ?_
  refine lv_istore (lv' := [(7, .int x5), (6, .int 19), (0, .ref (ad 0)), (1, .int x1), (2, .int x2), (3, .int x3), (4, .int x4), (5, .int x5)]) hx hb dX12_feed_71 hl (by decide) rfl (fun ls hl => ?_)
  refine lv_aload_n hx hb dX12_feed_73 rfl (lv_at hl 2 rfl) ?_
  refine cg_get hC hO 0 (by decide) o0 rfl i_X12 0 (by decide) (List.mem_of_getElem? (i := 2) rfl) f0_0 dX12_feed_74 ?_
  refine lv_aload_n hx hb dX12_feed_77 rfl (lv_at hl 2 rfl) ?_
  refine cg_get hC hO 0 (by decide) o0 rfl i_X12 2 (by decide) (List.mem_of_getElem? (i := 1) rfl) f0_2 dX12_feed_78 ?_
  refine lv_iload hx hb dX12_feed_81 (lv_at hl 1 rfl) ?_
  refine lv_iadd hx hb dX12_feed_83 ?_
  refine cg_ev (v := 19) (by decide) ?_
  refine lv_iload hx hb dX12_feed_84 (lv_at hl 0 rfl) ?_
  refine lv_bipush (v := 24) hx hb dX12_feed_86 (by decide) ?_
  refine lv_bipush (v := 8) hx hb dX12_feed_88 (by decide) ?_
  refine lv_iload hx hb dX12_feed_90 (lv_at hl 1 rfl) ?_
  refine lv_iconst (v := 3) hx hb dX12_feed_92 (by decide) ?_
  refine lv_iand hx hb dX12_feed_93 ?_
  refine cg_ev (v := 3) (by decide) ?_
  refine lv_imul hx hb dX12_feed_94 ?_
  refine cg_ev (v := 24) (by decide) ?_
  refine lv_isub hx hb dX12_feed_95 ?_
  refine cg_ev (v := 0) (by decide) ?_
  refine lv_ishr hx hb dX12_feed_96 ?_
  refine lv_i2b (v := ((x5 >>> 0)).toInt8.toInt32) hx hb dX12_feed_97 rfl ?_
  refine cg_bast hC hO 1 (by decide) rfl (cin (by decide)) dX12_feed_98 (fun H locs hO => ?_)
  have hO : cO D cy A s.heap s 2 ad (cup [(1, .inl (cy 3, 1620, .inl (upd c1_98_19 (19 : Int32).toNatClampNeg (vp_nar .byte (((x5 >>> 0)).toInt8.toInt32)))))] g) _ _ := hO
  obtain ⟨c1_98_20, ec1_98_20⟩ : ∃ z, z = (upd c1_98_19 (19 : Int32).toNatClampNeg (vp_nar .byte (((x5 >>> 0)).toInt8.toInt32))) := ⟨_, rfl⟩
  rw [← ec1_98_20] at hO
  have hO : cO D cy A s.heap s 2 ad (cup [(1, .inl (cy 3, 1620, .inl c1_98_20))] g) _ _ := hO
  refine lv_iinc (v := 20) (lv' := [(6, .int 20), (7, .int x5), (0, .ref (ad 0)), (1, .int x1), (2, .int x2), (3, .int x3), (4, .int x4), (5, .int x5)]) hx hb dX12_feed_99 hl (k := 1) rfl (by decide) (by decide) rfl (fun ls hl => ?_)
  refine lv_goto (tgt := 18) hx hb dX12_feed_102 (by decide) ?_
  refine lv_iload hx hb dX12_feed_18 (lv_at hl 0 rfl) ?_
  refine lv_bipush (v := 20) hx hb dX12_feed_20 (by decide) ?_
  refine lv_icmp_ge (tgt := 105) hx hb dX12_feed_22 (by decide) (fun _ => ?_) (fun h => absurd h (by decide))
  refine lv_aload_n hx hb dX12_feed_105 rfl (lv_at hl 2 rfl) ?_
  refine lv_dup hx hb dX12_feed_106 rfl ?_
  refine cg_get hC hO 0 (by decide) o0 rfl i_X12 2 (by decide) (List.mem_of_getElem? (i := 1) rfl) f0_2 dX12_feed_107 ?_
  refine lv_bipush (v := 20) hx hb dX12_feed_110 (by decide) ?_
  refine lv_iadd hx hb dX12_feed_112 ?_
  refine cg_ev (v := 20) (by decide) ?_
  refine cg_put hC hO 0 (by decide) o0 rfl i_X12 tyX12_ok nmX12 2 (by decide) (List.mem_of_getElem? (i := 1) rfl) rfl rfl rfl (fs_lt f0_2) dX12_feed_113 (fun H locs hO => ?_)
  have hO : cO D cy A s.heap s 2 ad (cup [(1, .inl (cy 3, 1620, .inl c1_98_20)), (0, .inr (12, (f0.set 2 (.int 20))))] g) _ _ := hO
  refine lv_aload_n hx hb dX12_feed_116 rfl (lv_at hl 2 rfl) ?_
  refine cg_get hC hO 0 (by decide) rfl rfl i_X12 2 (by decide) (List.mem_of_getElem? (i := 1) rfl) (fs_eq f0_2) dX12_feed_117 ?_
  exact cg_iret (nw := fun _ => 0) hC hr hlk hO.same rfl (Nat.le_of_ble_eq_true rfl) (Nat.le_of_ble_eq_true rfl) rfl dX12_feed_120

theorem dX12_end_0 : decode cX12_end 0 = .ok (.iload_n 1, 1) := by decide +kernel
theorem dX12_end_1 : decode cX12_end 1 = .ok (.ifCond .lt 11, 3) := by decide +kernel
theorem dX12_end_4 : decode cX12_end 4 = .ok (.iload_n 1, 1) := by decide +kernel
theorem dX12_end_5 : decode cX12_end 5 = .ok (.aload_n 0, 1) := by decide +kernel
theorem dX12_end_6 : decode cX12_end 6 = .ok (.getfield 283, 3) := by decide +kernel
theorem dX12_end_9 : decode cX12_end 9 = .ok (.if_icmp .le 5, 3) := by decide +kernel
theorem dX12_end_12 : decode cX12_end 12 = .ok (.iconst (-1), 1) := by decide +kernel
theorem dX12_end_13 : decode cX12_end 13 = .ok (.ireturn, 1) := by decide +kernel
theorem dX12_end_14 : decode cX12_end 14 = .ok (.aload_n 0, 1) := by decide +kernel
theorem dX12_end_15 : decode cX12_end 15 = .ok (.iload_n 1, 1) := by decide +kernel
theorem dX12_end_16 : decode cX12_end 16 = .ok (.putfield 283, 3) := by decide +kernel
theorem dX12_end_19 : decode cX12_end 19 = .ok (.iload_n 1, 1) := by decide +kernel
theorem dX12_end_20 : decode cX12_end 20 = .ok (.ireturn, 1) := by decide +kernel
def wq_c_X12_end : List Cond := Cond.code yX12_end cX12_end 2 (some .int) :: (([Cond.fieldLink RX12 283 "CrowTollModel" "taped" "I"] : List Cond) ++ wsX120)
set_option maxHeartbeats 8000000 in
set_option maxRecDepth 100000 in
theorem c_X12_end (l : Launch) (D : va_G) (cy : Nat → ClassId) (ad : Nat → Nat) (g : Nat → va_E) {f0 : List Value} {n : Int32} (o0 : g 0 = .inr (12, f0)) (f0_2 : f0[2]? = some (.int 0)) : cMi l yX12_end wq_c_X12_end { frames := 0, cells := 0, slots := 0, locals := 0 } 1 0 0 0 D cy ad g [.ref (ad 0), .int n] (fun r nw lu => r = ans_end n) := by
  refine cM_of (Qc := fun A => cQi (fun r nw lu => r = ans_end n) D 1 0 ad g A) (cc := cX12_end) (maxL := 2) (ret := (some .int)) (by decide) rfl (Nat.le_of_ble_eq_true rfl) ?_
  intro p e s m below meth c A hC hr hlk hnm hO ls hl
  have hC : CallFix p m c cX12_end 2 s [.ref (ad 0), .int n].toArray wq_c_X12_end RX12 := hC
  obtain ⟨hx, hb, hml, hown, hts⟩ := id hC
  have hl : lv_has ls 2 [(0, .ref (ad 0)), (1, .int n)] := hl
  have i_X12 : ∀ w ∈ wsX120, w ∈ wq_c_X12_end := fun w h => List.mem_cons_of_mem _ (List.mem_append_right _ h)
  refine lv_iload_n hx hb dX12_end_0 rfl (lv_at hl 1 rfl) ?_
  refine lv_if_lt (tgt := 12) hx hb dX12_end_1 (by decide) (fun h_1_1 => ?_) (fun h_1_1 => ?_)
  · refine lv_iconst (v := (-1)) hx hb dX12_end_12 (by decide) ?_
    exact cg_iret (nw := fun _ => 0) hC hr hlk hO.same rfl (Nat.le_of_ble_eq_true rfl) (Nat.le_of_ble_eq_true rfl) ((if_neg (fun z => absurd z.1 (Int32.not_le.mpr h_1_1))).symm) dX12_end_13
  · refine lv_iload_n hx hb dX12_end_4 rfl (lv_at hl 1 rfl) ?_
    refine lv_aload_n hx hb dX12_end_5 rfl (lv_at hl 0 rfl) ?_
    refine cg_get hC hO 0 (by decide) o0 rfl i_X12 2 (by decide) (List.mem_of_getElem? (i := 1) rfl) f0_2 dX12_end_6 ?_
    refine lv_icmp_le (tgt := 14) hx hb dX12_end_9 (by decide) (fun h_9_2 => ?_) (fun h_9_2 => ?_)
    · refine lv_aload_n hx hb dX12_end_14 rfl (lv_at hl 0 rfl) ?_
      refine lv_iload_n hx hb dX12_end_15 rfl (lv_at hl 1 rfl) ?_
      refine cg_put hC hO 0 (by decide) o0 rfl i_X12 tyX12_ok nmX12 2 (by decide) (List.mem_of_getElem? (i := 1) rfl) rfl rfl rfl (fs_lt f0_2) dX12_end_16 (fun H locs hO => ?_)
      have hO : cO D cy A s.heap s 1 ad (cup [(0, .inr (12, (f0.set 2 (.int n))))] g) _ _ := hO
      refine lv_iload_n hx hb dX12_end_19 rfl (lv_at hl 1 rfl) ?_
      exact cg_iret (nw := fun _ => 0) hC hr hlk hO.same rfl (Nat.le_of_ble_eq_true rfl) (Nat.le_of_ble_eq_true rfl) ((if_pos ⟨(Int32.not_lt.mp h_1_1), h_9_2⟩).symm) dX12_end_20
    · refine lv_iconst (v := (-1)) hx hb dX12_end_12 (by decide) ?_
      exact cg_iret (nw := fun _ => 0) hC hr hlk hO.same rfl (Nat.le_of_ble_eq_true rfl) (Nat.le_of_ble_eq_true rfl) ((if_neg (fun z => absurd z.2 h_9_2)).symm) dX12_end_13

theorem dX12_goOn_0 : decode cX12_goOn 0 = .ok (.aload_n 0, 1) := by decide +kernel
theorem dX12_goOn_1 : decode cX12_goOn 1 = .ok (.aload_n 0, 1) := by decide +kernel
theorem dX12_goOn_2 : decode cX12_goOn 2 = .ok (.getfield 218, 3) := by decide +kernel
theorem dX12_goOn_5 : decode cX12_goOn 5 = .ok (.putfield 221, 3) := by decide +kernel
theorem dX12_goOn_8 : decode cX12_goOn 8 = .ok (.aload_n 0, 1) := by decide +kernel
theorem dX12_goOn_9 : decode cX12_goOn 9 = .ok (.getfield 221, 3) := by decide +kernel
theorem dX12_goOn_12 : decode cX12_goOn 12 = .ok (.aload_n 0, 1) := by decide +kernel
theorem dX12_goOn_13 : decode cX12_goOn 13 = .ok (.getfield 182, 3) := by decide +kernel
theorem dX12_goOn_16 : decode cX12_goOn 16 = .ok (.if_icmp .ge 42, 3) := by decide +kernel
theorem dX12_goOn_58 : decode cX12_goOn 58 = .ok (.aload_n 0, 1) := by decide +kernel
theorem dX12_goOn_59 : decode cX12_goOn 59 = .ok (.aload_n 0, 1) := by decide +kernel
theorem dX12_goOn_60 : decode cX12_goOn 60 = .ok (.getfield 221, 3) := by decide +kernel
theorem dX12_goOn_63 : decode cX12_goOn 63 = .ok (.invokevirtual 224, 3) := by decide +kernel
theorem dX12_goOn_66 : decode cX12_goOn 66 = .ok (.istore_n 1, 1) := by decide +kernel
theorem dX12_goOn_67 : decode cX12_goOn 67 = .ok (.aload_n 0, 1) := by decide +kernel
theorem dX12_goOn_68 : decode cX12_goOn 68 = .ok (.aload_n 0, 1) := by decide +kernel
theorem dX12_goOn_69 : decode cX12_goOn 69 = .ok (.getfield 221, 3) := by decide +kernel
theorem dX12_goOn_72 : decode cX12_goOn 72 = .ok (.iconst 1, 1) := by decide +kernel
theorem dX12_goOn_73 : decode cX12_goOn 73 = .ok (.iadd, 1) := by decide +kernel
theorem dX12_goOn_74 : decode cX12_goOn 74 = .ok (.putfield 218, 3) := by decide +kernel
theorem dX12_goOn_77 : decode cX12_goOn 77 = .ok (.aload_n 0, 1) := by decide +kernel
theorem dX12_goOn_78 : decode cX12_goOn 78 = .ok (.getfield 221, 3) := by decide +kernel
theorem dX12_goOn_81 : decode cX12_goOn 81 = .ok (.aload_n 0, 1) := by decide +kernel
theorem dX12_goOn_82 : decode cX12_goOn 82 = .ok (.getfield 182, 3) := by decide +kernel
theorem dX12_goOn_85 : decode cX12_goOn 85 = .ok (.if_icmp .lt 27, 3) := by decide +kernel
theorem dX12_goOn_88 : decode cX12_goOn 88 = .ok (.aload_n 0, 1) := by decide +kernel
theorem dX12_goOn_89 : decode cX12_goOn 89 = .ok (.iconst 0, 1) := by decide +kernel
theorem dX12_goOn_90 : decode cX12_goOn 90 = .ok (.putfield 228, 3) := by decide +kernel
theorem dX12_goOn_93 : decode cX12_goOn 93 = .ok (.aload_n 0, 1) := by decide +kernel
theorem dX12_goOn_94 : decode cX12_goOn 94 = .ok (.aload_n 0, 1) := by decide +kernel
theorem dX12_goOn_95 : decode cX12_goOn 95 = .ok (.getfield 182, 3) := by decide +kernel
theorem dX12_goOn_98 : decode cX12_goOn 98 = .ok (.putfield 221, 3) := by decide +kernel
theorem dX12_goOn_101 : decode cX12_goOn 101 = .ok (.aload_n 0, 1) := by decide +kernel
theorem dX12_goOn_102 : decode cX12_goOn 102 = .ok (.aload_n 0, 1) := by decide +kernel
theorem dX12_goOn_103 : decode cX12_goOn 103 = .ok (.getfield 182, 3) := by decide +kernel
theorem dX12_goOn_106 : decode cX12_goOn 106 = .ok (.putfield 218, 3) := by decide +kernel
theorem dX12_goOn_109 : decode cX12_goOn 109 = .ok (.goto 268, 3) := by decide +kernel
theorem dX12_goOn_377 : decode cX12_goOn 377 = .ok (.return_, 1) := by decide +kernel
def wq_c_X12_goOn : List Cond := Cond.code yX12_goOn cX12_goOn 3 none :: (([Cond.fieldLink RX12 218 "CrowTollModel" "end" "I", Cond.fieldLink RX12 221 "CrowTollModel" "at" "I", Cond.fieldLink RX12 182 "CrowTollModel" "size" "I", Cond.methodLink RX12 224 yX12_sign, Cond.instanceMethod yX12_sign, Cond.selects RX12 yX12_sign yX12_sign, Cond.initialized RX12, Cond.code yX12_sign cX12_sign 2 (some .int), Cond.fieldLink RX12 228 "CrowTollModel" "token" "I"] : List Cond) ++ wsX120)
set_option maxRecDepth 20000 in
theorem gr_c_X12_goOn_c_X12_sign : GoodIn wq_c_X12_goOn wq_c_X12_sign := List.forall_mem_cons.mpr ⟨⟨(List.mem_of_getElem? (i := 8) rfl), good_of_word rfl⟩, List.forall_mem_append.mpr ⟨List.forall_mem_cons.mpr ⟨⟨(List.mem_of_getElem? (i := 3) rfl), good_of_word rfl⟩, (fun _ h => absurd h List.not_mem_nil)⟩, fun w h => ⟨(fun w h => List.mem_cons_of_mem _ (List.mem_append_right _ h)) w h, good_of_word (List.all_eq_true.mp gw_X12 w h)⟩⟩⟩
set_option maxRecDepth 20000 in
theorem gq_c_X12_goOn_c_X12_sign_224 : GoodIn wq_c_X12_goOn (wsV RX12 224 RX12 yX12_sign wq_c_X12_sign) := goodIn_app (List.forall_mem_cons.mpr ⟨⟨(List.mem_of_getElem? (i := 4) rfl), good_of_word rfl⟩, List.forall_mem_cons.mpr ⟨⟨(List.mem_of_getElem? (i := 5) rfl), good_of_word rfl⟩, List.forall_mem_cons.mpr ⟨⟨(List.mem_of_getElem? (i := 6) rfl), good_of_word rfl⟩, List.forall_mem_cons.mpr ⟨⟨(List.mem_of_getElem? (i := 7) rfl), good_of_word rfl⟩, (fun _ h => absurd h List.not_mem_nil)⟩⟩⟩⟩) gr_c_X12_goOn_c_X12_sign
set_option maxHeartbeats 8000000 in
set_option maxRecDepth 100000 in
theorem c_X12_goOn (l : Launch) (D : va_G) (cy : Nat → ClassId) (ad : Nat → Nat) (g : Nat → va_E) {f0 : List Value} (o0 : g 0 = .inr (12, f0)) (f0_3 : f0[3]? = some (.int 0)) (f0_6 : f0[6]? = some (.int 0)) (f0_7 : f0[7]? = some (.int 0)) (f0_8 : f0[8]? = some (.int 0)) : cMv l yX12_goOn wq_c_X12_goOn { frames := 1, cells := 0, slots := 0, locals := 21 } 1 0 0 0 D cy ad g [.ref (ad 0)] (fun nw lu => lu = [(0, .inr (12, (((((f0.set 6 (.int 0)).set 7 (.int 1)).set 8 (.int 0)).set 6 (.int 0)).set 7 (.int 0))))]) := by
  refine cM_of (Qc := fun A => cQv (fun nw lu => lu = [(0, .inr (12, (((((f0.set 6 (.int 0)).set 7 (.int 1)).set 8 (.int 0)).set 6 (.int 0)).set 7 (.int 0))))]) D 1 0 ad g A) (cc := cX12_goOn) (maxL := 3) (ret := none) (by decide) rfl (Nat.le_of_ble_eq_true rfl) ?_
  intro p e s m below meth c A hC hr hlk hnm hO ls hl
  have hC : CallFix p m c cX12_goOn 3 s [.ref (ad 0)].toArray wq_c_X12_goOn RX12 := hC
  obtain ⟨hx, hb, hml, hown, hts⟩ := id hC
  have hl : lv_has ls 3 [(0, .ref (ad 0))] := hl
  have i_X12 : ∀ w ∈ wsX120, w ∈ wq_c_X12_goOn := fun w h => List.mem_cons_of_mem _ (List.mem_append_right _ h)
  refine lv_aload_n hx hb dX12_goOn_0 rfl (lv_at hl 0 rfl) ?_
  refine lv_aload_n hx hb dX12_goOn_1 rfl (lv_at hl 0 rfl) ?_
  refine cg_get hC hO 0 (by decide) o0 rfl i_X12 7 (by decide) (List.mem_of_getElem? (i := 1) rfl) f0_7 dX12_goOn_2 ?_
  refine cg_put hC hO 0 (by decide) o0 rfl i_X12 tyX12_ok nmX12 6 (by decide) (List.mem_of_getElem? (i := 2) rfl) rfl rfl rfl (fs_lt f0_6) dX12_goOn_5 (fun H locs hO => ?_)
  have hO : cO D cy A s.heap s 1 ad (cup [(0, .inr (12, (f0.set 6 (.int 0))))] g) _ _ := hO
  refine lv_aload_n hx hb dX12_goOn_8 rfl (lv_at hl 0 rfl) ?_
  refine cg_get hC hO 0 (by decide) rfl rfl i_X12 6 (by decide) (List.mem_of_getElem? (i := 2) rfl) (fs_eq f0_6) dX12_goOn_9 ?_
  refine lv_aload_n hx hb dX12_goOn_12 rfl (lv_at hl 0 rfl) ?_
  refine cg_get hC hO 0 (by decide) rfl rfl i_X12 3 (by decide) (List.mem_of_getElem? (i := 3) rfl) (fs_ne (by decide) f0_3) dX12_goOn_13 ?_
  refine lv_icmp_ge (tgt := 58) hx hb dX12_goOn_16 (by decide) (fun _ => ?_) (fun h => absurd h (by decide))
  refine lv_aload_n hx hb dX12_goOn_58 rfl (lv_at hl 0 rfl) ?_
  refine lv_aload_n hx hb dX12_goOn_59 rfl (lv_at hl 0 rfl) ?_
  refine cg_get hC hO 0 (by decide) rfl rfl i_X12 6 (by decide) (List.mem_of_getElem? (i := 2) rfl) (fs_eq f0_6) dX12_goOn_60 ?_
  refine cg_Vi (As := [.int 0]) (rest := []) (mc := 0) (ms := 0) (rm := { frames := 0, cells := 0, slots := 0, locals := 0 }) hC hl.1 hO [0] rfl (c_X12_sign l D cy _ _ (f0 := (f0.set 6 (.int 0))) rfl (fs_ne (by decide) f0_3)) gq_c_X12_goOn_c_X12_sign_224 rfl rfl rfl 1 (by decide +kernel) ⟨Nat.le_of_ble_eq_true rfl, Nat.le_of_ble_eq_true rfl⟩ rfl (by decide) rfl rfl rfl (Nat.le_of_ble_eq_true rfl) dX12_goOn_63 ⟨Nat.le_of_ble_eq_true rfl, Nat.le_of_ble_eq_true rfl⟩ (fun r_63_3 nw_63_1 l_63_2 H locs hw hO => ?_)
  obtain ⟨rfl, rfl⟩ := hw
  have hO : cO D cy A s.heap s 1 ad (cup [(0, .inr (12, (f0.set 6 (.int 0))))] g) _ _ := hO
  refine lv_istore_n (lv' := [(1, .int 0), (0, .ref (ad 0))]) hx hb dX12_goOn_66 rfl hl (by decide) rfl (fun ls hl => ?_)
  refine lv_aload_n hx hb dX12_goOn_67 rfl (lv_at hl 1 rfl) ?_
  refine lv_aload_n hx hb dX12_goOn_68 rfl (lv_at hl 1 rfl) ?_
  refine cg_get hC hO 0 (by decide) rfl rfl i_X12 6 (by decide) (List.mem_of_getElem? (i := 2) rfl) (fs_eq f0_6) dX12_goOn_69 ?_
  refine lv_iconst (v := 1) hx hb dX12_goOn_72 (by decide) ?_
  refine lv_iadd hx hb dX12_goOn_73 ?_
  refine cg_ev (v := 1) (by decide) ?_
  refine cg_put hC hO 0 (by decide) rfl rfl i_X12 tyX12_ok nmX12 7 (by decide) (List.mem_of_getElem? (i := 1) rfl) rfl rfl rfl (fs_lt (fs_ne (by decide) f0_7)) dX12_goOn_74 (fun H locs hO => ?_)
  have hO : cO D cy A s.heap s 1 ad (cup [(0, .inr (12, ((f0.set 6 (.int 0)).set 7 (.int 1))))] g) _ _ := hO
  refine lv_aload_n hx hb dX12_goOn_77 rfl (lv_at hl 1 rfl) ?_
  refine cg_get hC hO 0 (by decide) rfl rfl i_X12 6 (by decide) (List.mem_of_getElem? (i := 2) rfl) (fs_ne (by decide) (fs_eq f0_6)) dX12_goOn_78 ?_
  refine lv_aload_n hx hb dX12_goOn_81 rfl (lv_at hl 1 rfl) ?_
  refine cg_get hC hO 0 (by decide) rfl rfl i_X12 3 (by decide) (List.mem_of_getElem? (i := 3) rfl) (fs_ne (by decide) (fs_ne (by decide) f0_3)) dX12_goOn_82 ?_
  refine lv_icmp_lt (tgt := 112) hx hb dX12_goOn_85 (by decide) (fun h => absurd h (by decide)) (fun _ => ?_)
  refine lv_aload_n hx hb dX12_goOn_88 rfl (lv_at hl 1 rfl) ?_
  refine lv_iconst (v := 0) hx hb dX12_goOn_89 (by decide) ?_
  refine cg_put hC hO 0 (by decide) rfl rfl i_X12 tyX12_ok nmX12 8 (by decide) (List.mem_of_getElem? (i := 9) rfl) rfl rfl rfl (fs_lt (fs_ne (by decide) (fs_ne (by decide) f0_8))) dX12_goOn_90 (fun H locs hO => ?_)
  have hO : cO D cy A s.heap s 1 ad (cup [(0, .inr (12, (((f0.set 6 (.int 0)).set 7 (.int 1)).set 8 (.int 0))))] g) _ _ := hO
  refine lv_aload_n hx hb dX12_goOn_93 rfl (lv_at hl 1 rfl) ?_
  refine lv_aload_n hx hb dX12_goOn_94 rfl (lv_at hl 1 rfl) ?_
  refine cg_get hC hO 0 (by decide) rfl rfl i_X12 3 (by decide) (List.mem_of_getElem? (i := 3) rfl) (fs_ne (by decide) (fs_ne (by decide) (fs_ne (by decide) f0_3))) dX12_goOn_95 ?_
  refine cg_put hC hO 0 (by decide) rfl rfl i_X12 tyX12_ok nmX12 6 (by decide) (List.mem_of_getElem? (i := 2) rfl) rfl rfl rfl (fs_lt (fs_ne (by decide) (fs_ne (by decide) (fs_eq f0_6)))) dX12_goOn_98 (fun H locs hO => ?_)
  have hO : cO D cy A s.heap s 1 ad (cup [(0, .inr (12, ((((f0.set 6 (.int 0)).set 7 (.int 1)).set 8 (.int 0)).set 6 (.int 0))))] g) _ _ := hO
  refine lv_aload_n hx hb dX12_goOn_101 rfl (lv_at hl 1 rfl) ?_
  refine lv_aload_n hx hb dX12_goOn_102 rfl (lv_at hl 1 rfl) ?_
  refine cg_get hC hO 0 (by decide) rfl rfl i_X12 3 (by decide) (List.mem_of_getElem? (i := 3) rfl) (fs_ne (by decide) (fs_ne (by decide) (fs_ne (by decide) (fs_ne (by decide) f0_3)))) dX12_goOn_103 ?_
  refine cg_put hC hO 0 (by decide) rfl rfl i_X12 tyX12_ok nmX12 7 (by decide) (List.mem_of_getElem? (i := 1) rfl) rfl rfl rfl (fs_lt (fs_ne (by decide) (fs_ne (by decide) (fs_eq (fs_ne (by decide) f0_7))))) dX12_goOn_106 (fun H locs hO => ?_)
  have hO : cO D cy A s.heap s 1 ad (cup [(0, .inr (12, (((((f0.set 6 (.int 0)).set 7 (.int 1)).set 8 (.int 0)).set 6 (.int 0)).set 7 (.int 0))))] g) _ _ := hO
  refine lv_goto (tgt := 377) hx hb dX12_goOn_109 (by decide) ?_
  exact cg_vret (nw := fun _ => 0) hC hr hlk hO.same (Nat.le_of_ble_eq_true rfl) (Nat.le_of_ble_eq_true rfl) rfl dX12_goOn_377

theorem dX12_road_0 : decode cX12_road 0 = .ok (.aload_n 0, 1) := by decide +kernel
theorem dX12_road_1 : decode cX12_road 1 = .ok (.iconst 0, 1) := by decide +kernel
theorem dX12_road_2 : decode cX12_road 2 = .ok (.putfield 185, 3) := by decide +kernel
theorem dX12_road_5 : decode cX12_road 5 = .ok (.aload_n 0, 1) := by decide +kernel
theorem dX12_road_6 : decode cX12_road 6 = .ok (.iconst (-1), 1) := by decide +kernel
theorem dX12_road_7 : decode cX12_road 7 = .ok (.putfield 16, 3) := by decide +kernel
theorem dX12_road_10 : decode cX12_road 10 = .ok (.aload_n 0, 1) := by decide +kernel
theorem dX12_road_11 : decode cX12_road 11 = .ok (.aload_n 0, 1) := by decide +kernel
theorem dX12_road_12 : decode cX12_road 12 = .ok (.getfield 283, 3) := by decide +kernel
theorem dX12_road_15 : decode cX12_road 15 = .ok (.putfield 182, 3) := by decide +kernel
theorem dX12_road_18 : decode cX12_road 18 = .ok (.iconst 0, 1) := by decide +kernel
theorem dX12_road_19 : decode cX12_road 19 = .ok (.istore_n 1, 1) := by decide +kernel
theorem dX12_road_20 : decode cX12_road 20 = .ok (.iload_n 1, 1) := by decide +kernel
theorem dX12_road_21 : decode cX12_road 21 = .ok (.aload_n 0, 1) := by decide +kernel
theorem dX12_road_22 : decode cX12_road 22 = .ok (.getfield 182, 3) := by decide +kernel
theorem dX12_road_25 : decode cX12_road 25 = .ok (.if_icmp .ge 21, 3) := by decide +kernel
theorem dX12_road_46 : decode cX12_road 46 = .ok (.aload_n 0, 1) := by decide +kernel
theorem dX12_road_47 : decode cX12_road 47 = .ok (.iconst 0, 1) := by decide +kernel
theorem dX12_road_48 : decode cX12_road 48 = .ok (.putfield 283, 3) := by decide +kernel
theorem dX12_road_51 : decode cX12_road 51 = .ok (.aload_n 0, 1) := by decide +kernel
theorem dX12_road_52 : decode cX12_road 52 = .ok (.iconst 0, 1) := by decide +kernel
theorem dX12_road_53 : decode cX12_road 53 = .ok (.putfield 218, 3) := by decide +kernel
theorem dX12_road_56 : decode cX12_road 56 = .ok (.aload_n 0, 1) := by decide +kernel
theorem dX12_road_57 : decode cX12_road 57 = .ok (.iconst 1, 1) := by decide +kernel
theorem dX12_road_58 : decode cX12_road 58 = .ok (.aload_n 0, 1) := by decide +kernel
theorem dX12_road_59 : decode cX12_road 59 = .ok (.getfield 286, 3) := by decide +kernel
theorem dX12_road_62 : decode cX12_road 62 = .ok (.isub, 1) := by decide +kernel
theorem dX12_road_63 : decode cX12_road 63 = .ok (.putfield 277, 3) := by decide +kernel
theorem dX12_road_66 : decode cX12_road 66 = .ok (.aload_n 0, 1) := by decide +kernel
theorem dX12_road_67 : decode cX12_road 67 = .ok (.invokevirtual 176, 3) := by decide +kernel
theorem dX12_road_70 : decode cX12_road 70 = .ok (.aload_n 0, 1) := by decide +kernel
theorem dX12_road_71 : decode cX12_road 71 = .ok (.invokevirtual 260, 3) := by decide +kernel
theorem dX12_road_74 : decode cX12_road 74 = .ok (.aload_n 0, 1) := by decide +kernel
theorem dX12_road_75 : decode cX12_road 75 = .ok (.invokevirtual 256, 3) := by decide +kernel
theorem dX12_road_78 : decode cX12_road 78 = .ok (.ifCond .eq 17, 3) := by decide +kernel
theorem dX12_road_81 : decode cX12_road 81 = .ok (.aload_n 0, 1) := by decide +kernel
theorem dX12_road_82 : decode cX12_road 82 = .ok (.getfield 228, 3) := by decide +kernel
theorem dX12_road_85 : decode cX12_road 85 = .ok (.ifCond .eq 10, 3) := by decide +kernel
theorem dX12_road_95 : decode cX12_road 95 = .ok (.aload_n 0, 1) := by decide +kernel
theorem dX12_road_96 : decode cX12_road 96 = .ok (.invokevirtual 256, 3) := by decide +kernel
theorem dX12_road_99 : decode cX12_road 99 = .ok (.ifCond .ne 5, 3) := by decide +kernel
theorem dX12_road_104 : decode cX12_road 104 = .ok (.aload_n 0, 1) := by decide +kernel
theorem dX12_road_105 : decode cX12_road 105 = .ok (.aload_n 0, 1) := by decide +kernel
theorem dX12_road_106 : decode cX12_road 106 = .ok (.getfield 277, 3) := by decide +kernel
theorem dX12_road_109 : decode cX12_road 109 = .ok (.putfield 286, 3) := by decide +kernel
theorem dX12_road_112 : decode cX12_road 112 = .ok (.aload_n 0, 1) := by decide +kernel
theorem dX12_road_113 : decode cX12_road 113 = .ok (.invokevirtual 179, 3) := by decide +kernel
theorem dX12_road_116 : decode cX12_road 116 = .ok (.aload_n 0, 1) := by decide +kernel
theorem dX12_road_117 : decode cX12_road 117 = .ok (.iconst 0, 1) := by decide +kernel
theorem dX12_road_118 : decode cX12_road 118 = .ok (.putfield 292, 3) := by decide +kernel
theorem dX12_road_121 : decode cX12_road 121 = .ok (.aload_n 0, 1) := by decide +kernel
theorem dX12_road_122 : decode cX12_road 122 = .ok (.iconst 0, 1) := by decide +kernel
theorem dX12_road_123 : decode cX12_road 123 = .ok (.putfield 295, 3) := by decide +kernel
theorem dX12_road_126 : decode cX12_road 126 = .ok (.iconst 0, 1) := by decide +kernel
theorem dX12_road_127 : decode cX12_road 127 = .ok (.istore_n 1, 1) := by decide +kernel
theorem dX12_road_128 : decode cX12_road 128 = .ok (.iload_n 1, 1) := by decide +kernel
theorem dX12_road_129 : decode cX12_road 129 = .ok (.iconst 3, 1) := by decide +kernel
theorem dX12_road_130 : decode cX12_road 130 = .ok (.if_icmp .ge 16, 3) := by decide +kernel
theorem dX12_road_133 : decode cX12_road 133 = .ok (.aload_n 0, 1) := by decide +kernel
theorem dX12_road_134 : decode cX12_road 134 = .ok (.getfield 173, 3) := by decide +kernel
theorem dX12_road_137 : decode cX12_road 137 = .ok (.iload_n 1, 1) := by decide +kernel
theorem dX12_road_138 : decode cX12_road 138 = .ok (.iconst 0, 1) := by decide +kernel
theorem dX12_road_139 : decode cX12_road 139 = .ok (.bastore, 1) := by decide +kernel
theorem dX12_road_140 : decode cX12_road 140 = .ok (.iinc 1 1, 3) := by decide +kernel
theorem dX12_road_143 : decode cX12_road 143 = .ok (.goto (-15), 3) := by decide +kernel
theorem dX12_road_146 : decode cX12_road 146 = .ok (.aload_n 0, 1) := by decide +kernel
theorem dX12_road_147 : decode cX12_road 147 = .ok (.getfield 27, 3) := by decide +kernel
theorem dX12_road_150 : decode cX12_road 150 = .ok (.aload_n 0, 1) := by decide +kernel
theorem dX12_road_151 : decode cX12_road 151 = .ok (.getfield 286, 3) := by decide +kernel
theorem dX12_road_154 : decode cX12_road 154 = .ok (.iaload, 1) := by decide +kernel
theorem dX12_road_155 : decode cX12_road 155 = .ok (.ireturn, 1) := by decide +kernel
def wq_c_X12_road : List Cond := Cond.code yX12_road cX12_road 2 (some .int) :: (([Cond.fieldLink RX12 185 "CrowTollModel" "faultKind" "I", Cond.fieldLink RX12 16 "CrowTollModel" "faultPlace" "I", Cond.fieldLink RX12 283 "CrowTollModel" "taped" "I", Cond.fieldLink RX12 182 "CrowTollModel" "size" "I", Cond.fieldLink RX12 218 "CrowTollModel" "end" "I", Cond.fieldLink RX12 286 "CrowTollModel" "bank" "I", Cond.fieldLink RX12 277 "CrowTollModel" "rb" "I", Cond.methodLink RX12 176 yX12_clearBank, Cond.instanceMethod yX12_clearBank, Cond.selects RX12 yX12_clearBank yX12_clearBank, Cond.initialized RX12, Cond.code yX12_clearBank cX12_clearBank 2 none, Cond.fieldLink RX12 20 "CrowTollModel" "birds" "[I", Cond.fieldLink RX12 24 "CrowTollModel" "posts" "[I", Cond.fieldLink RX12 27 "CrowTollModel" "carts" "[I", Cond.fieldLink RX12 30 "CrowTollModel" "units" "[I", Cond.fieldLink RX12 70 "CrowTollModel" "isLaw" "[Z", Cond.fieldLink RX12 280 "CrowTollModel" "codes" "I", Cond.fieldLink RX12 42 "CrowTollModel" "postOf" "[I", Cond.methodLink RX12 260 yX12_goOn, Cond.instanceMethod yX12_goOn, Cond.selects RX12 yX12_goOn yX12_goOn, Cond.code yX12_goOn cX12_goOn 3 none, Cond.fieldLink RX12 221 "CrowTollModel" "at" "I", Cond.methodLink RX12 224 yX12_sign, Cond.instanceMethod yX12_sign, Cond.selects RX12 yX12_sign yX12_sign, Cond.code yX12_sign cX12_sign 2 (some .int), Cond.fieldLink RX12 228 "CrowTollModel" "token" "I", Cond.methodLink RX12 256 yX12_isGood, Cond.instanceMethod yX12_isGood, Cond.selects RX12 yX12_isGood yX12_isGood, Cond.code yX12_isGood cX12_isGood 1 (some .boolean), Cond.methodLink RX12 179 yX12_begin, Cond.instanceMethod yX12_begin, Cond.selects RX12 yX12_begin yX12_begin, Cond.code yX12_begin cX12_begin 2 none, Cond.fieldLink RX12 98 "CrowTollModel" "state" "[I", Cond.methodLink RX12 363 yX12_birdMany, Cond.instanceMethod yX12_birdMany, Cond.selects RX12 yX12_birdMany yX12_birdMany, Cond.code yX12_birdMany cX12_birdMany 1 (some .int), Cond.fieldLink RX12 373 "CrowTollModel" "acts" "I", Cond.fieldLink RX12 376 "CrowTollModel" "undone" "I", Cond.fieldLink RX12 292 "CrowTollModel" "sights" "I", Cond.fieldLink RX12 295 "CrowTollModel" "laid" "I", Cond.fieldLink RX12 173 "CrowTollModel" "isBoxed" "[Z"] : List Cond) ++ wsX120)
set_option maxRecDepth 20000 in
theorem gr_c_X12_road_c_clearBank1 : GoodIn wq_c_X12_road wq_c_clearBank1 := List.forall_mem_cons.mpr ⟨⟨(List.mem_of_getElem? (i := 12) rfl), good_of_word rfl⟩, List.forall_mem_append.mpr ⟨List.forall_mem_cons.mpr ⟨⟨(List.mem_of_getElem? (i := 13) rfl), good_of_word rfl⟩, List.forall_mem_cons.mpr ⟨⟨(List.mem_of_getElem? (i := 7) rfl), good_of_word rfl⟩, List.forall_mem_cons.mpr ⟨⟨(List.mem_of_getElem? (i := 14) rfl), good_of_word rfl⟩, List.forall_mem_cons.mpr ⟨⟨(List.mem_of_getElem? (i := 15) rfl), good_of_word rfl⟩, List.forall_mem_cons.mpr ⟨⟨(List.mem_of_getElem? (i := 16) rfl), good_of_word rfl⟩, List.forall_mem_cons.mpr ⟨⟨(List.mem_of_getElem? (i := 17) rfl), good_of_word rfl⟩, List.forall_mem_cons.mpr ⟨⟨(List.mem_of_getElem? (i := 18) rfl), good_of_word rfl⟩, List.forall_mem_cons.mpr ⟨⟨(List.mem_of_getElem? (i := 19) rfl), good_of_word rfl⟩, (fun _ h => absurd h List.not_mem_nil)⟩⟩⟩⟩⟩⟩⟩⟩, fun w h => ⟨(fun w h => List.mem_cons_of_mem _ (List.mem_append_right _ h)) w h, good_of_word (List.all_eq_true.mp gw_X12 w h)⟩⟩⟩
set_option maxRecDepth 20000 in
theorem gq_c_X12_road_c_clearBank1_176 : GoodIn wq_c_X12_road (wsV RX12 176 RX12 yX12_clearBank wq_c_clearBank1) := goodIn_app (List.forall_mem_cons.mpr ⟨⟨(List.mem_of_getElem? (i := 8) rfl), good_of_word rfl⟩, List.forall_mem_cons.mpr ⟨⟨(List.mem_of_getElem? (i := 9) rfl), good_of_word rfl⟩, List.forall_mem_cons.mpr ⟨⟨(List.mem_of_getElem? (i := 10) rfl), good_of_word rfl⟩, List.forall_mem_cons.mpr ⟨⟨(List.mem_of_getElem? (i := 11) rfl), good_of_word rfl⟩, (fun _ h => absurd h List.not_mem_nil)⟩⟩⟩⟩) gr_c_X12_road_c_clearBank1
set_option maxRecDepth 20000 in
theorem gr_c_X12_road_c_X12_goOn : GoodIn wq_c_X12_road wq_c_X12_goOn := List.forall_mem_cons.mpr ⟨⟨(List.mem_of_getElem? (i := 23) rfl), good_of_word rfl⟩, List.forall_mem_append.mpr ⟨List.forall_mem_cons.mpr ⟨⟨(List.mem_of_getElem? (i := 5) rfl), good_of_word rfl⟩, List.forall_mem_cons.mpr ⟨⟨(List.mem_of_getElem? (i := 24) rfl), good_of_word rfl⟩, List.forall_mem_cons.mpr ⟨⟨(List.mem_of_getElem? (i := 4) rfl), good_of_word rfl⟩, List.forall_mem_cons.mpr ⟨⟨(List.mem_of_getElem? (i := 25) rfl), good_of_word rfl⟩, List.forall_mem_cons.mpr ⟨⟨(List.mem_of_getElem? (i := 26) rfl), good_of_word rfl⟩, List.forall_mem_cons.mpr ⟨⟨(List.mem_of_getElem? (i := 27) rfl), good_of_word rfl⟩, List.forall_mem_cons.mpr ⟨⟨(List.mem_of_getElem? (i := 11) rfl), good_of_word rfl⟩, List.forall_mem_cons.mpr ⟨⟨(List.mem_of_getElem? (i := 28) rfl), good_of_word rfl⟩, List.forall_mem_cons.mpr ⟨⟨(List.mem_of_getElem? (i := 29) rfl), good_of_word rfl⟩, (fun _ h => absurd h List.not_mem_nil)⟩⟩⟩⟩⟩⟩⟩⟩⟩, fun w h => ⟨(fun w h => List.mem_cons_of_mem _ (List.mem_append_right _ h)) w h, good_of_word (List.all_eq_true.mp gw_X12 w h)⟩⟩⟩
set_option maxRecDepth 20000 in
theorem gq_c_X12_road_c_X12_goOn_260 : GoodIn wq_c_X12_road (wsV RX12 260 RX12 yX12_goOn wq_c_X12_goOn) := goodIn_app (List.forall_mem_cons.mpr ⟨⟨(List.mem_of_getElem? (i := 20) rfl), good_of_word rfl⟩, List.forall_mem_cons.mpr ⟨⟨(List.mem_of_getElem? (i := 21) rfl), good_of_word rfl⟩, List.forall_mem_cons.mpr ⟨⟨(List.mem_of_getElem? (i := 22) rfl), good_of_word rfl⟩, List.forall_mem_cons.mpr ⟨⟨(List.mem_of_getElem? (i := 11) rfl), good_of_word rfl⟩, (fun _ h => absurd h List.not_mem_nil)⟩⟩⟩⟩) gr_c_X12_road_c_X12_goOn
set_option maxRecDepth 20000 in
theorem gr_c_X12_road_c_X12_isGood : GoodIn wq_c_X12_road wq_c_X12_isGood := List.forall_mem_cons.mpr ⟨⟨(List.mem_of_getElem? (i := 33) rfl), good_of_word rfl⟩, List.forall_mem_append.mpr ⟨List.forall_mem_cons.mpr ⟨⟨(List.mem_of_getElem? (i := 1) rfl), good_of_word rfl⟩, (fun _ h => absurd h List.not_mem_nil)⟩, fun w h => ⟨(fun w h => List.mem_cons_of_mem _ (List.mem_append_right _ h)) w h, good_of_word (List.all_eq_true.mp gw_X12 w h)⟩⟩⟩
set_option maxRecDepth 20000 in
theorem gq_c_X12_road_c_X12_isGood_256 : GoodIn wq_c_X12_road (wsV RX12 256 RX12 yX12_isGood wq_c_X12_isGood) := goodIn_app (List.forall_mem_cons.mpr ⟨⟨(List.mem_of_getElem? (i := 30) rfl), good_of_word rfl⟩, List.forall_mem_cons.mpr ⟨⟨(List.mem_of_getElem? (i := 31) rfl), good_of_word rfl⟩, List.forall_mem_cons.mpr ⟨⟨(List.mem_of_getElem? (i := 32) rfl), good_of_word rfl⟩, List.forall_mem_cons.mpr ⟨⟨(List.mem_of_getElem? (i := 11) rfl), good_of_word rfl⟩, (fun _ h => absurd h List.not_mem_nil)⟩⟩⟩⟩) gr_c_X12_road_c_X12_isGood
set_option maxRecDepth 20000 in
theorem gr_c_X12_road_c_begin1 : GoodIn wq_c_X12_road wq_c_begin1 := List.forall_mem_cons.mpr ⟨⟨(List.mem_of_getElem? (i := 37) rfl), good_of_word rfl⟩, List.forall_mem_append.mpr ⟨List.forall_mem_cons.mpr ⟨⟨(List.mem_of_getElem? (i := 38) rfl), good_of_word rfl⟩, List.forall_mem_cons.mpr ⟨⟨(List.mem_of_getElem? (i := 15) rfl), good_of_word rfl⟩, List.forall_mem_cons.mpr ⟨⟨(List.mem_of_getElem? (i := 6) rfl), good_of_word rfl⟩, List.forall_mem_cons.mpr ⟨⟨(List.mem_of_getElem? (i := 39) rfl), good_of_word rfl⟩, List.forall_mem_cons.mpr ⟨⟨(List.mem_of_getElem? (i := 40) rfl), good_of_word rfl⟩, List.forall_mem_cons.mpr ⟨⟨(List.mem_of_getElem? (i := 41) rfl), good_of_word rfl⟩, List.forall_mem_cons.mpr ⟨⟨(List.mem_of_getElem? (i := 11) rfl), good_of_word rfl⟩, List.forall_mem_cons.mpr ⟨⟨(List.mem_of_getElem? (i := 42) rfl), good_of_word rfl⟩, List.forall_mem_cons.mpr ⟨⟨(List.mem_of_getElem? (i := 13) rfl), good_of_word rfl⟩, List.forall_mem_cons.mpr ⟨⟨(List.mem_of_getElem? (i := 43) rfl), good_of_word rfl⟩, List.forall_mem_cons.mpr ⟨⟨(List.mem_of_getElem? (i := 44) rfl), good_of_word rfl⟩, (fun _ h => absurd h List.not_mem_nil)⟩⟩⟩⟩⟩⟩⟩⟩⟩⟩⟩, fun w h => ⟨(fun w h => List.mem_cons_of_mem _ (List.mem_append_right _ h)) w h, good_of_word (List.all_eq_true.mp gw_X12 w h)⟩⟩⟩
set_option maxRecDepth 20000 in
theorem gq_c_X12_road_c_begin1_179 : GoodIn wq_c_X12_road (wsV RX12 179 RX12 yX12_begin wq_c_begin1) := goodIn_app (List.forall_mem_cons.mpr ⟨⟨(List.mem_of_getElem? (i := 34) rfl), good_of_word rfl⟩, List.forall_mem_cons.mpr ⟨⟨(List.mem_of_getElem? (i := 35) rfl), good_of_word rfl⟩, List.forall_mem_cons.mpr ⟨⟨(List.mem_of_getElem? (i := 36) rfl), good_of_word rfl⟩, List.forall_mem_cons.mpr ⟨⟨(List.mem_of_getElem? (i := 11) rfl), good_of_word rfl⟩, (fun _ h => absurd h List.not_mem_nil)⟩⟩⟩⟩) gr_c_X12_road_c_begin1
set_option maxHeartbeats 8000000 in
set_option maxRecDepth 100000 in
theorem c_X12_road (l : Launch) (D : va_G) (cy : Nat → ClassId) (ad : Nat → Nat) (g : Nat → va_E) {f0 : List Value} {c6 : Nat → Int32} (o0 : g 0 = .inr (12, f0)) (f0_2 : f0[2]? = some (.int 0)) (f0_3 : f0[3]? = some (.int 0)) (f0_4 : f0[4]? = some (.int 0)) (f0_5 : f0[5]? = some (.int (-1))) (f0_6 : f0[6]? = some (.int 0)) (f0_7 : f0[7]? = some (.int 0)) (f0_8 : f0[8]? = some (.int 0)) (f0_11 : f0[11]? = some (.ref (ad 1))) (f0_12 : f0[12]? = some (.ref (ad 2))) (f0_13 : f0[13]? = some (.ref (ad 3))) (f0_14 : f0[14]? = some (.ref (ad 4))) (f0_18 : f0[18]? = some (.ref (ad 6))) (f0_27 : f0[27]? = some (.ref (ad 5))) (f0_36 : f0[36]? = some (.int 0)) (f0_37 : f0[37]? = some (.int 0)) (f0_38 : f0[38]? = some (.int 0)) (f0_41 : f0[41]? = some (.ref (ad 7))) (f0_59 : f0[59]? = some (.int 0)) (f0_60 : f0[60]? = some (.int 0)) (f0_62 : f0[62]? = some (.int 0)) (f0_70 : f0[70]? = some (.int 0)) (f0_73 : f0[73]? = some (.ref (ad 8))) (a1 : g 1 = .inl (cy 0, 2, .inl (fun _ => 0))) (a2 : g 2 = .inl (cy 0, 2, .inl (fun _ => 0))) (a3 : g 3 = .inl (cy 0, 2, .inl (fun _ => 0))) (a4 : g 4 = .inl (cy 0, 2, .inl (fun _ => 0))) (a5 : g 5 = .inl (cy 2, 2, .inl (fun _ => 0))) (a6 : g 6 = .inl (cy 0, 10, .inl c6)) (a7 : g 7 = .inl (cy 0, 80, .inl (fun _ => 0))) (a8 : g 8 = .inl (cy 2, 3, .inl (fun _ => 0))) : cMi l yX12_road wq_c_X12_road { frames := 2, cells := 0, slots := 0, locals := 43 } 9 0 0 0 D cy ad g [.ref (ad 0)] (fun r nw lu => r = 0) := by
  refine cM_of (Qc := fun A => cQi (fun r nw lu => r = 0) D 9 0 ad g A) (cc := cX12_road) (maxL := 2) (ret := (some .int)) (by decide) rfl (Nat.le_of_ble_eq_true rfl) ?_
  intro p e s m below meth c A hC hr hlk hnm hO ls hl
  have hC : CallFix p m c cX12_road 2 s [.ref (ad 0)].toArray wq_c_X12_road RX12 := hC
  obtain ⟨hx, hb, hml, hown, hts⟩ := id hC
  have hl : lv_has ls 2 [(0, .ref (ad 0))] := hl
  have i_X12 : ∀ w ∈ wsX120, w ∈ wq_c_X12_road := fun w h => List.mem_cons_of_mem _ (List.mem_append_right _ h)
  refine lv_aload_n hx hb dX12_road_0 rfl (lv_at hl 0 rfl) ?_
  refine lv_iconst (v := 0) hx hb dX12_road_1 (by decide) ?_
  refine cg_put hC hO 0 (by decide) o0 rfl i_X12 tyX12_ok nmX12 4 (by decide) (List.mem_of_getElem? (i := 1) rfl) rfl rfl rfl (fs_lt f0_4) dX12_road_2 (fun H locs hO => ?_)
  have hO : cO D cy A s.heap s 9 ad (cup [(0, .inr (12, (f0.set 4 (.int 0))))] g) _ _ := hO
  refine lv_aload_n hx hb dX12_road_5 rfl (lv_at hl 0 rfl) ?_
  refine lv_iconst (v := (-1)) hx hb dX12_road_6 (by decide) ?_
  refine cg_put hC hO 0 (by decide) rfl rfl i_X12 tyX12_ok nmX12 5 (by decide) (List.mem_of_getElem? (i := 2) rfl) rfl rfl rfl (fs_lt (fs_ne (by decide) f0_5)) dX12_road_7 (fun H locs hO => ?_)
  have hO : cO D cy A s.heap s 9 ad (cup [(0, .inr (12, ((f0.set 4 (.int 0)).set 5 (.int (-1)))))] g) _ _ := hO
  refine lv_aload_n hx hb dX12_road_10 rfl (lv_at hl 0 rfl) ?_
  refine lv_aload_n hx hb dX12_road_11 rfl (lv_at hl 0 rfl) ?_
  refine cg_get hC hO 0 (by decide) rfl rfl i_X12 2 (by decide) (List.mem_of_getElem? (i := 3) rfl) (fs_ne (by decide) (fs_ne (by decide) f0_2)) dX12_road_12 ?_
  refine cg_put hC hO 0 (by decide) rfl rfl i_X12 tyX12_ok nmX12 3 (by decide) (List.mem_of_getElem? (i := 4) rfl) rfl rfl rfl (fs_lt (fs_ne (by decide) (fs_ne (by decide) f0_3))) dX12_road_15 (fun H locs hO => ?_)
  have hO : cO D cy A s.heap s 9 ad (cup [(0, .inr (12, (((f0.set 4 (.int 0)).set 5 (.int (-1))).set 3 (.int 0))))] g) _ _ := hO
  refine lv_iconst (v := 0) hx hb dX12_road_18 (by decide) ?_
  refine lv_istore_n (lv' := [(1, .int 0), (0, .ref (ad 0))]) hx hb dX12_road_19 rfl hl (by decide) rfl (fun ls hl => ?_)
  refine lv_iload_n hx hb dX12_road_20 rfl (lv_at hl 0 rfl) ?_
  refine lv_aload_n hx hb dX12_road_21 rfl (lv_at hl 1 rfl) ?_
  refine cg_get hC hO 0 (by decide) rfl rfl i_X12 3 (by decide) (List.mem_of_getElem? (i := 4) rfl) (fs_eq (fs_ne (by decide) (fs_ne (by decide) f0_3))) dX12_road_22 ?_
  refine lv_icmp_ge (tgt := 46) hx hb dX12_road_25 (by decide) (fun _ => ?_) (fun h => absurd h (by decide))
  refine lv_aload_n hx hb dX12_road_46 rfl (lv_at hl 1 rfl) ?_
  refine lv_iconst (v := 0) hx hb dX12_road_47 (by decide) ?_
  refine cg_put hC hO 0 (by decide) rfl rfl i_X12 tyX12_ok nmX12 2 (by decide) (List.mem_of_getElem? (i := 3) rfl) rfl rfl rfl (fs_lt (fs_ne (by decide) (fs_ne (by decide) (fs_ne (by decide) f0_2)))) dX12_road_48 (fun H locs hO => ?_)
  have hO : cO D cy A s.heap s 9 ad (cup [(0, .inr (12, ((((f0.set 4 (.int 0)).set 5 (.int (-1))).set 3 (.int 0)).set 2 (.int 0))))] g) _ _ := hO
  refine lv_aload_n hx hb dX12_road_51 rfl (lv_at hl 1 rfl) ?_
  refine lv_iconst (v := 0) hx hb dX12_road_52 (by decide) ?_
  refine cg_put hC hO 0 (by decide) rfl rfl i_X12 tyX12_ok nmX12 7 (by decide) (List.mem_of_getElem? (i := 5) rfl) rfl rfl rfl (fs_lt (fs_ne (by decide) (fs_ne (by decide) (fs_ne (by decide) (fs_ne (by decide) f0_7))))) dX12_road_53 (fun H locs hO => ?_)
  have hO : cO D cy A s.heap s 9 ad (cup [(0, .inr (12, (((((f0.set 4 (.int 0)).set 5 (.int (-1))).set 3 (.int 0)).set 2 (.int 0)).set 7 (.int 0))))] g) _ _ := hO
  refine lv_aload_n hx hb dX12_road_56 rfl (lv_at hl 1 rfl) ?_
  refine lv_iconst (v := 1) hx hb dX12_road_57 (by decide) ?_
  refine lv_aload_n hx hb dX12_road_58 rfl (lv_at hl 1 rfl) ?_
  refine cg_get hC hO 0 (by decide) rfl rfl i_X12 36 (by decide) (List.mem_of_getElem? (i := 6) rfl) (fs_ne (by decide) (fs_ne (by decide) (fs_ne (by decide) (fs_ne (by decide) (fs_ne (by decide) f0_36))))) dX12_road_59 ?_
  refine lv_isub hx hb dX12_road_62 ?_
  refine cg_ev (v := 1) (by decide) ?_
  refine cg_put hC hO 0 (by decide) rfl rfl i_X12 tyX12_ok nmX12 37 (by decide) (List.mem_of_getElem? (i := 7) rfl) rfl rfl rfl (fs_lt (fs_ne (by decide) (fs_ne (by decide) (fs_ne (by decide) (fs_ne (by decide) (fs_ne (by decide) f0_37)))))) dX12_road_63 (fun H locs hO => ?_)
  have hO : cO D cy A s.heap s 9 ad (cup [(0, .inr (12, ((((((f0.set 4 (.int 0)).set 5 (.int (-1))).set 3 (.int 0)).set 2 (.int 0)).set 7 (.int 0)).set 37 (.int 1))))] g) _ _ := hO
  refine lv_aload_n hx hb dX12_road_66 rfl (lv_at hl 1 rfl) ?_
  refine cg_Vv (As := []) (rest := []) (mc := 0) (ms := 0) (rm := { frames := 0, cells := 0, slots := 0, locals := 0 }) hC hl.1 hO [0, 1, 2, 3, 4, 5, 6] rfl (c_clearBank1 l D cy _ _ (f0 := ((((((f0.set 4 (.int 0)).set 5 (.int (-1))).set 3 (.int 0)).set 2 (.int 0)).set 7 (.int 0)).set 37 (.int 1))) (x := 0) (c6 := c6) rfl (fs_ne (by decide) (fs_ne (by decide) (fs_ne (by decide) (fs_ne (by decide) (fs_ne (by decide) (fs_ne (by decide) f0_11)))))) (fs_ne (by decide) (fs_ne (by decide) (fs_ne (by decide) (fs_ne (by decide) (fs_ne (by decide) (fs_ne (by decide) f0_12)))))) (fs_ne (by decide) (fs_ne (by decide) (fs_ne (by decide) (fs_ne (by decide) (fs_ne (by decide) (fs_ne (by decide) f0_13)))))) (fs_ne (by decide) (fs_ne (by decide) (fs_ne (by decide) (fs_ne (by decide) (fs_ne (by decide) (fs_ne (by decide) f0_14)))))) (fs_ne (by decide) (fs_ne (by decide) (fs_ne (by decide) (fs_ne (by decide) (fs_ne (by decide) (fs_ne (by decide) f0_27)))))) (fs_eq (fs_ne (by decide) (fs_ne (by decide) (fs_ne (by decide) (fs_ne (by decide) (fs_ne (by decide) f0_37)))))) (fs_ne (by decide) (fs_ne (by decide) (fs_ne (by decide) (fs_ne (by decide) (fs_ne (by decide) (fs_ne (by decide) f0_38)))))) (fs_ne (by decide) (fs_ne (by decide) (fs_ne (by decide) (fs_ne (by decide) (fs_ne (by decide) (fs_ne (by decide) f0_18)))))) a1 a2 a3 a4 a5 a6) gq_c_X12_road_c_clearBank1_176 rfl rfl rfl 0 (by decide +kernel) ⟨Nat.le_of_ble_eq_true rfl, Nat.le_of_ble_eq_true rfl⟩ rfl (by decide) rfl rfl rfl (Nat.le_of_ble_eq_true rfl) dX12_road_67 ⟨Nat.le_of_ble_eq_true rfl, Nat.le_of_ble_eq_true rfl⟩ (fun nw_67_1 l_67_2 H locs hw hO => ?_)
  obtain rfl := hw
  have hO : cO D cy A s.heap s 9 ad (cup [(0, .inr (12, (((((((f0.set 4 (.int 0)).set 5 (.int (-1))).set 3 (.int 0)).set 2 (.int 0)).set 7 (.int 0)).set 37 (.int 1)).set 38 (.int 490)))), (6, .inl (cy 0, 10, .inl (upd (upd (upd (upd (upd c6 (5 : Int32).toNatClampNeg (-1)) (6 : Int32).toNatClampNeg (-1)) (7 : Int32).toNatClampNeg (-1)) (8 : Int32).toNatClampNeg (-1)) (9 : Int32).toNatClampNeg (-1)))), (5, .inl (cy 2, 2, .inl (fun _ => 0))), (4, .inl (cy 0, 2, .inl (fun _ => 0))), (3, .inl (cy 0, 2, .inl (fun _ => 0))), (2, .inl (cy 0, 2, .inl (fun _ => 0))), (1, .inl (cy 0, 2, .inl (fun _ => 0)))] g) _ _ := hO
  refine lv_aload_n hx hb dX12_road_70 rfl (lv_at hl 1 rfl) ?_
  refine cg_Vv (As := []) (rest := []) (mc := 0) (ms := 0) (rm := { frames := 1, cells := 0, slots := 0, locals := 21 }) hC hl.1 hO [0] rfl (c_X12_goOn l D cy _ _ (f0 := (((((((f0.set 4 (.int 0)).set 5 (.int (-1))).set 3 (.int 0)).set 2 (.int 0)).set 7 (.int 0)).set 37 (.int 1)).set 38 (.int 490))) rfl (fs_ne (by decide) (fs_ne (by decide) (fs_ne (by decide) (fs_ne (by decide) (fs_eq (fs_ne (by decide) (fs_ne (by decide) f0_3))))))) (fs_ne (by decide) (fs_ne (by decide) (fs_ne (by decide) (fs_ne (by decide) (fs_ne (by decide) (fs_ne (by decide) (fs_ne (by decide) f0_6))))))) (fs_ne (by decide) (fs_ne (by decide) (fs_eq (fs_ne (by decide) (fs_ne (by decide) (fs_ne (by decide) (fs_ne (by decide) f0_7))))))) (fs_ne (by decide) (fs_ne (by decide) (fs_ne (by decide) (fs_ne (by decide) (fs_ne (by decide) (fs_ne (by decide) (fs_ne (by decide) f0_8)))))))) gq_c_X12_road_c_X12_goOn_260 rfl rfl rfl 0 (by decide +kernel) ⟨Nat.le_of_ble_eq_true rfl, Nat.le_of_ble_eq_true rfl⟩ rfl (by decide) rfl rfl rfl (Nat.le_of_ble_eq_true rfl) dX12_road_71 ⟨Nat.le_of_ble_eq_true rfl, Nat.le_of_ble_eq_true rfl⟩ (fun nw_71_4 l_71_5 H locs hw hO => ?_)
  obtain rfl := hw
  have hO : cO D cy A s.heap s 9 ad (cup [(0, .inr (12, ((((((((((((f0.set 4 (.int 0)).set 5 (.int (-1))).set 3 (.int 0)).set 2 (.int 0)).set 7 (.int 0)).set 37 (.int 1)).set 38 (.int 490)).set 6 (.int 0)).set 7 (.int 1)).set 8 (.int 0)).set 6 (.int 0)).set 7 (.int 0)))), (6, .inl (cy 0, 10, .inl (upd (upd (upd (upd (upd c6 (5 : Int32).toNatClampNeg (-1)) (6 : Int32).toNatClampNeg (-1)) (7 : Int32).toNatClampNeg (-1)) (8 : Int32).toNatClampNeg (-1)) (9 : Int32).toNatClampNeg (-1)))), (5, .inl (cy 2, 2, .inl (fun _ => 0))), (4, .inl (cy 0, 2, .inl (fun _ => 0))), (3, .inl (cy 0, 2, .inl (fun _ => 0))), (2, .inl (cy 0, 2, .inl (fun _ => 0))), (1, .inl (cy 0, 2, .inl (fun _ => 0)))] g) _ _ := hO
  refine lv_aload_n hx hb dX12_road_74 rfl (lv_at hl 1 rfl) ?_
  refine cg_Vi (As := []) (rest := []) (mc := 0) (ms := 0) (rm := { frames := 0, cells := 0, slots := 0, locals := 0 }) hC hl.1 hO [0] rfl (c_X12_isGood l D cy _ _ (f0 := ((((((((((((f0.set 4 (.int 0)).set 5 (.int (-1))).set 3 (.int 0)).set 2 (.int 0)).set 7 (.int 0)).set 37 (.int 1)).set 38 (.int 490)).set 6 (.int 0)).set 7 (.int 1)).set 8 (.int 0)).set 6 (.int 0)).set 7 (.int 0))) rfl (fs_ne (by decide) (fs_ne (by decide) (fs_ne (by decide) (fs_ne (by decide) (fs_ne (by decide) (fs_ne (by decide) (fs_ne (by decide) (fs_ne (by decide) (fs_ne (by decide) (fs_ne (by decide) (fs_ne (by decide) (fs_eq f0_4))))))))))))) gq_c_X12_road_c_X12_isGood_256 rfl rfl rfl 0 (by decide +kernel) ⟨Nat.le_of_ble_eq_true rfl, Nat.le_of_ble_eq_true rfl⟩ rfl (by decide) rfl rfl rfl (Nat.le_of_ble_eq_true rfl) dX12_road_75 ⟨Nat.le_of_ble_eq_true rfl, Nat.le_of_ble_eq_true rfl⟩ (fun r_75_9 nw_75_7 l_75_8 H locs hw hO => ?_)
  obtain ⟨rfl, rfl⟩ := hw
  have hO : cO D cy A s.heap s 9 ad (cup [(0, .inr (12, ((((((((((((f0.set 4 (.int 0)).set 5 (.int (-1))).set 3 (.int 0)).set 2 (.int 0)).set 7 (.int 0)).set 37 (.int 1)).set 38 (.int 490)).set 6 (.int 0)).set 7 (.int 1)).set 8 (.int 0)).set 6 (.int 0)).set 7 (.int 0)))), (6, .inl (cy 0, 10, .inl (upd (upd (upd (upd (upd c6 (5 : Int32).toNatClampNeg (-1)) (6 : Int32).toNatClampNeg (-1)) (7 : Int32).toNatClampNeg (-1)) (8 : Int32).toNatClampNeg (-1)) (9 : Int32).toNatClampNeg (-1)))), (5, .inl (cy 2, 2, .inl (fun _ => 0))), (4, .inl (cy 0, 2, .inl (fun _ => 0))), (3, .inl (cy 0, 2, .inl (fun _ => 0))), (2, .inl (cy 0, 2, .inl (fun _ => 0))), (1, .inl (cy 0, 2, .inl (fun _ => 0)))] g) _ _ := hO
  refine lv_if_eq (tgt := 95) hx hb dX12_road_78 (by decide) (fun h => absurd h (by decide)) (fun _ => ?_)
  refine lv_aload_n hx hb dX12_road_81 rfl (lv_at hl 1 rfl) ?_
  refine cg_get hC hO 0 (by decide) rfl rfl i_X12 8 (by decide) (List.mem_of_getElem? (i := 29) rfl) (fs_ne (by decide) (fs_ne (by decide) (fs_eq (fs_ne (by decide) (fs_ne (by decide) (fs_ne (by decide) (fs_ne (by decide) (fs_ne (by decide) (fs_ne (by decide) (fs_ne (by decide) (fs_ne (by decide) (fs_ne (by decide) f0_8)))))))))))) dX12_road_82 ?_
  refine lv_if_eq (tgt := 95) hx hb dX12_road_85 (by decide) (fun _ => ?_) (fun h => absurd h (by decide))
  refine lv_aload_n hx hb dX12_road_95 rfl (lv_at hl 1 rfl) ?_
  refine cg_Vi (As := []) (rest := []) (mc := 0) (ms := 0) (rm := { frames := 0, cells := 0, slots := 0, locals := 0 }) hC hl.1 hO [0] rfl (c_X12_isGood l D cy _ _ (f0 := ((((((((((((f0.set 4 (.int 0)).set 5 (.int (-1))).set 3 (.int 0)).set 2 (.int 0)).set 7 (.int 0)).set 37 (.int 1)).set 38 (.int 490)).set 6 (.int 0)).set 7 (.int 1)).set 8 (.int 0)).set 6 (.int 0)).set 7 (.int 0))) rfl (fs_ne (by decide) (fs_ne (by decide) (fs_ne (by decide) (fs_ne (by decide) (fs_ne (by decide) (fs_ne (by decide) (fs_ne (by decide) (fs_ne (by decide) (fs_ne (by decide) (fs_ne (by decide) (fs_ne (by decide) (fs_eq f0_4))))))))))))) gq_c_X12_road_c_X12_isGood_256 rfl rfl rfl 0 (by decide +kernel) ⟨Nat.le_of_ble_eq_true rfl, Nat.le_of_ble_eq_true rfl⟩ rfl (by decide) rfl rfl rfl (Nat.le_of_ble_eq_true rfl) dX12_road_96 ⟨Nat.le_of_ble_eq_true rfl, Nat.le_of_ble_eq_true rfl⟩ (fun r_96_12 nw_96_10 l_96_11 H locs hw hO => ?_)
  obtain ⟨rfl, rfl⟩ := hw
  have hO : cO D cy A s.heap s 9 ad (cup [(0, .inr (12, ((((((((((((f0.set 4 (.int 0)).set 5 (.int (-1))).set 3 (.int 0)).set 2 (.int 0)).set 7 (.int 0)).set 37 (.int 1)).set 38 (.int 490)).set 6 (.int 0)).set 7 (.int 1)).set 8 (.int 0)).set 6 (.int 0)).set 7 (.int 0)))), (6, .inl (cy 0, 10, .inl (upd (upd (upd (upd (upd c6 (5 : Int32).toNatClampNeg (-1)) (6 : Int32).toNatClampNeg (-1)) (7 : Int32).toNatClampNeg (-1)) (8 : Int32).toNatClampNeg (-1)) (9 : Int32).toNatClampNeg (-1)))), (5, .inl (cy 2, 2, .inl (fun _ => 0))), (4, .inl (cy 0, 2, .inl (fun _ => 0))), (3, .inl (cy 0, 2, .inl (fun _ => 0))), (2, .inl (cy 0, 2, .inl (fun _ => 0))), (1, .inl (cy 0, 2, .inl (fun _ => 0)))] g) _ _ := hO
  refine lv_if_ne (tgt := 104) hx hb dX12_road_99 (by decide) (fun _ => ?_) (fun h => absurd h (by decide))
  refine lv_aload_n hx hb dX12_road_104 rfl (lv_at hl 1 rfl) ?_
  refine lv_aload_n hx hb dX12_road_105 rfl (lv_at hl 1 rfl) ?_
  refine cg_get hC hO 0 (by decide) rfl rfl i_X12 37 (by decide) (List.mem_of_getElem? (i := 7) rfl) (fs_ne (by decide) (fs_ne (by decide) (fs_ne (by decide) (fs_ne (by decide) (fs_ne (by decide) (fs_ne (by decide) (fs_eq (fs_ne (by decide) (fs_ne (by decide) (fs_ne (by decide) (fs_ne (by decide) (fs_ne (by decide) f0_37)))))))))))) dX12_road_106 ?_
  refine cg_put hC hO 0 (by decide) rfl rfl i_X12 tyX12_ok nmX12 36 (by decide) (List.mem_of_getElem? (i := 6) rfl) rfl rfl rfl (fs_lt (fs_ne (by decide) (fs_ne (by decide) (fs_ne (by decide) (fs_ne (by decide) (fs_ne (by decide) (fs_ne (by decide) (fs_ne (by decide) (fs_ne (by decide) (fs_ne (by decide) (fs_ne (by decide) (fs_ne (by decide) (fs_ne (by decide) f0_36))))))))))))) dX12_road_109 (fun H locs hO => ?_)
  have hO : cO D cy A s.heap s 9 ad (cup [(0, .inr (12, (((((((((((((f0.set 4 (.int 0)).set 5 (.int (-1))).set 3 (.int 0)).set 2 (.int 0)).set 7 (.int 0)).set 37 (.int 1)).set 38 (.int 490)).set 6 (.int 0)).set 7 (.int 1)).set 8 (.int 0)).set 6 (.int 0)).set 7 (.int 0)).set 36 (.int 1)))), (6, .inl (cy 0, 10, .inl (upd (upd (upd (upd (upd c6 (5 : Int32).toNatClampNeg (-1)) (6 : Int32).toNatClampNeg (-1)) (7 : Int32).toNatClampNeg (-1)) (8 : Int32).toNatClampNeg (-1)) (9 : Int32).toNatClampNeg (-1)))), (5, .inl (cy 2, 2, .inl (fun _ => 0))), (4, .inl (cy 0, 2, .inl (fun _ => 0))), (3, .inl (cy 0, 2, .inl (fun _ => 0))), (2, .inl (cy 0, 2, .inl (fun _ => 0))), (1, .inl (cy 0, 2, .inl (fun _ => 0)))] g) _ _ := hO
  refine lv_aload_n hx hb dX12_road_112 rfl (lv_at hl 1 rfl) ?_
  refine cg_Vv (As := []) (rest := []) (mc := 0) (ms := 0) (rm := { frames := 1, cells := 0, slots := 0, locals := 20 }) hC hl.1 hO [0, 7, 3, 1] rfl (c_begin1 l D cy _ _ (f0 := (((((((((((((f0.set 4 (.int 0)).set 5 (.int (-1))).set 3 (.int 0)).set 2 (.int 0)).set 7 (.int 0)).set 37 (.int 1)).set 38 (.int 490)).set 6 (.int 0)).set 7 (.int 1)).set 8 (.int 0)).set 6 (.int 0)).set 7 (.int 0)).set 36 (.int 1))) (x := 0) (y := 0) rfl (fs_ne (by decide) (fs_ne (by decide) (fs_ne (by decide) (fs_ne (by decide) (fs_ne (by decide) (fs_ne (by decide) (fs_ne (by decide) (fs_ne (by decide) (fs_ne (by decide) (fs_ne (by decide) (fs_ne (by decide) (fs_ne (by decide) (fs_ne (by decide) f0_41))))))))))))) (fs_ne (by decide) (fs_ne (by decide) (fs_ne (by decide) (fs_ne (by decide) (fs_ne (by decide) (fs_ne (by decide) (fs_ne (by decide) (fs_ne (by decide) (fs_ne (by decide) (fs_ne (by decide) (fs_ne (by decide) (fs_ne (by decide) (fs_ne (by decide) f0_13))))))))))))) (fs_eq (fs_ne (by decide) (fs_ne (by decide) (fs_ne (by decide) (fs_ne (by decide) (fs_ne (by decide) (fs_ne (by decide) (fs_ne (by decide) (fs_ne (by decide) (fs_ne (by decide) (fs_ne (by decide) (fs_ne (by decide) (fs_ne (by decide) f0_36))))))))))))) (fs_ne (by decide) (fs_ne (by decide) (fs_ne (by decide) (fs_ne (by decide) (fs_ne (by decide) (fs_ne (by decide) (fs_ne (by decide) (fs_ne (by decide) (fs_ne (by decide) (fs_ne (by decide) (fs_ne (by decide) (fs_ne (by decide) (fs_ne (by decide) f0_11))))))))))))) (fs_ne (by decide) (fs_ne (by decide) (fs_ne (by decide) (fs_ne (by decide) (fs_ne (by decide) (fs_ne (by decide) (fs_ne (by decide) (fs_ne (by decide) (fs_ne (by decide) (fs_ne (by decide) (fs_ne (by decide) (fs_ne (by decide) (fs_ne (by decide) f0_59))))))))))))) (fs_ne (by decide) (fs_ne (by decide) (fs_ne (by decide) (fs_ne (by decide) (fs_ne (by decide) (fs_ne (by decide) (fs_ne (by decide) (fs_ne (by decide) (fs_ne (by decide) (fs_ne (by decide) (fs_ne (by decide) (fs_ne (by decide) (fs_ne (by decide) f0_60))))))))))))) a7 rfl rfl) gq_c_X12_road_c_begin1_179 rfl rfl rfl 0 (by decide +kernel) ⟨Nat.le_of_ble_eq_true rfl, Nat.le_of_ble_eq_true rfl⟩ rfl (by decide) rfl rfl rfl (Nat.le_of_ble_eq_true rfl) dX12_road_113 ⟨Nat.le_of_ble_eq_true rfl, Nat.le_of_ble_eq_true rfl⟩ (fun nw_113_13 l_113_14 H locs hw hO => ?_)
  obtain rfl := hw
  have hO : cO D cy A s.heap s 9 ad (cup [(0, .inr (12, (((((((((((((((f0.set 4 (.int 0)).set 5 (.int (-1))).set 3 (.int 0)).set 2 (.int 0)).set 7 (.int 0)).set 37 (.int 1)).set 38 (.int 490)).set 6 (.int 0)).set 7 (.int 1)).set 8 (.int 0)).set 6 (.int 0)).set 7 (.int 0)).set 36 (.int 1)).set 59 (.int 0)).set 60 (.int 0)))), (6, .inl (cy 0, 10, .inl (upd (upd (upd (upd (upd c6 (5 : Int32).toNatClampNeg (-1)) (6 : Int32).toNatClampNeg (-1)) (7 : Int32).toNatClampNeg (-1)) (8 : Int32).toNatClampNeg (-1)) (9 : Int32).toNatClampNeg (-1)))), (5, .inl (cy 2, 2, .inl (fun _ => 0))), (4, .inl (cy 0, 2, .inl (fun _ => 0))), (3, .inl (cy 0, 2, .inl (fun _ => 0))), (2, .inl (cy 0, 2, .inl (fun _ => 0))), (1, .inl (cy 0, 2, .inl (fun _ => 0))), (7, .inl (cy 0, 80, .inl (fun _ => 0)))] g) _ _ := hO
  refine lv_aload_n hx hb dX12_road_116 rfl (lv_at hl 1 rfl) ?_
  refine lv_iconst (v := 0) hx hb dX12_road_117 (by decide) ?_
  refine cg_put hC hO 0 (by decide) rfl rfl i_X12 tyX12_ok nmX12 70 (by decide) (List.mem_of_getElem? (i := 45) rfl) rfl rfl rfl (fs_lt (fs_ne (by decide) (fs_ne (by decide) (fs_ne (by decide) (fs_ne (by decide) (fs_ne (by decide) (fs_ne (by decide) (fs_ne (by decide) (fs_ne (by decide) (fs_ne (by decide) (fs_ne (by decide) (fs_ne (by decide) (fs_ne (by decide) (fs_ne (by decide) (fs_ne (by decide) (fs_ne (by decide) f0_70)))))))))))))))) dX12_road_118 (fun H locs hO => ?_)
  have hO : cO D cy A s.heap s 9 ad (cup [(0, .inr (12, ((((((((((((((((f0.set 4 (.int 0)).set 5 (.int (-1))).set 3 (.int 0)).set 2 (.int 0)).set 7 (.int 0)).set 37 (.int 1)).set 38 (.int 490)).set 6 (.int 0)).set 7 (.int 1)).set 8 (.int 0)).set 6 (.int 0)).set 7 (.int 0)).set 36 (.int 1)).set 59 (.int 0)).set 60 (.int 0)).set 70 (.int 0)))), (6, .inl (cy 0, 10, .inl (upd (upd (upd (upd (upd c6 (5 : Int32).toNatClampNeg (-1)) (6 : Int32).toNatClampNeg (-1)) (7 : Int32).toNatClampNeg (-1)) (8 : Int32).toNatClampNeg (-1)) (9 : Int32).toNatClampNeg (-1)))), (5, .inl (cy 2, 2, .inl (fun _ => 0))), (4, .inl (cy 0, 2, .inl (fun _ => 0))), (3, .inl (cy 0, 2, .inl (fun _ => 0))), (2, .inl (cy 0, 2, .inl (fun _ => 0))), (1, .inl (cy 0, 2, .inl (fun _ => 0))), (7, .inl (cy 0, 80, .inl (fun _ => 0)))] g) _ _ := hO
  refine lv_aload_n hx hb dX12_road_121 rfl (lv_at hl 1 rfl) ?_
  refine lv_iconst (v := 0) hx hb dX12_road_122 (by decide) ?_
  refine cg_put hC hO 0 (by decide) rfl rfl i_X12 tyX12_ok nmX12 62 (by decide) (List.mem_of_getElem? (i := 46) rfl) rfl rfl rfl (fs_lt (fs_ne (by decide) (fs_ne (by decide) (fs_ne (by decide) (fs_ne (by decide) (fs_ne (by decide) (fs_ne (by decide) (fs_ne (by decide) (fs_ne (by decide) (fs_ne (by decide) (fs_ne (by decide) (fs_ne (by decide) (fs_ne (by decide) (fs_ne (by decide) (fs_ne (by decide) (fs_ne (by decide) (fs_ne (by decide) f0_62))))))))))))))))) dX12_road_123 (fun H locs hO => ?_)
  have hO : cO D cy A s.heap s 9 ad (cup [(0, .inr (12, (((((((((((((((((f0.set 4 (.int 0)).set 5 (.int (-1))).set 3 (.int 0)).set 2 (.int 0)).set 7 (.int 0)).set 37 (.int 1)).set 38 (.int 490)).set 6 (.int 0)).set 7 (.int 1)).set 8 (.int 0)).set 6 (.int 0)).set 7 (.int 0)).set 36 (.int 1)).set 59 (.int 0)).set 60 (.int 0)).set 70 (.int 0)).set 62 (.int 0)))), (6, .inl (cy 0, 10, .inl (upd (upd (upd (upd (upd c6 (5 : Int32).toNatClampNeg (-1)) (6 : Int32).toNatClampNeg (-1)) (7 : Int32).toNatClampNeg (-1)) (8 : Int32).toNatClampNeg (-1)) (9 : Int32).toNatClampNeg (-1)))), (5, .inl (cy 2, 2, .inl (fun _ => 0))), (4, .inl (cy 0, 2, .inl (fun _ => 0))), (3, .inl (cy 0, 2, .inl (fun _ => 0))), (2, .inl (cy 0, 2, .inl (fun _ => 0))), (1, .inl (cy 0, 2, .inl (fun _ => 0))), (7, .inl (cy 0, 80, .inl (fun _ => 0)))] g) _ _ := hO
  refine lv_iconst (v := 0) hx hb dX12_road_126 (by decide) ?_
  refine lv_istore_n (lv' := [(1, .int 0), (0, .ref (ad 0))]) hx hb dX12_road_127 rfl hl (by decide) rfl (fun ls hl => ?_)
  refine lv_iload_n hx hb dX12_road_128 rfl (lv_at hl 0 rfl) ?_
  refine lv_iconst (v := 3) hx hb dX12_road_129 (by decide) ?_
  refine lv_icmp_ge (tgt := 146) hx hb dX12_road_130 (by decide) (fun h => absurd h (by decide)) (fun _ => ?_)
  refine lv_aload_n hx hb dX12_road_133 rfl (lv_at hl 1 rfl) ?_
  refine cg_get hC hO 0 (by decide) rfl rfl i_X12 73 (by decide) (List.mem_of_getElem? (i := 47) rfl) (fs_ne (by decide) (fs_ne (by decide) (fs_ne (by decide) (fs_ne (by decide) (fs_ne (by decide) (fs_ne (by decide) (fs_ne (by decide) (fs_ne (by decide) (fs_ne (by decide) (fs_ne (by decide) (fs_ne (by decide) (fs_ne (by decide) (fs_ne (by decide) (fs_ne (by decide) (fs_ne (by decide) (fs_ne (by decide) (fs_ne (by decide) f0_73))))))))))))))))) dX12_road_134 ?_
  refine lv_iload_n hx hb dX12_road_137 rfl (lv_at hl 0 rfl) ?_
  refine lv_iconst (v := 0) hx hb dX12_road_138 (by decide) ?_
  refine cg_zast hC hO 8 (by decide) a8 (cin (by decide)) dX12_road_139 (fun H locs hO => ?_)
  have hO : cO D cy A s.heap s 9 ad (cup [(0, .inr (12, (((((((((((((((((f0.set 4 (.int 0)).set 5 (.int (-1))).set 3 (.int 0)).set 2 (.int 0)).set 7 (.int 0)).set 37 (.int 1)).set 38 (.int 490)).set 6 (.int 0)).set 7 (.int 1)).set 8 (.int 0)).set 6 (.int 0)).set 7 (.int 0)).set 36 (.int 1)).set 59 (.int 0)).set 60 (.int 0)).set 70 (.int 0)).set 62 (.int 0)))), (6, .inl (cy 0, 10, .inl (upd (upd (upd (upd (upd c6 (5 : Int32).toNatClampNeg (-1)) (6 : Int32).toNatClampNeg (-1)) (7 : Int32).toNatClampNeg (-1)) (8 : Int32).toNatClampNeg (-1)) (9 : Int32).toNatClampNeg (-1)))), (5, .inl (cy 2, 2, .inl (fun _ => 0))), (4, .inl (cy 0, 2, .inl (fun _ => 0))), (3, .inl (cy 0, 2, .inl (fun _ => 0))), (2, .inl (cy 0, 2, .inl (fun _ => 0))), (1, .inl (cy 0, 2, .inl (fun _ => 0))), (7, .inl (cy 0, 80, .inl (fun _ => 0))), (8, .inl (cy 2, 3, .inl (upd (fun _ => 0) (0 : Int32).toNatClampNeg 0)))] g) _ _ := hO
  rw [upd_const] at hO
  have hO : cO D cy A s.heap s 9 ad (cup [(0, .inr (12, (((((((((((((((((f0.set 4 (.int 0)).set 5 (.int (-1))).set 3 (.int 0)).set 2 (.int 0)).set 7 (.int 0)).set 37 (.int 1)).set 38 (.int 490)).set 6 (.int 0)).set 7 (.int 1)).set 8 (.int 0)).set 6 (.int 0)).set 7 (.int 0)).set 36 (.int 1)).set 59 (.int 0)).set 60 (.int 0)).set 70 (.int 0)).set 62 (.int 0)))), (6, .inl (cy 0, 10, .inl (upd (upd (upd (upd (upd c6 (5 : Int32).toNatClampNeg (-1)) (6 : Int32).toNatClampNeg (-1)) (7 : Int32).toNatClampNeg (-1)) (8 : Int32).toNatClampNeg (-1)) (9 : Int32).toNatClampNeg (-1)))), (5, .inl (cy 2, 2, .inl (fun _ => 0))), (4, .inl (cy 0, 2, .inl (fun _ => 0))), (3, .inl (cy 0, 2, .inl (fun _ => 0))), (2, .inl (cy 0, 2, .inl (fun _ => 0))), (1, .inl (cy 0, 2, .inl (fun _ => 0))), (7, .inl (cy 0, 80, .inl (fun _ => 0))), (8, .inl (cy 2, 3, .inl (fun _ => 0)))] g) _ _ := hO
  refine lv_iinc (v := 1) (lv' := [(1, .int 1), (0, .ref (ad 0))]) hx hb dX12_road_140 hl (k := 0) rfl (by decide) (by decide) rfl (fun ls hl => ?_)
  refine lv_goto (tgt := 128) hx hb dX12_road_143 (by decide) ?_
  refine lv_iload_n hx hb dX12_road_128 rfl (lv_at hl 0 rfl) ?_
  refine lv_iconst (v := 3) hx hb dX12_road_129 (by decide) ?_
  refine lv_icmp_ge (tgt := 146) hx hb dX12_road_130 (by decide) (fun h => absurd h (by decide)) (fun _ => ?_)
  refine lv_aload_n hx hb dX12_road_133 rfl (lv_at hl 1 rfl) ?_
  refine cg_get hC hO 0 (by decide) rfl rfl i_X12 73 (by decide) (List.mem_of_getElem? (i := 47) rfl) (fs_ne (by decide) (fs_ne (by decide) (fs_ne (by decide) (fs_ne (by decide) (fs_ne (by decide) (fs_ne (by decide) (fs_ne (by decide) (fs_ne (by decide) (fs_ne (by decide) (fs_ne (by decide) (fs_ne (by decide) (fs_ne (by decide) (fs_ne (by decide) (fs_ne (by decide) (fs_ne (by decide) (fs_ne (by decide) (fs_ne (by decide) f0_73))))))))))))))))) dX12_road_134 ?_
  refine lv_iload_n hx hb dX12_road_137 rfl (lv_at hl 0 rfl) ?_
  refine lv_iconst (v := 0) hx hb dX12_road_138 (by decide) ?_
  refine cg_zast hC hO 8 (by decide) rfl (cin (by decide)) dX12_road_139 (fun H locs hO => ?_)
  have hO : cO D cy A s.heap s 9 ad (cup [(0, .inr (12, (((((((((((((((((f0.set 4 (.int 0)).set 5 (.int (-1))).set 3 (.int 0)).set 2 (.int 0)).set 7 (.int 0)).set 37 (.int 1)).set 38 (.int 490)).set 6 (.int 0)).set 7 (.int 1)).set 8 (.int 0)).set 6 (.int 0)).set 7 (.int 0)).set 36 (.int 1)).set 59 (.int 0)).set 60 (.int 0)).set 70 (.int 0)).set 62 (.int 0)))), (6, .inl (cy 0, 10, .inl (upd (upd (upd (upd (upd c6 (5 : Int32).toNatClampNeg (-1)) (6 : Int32).toNatClampNeg (-1)) (7 : Int32).toNatClampNeg (-1)) (8 : Int32).toNatClampNeg (-1)) (9 : Int32).toNatClampNeg (-1)))), (5, .inl (cy 2, 2, .inl (fun _ => 0))), (4, .inl (cy 0, 2, .inl (fun _ => 0))), (3, .inl (cy 0, 2, .inl (fun _ => 0))), (2, .inl (cy 0, 2, .inl (fun _ => 0))), (1, .inl (cy 0, 2, .inl (fun _ => 0))), (7, .inl (cy 0, 80, .inl (fun _ => 0))), (8, .inl (cy 2, 3, .inl (upd (fun _ => 0) (1 : Int32).toNatClampNeg 0)))] g) _ _ := hO
  rw [upd_const] at hO
  have hO : cO D cy A s.heap s 9 ad (cup [(0, .inr (12, (((((((((((((((((f0.set 4 (.int 0)).set 5 (.int (-1))).set 3 (.int 0)).set 2 (.int 0)).set 7 (.int 0)).set 37 (.int 1)).set 38 (.int 490)).set 6 (.int 0)).set 7 (.int 1)).set 8 (.int 0)).set 6 (.int 0)).set 7 (.int 0)).set 36 (.int 1)).set 59 (.int 0)).set 60 (.int 0)).set 70 (.int 0)).set 62 (.int 0)))), (6, .inl (cy 0, 10, .inl (upd (upd (upd (upd (upd c6 (5 : Int32).toNatClampNeg (-1)) (6 : Int32).toNatClampNeg (-1)) (7 : Int32).toNatClampNeg (-1)) (8 : Int32).toNatClampNeg (-1)) (9 : Int32).toNatClampNeg (-1)))), (5, .inl (cy 2, 2, .inl (fun _ => 0))), (4, .inl (cy 0, 2, .inl (fun _ => 0))), (3, .inl (cy 0, 2, .inl (fun _ => 0))), (2, .inl (cy 0, 2, .inl (fun _ => 0))), (1, .inl (cy 0, 2, .inl (fun _ => 0))), (7, .inl (cy 0, 80, .inl (fun _ => 0))), (8, .inl (cy 2, 3, .inl (fun _ => 0)))] g) _ _ := hO
  refine lv_iinc (v := 2) (lv' := [(1, .int 2), (0, .ref (ad 0))]) hx hb dX12_road_140 hl (k := 0) rfl (by decide) (by decide) rfl (fun ls hl => ?_)
  refine lv_goto (tgt := 128) hx hb dX12_road_143 (by decide) ?_
  refine lv_iload_n hx hb dX12_road_128 rfl (lv_at hl 0 rfl) ?_
  refine lv_iconst (v := 3) hx hb dX12_road_129 (by decide) ?_
  refine lv_icmp_ge (tgt := 146) hx hb dX12_road_130 (by decide) (fun h => absurd h (by decide)) (fun _ => ?_)
  refine lv_aload_n hx hb dX12_road_133 rfl (lv_at hl 1 rfl) ?_
  refine cg_get hC hO 0 (by decide) rfl rfl i_X12 73 (by decide) (List.mem_of_getElem? (i := 47) rfl) (fs_ne (by decide) (fs_ne (by decide) (fs_ne (by decide) (fs_ne (by decide) (fs_ne (by decide) (fs_ne (by decide) (fs_ne (by decide) (fs_ne (by decide) (fs_ne (by decide) (fs_ne (by decide) (fs_ne (by decide) (fs_ne (by decide) (fs_ne (by decide) (fs_ne (by decide) (fs_ne (by decide) (fs_ne (by decide) (fs_ne (by decide) f0_73))))))))))))))))) dX12_road_134 ?_
  refine lv_iload_n hx hb dX12_road_137 rfl (lv_at hl 0 rfl) ?_
  refine lv_iconst (v := 0) hx hb dX12_road_138 (by decide) ?_
  refine cg_zast hC hO 8 (by decide) rfl (cin (by decide)) dX12_road_139 (fun H locs hO => ?_)
  have hO : cO D cy A s.heap s 9 ad (cup [(0, .inr (12, (((((((((((((((((f0.set 4 (.int 0)).set 5 (.int (-1))).set 3 (.int 0)).set 2 (.int 0)).set 7 (.int 0)).set 37 (.int 1)).set 38 (.int 490)).set 6 (.int 0)).set 7 (.int 1)).set 8 (.int 0)).set 6 (.int 0)).set 7 (.int 0)).set 36 (.int 1)).set 59 (.int 0)).set 60 (.int 0)).set 70 (.int 0)).set 62 (.int 0)))), (6, .inl (cy 0, 10, .inl (upd (upd (upd (upd (upd c6 (5 : Int32).toNatClampNeg (-1)) (6 : Int32).toNatClampNeg (-1)) (7 : Int32).toNatClampNeg (-1)) (8 : Int32).toNatClampNeg (-1)) (9 : Int32).toNatClampNeg (-1)))), (5, .inl (cy 2, 2, .inl (fun _ => 0))), (4, .inl (cy 0, 2, .inl (fun _ => 0))), (3, .inl (cy 0, 2, .inl (fun _ => 0))), (2, .inl (cy 0, 2, .inl (fun _ => 0))), (1, .inl (cy 0, 2, .inl (fun _ => 0))), (7, .inl (cy 0, 80, .inl (fun _ => 0))), (8, .inl (cy 2, 3, .inl (upd (fun _ => 0) (2 : Int32).toNatClampNeg 0)))] g) _ _ := hO
  rw [upd_const] at hO
  have hO : cO D cy A s.heap s 9 ad (cup [(0, .inr (12, (((((((((((((((((f0.set 4 (.int 0)).set 5 (.int (-1))).set 3 (.int 0)).set 2 (.int 0)).set 7 (.int 0)).set 37 (.int 1)).set 38 (.int 490)).set 6 (.int 0)).set 7 (.int 1)).set 8 (.int 0)).set 6 (.int 0)).set 7 (.int 0)).set 36 (.int 1)).set 59 (.int 0)).set 60 (.int 0)).set 70 (.int 0)).set 62 (.int 0)))), (6, .inl (cy 0, 10, .inl (upd (upd (upd (upd (upd c6 (5 : Int32).toNatClampNeg (-1)) (6 : Int32).toNatClampNeg (-1)) (7 : Int32).toNatClampNeg (-1)) (8 : Int32).toNatClampNeg (-1)) (9 : Int32).toNatClampNeg (-1)))), (5, .inl (cy 2, 2, .inl (fun _ => 0))), (4, .inl (cy 0, 2, .inl (fun _ => 0))), (3, .inl (cy 0, 2, .inl (fun _ => 0))), (2, .inl (cy 0, 2, .inl (fun _ => 0))), (1, .inl (cy 0, 2, .inl (fun _ => 0))), (7, .inl (cy 0, 80, .inl (fun _ => 0))), (8, .inl (cy 2, 3, .inl (fun _ => 0)))] g) _ _ := hO
  refine lv_iinc (v := 3) (lv' := [(1, .int 3), (0, .ref (ad 0))]) hx hb dX12_road_140 hl (k := 0) rfl (by decide) (by decide) rfl (fun ls hl => ?_)
  refine lv_goto (tgt := 128) hx hb dX12_road_143 (by decide) ?_
  refine lv_iload_n hx hb dX12_road_128 rfl (lv_at hl 0 rfl) ?_
  refine lv_iconst (v := 3) hx hb dX12_road_129 (by decide) ?_
  refine lv_icmp_ge (tgt := 146) hx hb dX12_road_130 (by decide) (fun _ => ?_) (fun h => absurd h (by decide))
  refine lv_aload_n hx hb dX12_road_146 rfl (lv_at hl 1 rfl) ?_
  refine cg_get hC hO 0 (by decide) rfl rfl i_X12 13 (by decide) (List.mem_of_getElem? (i := 15) rfl) (fs_ne (by decide) (fs_ne (by decide) (fs_ne (by decide) (fs_ne (by decide) (fs_ne (by decide) (fs_ne (by decide) (fs_ne (by decide) (fs_ne (by decide) (fs_ne (by decide) (fs_ne (by decide) (fs_ne (by decide) (fs_ne (by decide) (fs_ne (by decide) (fs_ne (by decide) (fs_ne (by decide) (fs_ne (by decide) (fs_ne (by decide) f0_13))))))))))))))))) dX12_road_147 ?_
  refine lv_aload_n hx hb dX12_road_150 rfl (lv_at hl 1 rfl) ?_
  refine cg_get hC hO 0 (by decide) rfl rfl i_X12 36 (by decide) (List.mem_of_getElem? (i := 6) rfl) (fs_ne (by decide) (fs_ne (by decide) (fs_ne (by decide) (fs_ne (by decide) (fs_eq (fs_ne (by decide) (fs_ne (by decide) (fs_ne (by decide) (fs_ne (by decide) (fs_ne (by decide) (fs_ne (by decide) (fs_ne (by decide) (fs_ne (by decide) (fs_ne (by decide) (fs_ne (by decide) (fs_ne (by decide) (fs_ne (by decide) f0_36))))))))))))))))) dX12_road_151 ?_
  refine cg_iald hC hO 3 (by decide) rfl (cin (by decide)) dX12_road_154 ?_
  refine cg_ev (v := 0) (rfl) ?_
  exact cg_iret (nw := fun _ => 0) hC hr hlk hO.same rfl (Nat.le_of_ble_eq_true rfl) (Nat.le_of_ble_eq_true rfl) rfl dX12_road_155
