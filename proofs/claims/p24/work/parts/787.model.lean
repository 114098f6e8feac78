theorem dX12_clearBank_0 : decode cX12_clearBank 0 = .ok (.aload_n 0, 1) := by decide +kernel
theorem dX12_clearBank_1 : decode cX12_clearBank 1 = .ok (.getfield 20, 3) := by decide +kernel
theorem dX12_clearBank_4 : decode cX12_clearBank 4 = .ok (.aload_n 0, 1) := by decide +kernel
theorem dX12_clearBank_5 : decode cX12_clearBank 5 = .ok (.getfield 277, 3) := by decide +kernel
theorem dX12_clearBank_8 : decode cX12_clearBank 8 = .ok (.iconst 0, 1) := by decide +kernel
theorem dX12_clearBank_9 : decode cX12_clearBank 9 = .ok (.iastore, 1) := by decide +kernel
theorem dX12_clearBank_10 : decode cX12_clearBank 10 = .ok (.aload_n 0, 1) := by decide +kernel
theorem dX12_clearBank_11 : decode cX12_clearBank 11 = .ok (.getfield 24, 3) := by decide +kernel
theorem dX12_clearBank_14 : decode cX12_clearBank 14 = .ok (.aload_n 0, 1) := by decide +kernel
theorem dX12_clearBank_15 : decode cX12_clearBank 15 = .ok (.getfield 277, 3) := by decide +kernel
theorem dX12_clearBank_18 : decode cX12_clearBank 18 = .ok (.iconst 0, 1) := by decide +kernel
theorem dX12_clearBank_19 : decode cX12_clearBank 19 = .ok (.iastore, 1) := by decide +kernel
theorem dX12_clearBank_20 : decode cX12_clearBank 20 = .ok (.aload_n 0, 1) := by decide +kernel
theorem dX12_clearBank_21 : decode cX12_clearBank 21 = .ok (.getfield 27, 3) := by decide +kernel
theorem dX12_clearBank_24 : decode cX12_clearBank 24 = .ok (.aload_n 0, 1) := by decide +kernel
theorem dX12_clearBank_25 : decode cX12_clearBank 25 = .ok (.getfield 277, 3) := by decide +kernel
theorem dX12_clearBank_28 : decode cX12_clearBank 28 = .ok (.iconst 0, 1) := by decide +kernel
theorem dX12_clearBank_29 : decode cX12_clearBank 29 = .ok (.iastore, 1) := by decide +kernel
theorem dX12_clearBank_30 : decode cX12_clearBank 30 = .ok (.aload_n 0, 1) := by decide +kernel
theorem dX12_clearBank_31 : decode cX12_clearBank 31 = .ok (.getfield 30, 3) := by decide +kernel
theorem dX12_clearBank_34 : decode cX12_clearBank 34 = .ok (.aload_n 0, 1) := by decide +kernel
theorem dX12_clearBank_35 : decode cX12_clearBank 35 = .ok (.getfield 277, 3) := by decide +kernel
theorem dX12_clearBank_38 : decode cX12_clearBank 38 = .ok (.iconst 0, 1) := by decide +kernel
theorem dX12_clearBank_39 : decode cX12_clearBank 39 = .ok (.iastore, 1) := by decide +kernel
theorem dX12_clearBank_40 : decode cX12_clearBank 40 = .ok (.aload_n 0, 1) := by decide +kernel
theorem dX12_clearBank_41 : decode cX12_clearBank 41 = .ok (.getfield 70, 3) := by decide +kernel
theorem dX12_clearBank_44 : decode cX12_clearBank 44 = .ok (.aload_n 0, 1) := by decide +kernel
theorem dX12_clearBank_45 : decode cX12_clearBank 45 = .ok (.getfield 277, 3) := by decide +kernel
theorem dX12_clearBank_48 : decode cX12_clearBank 48 = .ok (.iconst 0, 1) := by decide +kernel
theorem dX12_clearBank_49 : decode cX12_clearBank 49 = .ok (.bastore, 1) := by decide +kernel
theorem dX12_clearBank_50 : decode cX12_clearBank 50 = .ok (.aload_n 0, 1) := by decide +kernel
theorem dX12_clearBank_51 : decode cX12_clearBank 51 = .ok (.sipush 490, 3) := by decide +kernel
theorem dX12_clearBank_54 : decode cX12_clearBank 54 = .ok (.aload_n 0, 1) := by decide +kernel
theorem dX12_clearBank_55 : decode cX12_clearBank 55 = .ok (.getfield 277, 3) := by decide +kernel
theorem dX12_clearBank_58 : decode cX12_clearBank 58 = .ok (.imul, 1) := by decide +kernel
theorem dX12_clearBank_59 : decode cX12_clearBank 59 = .ok (.putfield 280, 3) := by decide +kernel
theorem dX12_clearBank_62 : decode cX12_clearBank 62 = .ok (.iconst 5, 1) := by decide +kernel
theorem dX12_clearBank_63 : decode cX12_clearBank 63 = .ok (.aload_n 0, 1) := by decide +kernel
theorem dX12_clearBank_64 : decode cX12_clearBank 64 = .ok (.getfield 277, 3) := by decide +kernel
theorem dX12_clearBank_67 : decode cX12_clearBank 67 = .ok (.imul, 1) := by decide +kernel
theorem dX12_clearBank_68 : decode cX12_clearBank 68 = .ok (.istore_n 1, 1) := by decide +kernel
theorem dX12_clearBank_69 : decode cX12_clearBank 69 = .ok (.iload_n 1, 1) := by decide +kernel
theorem dX12_clearBank_70 : decode cX12_clearBank 70 = .ok (.iconst 5, 1) := by decide +kernel
theorem dX12_clearBank_71 : decode cX12_clearBank 71 = .ok (.aload_n 0, 1) := by decide +kernel
theorem dX12_clearBank_72 : decode cX12_clearBank 72 = .ok (.getfield 277, 3) := by decide +kernel
theorem dX12_clearBank_75 : decode cX12_clearBank 75 = .ok (.imul, 1) := by decide +kernel
theorem dX12_clearBank_76 : decode cX12_clearBank 76 = .ok (.iconst 5, 1) := by decide +kernel
theorem dX12_clearBank_77 : decode cX12_clearBank 77 = .ok (.iadd, 1) := by decide +kernel
theorem dX12_clearBank_78 : decode cX12_clearBank 78 = .ok (.if_icmp .ge 16, 3) := by decide +kernel
theorem dX12_clearBank_81 : decode cX12_clearBank 81 = .ok (.aload_n 0, 1) := by decide +kernel
theorem dX12_clearBank_82 : decode cX12_clearBank 82 = .ok (.getfield 42, 3) := by decide +kernel
theorem dX12_clearBank_85 : decode cX12_clearBank 85 = .ok (.iload_n 1, 1) := by decide +kernel
theorem dX12_clearBank_86 : decode cX12_clearBank 86 = .ok (.iconst (-1), 1) := by decide +kernel
theorem dX12_clearBank_87 : decode cX12_clearBank 87 = .ok (.iastore, 1) := by decide +kernel
theorem dX12_clearBank_88 : decode cX12_clearBank 88 = .ok (.iinc 1 1, 3) := by decide +kernel
theorem dX12_clearBank_91 : decode cX12_clearBank 91 = .ok (.goto (-22), 3) := by decide +kernel
theorem dX12_clearBank_94 : decode cX12_clearBank 94 = .ok (.return_, 1) := by decide +kernel
def wq_c_clearBank0 : List Cond := Cond.code yX12_clearBank cX12_clearBank 2 none :: (([Cond.fieldLink RX12 20 "CrowTollModel" "birds" "[I", Cond.fieldLink RX12 277 "CrowTollModel" "rb" "I", Cond.fieldLink RX12 24 "CrowTollModel" "posts" "[I", Cond.fieldLink RX12 27 "CrowTollModel" "carts" "[I", Cond.fieldLink RX12 30 "CrowTollModel" "units" "[I", Cond.fieldLink RX12 70 "CrowTollModel" "isLaw" "[Z", Cond.fieldLink RX12 280 "CrowTollModel" "codes" "I", Cond.fieldLink RX12 42 "CrowTollModel" "postOf" "[I"] : List Cond) ++ wsX120)
set_option maxHeartbeats 8000000 in
set_option maxRecDepth 100000 in
theorem c_clearBank0 (l : Launch) (D : va_G) (cy : Nat → ClassId) (ad : Nat → Nat) (g : Nat → va_E) {f0 : List Value} {x : Int32} {c6 : Nat → Int32} (o0 : g 0 = .inr (12, f0)) (f0_11 : f0[11]? = some (.ref (ad 1))) (f0_12 : f0[12]? = some (.ref (ad 2))) (f0_13 : f0[13]? = some (.ref (ad 3))) (f0_14 : f0[14]? = some (.ref (ad 4))) (f0_27 : f0[27]? = some (.ref (ad 5))) (f0_37 : f0[37]? = some (.int 0)) (f0_38 : f0[38]? = some (.int x)) (f0_18 : f0[18]? = some (.ref (ad 6))) (a1 : g 1 = .inl (cy 0, 2, .inl (fun _ => 0))) (a2 : g 2 = .inl (cy 0, 2, .inl (fun _ => 0))) (a3 : g 3 = .inl (cy 0, 2, .inl (fun _ => 0))) (a4 : g 4 = .inl (cy 0, 2, .inl (fun _ => 0))) (a5 : g 5 = .inl (cy 2, 2, .inl (fun _ => 0))) (a6 : g 6 = .inl (cy 0, 10, .inl c6)) : cMv l yX12_clearBank wq_c_clearBank0 { frames := 0, cells := 0, slots := 0, locals := 0 } 7 0 0 0 D cy ad g [.ref (ad 0)] (fun nw lu => lu = [(1, .inl (cy 0, 2, .inl (fun _ => 0))), (2, .inl (cy 0, 2, .inl (fun _ => 0))), (3, .inl (cy 0, 2, .inl (fun _ => 0))), (4, .inl (cy 0, 2, .inl (fun _ => 0))), (5, .inl (cy 2, 2, .inl (fun _ => 0))), (0, .inr (12, (f0.set 38 (.int 0)))), (6, .inl (cy 0, 10, .inl (upd (upd (upd (upd (upd c6 (0 : Int32).toNatClampNeg (-1)) (1 : Int32).toNatClampNeg (-1)) (2 : Int32).toNatClampNeg (-1)) (3 : Int32).toNatClampNeg (-1)) (4 : Int32).toNatClampNeg (-1))))]) := by
  refine cM_of (Qc := fun A => cQv (fun nw lu => lu = [(1, .inl (cy 0, 2, .inl (fun _ => 0))), (2, .inl (cy 0, 2, .inl (fun _ => 0))), (3, .inl (cy 0, 2, .inl (fun _ => 0))), (4, .inl (cy 0, 2, .inl (fun _ => 0))), (5, .inl (cy 2, 2, .inl (fun _ => 0))), (0, .inr (12, (f0.set 38 (.int 0)))), (6, .inl (cy 0, 10, .inl (upd (upd (upd (upd (upd c6 (0 : Int32).toNatClampNeg (-1)) (1 : Int32).toNatClampNeg (-1)) (2 : Int32).toNatClampNeg (-1)) (3 : Int32).toNatClampNeg (-1)) (4 : Int32).toNatClampNeg (-1))))]) D 7 0 ad g A) (cc := cX12_clearBank) (maxL := 2) (ret := none) (by decide) rfl (Nat.le_of_ble_eq_true rfl) ?_
  intro p e s m below meth c A hC hr hlk hnm hO ls hl
  have hC : CallFix p m c cX12_clearBank 2 s [.ref (ad 0)].toArray wq_c_clearBank0 RX12 := hC
  obtain ⟨hx, hb, hml, hown, hts⟩ := id hC
  have hl : lv_has ls 2 [(0, .ref (ad 0))] := hl
  have i_X12 : ∀ w ∈ wsX120, w ∈ wq_c_clearBank0 := fun w h => List.mem_cons_of_mem _ (List.mem_append_right _ h)
  refine lv_aload_n hx hb dX12_clearBank_0 rfl (lv_at hl 0 rfl) ?_
  refine cg_get hC hO 0 (by decide) o0 rfl i_X12 11 (by decide) (List.mem_of_getElem? (i := 1) rfl) f0_11 dX12_clearBank_1 ?_
  refine lv_aload_n hx hb dX12_clearBank_4 rfl (lv_at hl 0 rfl) ?_
  refine cg_get hC hO 0 (by decide) o0 rfl i_X12 37 (by decide) (List.mem_of_getElem? (i := 2) rfl) f0_37 dX12_clearBank_5 ?_
  refine lv_iconst (v := 0) hx hb dX12_clearBank_8 (by decide) ?_
  refine cg_iast hC hO 1 (by decide) a1 (cin (by decide)) dX12_clearBank_9 (fun H locs hO => ?_)
  have hO : cO D cy A s.heap s 7 ad (cup [(1, .inl (cy 0, 2, .inl (upd (fun _ => 0) (0 : Int32).toNatClampNeg 0)))] g) _ _ := hO
  rw [upd_const] at hO
  have hO : cO D cy A s.heap s 7 ad (cup [(1, .inl (cy 0, 2, .inl (fun _ => 0)))] g) _ _ := hO
  refine lv_aload_n hx hb dX12_clearBank_10 rfl (lv_at hl 0 rfl) ?_
  refine cg_get hC hO 0 (by decide) o0 rfl i_X12 12 (by decide) (List.mem_of_getElem? (i := 3) rfl) f0_12 dX12_clearBank_11 ?_
  refine lv_aload_n hx hb dX12_clearBank_14 rfl (lv_at hl 0 rfl) ?_
  refine cg_get hC hO 0 (by decide) o0 rfl i_X12 37 (by decide) (List.mem_of_getElem? (i := 2) rfl) f0_37 dX12_clearBank_15 ?_
  refine lv_iconst (v := 0) hx hb dX12_clearBank_18 (by decide) ?_
  refine cg_iast hC hO 2 (by decide) a2 (cin (by decide)) dX12_clearBank_19 (fun H locs hO => ?_)
  have hO : cO D cy A s.heap s 7 ad (cup [(1, .inl (cy 0, 2, .inl (fun _ => 0))), (2, .inl (cy 0, 2, .inl (upd (fun _ => 0) (0 : Int32).toNatClampNeg 0)))] g) _ _ := hO
  rw [upd_const] at hO
  have hO : cO D cy A s.heap s 7 ad (cup [(1, .inl (cy 0, 2, .inl (fun _ => 0))), (2, .inl (cy 0, 2, .inl (fun _ => 0)))] g) _ _ := hO
  refine lv_aload_n hx hb dX12_clearBank_20 rfl (lv_at hl 0 rfl) ?_
  refine cg_get hC hO 0 (by decide) o0 rfl i_X12 13 (by decide) (List.mem_of_getElem? (i := 4) rfl) f0_13 dX12_clearBank_21 ?_
  refine lv_aload_n hx hb dX12_clearBank_24 rfl (lv_at hl 0 rfl) ?_
  refine cg_get hC hO 0 (by decide) o0 rfl i_X12 37 (by decide) (List.mem_of_getElem? (i := 2) rfl) f0_37 dX12_clearBank_25 ?_
  refine lv_iconst (v := 0) hx hb dX12_clearBank_28 (by decide) ?_
  refine cg_iast hC hO 3 (by decide) a3 (cin (by decide)) dX12_clearBank_29 (fun H locs hO => ?_)
  have hO : cO D cy A s.heap s 7 ad (cup [(1, .inl (cy 0, 2, .inl (fun _ => 0))), (2, .inl (cy 0, 2, .inl (fun _ => 0))), (3, .inl (cy 0, 2, .inl (upd (fun _ => 0) (0 : Int32).toNatClampNeg 0)))] g) _ _ := hO
  rw [upd_const] at hO
  have hO : cO D cy A s.heap s 7 ad (cup [(1, .inl (cy 0, 2, .inl (fun _ => 0))), (2, .inl (cy 0, 2, .inl (fun _ => 0))), (3, .inl (cy 0, 2, .inl (fun _ => 0)))] g) _ _ := hO
  refine lv_aload_n hx hb dX12_clearBank_30 rfl (lv_at hl 0 rfl) ?_
  refine cg_get hC hO 0 (by decide) o0 rfl i_X12 14 (by decide) (List.mem_of_getElem? (i := 5) rfl) f0_14 dX12_clearBank_31 ?_
  refine lv_aload_n hx hb dX12_clearBank_34 rfl (lv_at hl 0 rfl) ?_
  refine cg_get hC hO 0 (by decide) o0 rfl i_X12 37 (by decide) (List.mem_of_getElem? (i := 2) rfl) f0_37 dX12_clearBank_35 ?_
  refine lv_iconst (v := 0) hx hb dX12_clearBank_38 (by decide) ?_
  refine cg_iast hC hO 4 (by decide) a4 (cin (by decide)) dX12_clearBank_39 (fun H locs hO => ?_)
  have hO : cO D cy A s.heap s 7 ad (cup [(1, .inl (cy 0, 2, .inl (fun _ => 0))), (2, .inl (cy 0, 2, .inl (fun _ => 0))), (3, .inl (cy 0, 2, .inl (fun _ => 0))), (4, .inl (cy 0, 2, .inl (upd (fun _ => 0) (0 : Int32).toNatClampNeg 0)))] g) _ _ := hO
  rw [upd_const] at hO
  have hO : cO D cy A s.heap s 7 ad (cup [(1, .inl (cy 0, 2, .inl (fun _ => 0))), (2, .inl (cy 0, 2, .inl (fun _ => 0))), (3, .inl (cy 0, 2, .inl (fun _ => 0))), (4, .inl (cy 0, 2, .inl (fun _ => 0)))] g) _ _ := hO
  refine lv_aload_n hx hb dX12_clearBank_40 rfl (lv_at hl 0 rfl) ?_
  refine cg_get hC hO 0 (by decide) o0 rfl i_X12 27 (by decide) (List.mem_of_getElem? (i := 6) rfl) f0_27 dX12_clearBank_41 ?_
  refine lv_aload_n hx hb dX12_clearBank_44 rfl (lv_at hl 0 rfl) ?_
  refine cg_get hC hO 0 (by decide) o0 rfl i_X12 37 (by decide) (List.mem_of_getElem? (i := 2) rfl) f0_37 dX12_clearBank_45 ?_
  refine lv_iconst (v := 0) hx hb dX12_clearBank_48 (by decide) ?_
  refine cg_zast hC hO 5 (by decide) a5 (cin (by decide)) dX12_clearBank_49 (fun H locs hO => ?_)
  have hO : cO D cy A s.heap s 7 ad (cup [(1, .inl (cy 0, 2, .inl (fun _ => 0))), (2, .inl (cy 0, 2, .inl (fun _ => 0))), (3, .inl (cy 0, 2, .inl (fun _ => 0))), (4, .inl (cy 0, 2, .inl (fun _ => 0))), (5, .inl (cy 2, 2, .inl (upd (fun _ => 0) (0 : Int32).toNatClampNeg 0)))] g) _ _ := hO
  rw [upd_const] at hO
  have hO : cO D cy A s.heap s 7 ad (cup [(1, .inl (cy 0, 2, .inl (fun _ => 0))), (2, .inl (cy 0, 2, .inl (fun _ => 0))), (3, .inl (cy 0, 2, .inl (fun _ => 0))), (4, .inl (cy 0, 2, .inl (fun _ => 0))), (5, .inl (cy 2, 2, .inl (fun _ => 0)))] g) _ _ := hO
  refine lv_aload_n hx hb dX12_clearBank_50 rfl (lv_at hl 0 rfl) ?_
  refine lv_sipush (v := 490) hx hb dX12_clearBank_51 (by decide) ?_
  refine lv_aload_n hx hb dX12_clearBank_54 rfl (lv_at hl 0 rfl) ?_
  refine cg_get hC hO 0 (by decide) o0 rfl i_X12 37 (by decide) (List.mem_of_getElem? (i := 2) rfl) f0_37 dX12_clearBank_55 ?_
  refine lv_imul hx hb dX12_clearBank_58 ?_
  refine cg_ev (v := 0) (by decide) ?_
  refine cg_put hC hO 0 (by decide) o0 rfl i_X12 tyX12_ok nmX12 38 (by decide) (List.mem_of_getElem? (i := 7) rfl) rfl rfl rfl (fs_lt f0_38) dX12_clearBank_59 (fun H locs hO => ?_)
  have hO : cO D cy A s.heap s 7 ad (cup [(1, .inl (cy 0, 2, .inl (fun _ => 0))), (2, .inl (cy 0, 2, .inl (fun _ => 0))), (3, .inl (cy 0, 2, .inl (fun _ => 0))), (4, .inl (cy 0, 2, .inl (fun _ => 0))), (5, .inl (cy 2, 2, .inl (fun _ => 0))), (0, .inr (12, (f0.set 38 (.int 0))))] g) _ _ := hO
  refine lv_iconst (v := 5) hx hb dX12_clearBank_62 (by decide) ?_
  refine lv_aload_n hx hb dX12_clearBank_63 rfl (lv_at hl 0 rfl) ?_
  refine cg_get hC hO 0 (by decide) rfl rfl i_X12 37 (by decide) (List.mem_of_getElem? (i := 2) rfl) (fs_ne (by decide) f0_37) dX12_clearBank_64 ?_
  refine lv_imul hx hb dX12_clearBank_67 ?_
  refine cg_ev (v := 0) (by decide) ?_
  refine lv_istore_n (lv' := [(1, .int 0), (0, .ref (ad 0))]) hx hb dX12_clearBank_68 rfl hl (by decide) rfl (fun ls hl => ?_)
  refine lv_iload_n hx hb dX12_clearBank_69 rfl (lv_at hl 0 rfl) ?_
  refine lv_iconst (v := 5) hx hb dX12_clearBank_70 (by decide) ?_
  refine lv_aload_n hx hb dX12_clearBank_71 rfl (lv_at hl 1 rfl) ?_
  refine cg_get hC hO 0 (by decide) rfl rfl i_X12 37 (by decide) (List.mem_of_getElem? (i := 2) rfl) (fs_ne (by decide) f0_37) dX12_clearBank_72 ?_
  refine lv_imul hx hb dX12_clearBank_75 ?_
  refine cg_ev (v := 0) (by decide) ?_
  refine lv_iconst (v := 5) hx hb dX12_clearBank_76 (by decide) ?_
  refine lv_iadd hx hb dX12_clearBank_77 ?_
  refine cg_ev (v := 5) (by decide) ?_
  refine lv_icmp_ge (tgt := 94) hx hb dX12_clearBank_78 (by decide) (fun h => absurd h (by decide)) (fun _ => ?_)
  refine lv_aload_n hx hb dX12_clearBank_81 rfl (lv_at hl 1 rfl) ?_
  refine cg_get hC hO 0 (by decide) rfl rfl i_X12 18 (by decide) (List.mem_of_getElem? (i := 8) rfl) (fs_ne (by decide) f0_18) dX12_clearBank_82 ?_
  refine lv_iload_n hx hb dX12_clearBank_85 rfl (lv_at hl 0 rfl) ?_
  refine lv_iconst (v := (-1)) hx hb dX12_clearBank_86 (by decide) ?_
  refine cg_iast hC hO 6 (by decide) a6 (cin (by decide)) dX12_clearBank_87 (fun H locs hO => ?_)
  have hO : cO D cy A s.heap s 7 ad (cup [(1, .inl (cy 0, 2, .inl (fun _ => 0))), (2, .inl (cy 0, 2, .inl (fun _ => 0))), (3, .inl (cy 0, 2, .inl (fun _ => 0))), (4, .inl (cy 0, 2, .inl (fun _ => 0))), (5, .inl (cy 2, 2, .inl (fun _ => 0))), (0, .inr (12, (f0.set 38 (.int 0)))), (6, .inl (cy 0, 10, .inl (upd c6 (0 : Int32).toNatClampNeg (-1))))] g) _ _ := hO
  refine lv_iinc (v := 1) (lv' := [(1, .int 1), (0, .ref (ad 0))]) hx hb dX12_clearBank_88 hl (k := 0) rfl (by decide) (by decide) rfl (fun ls hl => ?_)
  refine lv_goto (tgt := 69) hx hb dX12_clearBank_91 (by decide) ?_
  refine lv_iload_n hx hb dX12_clearBank_69 rfl (lv_at hl 0 rfl) ?_
  refine lv_iconst (v := 5) hx hb dX12_clearBank_70 (by decide) ?_
  refine lv_aload_n hx hb dX12_clearBank_71 rfl (lv_at hl 1 rfl) ?_
  refine cg_get hC hO 0 (by decide) rfl rfl i_X12 37 (by decide) (List.mem_of_getElem? (i := 2) rfl) (fs_ne (by decide) f0_37) dX12_clearBank_72 ?_
  refine lv_imul hx hb dX12_clearBank_75 ?_
  refine cg_ev (v := 0) (by decide) ?_
  refine lv_iconst (v := 5) hx hb dX12_clearBank_76 (by decide) ?_
  refine lv_iadd hx hb dX12_clearBank_77 ?_
  refine cg_ev (v := 5) (by decide) ?_
  refine lv_icmp_ge (tgt := 94) hx hb dX12_clearBank_78 (by decide) (fun h => absurd h (by decide)) (fun _ => ?_)
  refine lv_aload_n hx hb dX12_clearBank_81 rfl (lv_at hl 1 rfl) ?_
  refine cg_get hC hO 0 (by decide) rfl rfl i_X12 18 (by decide) (List.mem_of_getElem? (i := 8) rfl) (fs_ne (by decide) f0_18) dX12_clearBank_82 ?_
  refine lv_iload_n hx hb dX12_clearBank_85 rfl (lv_at hl 0 rfl) ?_
  refine lv_iconst (v := (-1)) hx hb dX12_clearBank_86 (by decide) ?_
  refine cg_iast hC hO 6 (by decide) rfl (cin (by decide)) dX12_clearBank_87 (fun H locs hO => ?_)
  have hO : cO D cy A s.heap s 7 ad (cup [(1, .inl (cy 0, 2, .inl (fun _ => 0))), (2, .inl (cy 0, 2, .inl (fun _ => 0))), (3, .inl (cy 0, 2, .inl (fun _ => 0))), (4, .inl (cy 0, 2, .inl (fun _ => 0))), (5, .inl (cy 2, 2, .inl (fun _ => 0))), (0, .inr (12, (f0.set 38 (.int 0)))), (6, .inl (cy 0, 10, .inl (upd (upd c6 (0 : Int32).toNatClampNeg (-1)) (1 : Int32).toNatClampNeg (-1))))] g) _ _ := hO
  refine lv_iinc (v := 2) (lv' := [(1, .int 2), (0, .ref (ad 0))]) hx hb dX12_clearBank_88 hl (k := 0) rfl (by decide) (by decide) rfl (fun ls hl => ?_)
  refine lv_goto (tgt := 69) hx hb dX12_clearBank_91 (by decide) ?_
  refine lv_iload_n hx hb dX12_clearBank_69 rfl (lv_at hl 0 rfl) ?_
  refine lv_iconst (v := 5) hx hb dX12_clearBank_70 (by decide) ?_
  refine lv_aload_n hx hb dX12_clearBank_71 rfl (lv_at hl 1 rfl) ?_
  refine cg_get hC hO 0 (by decide) rfl rfl i_X12 37 (by decide) (List.mem_of_getElem? (i := 2) rfl) (fs_ne (by decide) f0_37) dX12_clearBank_72 ?_
  refine lv_imul hx hb dX12_clearBank_75 ?_
  refine cg_ev (v := 0) (by decide) ?_
  refine lv_iconst (v := 5) hx hb dX12_clearBank_76 (by decide) ?_
  refine lv_iadd hx hb dX12_clearBank_77 ?_
  refine cg_ev (v := 5) (by decide) ?_
  refine lv_icmp_ge (tgt := 94) hx hb dX12_clearBank_78 (by decide) (fun h => absurd h (by decide)) (fun _ => ?_)
  refine lv_aload_n hx hb dX12_clearBank_81 rfl (lv_at hl 1 rfl) ?_
  refine cg_get hC hO 0 (by decide) rfl rfl i_X12 18 (by decide) (List.mem_of_getElem? (i := 8) rfl) (fs_ne (by decide) f0_18) dX12_clearBank_82 ?_
  refine lv_iload_n hx hb dX12_clearBank_85 rfl (lv_at hl 0 rfl) ?_
  refine lv_iconst (v := (-1)) hx hb dX12_clearBank_86 (by decide) ?_
  refine cg_iast hC hO 6 (by decide) rfl (cin (by decide)) dX12_clearBank_87 (fun H locs hO => ?_)
  have hO : cO D cy A s.heap s 7 ad (cup [(1, .inl (cy 0, 2, .inl (fun _ => 0))), (2, .inl (cy 0, 2, .inl (fun _ => 0))), (3, .inl (cy 0, 2, .inl (fun _ => 0))), (4, .inl (cy 0, 2, .inl (fun _ => 0))), (5, .inl (cy 2, 2, .inl (fun _ => 0))), (0, .inr (12, (f0.set 38 (.int 0)))), (6, .inl (cy 0, 10, .inl (upd (upd (upd c6 (0 : Int32).toNatClampNeg (-1)) (1 : Int32).toNatClampNeg (-1)) (2 : Int32).toNatClampNeg (-1))))] g) _ _ := hO
  refine lv_iinc (v := 3) (lv' := [(1, .int 3), (0, .ref (ad 0))]) hx hb dX12_clearBank_88 hl (k := 0) rfl (by decide) (by decide) rfl (fun ls hl => ?_)
  refine lv_goto (tgt := 69) hx hb dX12_clearBank_91 (by decide) ?_
  refine lv_iload_n hx hb dX12_clearBank_69 rfl (lv_at hl 0 rfl) ?_
  refine lv_iconst (v := 5) hx hb dX12_clearBank_70 (by decide) ?_
  refine lv_aload_n hx hb dX12_clearBank_71 rfl (lv_at hl 1 rfl) ?_
  refine cg_get hC hO 0 (by decide) rfl rfl i_X12 37 (by decide) (List.mem_of_getElem? (i := 2) rfl) (fs_ne (by decide) f0_37) dX12_clearBank_72 ?_
  refine lv_imul hx hb dX12_clearBank_75 ?_
  refine cg_ev (v := 0) (by decide) ?_
  refine lv_iconst (v := 5) hx hb dX12_clearBank_76 (by decide) ?_
  refine lv_iadd hx hb dX12_clearBank_77 ?_
  refine cg_ev (v := 5) (by decide) ?_
  refine lv_icmp_ge (tgt := 94) hx hb dX12_clearBank_78 (by decide) (fun h => absurd h (by decide)) (fun _ => ?_)
  refine lv_aload_n hx hb dX12_clearBank_81 rfl (lv_at hl 1 rfl) ?_
  refine cg_get hC hO 0 (by decide) rfl rfl i_X12 18 (by decide) (List.mem_of_getElem? (i := 8) rfl) (fs_ne (by decide) f0_18) dX12_clearBank_82 ?_
  refine lv_iload_n hx hb dX12_clearBank_85 rfl (lv_at hl 0 rfl) ?_
  refine lv_iconst (v := (-1)) hx hb dX12_clearBank_86 (by decide) ?_
  refine cg_iast hC hO 6 (by decide) rfl (cin (by decide)) dX12_clearBank_87 (fun H locs hO => ?_)
  have hO : cO D cy A s.heap s 7 ad (cup [(1, .inl (cy 0, 2, .inl (fun _ => 0))), (2, .inl (cy 0, 2, .inl (fun _ => 0))), (3, .inl (cy 0, 2, .inl (fun _ => 0))), (4, .inl (cy 0, 2, .inl (fun _ => 0))), (5, .inl (cy 2, 2, .inl (fun _ => 0))), (0, .inr (12, (f0.set 38 (.int 0)))), (6, .inl (cy 0, 10, .inl (upd (upd (upd (upd c6 (0 : Int32).toNatClampNeg (-1)) (1 : Int32).toNatClampNeg (-1)) (2 : Int32).toNatClampNeg (-1)) (3 : Int32).toNatClampNeg (-1))))] g) _ _ := hO
  refine lv_iinc (v := 4) (lv' := [(1, .int 4), (0, .ref (ad 0))]) hx hb dX12_clearBank_88 hl (k := 0) rfl (by decide) (by decide) rfl (fun ls hl => ?_)
  refine lv_goto (tgt := 69) hx hb dX12_clearBank_91 (by decide) ?_
  refine lv_iload_n hx hb dX12_clearBank_69 rfl (lv_at hl 0 rfl) ?_
  refine lv_iconst (v := 5) hx hb dX12_clearBank_70 (by decide) ?_
  refine lv_aload_n hx hb dX12_clearBank_71 rfl (lv_at hl 1 rfl) ?_
  refine cg_get hC hO 0 (by decide) rfl rfl i_X12 37 (by decide) (List.mem_of_getElem? (i := 2) rfl) (fs_ne (by decide) f0_37) dX12_clearBank_72 ?_
  refine lv_imul hx hb dX12_clearBank_75 ?_
  refine cg_ev (v := 0) (by decide) ?_
  refine lv_iconst (v := 5) hx hb dX12_clearBank_76 (by decide) ?_
  refine lv_iadd hx hb dX12_clearBank_77 ?_
  refine cg_ev (v := 5) (by decide) ?_
  refine lv_icmp_ge (tgt := 94) hx hb dX12_clearBank_78 (by decide) (fun h => absurd h (by decide)) (fun _ => ?_)
  refine lv_aload_n hx hb dX12_clearBank_81 rfl (lv_at hl 1 rfl) ?_
  refine cg_get hC hO 0 (by decide) rfl rfl i_X12 18 (by decide) (List.mem_of_getElem? (i := 8) rfl) (fs_ne (by decide) f0_18) dX12_clearBank_82 ?_
  refine lv_iload_n hx hb dX12_clearBank_85 rfl (lv_at hl 0 rfl) ?_
  refine lv_iconst (v := (-1)) hx hb dX12_clearBank_86 (by decide) ?_
  refine cg_iast hC hO 6 (by decide) rfl (cin (by decide)) dX12_clearBank_87 (fun H locs hO => ?_)
  have hO : cO D cy A s.heap s 7 ad (cup [(1, .inl (cy 0, 2, .inl (fun _ => 0))), (2, .inl (cy 0, 2, .inl (fun _ => 0))), (3, .inl (cy 0, 2, .inl (fun _ => 0))), (4, .inl (cy 0, 2, .inl (fun _ => 0))), (5, .inl (cy 2, 2, .inl (fun _ => 0))), (0, .inr (12, (f0.set 38 (.int 0)))), (6, .inl (cy 0, 10, .inl (upd (upd (upd (upd (upd c6 (0 : Int32).toNatClampNeg (-1)) (1 : Int32).toNatClampNeg (-1)) (2 : Int32).toNatClampNeg (-1)) (3 : Int32).toNatClampNeg (-1)) (4 : Int32).toNatClampNeg (-1))))] g) _ _ := hO
  refine lv_iinc (v := 5) (lv' := [(1, .int 5), (0, .ref (ad 0))]) hx hb dX12_clearBank_88 hl (k := 0) rfl (by decide) (by decide) rfl (fun ls hl => ?_)
  refine lv_goto (tgt := 69) hx hb dX12_clearBank_91 (by decide) ?_
  refine lv_iload_n hx hb dX12_clearBank_69 rfl (lv_at hl 0 rfl) ?_
  refine lv_iconst (v := 5) hx hb dX12_clearBank_70 (by decide) ?_
  refine lv_aload_n hx hb dX12_clearBank_71 rfl (lv_at hl 1 rfl) ?_
  refine cg_get hC hO 0 (by decide) rfl rfl i_X12 37 (by decide) (List.mem_of_getElem? (i := 2) rfl) (fs_ne (by decide) f0_37) dX12_clearBank_72 ?_
  refine lv_imul hx hb dX12_clearBank_75 ?_
  refine cg_ev (v := 0) (by decide) ?_
  refine lv_iconst (v := 5) hx hb dX12_clearBank_76 (by decide) ?_
  refine lv_iadd hx hb dX12_clearBank_77 ?_
  refine cg_ev (v := 5) (by decide) ?_
  refine lv_icmp_ge (tgt := 94) hx hb dX12_clearBank_78 (by decide) (fun _ => ?_) (fun h => absurd h (by decide))
  exact cg_vret (nw := fun _ => 0) hC hr hlk hO.same (Nat.le_of_ble_eq_true rfl) (Nat.le_of_ble_eq_true rfl) rfl dX12_clearBank_94

theorem dX12_birdMany_0 : decode cX12_birdMany 0 = .ok (.aload_n 0, 1) := by decide +kernel
theorem dX12_birdMany_1 : decode cX12_birdMany 1 = .ok (.getfield 20, 3) := by decide +kernel
theorem dX12_birdMany_4 : decode cX12_birdMany 4 = .ok (.aload_n 0, 1) := by decide +kernel
theorem dX12_birdMany_5 : decode cX12_birdMany 5 = .ok (.getfield 286, 3) := by decide +kernel
theorem dX12_birdMany_8 : decode cX12_birdMany 8 = .ok (.iaload, 1) := by decide +kernel
theorem dX12_birdMany_9 : decode cX12_birdMany 9 = .ok (.ireturn, 1) := by decide +kernel
def wq_c_birdMany0 : List Cond := Cond.code yX12_birdMany cX12_birdMany 1 (some .int) :: (([Cond.fieldLink RX12 20 "CrowTollModel" "birds" "[I", Cond.fieldLink RX12 286 "CrowTollModel" "bank" "I"] : List Cond) ++ wsX120)
set_option maxHeartbeats 8000000 in
set_option maxRecDepth 100000 in
theorem c_birdMany0 (l : Launch) (D : va_G) (cy : Nat → ClassId) (ad : Nat → Nat) (g : Nat → va_E) {f0 : List Value} (o0 : g 0 = .inr (12, f0)) (f0_11 : f0[11]? = some (.ref (ad 1))) (f0_36 : f0[36]? = some (.int 0)) (a1 : g 1 = .inl (cy 0, 2, .inl (fun _ => 0))) : cMi l yX12_birdMany wq_c_birdMany0 { frames := 0, cells := 0, slots := 0, locals := 0 } 2 0 0 0 D cy ad g [.ref (ad 0)] (fun r nw lu => (r = 0) ∧ (lu = [])) := by
  refine cM_of (Qc := fun A => cQi (fun r nw lu => (r = 0) ∧ (lu = [])) D 2 0 ad g A) (cc := cX12_birdMany) (maxL := 1) (ret := (some .int)) (by decide) rfl (Nat.le_of_ble_eq_true rfl) ?_
  intro p e s m below meth c A hC hr hlk hnm hO ls hl
  have hC : CallFix p m c cX12_birdMany 1 s [.ref (ad 0)].toArray wq_c_birdMany0 RX12 := hC
  obtain ⟨hx, hb, hml, hown, hts⟩ := id hC
  have hl : lv_has ls 1 [(0, .ref (ad 0))] := hl
  have i_X12 : ∀ w ∈ wsX120, w ∈ wq_c_birdMany0 := fun w h => List.mem_cons_of_mem _ (List.mem_append_right _ h)
  refine lv_aload_n hx hb dX12_birdMany_0 rfl (lv_at hl 0 rfl) ?_
  refine cg_get hC hO 0 (by decide) o0 rfl i_X12 11 (by decide) (List.mem_of_getElem? (i := 1) rfl) f0_11 dX12_birdMany_1 ?_
  refine lv_aload_n hx hb dX12_birdMany_4 rfl (lv_at hl 0 rfl) ?_
  refine cg_get hC hO 0 (by decide) o0 rfl i_X12 36 (by decide) (List.mem_of_getElem? (i := 2) rfl) f0_36 dX12_birdMany_5 ?_
  refine cg_iald hC hO 1 (by decide) a1 (cin (by decide)) dX12_birdMany_8 ?_
  refine cg_ev (v := 0) (rfl) ?_
  exact cg_iret (nw := fun _ => 0) hC hr hlk hO.same rfl (Nat.le_of_ble_eq_true rfl) (Nat.le_of_ble_eq_true rfl) (⟨rfl, rfl⟩) dX12_birdMany_9

theorem dX12_begin_0 : decode cX12_begin 0 = .ok (.iconst 0, 1) := by decide +kernel
theorem dX12_begin_1 : decode cX12_begin 1 = .ok (.istore_n 1, 1) := by decide +kernel
theorem dX12_begin_2 : decode cX12_begin 2 = .ok (.iload_n 1, 1) := by decide +kernel
theorem dX12_begin_3 : decode cX12_begin 3 = .ok (.bipush 80, 2) := by decide +kernel
theorem dX12_begin_5 : decode cX12_begin 5 = .ok (.if_icmp .ge 16, 3) := by decide +kernel
theorem dX12_begin_8 : decode cX12_begin 8 = .ok (.aload_n 0, 1) := by decide +kernel
theorem dX12_begin_9 : decode cX12_begin 9 = .ok (.getfield 98, 3) := by decide +kernel
theorem dX12_begin_12 : decode cX12_begin 12 = .ok (.iload_n 1, 1) := by decide +kernel
theorem dX12_begin_13 : decode cX12_begin 13 = .ok (.iconst 0, 1) := by decide +kernel
theorem dX12_begin_14 : decode cX12_begin 14 = .ok (.iastore, 1) := by decide +kernel
theorem dX12_begin_15 : decode cX12_begin 15 = .ok (.iinc 1 1, 3) := by decide +kernel
theorem dX12_begin_18 : decode cX12_begin 18 = .ok (.goto (-16), 3) := by decide +kernel
theorem dX12_begin_21 : decode cX12_begin 21 = .ok (.aload_n 0, 1) := by decide +kernel
theorem dX12_begin_22 : decode cX12_begin 22 = .ok (.getfield 98, 3) := by decide +kernel
theorem dX12_begin_25 : decode cX12_begin 25 = .ok (.iconst 0, 1) := by decide +kernel
theorem dX12_begin_26 : decode cX12_begin 26 = .ok (.aload_n 0, 1) := by decide +kernel
theorem dX12_begin_27 : decode cX12_begin 27 = .ok (.getfield 27, 3) := by decide +kernel
theorem dX12_begin_30 : decode cX12_begin 30 = .ok (.aload_n 0, 1) := by decide +kernel
theorem dX12_begin_31 : decode cX12_begin 31 = .ok (.getfield 286, 3) := by decide +kernel
theorem dX12_begin_34 : decode cX12_begin 34 = .ok (.iaload, 1) := by decide +kernel
theorem dX12_begin_35 : decode cX12_begin 35 = .ok (.iastore, 1) := by decide +kernel
theorem dX12_begin_36 : decode cX12_begin 36 = .ok (.iconst 0, 1) := by decide +kernel
theorem dX12_begin_37 : decode cX12_begin 37 = .ok (.istore_n 1, 1) := by decide +kernel
theorem dX12_begin_38 : decode cX12_begin 38 = .ok (.iload_n 1, 1) := by decide +kernel
theorem dX12_begin_39 : decode cX12_begin 39 = .ok (.aload_n 0, 1) := by decide +kernel
theorem dX12_begin_40 : decode cX12_begin 40 = .ok (.getfield 27, 3) := by decide +kernel
theorem dX12_begin_43 : decode cX12_begin 43 = .ok (.aload_n 0, 1) := by decide +kernel
theorem dX12_begin_44 : decode cX12_begin 44 = .ok (.getfield 286, 3) := by decide +kernel
theorem dX12_begin_47 : decode cX12_begin 47 = .ok (.iaload, 1) := by decide +kernel
theorem dX12_begin_48 : decode cX12_begin 48 = .ok (.if_icmp .ge 85, 3) := by decide +kernel
theorem dX12_begin_133 : decode cX12_begin 133 = .ok (.iconst 0, 1) := by decide +kernel
theorem dX12_begin_134 : decode cX12_begin 134 = .ok (.istore_n 1, 1) := by decide +kernel
theorem dX12_begin_135 : decode cX12_begin 135 = .ok (.iload_n 1, 1) := by decide +kernel
theorem dX12_begin_136 : decode cX12_begin 136 = .ok (.aload_n 0, 1) := by decide +kernel
theorem dX12_begin_137 : decode cX12_begin 137 = .ok (.invokevirtual 363, 3) := by decide +kernel
theorem dX12_begin_140 : decode cX12_begin 140 = .ok (.if_icmp .ge 31, 3) := by decide +kernel
theorem dX12_begin_171 : decode cX12_begin 171 = .ok (.aload_n 0, 1) := by decide +kernel
theorem dX12_begin_172 : decode cX12_begin 172 = .ok (.iconst 0, 1) := by decide +kernel
theorem dX12_begin_173 : decode cX12_begin 173 = .ok (.putfield 373, 3) := by decide +kernel
theorem dX12_begin_176 : decode cX12_begin 176 = .ok (.aload_n 0, 1) := by decide +kernel
theorem dX12_begin_177 : decode cX12_begin 177 = .ok (.iconst 0, 1) := by decide +kernel
theorem dX12_begin_178 : decode cX12_begin 178 = .ok (.putfield 376, 3) := by decide +kernel
theorem dX12_begin_181 : decode cX12_begin 181 = .ok (.return_, 1) := by decide +kernel
def wq_c_begin0 : List Cond := Cond.code yX12_begin cX12_begin 2 none :: (([Cond.fieldLink RX12 98 "CrowTollModel" "state" "[I", Cond.fieldLink RX12 27 "CrowTollModel" "carts" "[I", Cond.fieldLink RX12 286 "CrowTollModel" "bank" "I", Cond.methodLink RX12 363 yX12_birdMany, Cond.instanceMethod yX12_birdMany, Cond.selects RX12 yX12_birdMany yX12_birdMany, Cond.initialized RX12, Cond.code yX12_birdMany cX12_birdMany 1 (some .int), Cond.fieldLink RX12 20 "CrowTollModel" "birds" "[I", Cond.fieldLink RX12 373 "CrowTollModel" "acts" "I", Cond.fieldLink RX12 376 "CrowTollModel" "undone" "I"] : List Cond) ++ wsX120)
set_option maxRecDepth 20000 in
theorem gr_c_begin0_c_birdMany0 : GoodIn wq_c_begin0 wq_c_birdMany0 := List.forall_mem_cons.mpr ⟨⟨(List.mem_of_getElem? (i := 8) rfl), good_of_word rfl⟩, List.forall_mem_append.mpr ⟨List.forall_mem_cons.mpr ⟨⟨(List.mem_of_getElem? (i := 9) rfl), good_of_word rfl⟩, List.forall_mem_cons.mpr ⟨⟨(List.mem_of_getElem? (i := 3) rfl), good_of_word rfl⟩, (fun _ h => absurd h List.not_mem_nil)⟩⟩, fun w h => ⟨(fun w h => List.mem_cons_of_mem _ (List.mem_append_right _ h)) w h, good_of_word (List.all_eq_true.mp gw_X12 w h)⟩⟩⟩
set_option maxRecDepth 20000 in
theorem gq_c_begin0_c_birdMany0_363 : GoodIn wq_c_begin0 (wsV RX12 363 RX12 yX12_birdMany wq_c_birdMany0) := goodIn_app (List.forall_mem_cons.mpr ⟨⟨(List.mem_of_getElem? (i := 4) rfl), good_of_word rfl⟩, List.forall_mem_cons.mpr ⟨⟨(List.mem_of_getElem? (i := 5) rfl), good_of_word rfl⟩, List.forall_mem_cons.mpr ⟨⟨(List.mem_of_getElem? (i := 6) rfl), good_of_word rfl⟩, List.forall_mem_cons.mpr ⟨⟨(List.mem_of_getElem? (i := 7) rfl), good_of_word rfl⟩, (fun _ h => absurd h List.not_mem_nil)⟩⟩⟩⟩) gr_c_begin0_c_birdMany0
set_option maxHeartbeats 8000000 in
set_option maxRecDepth 100000 in
theorem c_begin0 (l : Launch) (D : va_G) (cy : Nat → ClassId) (ad : Nat → Nat) (g : Nat → va_E) {f0 : List Value} {x : Int32} {y : Int32} (o0 : g 0 = .inr (12, f0)) (f0_41 : f0[41]? = some (.ref (ad 1))) (f0_13 : f0[13]? = some (.ref (ad 2))) (f0_36 : f0[36]? = some (.int 0)) (f0_11 : f0[11]? = some (.ref (ad 3))) (f0_59 : f0[59]? = some (.int x)) (f0_60 : f0[60]? = some (.int y)) (a1 : g 1 = .inl (cy 0, 80, .inl (fun _ => 0))) (a2 : g 2 = .inl (cy 0, 2, .inl (fun _ => 0))) (a3 : g 3 = .inl (cy 0, 2, .inl (fun _ => 0))) : cMv l yX12_begin wq_c_begin0 { frames := 1, cells := 0, slots := 0, locals := 20 } 4 0 0 0 D cy ad g [.ref (ad 0)] (fun nw lu => lu = [(1, .inl (cy 0, 80, .inl (fun _ => 0))), (0, .inr (12, ((f0.set 59 (.int 0)).set 60 (.int 0))))]) := by
  refine cM_of (Qc := fun A => cQv (fun nw lu => lu = [(1, .inl (cy 0, 80, .inl (fun _ => 0))), (0, .inr (12, ((f0.set 59 (.int 0)).set 60 (.int 0))))]) D 4 0 ad g A) (cc := cX12_begin) (maxL := 2) (ret := none) (by decide) rfl (Nat.le_of_ble_eq_true rfl) ?_
  intro p e s m below meth c A hC hr hlk hnm hO ls hl
  have hC : CallFix p m c cX12_begin 2 s [.ref (ad 0)].toArray wq_c_begin0 RX12 := hC
  obtain ⟨hx, hb, hml, hown, hts⟩ := id hC
  have hl : lv_has ls 2 [(0, .ref (ad 0))] := hl
  have i_X12 : ∀ w ∈ wsX120, w ∈ wq_c_begin0 := fun w h => List.mem_cons_of_mem _ (List.mem_append_right _ h)
  refine lv_iconst (v := 0) hx hb dX12_begin_0 (by decide) ?_
  refine lv_istore_n (lv' := [(1, .int 0), (0, .ref (ad 0))]) hx hb dX12_begin_1 rfl hl (by decide) rfl (fun ls hl => ?_)
  have hO := hO.note 1 (e := .inl (cy 0, 80, .inl (fun _ => 0))) a1
  have hO : cO D cy A s.heap s 4 ad (cup [(1, .inl (cy 0, 80, .inl (fun _ => 0)))] g) _ _ := hO
  have loop_2_1 : ∀ (d_2_2 : Nat) (i : Nat), (i ≤ 80) → 80 - i < d_2_2 → ∀ (H : Heap) (locs : List Loc), cO D cy A s.heap s 4 ad (cup [(1, .inl (cy 0, 80, .inl (fun _ => 0)))] g) H locs → ∀ ls : Array Slot, lv_has ls 2 [(1, .int (nI i)), (0, .ref (ad 0))] → W p l e { frames := 1, cells := 0, slots := 0, locals := 20 } s m [.ref (ad 0)].toArray below meth c H locs 0 0 (MQ below (cQv (fun nw lu => lu = [(1, .inl (cy 0, 80, .inl (fun _ => 0))), (0, .inr (12, ((f0.set 59 (.int 0)).set 60 (.int 0))))]) D 4 0 ad g A) [.ref (ad 0)].toArray s 0 0 A) (F0 m 2 ls []) := by
    intro d_2_2
    induction d_2_2 with
    | zero => intro i hi mu_2_3; exact absurd mu_2_3 (Nat.not_lt_zero _)
    | succ d_2_2 ih_2_4 =>
      intro i hi mu_2_3 H locs hO ls hl
      refine lv_iload_n hx hb dX12_begin_2 rfl (lv_at hl 0 rfl) ?_
      refine lv_bipush (v := 80) hx hb dX12_begin_3 (by decide) ?_
      refine lv_icmp_ge (tgt := 21) hx hb dX12_begin_5 (by decide) (fun h_5_5 => ?_) (fun h_5_5 => ?_)
      · have nh_5_5 : 80 ≤ i := (nI_leI (a := 80) (b := i) (by omega) (by omega)).mp h_5_5
        refine lv_aload_n hx hb dX12_begin_21 rfl (lv_at hl 1 rfl) ?_
        refine cg_get hC hO 0 (by decide) o0 rfl i_X12 41 (by decide) (List.mem_of_getElem? (i := 1) rfl) f0_41 dX12_begin_22 ?_
        refine lv_iconst (v := 0) hx hb dX12_begin_25 (by decide) ?_
        refine lv_aload_n hx hb dX12_begin_26 rfl (lv_at hl 1 rfl) ?_
        refine cg_get hC hO 0 (by decide) o0 rfl i_X12 13 (by decide) (List.mem_of_getElem? (i := 2) rfl) f0_13 dX12_begin_27 ?_
        refine lv_aload_n hx hb dX12_begin_30 rfl (lv_at hl 1 rfl) ?_
        refine cg_get hC hO 0 (by decide) o0 rfl i_X12 36 (by decide) (List.mem_of_getElem? (i := 3) rfl) f0_36 dX12_begin_31 ?_
        refine cg_iald hC hO 2 (by decide) a2 (cin (by decide)) dX12_begin_34 ?_
        refine cg_ev (v := 0) (rfl) ?_
        refine cg_iast hC hO 1 (by decide) rfl (cin (by decide)) dX12_begin_35 (fun H locs hO => ?_)
        have hO : cO D cy A s.heap s 4 ad (cup [(1, .inl (cy 0, 80, .inl (upd (fun _ => 0) (0 : Int32).toNatClampNeg 0)))] g) _ _ := hO
        rw [upd_const] at hO
        have hO : cO D cy A s.heap s 4 ad (cup [(1, .inl (cy 0, 80, .inl (fun _ => 0)))] g) _ _ := hO
        refine lv_iconst (v := 0) hx hb dX12_begin_36 (by decide) ?_
        refine lv_istore_n (lv' := [(1, .int 0), (0, .ref (ad 0))]) hx hb dX12_begin_37 rfl hl (by decide) rfl (fun ls hl => ?_)
        refine lv_iload_n hx hb dX12_begin_38 rfl (lv_at hl 0 rfl) ?_
        refine lv_aload_n hx hb dX12_begin_39 rfl (lv_at hl 1 rfl) ?_
        refine cg_get hC hO 0 (by decide) o0 rfl i_X12 13 (by decide) (List.mem_of_getElem? (i := 2) rfl) f0_13 dX12_begin_40 ?_
        refine lv_aload_n hx hb dX12_begin_43 rfl (lv_at hl 1 rfl) ?_
        refine cg_get hC hO 0 (by decide) o0 rfl i_X12 36 (by decide) (List.mem_of_getElem? (i := 3) rfl) f0_36 dX12_begin_44 ?_
        refine cg_iald hC hO 2 (by decide) a2 (cin (by decide)) dX12_begin_47 ?_
        refine cg_ev (v := 0) (rfl) ?_
        refine lv_icmp_ge (tgt := 133) hx hb dX12_begin_48 (by decide) (fun _ => ?_) (fun h => absurd h (by decide))
        refine lv_iconst (v := 0) hx hb dX12_begin_133 (by decide) ?_
        refine lv_istore_n (lv' := [(1, .int 0), (0, .ref (ad 0))]) hx hb dX12_begin_134 rfl hl (by decide) rfl (fun ls hl => ?_)
        refine lv_iload_n hx hb dX12_begin_135 rfl (lv_at hl 0 rfl) ?_
        refine lv_aload_n hx hb dX12_begin_136 rfl (lv_at hl 1 rfl) ?_
        refine cg_Vi (As := []) (rest := [.int 0]) (mc := 0) (ms := 0) (rm := { frames := 0, cells := 0, slots := 0, locals := 0 }) hC hl.1 hO [0, 3] rfl (c_birdMany0 l D cy _ _ (f0 := f0) o0 f0_11 f0_36 a3) gq_c_begin0_c_birdMany0_363 rfl rfl rfl 0 (by decide +kernel) ⟨Nat.le_of_ble_eq_true rfl, Nat.le_of_ble_eq_true rfl⟩ rfl (by decide) o0 rfl rfl (Nat.le_of_ble_eq_true rfl) dX12_begin_137 ⟨Nat.le_of_ble_eq_true rfl, Nat.le_of_ble_eq_true rfl⟩ (fun r_137_8 nw_137_6 l_137_7 H locs hw hO => ?_)
        obtain ⟨rfl, rfl⟩ := hw
        have hO : cO D cy A s.heap s 4 ad (cup [(1, .inl (cy 0, 80, .inl (fun _ => 0)))] g) _ _ := hO
        refine lv_icmp_ge (tgt := 171) hx hb dX12_begin_140 (by decide) (fun _ => ?_) (fun h => absurd h (by decide))
        refine lv_aload_n hx hb dX12_begin_171 rfl (lv_at hl 1 rfl) ?_
        refine lv_iconst (v := 0) hx hb dX12_begin_172 (by decide) ?_
        refine cg_put hC hO 0 (by decide) o0 rfl i_X12 tyX12_ok nmX12 59 (by decide) (List.mem_of_getElem? (i := 10) rfl) rfl rfl rfl (fs_lt f0_59) dX12_begin_173 (fun H locs hO => ?_)
        have hO : cO D cy A s.heap s 4 ad (cup [(1, .inl (cy 0, 80, .inl (fun _ => 0))), (0, .inr (12, (f0.set 59 (.int 0))))] g) _ _ := hO
        refine lv_aload_n hx hb dX12_begin_176 rfl (lv_at hl 1 rfl) ?_
        refine lv_iconst (v := 0) hx hb dX12_begin_177 (by decide) ?_
        refine cg_put hC hO 0 (by decide) rfl rfl i_X12 tyX12_ok nmX12 60 (by decide) (List.mem_of_getElem? (i := 11) rfl) rfl rfl rfl (fs_lt (fs_ne (by decide) f0_60)) dX12_begin_178 (fun H locs hO => ?_)
        have hO : cO D cy A s.heap s 4 ad (cup [(1, .inl (cy 0, 80, .inl (fun _ => 0))), (0, .inr (12, ((f0.set 59 (.int 0)).set 60 (.int 0))))] g) _ _ := hO
        exact cg_vret (nw := fun _ => 0) hC hr hlk hO.same (Nat.le_of_ble_eq_true rfl) (Nat.le_of_ble_eq_true rfl) rfl dX12_begin_181
      · have nh_5_5 : ¬ 80 ≤ i := fun z => h_5_5 ((nI_leI (a := 80) (b := i) (by omega) (by omega)).mpr z)
        refine lv_aload_n hx hb dX12_begin_8 rfl (lv_at hl 1 rfl) ?_
        refine cg_get hC hO 0 (by decide) o0 rfl i_X12 41 (by decide) (List.mem_of_getElem? (i := 1) rfl) f0_41 dX12_begin_9 ?_
        refine lv_iload_n hx hb dX12_begin_12 rfl (lv_at hl 0 rfl) ?_
        refine lv_iconst (v := 0) hx hb dX12_begin_13 (by decide) ?_
        refine cg_iast hC hO 1 (by decide) rfl (vp_in_nI (by omega) (by omega)) dX12_begin_14 (fun H locs hO => ?_)
        have hO : cO D cy A s.heap s 4 ad (cup [(1, .inl (cy 0, 80, .inl (upd (fun _ => 0) (nI i).toNatClampNeg 0)))] g) _ _ := hO
        rw [upd_const] at hO
        have hO : cO D cy A s.heap s 4 ad (cup [(1, .inl (cy 0, 80, .inl (fun _ => 0)))] g) _ _ := hO
        refine lv_iinc (v := (nI (i + 1))) (lv' := [(1, .int (nI (i + 1))), (0, .ref (ad 0))]) hx hb dX12_begin_15 hl (k := 0) rfl (nI_add i 1) (by decide) rfl (fun ls hl => ?_)
        refine lv_goto (tgt := 2) hx hb dX12_begin_18 (by decide) ?_
        exact ih_2_4 (i + 1) (by omega) (by omega) _ _ hO ls (lv_sub hl [0, 1] rfl)
  exact loop_2_1 (80 + 1) 0 (by omega) (by omega) _ _ hO ls hl

def wq_c_clearBank1 : List Cond := Cond.code yX12_clearBank cX12_clearBank 2 none :: (([Cond.fieldLink RX12 20 "CrowTollModel" "birds" "[I", Cond.fieldLink RX12 277 "CrowTollModel" "rb" "I", Cond.fieldLink RX12 24 "CrowTollModel" "posts" "[I", Cond.fieldLink RX12 27 "CrowTollModel" "carts" "[I", Cond.fieldLink RX12 30 "CrowTollModel" "units" "[I", Cond.fieldLink RX12 70 "CrowTollModel" "isLaw" "[Z", Cond.fieldLink RX12 280 "CrowTollModel" "codes" "I", Cond.fieldLink RX12 42 "CrowTollModel" "postOf" "[I"] : List Cond) ++ wsX120)
set_option maxHeartbeats 8000000 in
set_option maxRecDepth 100000 in
theorem c_clearBank1 (l : Launch) (D : va_G) (cy : Nat → ClassId) (ad : Nat → Nat) (g : Nat → va_E) {f0 : List Value} {x : Int32} {c6 : Nat → Int32} (o0 : g 0 = .inr (12, f0)) (f0_11 : f0[11]? = some (.ref (ad 1))) (f0_12 : f0[12]? = some (.ref (ad 2))) (f0_13 : f0[13]? = some (.ref (ad 3))) (f0_14 : f0[14]? = some (.ref (ad 4))) (f0_27 : f0[27]? = some (.ref (ad 5))) (f0_37 : f0[37]? = some (.int 1)) (f0_38 : f0[38]? = some (.int x)) (f0_18 : f0[18]? = some (.ref (ad 6))) (a1 : g 1 = .inl (cy 0, 2, .inl (fun _ => 0))) (a2 : g 2 = .inl (cy 0, 2, .inl (fun _ => 0))) (a3 : g 3 = .inl (cy 0, 2, .inl (fun _ => 0))) (a4 : g 4 = .inl (cy 0, 2, .inl (fun _ => 0))) (a5 : g 5 = .inl (cy 2, 2, .inl (fun _ => 0))) (a6 : g 6 = .inl (cy 0, 10, .inl c6)) : cMv l yX12_clearBank wq_c_clearBank1 { frames := 0, cells := 0, slots := 0, locals := 0 } 7 0 0 0 D cy ad g [.ref (ad 0)] (fun nw lu => lu = [(1, .inl (cy 0, 2, .inl (fun _ => 0))), (2, .inl (cy 0, 2, .inl (fun _ => 0))), (3, .inl (cy 0, 2, .inl (fun _ => 0))), (4, .inl (cy 0, 2, .inl (fun _ => 0))), (5, .inl (cy 2, 2, .inl (fun _ => 0))), (0, .inr (12, (f0.set 38 (.int 490)))), (6, .inl (cy 0, 10, .inl (upd (upd (upd (upd (upd c6 (5 : Int32).toNatClampNeg (-1)) (6 : Int32).toNatClampNeg (-1)) (7 : Int32).toNatClampNeg (-1)) (8 : Int32).toNatClampNeg (-1)) (9 : Int32).toNatClampNeg (-1))))]) := by
  refine cM_of (Qc := fun A => cQv (fun nw lu => lu = [(1, .inl (cy 0, 2, .inl (fun _ => 0))), (2, .inl (cy 0, 2, .inl (fun _ => 0))), (3, .inl (cy 0, 2, .inl (fun _ => 0))), (4, .inl (cy 0, 2, .inl (fun _ => 0))), (5, .inl (cy 2, 2, .inl (fun _ => 0))), (0, .inr (12, (f0.set 38 (.int 490)))), (6, .inl (cy 0, 10, .inl (upd (upd (upd (upd (upd c6 (5 : Int32).toNatClampNeg (-1)) (6 : Int32).toNatClampNeg (-1)) (7 : Int32).toNatClampNeg (-1)) (8 : Int32).toNatClampNeg (-1)) (9 : Int32).toNatClampNeg (-1))))]) D 7 0 ad g A) (cc := cX12_clearBank) (maxL := 2) (ret := none) (by decide) rfl (Nat.le_of_ble_eq_true rfl) ?_
  intro p e s m below meth c A hC hr hlk hnm hO ls hl
  have hC : CallFix p m c cX12_clearBank 2 s [.ref (ad 0)].toArray wq_c_clearBank1 RX12 := hC
  obtain ⟨hx, hb, hml, hown, hts⟩ := id hC
  have hl : lv_has ls 2 [(0, .ref (ad 0))] := hl
  have i_X12 : ∀ w ∈ wsX120, w ∈ wq_c_clearBank1 := fun w h => List.mem_cons_of_mem _ (List.mem_append_right _ h)
  refine lv_aload_n hx hb dX12_clearBank_0 rfl (lv_at hl 0 rfl) ?_
  refine cg_get hC hO 0 (by decide) o0 rfl i_X12 11 (by decide) (List.mem_of_getElem? (i := 1) rfl) f0_11 dX12_clearBank_1 ?_
  refine lv_aload_n hx hb dX12_clearBank_4 rfl (lv_at hl 0 rfl) ?_
  refine cg_get hC hO 0 (by decide) o0 rfl i_X12 37 (by decide) (List.mem_of_getElem? (i := 2) rfl) f0_37 dX12_clearBank_5 ?_
  refine lv_iconst (v := 0) hx hb dX12_clearBank_8 (by decide) ?_
  refine cg_iast hC hO 1 (by decide) a1 (cin (by decide)) dX12_clearBank_9 (fun H locs hO => ?_)
  have hO : cO D cy A s.heap s 7 ad (cup [(1, .inl (cy 0, 2, .inl (upd (fun _ => 0) (1 : Int32).toNatClampNeg 0)))] g) _ _ := hO
  rw [upd_const] at hO
  have hO : cO D cy A s.heap s 7 ad (cup [(1, .inl (cy 0, 2, .inl (fun _ => 0)))] g) _ _ := hO
  refine lv_aload_n hx hb dX12_clearBank_10 rfl (lv_at hl 0 rfl) ?_
  refine cg_get hC hO 0 (by decide) o0 rfl i_X12 12 (by decide) (List.mem_of_getElem? (i := 3) rfl) f0_12 dX12_clearBank_11 ?_
  refine lv_aload_n hx hb dX12_clearBank_14 rfl (lv_at hl 0 rfl) ?_
  refine cg_get hC hO 0 (by decide) o0 rfl i_X12 37 (by decide) (List.mem_of_getElem? (i := 2) rfl) f0_37 dX12_clearBank_15 ?_
  refine lv_iconst (v := 0) hx hb dX12_clearBank_18 (by decide) ?_
  refine cg_iast hC hO 2 (by decide) a2 (cin (by decide)) dX12_clearBank_19 (fun H locs hO => ?_)
  have hO : cO D cy A s.heap s 7 ad (cup [(1, .inl (cy 0, 2, .inl (fun _ => 0))), (2, .inl (cy 0, 2, .inl (upd (fun _ => 0) (1 : Int32).toNatClampNeg 0)))] g) _ _ := hO
  rw [upd_const] at hO
  have hO : cO D cy A s.heap s 7 ad (cup [(1, .inl (cy 0, 2, .inl (fun _ => 0))), (2, .inl (cy 0, 2, .inl (fun _ => 0)))] g) _ _ := hO
  refine lv_aload_n hx hb dX12_clearBank_20 rfl (lv_at hl 0 rfl) ?_
  refine cg_get hC hO 0 (by decide) o0 rfl i_X12 13 (by decide) (List.mem_of_getElem? (i := 4) rfl) f0_13 dX12_clearBank_21 ?_
  refine lv_aload_n hx hb dX12_clearBank_24 rfl (lv_at hl 0 rfl) ?_
  refine cg_get hC hO 0 (by decide) o0 rfl i_X12 37 (by decide) (List.mem_of_getElem? (i := 2) rfl) f0_37 dX12_clearBank_25 ?_
  refine lv_iconst (v := 0) hx hb dX12_clearBank_28 (by decide) ?_
  refine cg_iast hC hO 3 (by decide) a3 (cin (by decide)) dX12_clearBank_29 (fun H locs hO => ?_)
  have hO : cO D cy A s.heap s 7 ad (cup [(1, .inl (cy 0, 2, .inl (fun _ => 0))), (2, .inl (cy 0, 2, .inl (fun _ => 0))), (3, .inl (cy 0, 2, .inl (upd (fun _ => 0) (1 : Int32).toNatClampNeg 0)))] g) _ _ := hO
  rw [upd_const] at hO
  have hO : cO D cy A s.heap s 7 ad (cup [(1, .inl (cy 0, 2, .inl (fun _ => 0))), (2, .inl (cy 0, 2, .inl (fun _ => 0))), (3, .inl (cy 0, 2, .inl (fun _ => 0)))] g) _ _ := hO
  refine lv_aload_n hx hb dX12_clearBank_30 rfl (lv_at hl 0 rfl) ?_
  refine cg_get hC hO 0 (by decide) o0 rfl i_X12 14 (by decide) (List.mem_of_getElem? (i := 5) rfl) f0_14 dX12_clearBank_31 ?_
  refine lv_aload_n hx hb dX12_clearBank_34 rfl (lv_at hl 0 rfl) ?_
  refine cg_get hC hO 0 (by decide) o0 rfl i_X12 37 (by decide) (List.mem_of_getElem? (i := 2) rfl) f0_37 dX12_clearBank_35 ?_
  refine lv_iconst (v := 0) hx hb dX12_clearBank_38 (by decide) ?_
  refine cg_iast hC hO 4 (by decide) a4 (cin (by decide)) dX12_clearBank_39 (fun H locs hO => ?_)
  have hO : cO D cy A s.heap s 7 ad (cup [(1, .inl (cy 0, 2, .inl (fun _ => 0))), (2, .inl (cy 0, 2, .inl (fun _ => 0))), (3, .inl (cy 0, 2, .inl (fun _ => 0))), (4, .inl (cy 0, 2, .inl (upd (fun _ => 0) (1 : Int32).toNatClampNeg 0)))] g) _ _ := hO
  rw [upd_const] at hO
  have hO : cO D cy A s.heap s 7 ad (cup [(1, .inl (cy 0, 2, .inl (fun _ => 0))), (2, .inl (cy 0, 2, .inl (fun _ => 0))), (3, .inl (cy 0, 2, .inl (fun _ => 0))), (4, .inl (cy 0, 2, .inl (fun _ => 0)))] g) _ _ := hO
  refine lv_aload_n hx hb dX12_clearBank_40 rfl (lv_at hl 0 rfl) ?_
  refine cg_get hC hO 0 (by decide) o0 rfl i_X12 27 (by decide) (List.mem_of_getElem? (i := 6) rfl) f0_27 dX12_clearBank_41 ?_
  refine lv_aload_n hx hb dX12_clearBank_44 rfl (lv_at hl 0 rfl) ?_
  refine cg_get hC hO 0 (by decide) o0 rfl i_X12 37 (by decide) (List.mem_of_getElem? (i := 2) rfl) f0_37 dX12_clearBank_45 ?_
  refine lv_iconst (v := 0) hx hb dX12_clearBank_48 (by decide) ?_
  refine cg_zast hC hO 5 (by decide) a5 (cin (by decide)) dX12_clearBank_49 (fun H locs hO => ?_)
  have hO : cO D cy A s.heap s 7 ad (cup [(1, .inl (cy 0, 2, .inl (fun _ => 0))), (2, .inl (cy 0, 2, .inl (fun _ => 0))), (3, .inl (cy 0, 2, .inl (fun _ => 0))), (4, .inl (cy 0, 2, .inl (fun _ => 0))), (5, .inl (cy 2, 2, .inl (upd (fun _ => 0) (1 : Int32).toNatClampNeg 0)))] g) _ _ := hO
  rw [upd_const] at hO
  have hO : cO D cy A s.heap s 7 ad (cup [(1, .inl (cy 0, 2, .inl (fun _ => 0))), (2, .inl (cy 0, 2, .inl (fun _ => 0))), (3, .inl (cy 0, 2, .inl (fun _ => 0))), (4, .inl (cy 0, 2, .inl (fun _ => 0))), (5, .inl (cy 2, 2, .inl (fun _ => 0)))] g) _ _ := hO
  refine lv_aload_n hx hb dX12_clearBank_50 rfl (lv_at hl 0 rfl) ?_
  refine lv_sipush (v := 490) hx hb dX12_clearBank_51 (by decide) ?_
  refine lv_aload_n hx hb dX12_clearBank_54 rfl (lv_at hl 0 rfl) ?_
  refine cg_get hC hO 0 (by decide) o0 rfl i_X12 37 (by decide) (List.mem_of_getElem? (i := 2) rfl) f0_37 dX12_clearBank_55 ?_
  refine lv_imul hx hb dX12_clearBank_58 ?_
  refine cg_ev (v := 490) (by decide) ?_
  refine cg_put hC hO 0 (by decide) o0 rfl i_X12 tyX12_ok nmX12 38 (by decide) (List.mem_of_getElem? (i := 7) rfl) rfl rfl rfl (fs_lt f0_38) dX12_clearBank_59 (fun H locs hO => ?_)
  have hO : cO D cy A s.heap s 7 ad (cup [(1, .inl (cy 0, 2, .inl (fun _ => 0))), (2, .inl (cy 0, 2, .inl (fun _ => 0))), (3, .inl (cy 0, 2, .inl (fun _ => 0))), (4, .inl (cy 0, 2, .inl (fun _ => 0))), (5, .inl (cy 2, 2, .inl (fun _ => 0))), (0, .inr (12, (f0.set 38 (.int 490))))] g) _ _ := hO
  refine lv_iconst (v := 5) hx hb dX12_clearBank_62 (by decide) ?_
  refine lv_aload_n hx hb dX12_clearBank_63 rfl (lv_at hl 0 rfl) ?_
  refine cg_get hC hO 0 (by decide) rfl rfl i_X12 37 (by decide) (List.mem_of_getElem? (i := 2) rfl) (fs_ne (by decide) f0_37) dX12_clearBank_64 ?_
  refine lv_imul hx hb dX12_clearBank_67 ?_
  refine cg_ev (v := 5) (by decide) ?_
  refine lv_istore_n (lv' := [(1, .int 5), (0, .ref (ad 0))]) hx hb dX12_clearBank_68 rfl hl (by decide) rfl (fun ls hl => ?_)
  refine lv_iload_n hx hb dX12_clearBank_69 rfl (lv_at hl 0 rfl) ?_
  refine lv_iconst (v := 5) hx hb dX12_clearBank_70 (by decide) ?_
  refine lv_aload_n hx hb dX12_clearBank_71 rfl (lv_at hl 1 rfl) ?_
  refine cg_get hC hO 0 (by decide) rfl rfl i_X12 37 (by decide) (List.mem_of_getElem? (i := 2) rfl) (fs_ne (by decide) f0_37) dX12_clearBank_72 ?_
  refine lv_imul hx hb dX12_clearBank_75 ?_
  refine cg_ev (v := 5) (by decide) ?_
  refine lv_iconst (v := 5) hx hb dX12_clearBank_76 (by decide) ?_
  refine lv_iadd hx hb dX12_clearBank_77 ?_
  refine cg_ev (v := 10) (by decide) ?_
  refine lv_icmp_ge (tgt := 94) hx hb dX12_clearBank_78 (by decide) (fun h => absurd h (by decide)) (fun _ => ?_)
  refine lv_aload_n hx hb dX12_clearBank_81 rfl (lv_at hl 1 rfl) ?_
  refine cg_get hC hO 0 (by decide) rfl rfl i_X12 18 (by decide) (List.mem_of_getElem? (i := 8) rfl) (fs_ne (by decide) f0_18) dX12_clearBank_82 ?_
  refine lv_iload_n hx hb dX12_clearBank_85 rfl (lv_at hl 0 rfl) ?_
  refine lv_iconst (v := (-1)) hx hb dX12_clearBank_86 (by decide) ?_
  refine cg_iast hC hO 6 (by decide) a6 (cin (by decide)) dX12_clearBank_87 (fun H locs hO => ?_)
  have hO : cO D cy A s.heap s 7 ad (cup [(1, .inl (cy 0, 2, .inl (fun _ => 0))), (2, .inl (cy 0, 2, .inl (fun _ => 0))), (3, .inl (cy 0, 2, .inl (fun _ => 0))), (4, .inl (cy 0, 2, .inl (fun _ => 0))), (5, .inl (cy 2, 2, .inl (fun _ => 0))), (0, .inr (12, (f0.set 38 (.int 490)))), (6, .inl (cy 0, 10, .inl (upd c6 (5 : Int32).toNatClampNeg (-1))))] g) _ _ := hO
  refine lv_iinc (v := 6) (lv' := [(1, .int 6), (0, .ref (ad 0))]) hx hb dX12_clearBank_88 hl (k := 0) rfl (by decide) (by decide) rfl (fun ls hl => ?_)
  refine lv_goto (tgt := 69) hx hb dX12_clearBank_91 (by decide) ?_
  refine lv_iload_n hx hb dX12_clearBank_69 rfl (lv_at hl 0 rfl) ?_
  refine lv_iconst (v := 5) hx hb dX12_clearBank_70 (by decide) ?_
  refine lv_aload_n hx hb dX12_clearBank_71 rfl (lv_at hl 1 rfl) ?_
  refine cg_get hC hO 0 (by decide) rfl rfl i_X12 37 (by decide) (List.mem_of_getElem? (i := 2) rfl) (fs_ne (by decide) f0_37) dX12_clearBank_72 ?_
  refine lv_imul hx hb dX12_clearBank_75 ?_
  refine cg_ev (v := 5) (by decide) ?_
  refine lv_iconst (v := 5) hx hb dX12_clearBank_76 (by decide) ?_
  refine lv_iadd hx hb dX12_clearBank_77 ?_
  refine cg_ev (v := 10) (by decide) ?_
  refine lv_icmp_ge (tgt := 94) hx hb dX12_clearBank_78 (by decide) (fun h => absurd h (by decide)) (fun _ => ?_)
  refine lv_aload_n hx hb dX12_clearBank_81 rfl (lv_at hl 1 rfl) ?_
  refine cg_get hC hO 0 (by decide) rfl rfl i_X12 18 (by decide) (List.mem_of_getElem? (i := 8) rfl) (fs_ne (by decide) f0_18) dX12_clearBank_82 ?_
  refine lv_iload_n hx hb dX12_clearBank_85 rfl (lv_at hl 0 rfl) ?_
  refine lv_iconst (v := (-1)) hx hb dX12_clearBank_86 (by decide) ?_
  refine cg_iast hC hO 6 (by decide) rfl (cin (by decide)) dX12_clearBank_87 (fun H locs hO => ?_)
  have hO : cO D cy A s.heap s 7 ad (cup [(1, .inl (cy 0, 2, .inl (fun _ => 0))), (2, .inl (cy 0, 2, .inl (fun _ => 0))), (3, .inl (cy 0, 2, .inl (fun _ => 0))), (4, .inl (cy 0, 2, .inl (fun _ => 0))), (5, .inl (cy 2, 2, .inl (fun _ => 0))), (0, .inr (12, (f0.set 38 (.int 490)))), (6, .inl (cy 0, 10, .inl (upd (upd c6 (5 : Int32).toNatClampNeg (-1)) (6 : Int32).toNatClampNeg (-1))))] g) _ _ := hO
  refine lv_iinc (v := 7) (lv' := [(1, .int 7), (0, .ref (ad 0))]) hx hb dX12_clearBank_88 hl (k := 0) rfl (by decide) (by decide) rfl (fun ls hl => ?_)
  refine lv_goto (tgt := 69) hx hb dX12_clearBank_91 (by decide) ?_
  refine lv_iload_n hx hb dX12_clearBank_69 rfl (lv_at hl 0 rfl) ?_
  refine lv_iconst (v := 5) hx hb dX12_clearBank_70 (by decide) ?_
  refine lv_aload_n hx hb dX12_clearBank_71 rfl (lv_at hl 1 rfl) ?_
  refine cg_get hC hO 0 (by decide) rfl rfl i_X12 37 (by decide) (List.mem_of_getElem? (i := 2) rfl) (fs_ne (by decide) f0_37) dX12_clearBank_72 ?_
  refine lv_imul hx hb dX12_clearBank_75 ?_
  refine cg_ev (v := 5) (by decide) ?_
  refine lv_iconst (v := 5) hx hb dX12_clearBank_76 (by decide) ?_
  refine lv_iadd hx hb dX12_clearBank_77 ?_
  refine cg_ev (v := 10) (by decide) ?_
  refine lv_icmp_ge (tgt := 94) hx hb dX12_clearBank_78 (by decide) (fun h => absurd h (by decide)) (fun _ => ?_)
  refine lv_aload_n hx hb dX12_clearBank_81 rfl (lv_at hl 1 rfl) ?_
  refine cg_get hC hO 0 (by decide) rfl rfl i_X12 18 (by decide) (List.mem_of_getElem? (i := 8) rfl) (fs_ne (by decide) f0_18) dX12_clearBank_82 ?_
  refine lv_iload_n hx hb dX12_clearBank_85 rfl (lv_at hl 0 rfl) ?_
  refine lv_iconst (v := (-1)) hx hb dX12_clearBank_86 (by decide) ?_
  refine cg_iast hC hO 6 (by decide) rfl (cin (by decide)) dX12_clearBank_87 (fun H locs hO => ?_)
  have hO : cO D cy A s.heap s 7 ad (cup [(1, .inl (cy 0, 2, .inl (fun _ => 0))), (2, .inl (cy 0, 2, .inl (fun _ => 0))), (3, .inl (cy 0, 2, .inl (fun _ => 0))), (4, .inl (cy 0, 2, .inl (fun _ => 0))), (5, .inl (cy 2, 2, .inl (fun _ => 0))), (0, .inr (12, (f0.set 38 (.int 490)))), (6, .inl (cy 0, 10, .inl (upd (upd (upd c6 (5 : Int32).toNatClampNeg (-1)) (6 : Int32).toNatClampNeg (-1)) (7 : Int32).toNatClampNeg (-1))))] g) _ _ := hO
  refine lv_iinc (v := 8) (lv' := [(1, .int 8), (0, .ref (ad 0))]) hx hb dX12_clearBank_88 hl (k := 0) rfl (by decide) (by decide) rfl (fun ls hl => ?_)
  refine lv_goto (tgt := 69) hx hb dX12_clearBank_91 (by decide) ?_
  refine lv_iload_n hx hb dX12_clearBank_69 rfl (lv_at hl 0 rfl) ?_
  refine lv_iconst (v := 5) hx hb dX12_clearBank_70 (by decide) ?_
  refine lv_aload_n hx hb dX12_clearBank_71 rfl (lv_at hl 1 rfl) ?_
  refine cg_get hC hO 0 (by decide) rfl rfl i_X12 37 (by decide) (List.mem_of_getElem? (i := 2) rfl) (fs_ne (by decide) f0_37) dX12_clearBank_72 ?_
  refine lv_imul hx hb dX12_clearBank_75 ?_
  refine cg_ev (v := 5) (by decide) ?_
  refine lv_iconst (v := 5) hx hb dX12_clearBank_76 (by decide) ?_
  refine lv_iadd hx hb dX12_clearBank_77 ?_
  refine cg_ev (v := 10) (by decide) ?_
  refine lv_icmp_ge (tgt := 94) hx hb dX12_clearBank_78 (by decide) (fun h => absurd h (by decide)) (fun _ => ?_)
  refine lv_aload_n hx hb dX12_clearBank_81 rfl (lv_at hl 1 rfl) ?_
  refine cg_get hC hO 0 (by decide) rfl rfl i_X12 18 (by decide) (List.mem_of_getElem? (i := 8) rfl) (fs_ne (by decide) f0_18) dX12_clearBank_82 ?_
  refine lv_iload_n hx hb dX12_clearBank_85 rfl (lv_at hl 0 rfl) ?_
  refine lv_iconst (v := (-1)) hx hb dX12_clearBank_86 (by decide) ?_
  refine cg_iast hC hO 6 (by decide) rfl (cin (by decide)) dX12_clearBank_87 (fun H locs hO => ?_)
  have hO : cO D cy A s.heap s 7 ad (cup [(1, .inl (cy 0, 2, .inl (fun _ => 0))), (2, .inl (cy 0, 2, .inl (fun _ => 0))), (3, .inl (cy 0, 2, .inl (fun _ => 0))), (4, .inl (cy 0, 2, .inl (fun _ => 0))), (5, .inl (cy 2, 2, .inl (fun _ => 0))), (0, .inr (12, (f0.set 38 (.int 490)))), (6, .inl (cy 0, 10, .inl (upd (upd (upd (upd c6 (5 : Int32).toNatClampNeg (-1)) (6 : Int32).toNatClampNeg (-1)) (7 : Int32).toNatClampNeg (-1)) (8 : Int32).toNatClampNeg (-1))))] g) _ _ := hO
  refine lv_iinc (v := 9) (lv' := [(1, .int 9), (0, .ref (ad 0))]) hx hb dX12_clearBank_88 hl (k := 0) rfl (by decide) (by decide) rfl (fun ls hl => ?_)
  refine lv_goto (tgt := 69) hx hb dX12_clearBank_91 (by decide) ?_
  refine lv_iload_n hx hb dX12_clearBank_69 rfl (lv_at hl 0 rfl) ?_
  refine lv_iconst (v := 5) hx hb dX12_clearBank_70 (by decide) ?_
  refine lv_aload_n hx hb dX12_clearBank_71 rfl (lv_at hl 1 rfl) ?_
  refine cg_get hC hO 0 (by decide) rfl rfl i_X12 37 (by decide) (List.mem_of_getElem? (i := 2) rfl) (fs_ne (by decide) f0_37) dX12_clearBank_72 ?_
  refine lv_imul hx hb dX12_clearBank_75 ?_
  refine cg_ev (v := 5) (by decide) ?_
  refine lv_iconst (v := 5) hx hb dX12_clearBank_76 (by decide) ?_
  refine lv_iadd hx hb dX12_clearBank_77 ?_
  refine cg_ev (v := 10) (by decide) ?_
  refine lv_icmp_ge (tgt := 94) hx hb dX12_clearBank_78 (by decide) (fun h => absurd h (by decide)) (fun _ => ?_)
  refine lv_aload_n hx hb dX12_clearBank_81 rfl (lv_at hl 1 rfl) ?_
  refine cg_get hC hO 0 (by decide) rfl rfl i_X12 18 (by decide) (List.mem_of_getElem? (i := 8) rfl) (fs_ne (by decide) f0_18) dX12_clearBank_82 ?_
  refine lv_iload_n hx hb dX12_clearBank_85 rfl (lv_at hl 0 rfl) ?_
  refine lv_iconst (v := (-1)) hx hb dX12_clearBank_86 (by decide) ?_
  refine cg_iast hC hO 6 (by decide) rfl (cin (by decide)) dX12_clearBank_87 (fun H locs hO => ?_)
  have hO : cO D cy A s.heap s 7 ad (cup [(1, .inl (cy 0, 2, .inl (fun _ => 0))), (2, .inl (cy 0, 2, .inl (fun _ => 0))), (3, .inl (cy 0, 2, .inl (fun _ => 0))), (4, .inl (cy 0, 2, .inl (fun _ => 0))), (5, .inl (cy 2, 2, .inl (fun _ => 0))), (0, .inr (12, (f0.set 38 (.int 490)))), (6, .inl (cy 0, 10, .inl (upd (upd (upd (upd (upd c6 (5 : Int32).toNatClampNeg (-1)) (6 : Int32).toNatClampNeg (-1)) (7 : Int32).toNatClampNeg (-1)) (8 : Int32).toNatClampNeg (-1)) (9 : Int32).toNatClampNeg (-1))))] g) _ _ := hO
  refine lv_iinc (v := 10) (lv' := [(1, .int 10), (0, .ref (ad 0))]) hx hb dX12_clearBank_88 hl (k := 0) rfl (by decide) (by decide) rfl (fun ls hl => ?_)
  refine lv_goto (tgt := 69) hx hb dX12_clearBank_91 (by decide) ?_
  refine lv_iload_n hx hb dX12_clearBank_69 rfl (lv_at hl 0 rfl) ?_
  refine lv_iconst (v := 5) hx hb dX12_clearBank_70 (by decide) ?_
  refine lv_aload_n hx hb dX12_clearBank_71 rfl (lv_at hl 1 rfl) ?_
  refine cg_get hC hO 0 (by decide) rfl rfl i_X12 37 (by decide) (List.mem_of_getElem? (i := 2) rfl) (fs_ne (by decide) f0_37) dX12_clearBank_72 ?_
  refine lv_imul hx hb dX12_clearBank_75 ?_
  refine cg_ev (v := 5) (by decide) ?_
  refine lv_iconst (v := 5) hx hb dX12_clearBank_76 (by decide) ?_
  refine lv_iadd hx hb dX12_clearBank_77 ?_
  refine cg_ev (v := 10) (by decide) ?_
  refine lv_icmp_ge (tgt := 94) hx hb dX12_clearBank_78 (by decide) (fun _ => ?_) (fun h => absurd h (by decide))
  exact cg_vret (nw := fun _ => 0) hC hr hlk hO.same (Nat.le_of_ble_eq_true rfl) (Nat.le_of_ble_eq_true rfl) rfl dX12_clearBank_94

def wq_c_birdMany1 : List Cond := Cond.code yX12_birdMany cX12_birdMany 1 (some .int) :: (([Cond.fieldLink RX12 20 "CrowTollModel" "birds" "[I", Cond.fieldLink RX12 286 "CrowTollModel" "bank" "I"] : List Cond) ++ wsX120)
set_option maxHeartbeats 8000000 in
set_option maxRecDepth 100000 in
theorem c_birdMany1 (l : Launch) (D : va_G) (cy : Nat → ClassId) (ad : Nat → Nat) (g : Nat → va_E) {f0 : List Value} (o0 : g 0 = .inr (12, f0)) (f0_11 : f0[11]? = some (.ref (ad 1))) (f0_36 : f0[36]? = some (.int 1)) (a1 : g 1 = .inl (cy 0, 2, .inl (fun _ => 0))) : cMi l yX12_birdMany wq_c_birdMany1 { frames := 0, cells := 0, slots := 0, locals := 0 } 2 0 0 0 D cy ad g [.ref (ad 0)] (fun r nw lu => (r = 0) ∧ (lu = [])) := by
  refine cM_of (Qc := fun A => cQi (fun r nw lu => (r = 0) ∧ (lu = [])) D 2 0 ad g A) (cc := cX12_birdMany) (maxL := 1) (ret := (some .int)) (by decide) rfl (Nat.le_of_ble_eq_true rfl) ?_
  intro p e s m below meth c A hC hr hlk hnm hO ls hl
  have hC : CallFix p m c cX12_birdMany 1 s [.ref (ad 0)].toArray wq_c_birdMany1 RX12 := hC
  obtain ⟨hx, hb, hml, hown, hts⟩ := id hC
  have hl : lv_has ls 1 [(0, .ref (ad 0))] := hl
  have i_X12 : ∀ w ∈ wsX120, w ∈ wq_c_birdMany1 := fun w h => List.mem_cons_of_mem _ (List.mem_append_right _ h)
  refine lv_aload_n hx hb dX12_birdMany_0 rfl (lv_at hl 0 rfl) ?_
  refine cg_get hC hO 0 (by decide) o0 rfl i_X12 11 (by decide) (List.mem_of_getElem? (i := 1) rfl) f0_11 dX12_birdMany_1 ?_
  refine lv_aload_n hx hb dX12_birdMany_4 rfl (lv_at hl 0 rfl) ?_
  refine cg_get hC hO 0 (by decide) o0 rfl i_X12 36 (by decide) (List.mem_of_getElem? (i := 2) rfl) f0_36 dX12_birdMany_5 ?_
  refine cg_iald hC hO 1 (by decide) a1 (cin (by decide)) dX12_birdMany_8 ?_
  refine cg_ev (v := 0) (rfl) ?_
  exact cg_iret (nw := fun _ => 0) hC hr hlk hO.same rfl (Nat.le_of_ble_eq_true rfl) (Nat.le_of_ble_eq_true rfl) (⟨rfl, rfl⟩) dX12_birdMany_9

def wq_c_begin1 : List Cond := Cond.code yX12_begin cX12_begin 2 none :: (([Cond.fieldLink RX12 98 "CrowTollModel" "state" "[I", Cond.fieldLink RX12 27 "CrowTollModel" "carts" "[I", Cond.fieldLink RX12 286 "CrowTollModel" "bank" "I", Cond.methodLink RX12 363 yX12_birdMany, Cond.instanceMethod yX12_birdMany, Cond.selects RX12 yX12_birdMany yX12_birdMany, Cond.initialized RX12, Cond.code yX12_birdMany cX12_birdMany 1 (some .int), Cond.fieldLink RX12 20 "CrowTollModel" "birds" "[I", Cond.fieldLink RX12 373 "CrowTollModel" "acts" "I", Cond.fieldLink RX12 376 "CrowTollModel" "undone" "I"] : List Cond) ++ wsX120)
set_option maxRecDepth 20000 in
theorem gr_c_begin1_c_birdMany1 : GoodIn wq_c_begin1 wq_c_birdMany1 := List.forall_mem_cons.mpr ⟨⟨(List.mem_of_getElem? (i := 8) rfl), good_of_word rfl⟩, List.forall_mem_append.mpr ⟨List.forall_mem_cons.mpr ⟨⟨(List.mem_of_getElem? (i := 9) rfl), good_of_word rfl⟩, List.forall_mem_cons.mpr ⟨⟨(List.mem_of_getElem? (i := 3) rfl), good_of_word rfl⟩, (fun _ h => absurd h List.not_mem_nil)⟩⟩, fun w h => ⟨(fun w h => List.mem_cons_of_mem _ (List.mem_append_right _ h)) w h, good_of_word (List.all_eq_true.mp gw_X12 w h)⟩⟩⟩
set_option maxRecDepth 20000 in
theorem gq_c_begin1_c_birdMany1_363 : GoodIn wq_c_begin1 (wsV RX12 363 RX12 yX12_birdMany wq_c_birdMany1) := goodIn_app (List.forall_mem_cons.mpr ⟨⟨(List.mem_of_getElem? (i := 4) rfl), good_of_word rfl⟩, List.forall_mem_cons.mpr ⟨⟨(List.mem_of_getElem? (i := 5) rfl), good_of_word rfl⟩, List.forall_mem_cons.mpr ⟨⟨(List.mem_of_getElem? (i := 6) rfl), good_of_word rfl⟩, List.forall_mem_cons.mpr ⟨⟨(List.mem_of_getElem? (i := 7) rfl), good_of_word rfl⟩, (fun _ h => absurd h List.not_mem_nil)⟩⟩⟩⟩) gr_c_begin1_c_birdMany1
set_option maxHeartbeats 8000000 in
set_option maxRecDepth 100000 in
theorem c_begin1 (l : Launch) (D : va_G) (cy : Nat → ClassId) (ad : Nat → Nat) (g : Nat → va_E) {f0 : List Value} {x : Int32} {y : Int32} (o0 : g 0 = .inr (12, f0)) (f0_41 : f0[41]? = some (.ref (ad 1))) (f0_13 : f0[13]? = some (.ref (ad 2))) (f0_36 : f0[36]? = some (.int 1)) (f0_11 : f0[11]? = some (.ref (ad 3))) (f0_59 : f0[59]? = some (.int x)) (f0_60 : f0[60]? = some (.int y)) (a1 : g 1 = .inl (cy 0, 80, .inl (fun _ => 0))) (a2 : g 2 = .inl (cy 0, 2, .inl (fun _ => 0))) (a3 : g 3 = .inl (cy 0, 2, .inl (fun _ => 0))) : cMv l yX12_begin wq_c_begin1 { frames := 1, cells := 0, slots := 0, locals := 20 } 4 0 0 0 D cy ad g [.ref (ad 0)] (fun nw lu => lu = [(1, .inl (cy 0, 80, .inl (fun _ => 0))), (0, .inr (12, ((f0.set 59 (.int 0)).set 60 (.int 0))))]) := by
  refine cM_of (Qc := fun A => cQv (fun nw lu => lu = [(1, .inl (cy 0, 80, .inl (fun _ => 0))), (0, .inr (12, ((f0.set 59 (.int 0)).set 60 (.int 0))))]) D 4 0 ad g A) (cc := cX12_begin) (maxL := 2) (ret := none) (by decide) rfl (Nat.le_of_ble_eq_true rfl) ?_
  intro p e s m below meth c A hC hr hlk hnm hO ls hl
  have hC : CallFix p m c cX12_begin 2 s [.ref (ad 0)].toArray wq_c_begin1 RX12 := hC
  obtain ⟨hx, hb, hml, hown, hts⟩ := id hC
  have hl : lv_has ls 2 [(0, .ref (ad 0))] := hl
  have i_X12 : ∀ w ∈ wsX120, w ∈ wq_c_begin1 := fun w h => List.mem_cons_of_mem _ (List.mem_append_right _ h)
  refine lv_iconst (v := 0) hx hb dX12_begin_0 (by decide) ?_
  refine lv_istore_n (lv' := [(1, .int 0), (0, .ref (ad 0))]) hx hb dX12_begin_1 rfl hl (by decide) rfl (fun ls hl => ?_)
  have hO := hO.note 1 (e := .inl (cy 0, 80, .inl (fun _ => 0))) a1
  have hO : cO D cy A s.heap s 4 ad (cup [(1, .inl (cy 0, 80, .inl (fun _ => 0)))] g) _ _ := hO
  have loop_2_1 : ∀ (d_2_2 : Nat) (i : Nat), (i ≤ 80) → 80 - i < d_2_2 → ∀ (H : Heap) (locs : List Loc), cO D cy A s.heap s 4 ad (cup [(1, .inl (cy 0, 80, .inl (fun _ => 0)))] g) H locs → ∀ ls : Array Slot, lv_has ls 2 [(1, .int (nI i)), (0, .ref (ad 0))] → W p l e { frames := 1, cells := 0, slots := 0, locals := 20 } s m [.ref (ad 0)].toArray below meth c H locs 0 0 (MQ below (cQv (fun nw lu => lu = [(1, .inl (cy 0, 80, .inl (fun _ => 0))), (0, .inr (12, ((f0.set 59 (.int 0)).set 60 (.int 0))))]) D 4 0 ad g A) [.ref (ad 0)].toArray s 0 0 A) (F0 m 2 ls []) := by
    intro d_2_2
    induction d_2_2 with
    | zero => intro i hi mu_2_3; exact absurd mu_2_3 (Nat.not_lt_zero _)
    | succ d_2_2 ih_2_4 =>
      intro i hi mu_2_3 H locs hO ls hl
      refine lv_iload_n hx hb dX12_begin_2 rfl (lv_at hl 0 rfl) ?_
      refine lv_bipush (v := 80) hx hb dX12_begin_3 (by decide) ?_
      refine lv_icmp_ge (tgt := 21) hx hb dX12_begin_5 (by decide) (fun h_5_5 => ?_) (fun h_5_5 => ?_)
      · have nh_5_5 : 80 ≤ i := (nI_leI (a := 80) (b := i) (by omega) (by omega)).mp h_5_5
        refine lv_aload_n hx hb dX12_begin_21 rfl (lv_at hl 1 rfl) ?_
        refine cg_get hC hO 0 (by decide) o0 rfl i_X12 41 (by decide) (List.mem_of_getElem? (i := 1) rfl) f0_41 dX12_begin_22 ?_
        refine lv_iconst (v := 0) hx hb dX12_begin_25 (by decide) ?_
        refine lv_aload_n hx hb dX12_begin_26 rfl (lv_at hl 1 rfl) ?_
        refine cg_get hC hO 0 (by decide) o0 rfl i_X12 13 (by decide) (List.mem_of_getElem? (i := 2) rfl) f0_13 dX12_begin_27 ?_
        refine lv_aload_n hx hb dX12_begin_30 rfl (lv_at hl 1 rfl) ?_
        refine cg_get hC hO 0 (by decide) o0 rfl i_X12 36 (by decide) (List.mem_of_getElem? (i := 3) rfl) f0_36 dX12_begin_31 ?_
        refine cg_iald hC hO 2 (by decide) a2 (cin (by decide)) dX12_begin_34 ?_
        refine cg_ev (v := 0) (rfl) ?_
        refine cg_iast hC hO 1 (by decide) rfl (cin (by decide)) dX12_begin_35 (fun H locs hO => ?_)
        have hO : cO D cy A s.heap s 4 ad (cup [(1, .inl (cy 0, 80, .inl (upd (fun _ => 0) (0 : Int32).toNatClampNeg 0)))] g) _ _ := hO
        rw [upd_const] at hO
        have hO : cO D cy A s.heap s 4 ad (cup [(1, .inl (cy 0, 80, .inl (fun _ => 0)))] g) _ _ := hO
        refine lv_iconst (v := 0) hx hb dX12_begin_36 (by decide) ?_
        refine lv_istore_n (lv' := [(1, .int 0), (0, .ref (ad 0))]) hx hb dX12_begin_37 rfl hl (by decide) rfl (fun ls hl => ?_)
        refine lv_iload_n hx hb dX12_begin_38 rfl (lv_at hl 0 rfl) ?_
        refine lv_aload_n hx hb dX12_begin_39 rfl (lv_at hl 1 rfl) ?_
        refine cg_get hC hO 0 (by decide) o0 rfl i_X12 13 (by decide) (List.mem_of_getElem? (i := 2) rfl) f0_13 dX12_begin_40 ?_
        refine lv_aload_n hx hb dX12_begin_43 rfl (lv_at hl 1 rfl) ?_
        refine cg_get hC hO 0 (by decide) o0 rfl i_X12 36 (by decide) (List.mem_of_getElem? (i := 3) rfl) f0_36 dX12_begin_44 ?_
        refine cg_iald hC hO 2 (by decide) a2 (cin (by decide)) dX12_begin_47 ?_
        refine cg_ev (v := 0) (rfl) ?_
        refine lv_icmp_ge (tgt := 133) hx hb dX12_begin_48 (by decide) (fun _ => ?_) (fun h => absurd h (by decide))
        refine lv_iconst (v := 0) hx hb dX12_begin_133 (by decide) ?_
        refine lv_istore_n (lv' := [(1, .int 0), (0, .ref (ad 0))]) hx hb dX12_begin_134 rfl hl (by decide) rfl (fun ls hl => ?_)
        refine lv_iload_n hx hb dX12_begin_135 rfl (lv_at hl 0 rfl) ?_
        refine lv_aload_n hx hb dX12_begin_136 rfl (lv_at hl 1 rfl) ?_
        refine cg_Vi (As := []) (rest := [.int 0]) (mc := 0) (ms := 0) (rm := { frames := 0, cells := 0, slots := 0, locals := 0 }) hC hl.1 hO [0, 3] rfl (c_birdMany1 l D cy _ _ (f0 := f0) o0 f0_11 f0_36 a3) gq_c_begin1_c_birdMany1_363 rfl rfl rfl 0 (by decide +kernel) ⟨Nat.le_of_ble_eq_true rfl, Nat.le_of_ble_eq_true rfl⟩ rfl (by decide) o0 rfl rfl (Nat.le_of_ble_eq_true rfl) dX12_begin_137 ⟨Nat.le_of_ble_eq_true rfl, Nat.le_of_ble_eq_true rfl⟩ (fun r_137_8 nw_137_6 l_137_7 H locs hw hO => ?_)
        obtain ⟨rfl, rfl⟩ := hw
        have hO : cO D cy A s.heap s 4 ad (cup [(1, .inl (cy 0, 80, .inl (fun _ => 0)))] g) _ _ := hO
        refine lv_icmp_ge (tgt := 171) hx hb dX12_begin_140 (by decide) (fun _ => ?_) (fun h => absurd h (by decide))
        refine lv_aload_n hx hb dX12_begin_171 rfl (lv_at hl 1 rfl) ?_
        refine lv_iconst (v := 0) hx hb dX12_begin_172 (by decide) ?_
        refine cg_put hC hO 0 (by decide) o0 rfl i_X12 tyX12_ok nmX12 59 (by decide) (List.mem_of_getElem? (i := 10) rfl) rfl rfl rfl (fs_lt f0_59) dX12_begin_173 (fun H locs hO => ?_)
        have hO : cO D cy A s.heap s 4 ad (cup [(1, .inl (cy 0, 80, .inl (fun _ => 0))), (0, .inr (12, (f0.set 59 (.int 0))))] g) _ _ := hO
        refine lv_aload_n hx hb dX12_begin_176 rfl (lv_at hl 1 rfl) ?_
        refine lv_iconst (v := 0) hx hb dX12_begin_177 (by decide) ?_
        refine cg_put hC hO 0 (by decide) rfl rfl i_X12 tyX12_ok nmX12 60 (by decide) (List.mem_of_getElem? (i := 11) rfl) rfl rfl rfl (fs_lt (fs_ne (by decide) f0_60)) dX12_begin_178 (fun H locs hO => ?_)
        have hO : cO D cy A s.heap s 4 ad (cup [(1, .inl (cy 0, 80, .inl (fun _ => 0))), (0, .inr (12, ((f0.set 59 (.int 0)).set 60 (.int 0))))] g) _ _ := hO
        exact cg_vret (nw := fun _ => 0) hC hr hlk hO.same (Nat.le_of_ble_eq_true rfl) (Nat.le_of_ble_eq_true rfl) rfl dX12_begin_181
      · have nh_5_5 : ¬ 80 ≤ i := fun z => h_5_5 ((nI_leI (a := 80) (b := i) (by omega) (by omega)).mpr z)
        refine lv_aload_n hx hb dX12_begin_8 rfl (lv_at hl 1 rfl) ?_
        refine cg_get hC hO 0 (by decide) o0 rfl i_X12 41 (by decide) (List.mem_of_getElem? (i := 1) rfl) f0_41 dX12_begin_9 ?_
        refine lv_iload_n hx hb dX12_begin_12 rfl (lv_at hl 0 rfl) ?_
        refine lv_iconst (v := 0) hx hb dX12_begin_13 (by decide) ?_
        refine cg_iast hC hO 1 (by decide) rfl (vp_in_nI (by omega) (by omega)) dX12_begin_14 (fun H locs hO => ?_)
        have hO : cO D cy A s.heap s 4 ad (cup [(1, .inl (cy 0, 80, .inl (upd (fun _ => 0) (nI i).toNatClampNeg 0)))] g) _ _ := hO
        rw [upd_const] at hO
        have hO : cO D cy A s.heap s 4 ad (cup [(1, .inl (cy 0, 80, .inl (fun _ => 0)))] g) _ _ := hO
        refine lv_iinc (v := (nI (i + 1))) (lv' := [(1, .int (nI (i + 1))), (0, .ref (ad 0))]) hx hb dX12_begin_15 hl (k := 0) rfl (nI_add i 1) (by decide) rfl (fun ls hl => ?_)
        refine lv_goto (tgt := 2) hx hb dX12_begin_18 (by decide) ?_
        exact ih_2_4 (i + 1) (by omega) (by omega) _ _ hO ls (lv_sub hl [0, 1] rfl)
  exact loop_2_1 (80 + 1) 0 (by omega) (by omega) _ _ hO ls hl

theorem dX12_postMany_0 : decode cX12_postMany 0 = .ok (.aload_n 0, 1) := by decide +kernel
theorem dX12_postMany_1 : decode cX12_postMany 1 = .ok (.getfield 24, 3) := by decide +kernel
theorem dX12_postMany_4 : decode cX12_postMany 4 = .ok (.aload_n 0, 1) := by decide +kernel
theorem dX12_postMany_5 : decode cX12_postMany 5 = .ok (.getfield 286, 3) := by decide +kernel
theorem dX12_postMany_8 : decode cX12_postMany 8 = .ok (.iaload, 1) := by decide +kernel
theorem dX12_postMany_9 : decode cX12_postMany 9 = .ok (.ireturn, 1) := by decide +kernel
def wq_c_X12_postMany : List Cond := Cond.code yX12_postMany cX12_postMany 1 (some .int) :: (([Cond.fieldLink RX12 24 "CrowTollModel" "posts" "[I", Cond.fieldLink RX12 286 "CrowTollModel" "bank" "I"] : List Cond) ++ wsX120)
set_option maxHeartbeats 8000000 in
set_option maxRecDepth 100000 in
theorem c_X12_postMany (l : Launch) (D : va_G) (cy : Nat → ClassId) (ad : Nat → Nat) (g : Nat → va_E) {f0 : List Value} (o0 : g 0 = .inr (12, f0)) (f0_12 : f0[12]? = some (.ref (ad 1))) (f0_36 : f0[36]? = some (.int 0)) (a1 : g 1 = .inl (cy 0, 2, .inl (fun _ => 0))) : cMi l yX12_postMany wq_c_X12_postMany { frames := 0, cells := 0, slots := 0, locals := 0 } 2 0 0 0 D cy ad g [.ref (ad 0)] (fun r nw lu => (r = 0) ∧ (lu = [])) := by
  refine cM_of (Qc := fun A => cQi (fun r nw lu => (r = 0) ∧ (lu = [])) D 2 0 ad g A) (cc := cX12_postMany) (maxL := 1) (ret := (some .int)) (by decide) rfl (Nat.le_of_ble_eq_true rfl) ?_
  intro p e s m below meth c A hC hr hlk hnm hO ls hl
  have hC : CallFix p m c cX12_postMany 1 s [.ref (ad 0)].toArray wq_c_X12_postMany RX12 := hC
  obtain ⟨hx, hb, hml, hown, hts⟩ := id hC
  have hl : lv_has ls 1 [(0, .ref (ad 0))] := hl
  have i_X12 : ∀ w ∈ wsX120, w ∈ wq_c_X12_postMany := fun w h => List.mem_cons_of_mem _ (List.mem_append_right _ h)
  refine lv_aload_n hx hb dX12_postMany_0 rfl (lv_at hl 0 rfl) ?_
  refine cg_get hC hO 0 (by decide) o0 rfl i_X12 12 (by decide) (List.mem_of_getElem? (i := 1) rfl) f0_12 dX12_postMany_1 ?_
  refine lv_aload_n hx hb dX12_postMany_4 rfl (lv_at hl 0 rfl) ?_
  refine cg_get hC hO 0 (by decide) o0 rfl i_X12 36 (by decide) (List.mem_of_getElem? (i := 2) rfl) f0_36 dX12_postMany_5 ?_
  refine cg_iald hC hO 1 (by decide) a1 (cin (by decide)) dX12_postMany_8 ?_
  refine cg_ev (v := 0) (rfl) ?_
  exact cg_iret (nw := fun _ => 0) hC hr hlk hO.same rfl (Nat.le_of_ble_eq_true rfl) (Nat.le_of_ble_eq_true rfl) (⟨rfl, rfl⟩) dX12_postMany_9
