theorem ddX12_clearBank_0 : decode cX12_clearBank 0 = .ok (.aload_n 0, 1) := by decide +kernel
theorem ddX12_clearBank_1 : decode cX12_clearBank 1 = .ok (.getfield 20, 3) := by decide +kernel
theorem ddX12_clearBank_4 : decode cX12_clearBank 4 = .ok (.aload_n 0, 1) := by decide +kernel
theorem ddX12_clearBank_5 : decode cX12_clearBank 5 = .ok (.getfield 277, 3) := by decide +kernel
theorem ddX12_clearBank_8 : decode cX12_clearBank 8 = .ok (.iconst 0, 1) := by decide +kernel
theorem ddX12_clearBank_9 : decode cX12_clearBank 9 = .ok (.iastore, 1) := by decide +kernel
theorem ddX12_clearBank_10 : decode cX12_clearBank 10 = .ok (.aload_n 0, 1) := by decide +kernel
theorem ddX12_clearBank_11 : decode cX12_clearBank 11 = .ok (.getfield 24, 3) := by decide +kernel
theorem ddX12_clearBank_14 : decode cX12_clearBank 14 = .ok (.aload_n 0, 1) := by decide +kernel
theorem ddX12_clearBank_15 : decode cX12_clearBank 15 = .ok (.getfield 277, 3) := by decide +kernel
theorem ddX12_clearBank_18 : decode cX12_clearBank 18 = .ok (.iconst 0, 1) := by decide +kernel
theorem ddX12_clearBank_19 : decode cX12_clearBank 19 = .ok (.iastore, 1) := by decide +kernel
theorem ddX12_clearBank_20 : decode cX12_clearBank 20 = .ok (.aload_n 0, 1) := by decide +kernel
theorem ddX12_clearBank_21 : decode cX12_clearBank 21 = .ok (.getfield 27, 3) := by decide +kernel
theorem ddX12_clearBank_24 : decode cX12_clearBank 24 = .ok (.aload_n 0, 1) := by decide +kernel
theorem ddX12_clearBank_25 : decode cX12_clearBank 25 = .ok (.getfield 277, 3) := by decide +kernel
theorem ddX12_clearBank_28 : decode cX12_clearBank 28 = .ok (.iconst 0, 1) := by decide +kernel
theorem ddX12_clearBank_29 : decode cX12_clearBank 29 = .ok (.iastore, 1) := by decide +kernel
theorem ddX12_clearBank_30 : decode cX12_clearBank 30 = .ok (.aload_n 0, 1) := by decide +kernel
theorem ddX12_clearBank_31 : decode cX12_clearBank 31 = .ok (.getfield 30, 3) := by decide +kernel
theorem ddX12_clearBank_34 : decode cX12_clearBank 34 = .ok (.aload_n 0, 1) := by decide +kernel
theorem ddX12_clearBank_35 : decode cX12_clearBank 35 = .ok (.getfield 277, 3) := by decide +kernel
theorem ddX12_clearBank_38 : decode cX12_clearBank 38 = .ok (.iconst 0, 1) := by decide +kernel
theorem ddX12_clearBank_39 : decode cX12_clearBank 39 = .ok (.iastore, 1) := by decide +kernel
theorem ddX12_clearBank_40 : decode cX12_clearBank 40 = .ok (.aload_n 0, 1) := by decide +kernel
theorem ddX12_clearBank_41 : decode cX12_clearBank 41 = .ok (.getfield 70, 3) := by decide +kernel
theorem ddX12_clearBank_44 : decode cX12_clearBank 44 = .ok (.aload_n 0, 1) := by decide +kernel
theorem ddX12_clearBank_45 : decode cX12_clearBank 45 = .ok (.getfield 277, 3) := by decide +kernel
theorem ddX12_clearBank_48 : decode cX12_clearBank 48 = .ok (.iconst 0, 1) := by decide +kernel
theorem ddX12_clearBank_49 : decode cX12_clearBank 49 = .ok (.bastore, 1) := by decide +kernel
theorem ddX12_clearBank_50 : decode cX12_clearBank 50 = .ok (.aload_n 0, 1) := by decide +kernel
theorem ddX12_clearBank_51 : decode cX12_clearBank 51 = .ok (.sipush 490, 3) := by decide +kernel
theorem ddX12_clearBank_54 : decode cX12_clearBank 54 = .ok (.aload_n 0, 1) := by decide +kernel
theorem ddX12_clearBank_55 : decode cX12_clearBank 55 = .ok (.getfield 277, 3) := by decide +kernel
theorem ddX12_clearBank_58 : decode cX12_clearBank 58 = .ok (.imul, 1) := by decide +kernel
theorem ddX12_clearBank_59 : decode cX12_clearBank 59 = .ok (.putfield 280, 3) := by decide +kernel
theorem ddX12_clearBank_62 : decode cX12_clearBank 62 = .ok (.iconst 5, 1) := by decide +kernel
theorem ddX12_clearBank_63 : decode cX12_clearBank 63 = .ok (.aload_n 0, 1) := by decide +kernel
theorem ddX12_clearBank_64 : decode cX12_clearBank 64 = .ok (.getfield 277, 3) := by decide +kernel
theorem ddX12_clearBank_67 : decode cX12_clearBank 67 = .ok (.imul, 1) := by decide +kernel
theorem ddX12_clearBank_68 : decode cX12_clearBank 68 = .ok (.istore_n 1, 1) := by decide +kernel
theorem ddX12_clearBank_69 : decode cX12_clearBank 69 = .ok (.iload_n 1, 1) := by decide +kernel
theorem ddX12_clearBank_70 : decode cX12_clearBank 70 = .ok (.iconst 5, 1) := by decide +kernel
theorem ddX12_clearBank_71 : decode cX12_clearBank 71 = .ok (.aload_n 0, 1) := by decide +kernel
theorem ddX12_clearBank_72 : decode cX12_clearBank 72 = .ok (.getfield 277, 3) := by decide +kernel
theorem ddX12_clearBank_75 : decode cX12_clearBank 75 = .ok (.imul, 1) := by decide +kernel
theorem ddX12_clearBank_76 : decode cX12_clearBank 76 = .ok (.iconst 5, 1) := by decide +kernel
theorem ddX12_clearBank_77 : decode cX12_clearBank 77 = .ok (.iadd, 1) := by decide +kernel
theorem ddX12_clearBank_78 : decode cX12_clearBank 78 = .ok (.if_icmp .ge 16, 3) := by decide +kernel
theorem ddX12_clearBank_81 : decode cX12_clearBank 81 = .ok (.aload_n 0, 1) := by decide +kernel
theorem ddX12_clearBank_82 : decode cX12_clearBank 82 = .ok (.getfield 42, 3) := by decide +kernel
theorem ddX12_clearBank_85 : decode cX12_clearBank 85 = .ok (.iload_n 1, 1) := by decide +kernel
theorem ddX12_clearBank_86 : decode cX12_clearBank 86 = .ok (.iconst (-1), 1) := by decide +kernel
theorem ddX12_clearBank_87 : decode cX12_clearBank 87 = .ok (.iastore, 1) := by decide +kernel
theorem ddX12_clearBank_88 : decode cX12_clearBank 88 = .ok (.iinc 1 1, 3) := by decide +kernel
theorem ddX12_clearBank_91 : decode cX12_clearBank 91 = .ok (.goto (-22), 3) := by decide +kernel
theorem ddX12_clearBank_94 : decode cX12_clearBank 94 = .ok (.return_, 1) := by decide +kernel
def wq_k_X12_clearBank : List Cond := Cond.code yX12_clearBank cX12_clearBank 2 none :: (([Cond.fieldLink RX12 20 "CrowTollModel" "birds" "[I", Cond.fieldLink RX12 277 "CrowTollModel" "rb" "I", Cond.fieldLink RX12 24 "CrowTollModel" "posts" "[I", Cond.fieldLink RX12 27 "CrowTollModel" "carts" "[I", Cond.fieldLink RX12 30 "CrowTollModel" "units" "[I", Cond.fieldLink RX12 70 "CrowTollModel" "isLaw" "[Z", Cond.fieldLink RX12 280 "CrowTollModel" "codes" "I", Cond.fieldLink RX12 42 "CrowTollModel" "postOf" "[I"] : List Cond) ++ wsX120)
set_option maxHeartbeats 8000000 in
set_option maxRecDepth 100000 in
theorem k_X12_clearBank (l : Launch) (D : va_G) (cy : Nat → ClassId) (ad : Nat → Nat) (g : Nat → va_E) {u0_0 : Value} {u0_1 : Value} {u0_2 : Value} {u0_3 : Value} {u0_4 : Value} {u0_5 : Value} {u0_6 : Value} {u0_7 : Value} {u0_8 : Value} {u0_9 : Value} {u0_10 : Value} {u0_15 : Value} {u0_16 : Value} {u0_17 : Value} {u0_19 : Value} {u0_20 : Value} {u0_21 : Value} {u0_22 : Value} {u0_23 : Value} {u0_24 : Value} {u0_25 : Value} {u0_26 : Value} {u0_28 : Value} {u0_29 : Value} {u0_30 : Value} {u0_31 : Value} {u0_32 : Value} {u0_33 : Value} {u0_34 : Value} {u0_35 : Value} {u0_36 : Value} {x0_37 : Int32} {x0_38 : Int32} {u0_39 : Value} {u0_40 : Value} {u0_41 : Value} {u0_42 : Value} {u0_43 : Value} {u0_44 : Value} {u0_45 : Value} {u0_46 : Value} {u0_47 : Value} {u0_48 : Value} {u0_49 : Value} {u0_50 : Value} {u0_51 : Value} {u0_52 : Value} {u0_53 : Value} {u0_54 : Value} {u0_55 : Value} {u0_56 : Value} {u0_57 : Value} {u0_58 : Value} {u0_59 : Value} {u0_60 : Value} {u0_61 : Value} {u0_62 : Value} {u0_63 : Value} {u0_64 : Value} {u0_65 : Value} {u0_66 : Value} {u0_67 : Value} {u0_68 : Value} {u0_69 : Value} {u0_70 : Value} {u0_71 : Value} {u0_72 : Value} {u0_73 : Value} {c1 : Nat → Int32} {c2 : Nat → Int32} {c3 : Nat → Int32} {c4 : Nat → Int32} {c5 : Nat → Int32} {c6 : Nat → Int32} (o0 : g 0 = .inr (12, [u0_0, u0_1, u0_2, u0_3, u0_4, u0_5, u0_6, u0_7, u0_8, u0_9, u0_10, .ref (ad 1), .ref (ad 2), .ref (ad 3), .ref (ad 4), u0_15, u0_16, u0_17, .ref (ad 6), u0_19, u0_20, u0_21, u0_22, u0_23, u0_24, u0_25, u0_26, .ref (ad 5), u0_28, u0_29, u0_30, u0_31, u0_32, u0_33, u0_34, u0_35, u0_36, .int x0_37, .int x0_38, u0_39, u0_40, u0_41, u0_42, u0_43, u0_44, u0_45, u0_46, u0_47, u0_48, u0_49, u0_50, u0_51, u0_52, u0_53, u0_54, u0_55, u0_56, u0_57, u0_58, u0_59, u0_60, u0_61, u0_62, u0_63, u0_64, u0_65, u0_66, u0_67, u0_68, u0_69, u0_70, u0_71, u0_72, u0_73])) (a1 : g 1 = .inl (cy 0, 2, .inl c1)) (a2 : g 2 = .inl (cy 0, 2, .inl c2)) (a3 : g 3 = .inl (cy 0, 2, .inl c3)) (a4 : g 4 = .inl (cy 0, 2, .inl c4)) (a5 : g 5 = .inl (cy 2, 2, .inl c5)) (a6 : g 6 = .inl (cy 0, 10, .inl c6)) (b0_37 : zi 0 1 x0_37) (b0_38 : zi 0 980 x0_38) (ha1 : za 0 5 c1) (ha2 : za 0 4 c2) (ha3 : za 0 12 c3) (ha4 : za 0 30 c4) (ha5 : za 0 1 c5) : cMv l yX12_clearBank wq_k_X12_clearBank { frames := 0, cells := 0, slots := 0, locals := 0 } 7 0 0 0 D cy ad g [.ref (ad 0)] (fun nw lu => ∃ (y0_38 : Int32) (d1 : Nat → Int32) (d2 : Nat → Int32) (d3 : Nat → Int32) (d4 : Nat → Int32) (d5 : Nat → Int32) (d6 : Nat → Int32), (zi 0 490 y0_38) ∧ (za 0 5 d1) ∧ (za 0 4 d2) ∧ (za 0 12 d3) ∧ (za 0 30 d4) ∧ (za 0 1 d5) ∧ ((y0_38 : Int32).toInt = 490 * (x0_37 : Int32).toInt) ∧ (d5 = upd c5 (x0_37 : Int32).toNatClampNeg 0) ∧ (lu = [(0, .inr (12, [u0_0, u0_1, u0_2, u0_3, u0_4, u0_5, u0_6, u0_7, u0_8, u0_9, u0_10, .ref (ad 1), .ref (ad 2), .ref (ad 3), .ref (ad 4), u0_15, u0_16, u0_17, .ref (ad 6), u0_19, u0_20, u0_21, u0_22, u0_23, u0_24, u0_25, u0_26, .ref (ad 5), u0_28, u0_29, u0_30, u0_31, u0_32, u0_33, u0_34, u0_35, u0_36, .int x0_37, .int y0_38, u0_39, u0_40, u0_41, u0_42, u0_43, u0_44, u0_45, u0_46, u0_47, u0_48, u0_49, u0_50, u0_51, u0_52, u0_53, u0_54, u0_55, u0_56, u0_57, u0_58, u0_59, u0_60, u0_61, u0_62, u0_63, u0_64, u0_65, u0_66, u0_67, u0_68, u0_69, u0_70, u0_71, u0_72, u0_73])), (1, .inl (cy 0, 2, .inl d1)), (2, .inl (cy 0, 2, .inl d2)), (3, .inl (cy 0, 2, .inl d3)), (4, .inl (cy 0, 2, .inl d4)), (5, .inl (cy 2, 2, .inl d5)), (6, .inl (cy 0, 10, .inl d6))])) := by
  refine cM_of (Qc := fun A => cQv (fun nw lu => ∃ (y0_38 : Int32) (d1 : Nat → Int32) (d2 : Nat → Int32) (d3 : Nat → Int32) (d4 : Nat → Int32) (d5 : Nat → Int32) (d6 : Nat → Int32), (zi 0 490 y0_38) ∧ (za 0 5 d1) ∧ (za 0 4 d2) ∧ (za 0 12 d3) ∧ (za 0 30 d4) ∧ (za 0 1 d5) ∧ ((y0_38 : Int32).toInt = 490 * (x0_37 : Int32).toInt) ∧ (d5 = upd c5 (x0_37 : Int32).toNatClampNeg 0) ∧ (lu = [(0, .inr (12, [u0_0, u0_1, u0_2, u0_3, u0_4, u0_5, u0_6, u0_7, u0_8, u0_9, u0_10, .ref (ad 1), .ref (ad 2), .ref (ad 3), .ref (ad 4), u0_15, u0_16, u0_17, .ref (ad 6), u0_19, u0_20, u0_21, u0_22, u0_23, u0_24, u0_25, u0_26, .ref (ad 5), u0_28, u0_29, u0_30, u0_31, u0_32, u0_33, u0_34, u0_35, u0_36, .int x0_37, .int y0_38, u0_39, u0_40, u0_41, u0_42, u0_43, u0_44, u0_45, u0_46, u0_47, u0_48, u0_49, u0_50, u0_51, u0_52, u0_53, u0_54, u0_55, u0_56, u0_57, u0_58, u0_59, u0_60, u0_61, u0_62, u0_63, u0_64, u0_65, u0_66, u0_67, u0_68, u0_69, u0_70, u0_71, u0_72, u0_73])), (1, .inl (cy 0, 2, .inl d1)), (2, .inl (cy 0, 2, .inl d2)), (3, .inl (cy 0, 2, .inl d3)), (4, .inl (cy 0, 2, .inl d4)), (5, .inl (cy 2, 2, .inl d5)), (6, .inl (cy 0, 10, .inl d6))])) D 7 0 ad g A) (cc := cX12_clearBank) (maxL := 2) (ret := none) (by decide) rfl (Nat.le_of_ble_eq_true rfl) ?_
  intro p e s m below meth c A hC hr hlk hnm hO ls hl
  have hC : CallFix p m c cX12_clearBank 2 s [.ref (ad 0)].toArray wq_k_X12_clearBank RX12 := hC
  obtain ⟨hx, hb, hml, hown, hts⟩ := id hC
  have hl : lv_has ls 2 [(0, .ref (ad 0))] := hl
  have zc0 : (0 : Int32).toInt = 0 := by decide
  have zc1 : (1 : Int32).toInt = 1 := by decide
  have zc2 : (2 : Int32).toInt = 2 := by decide
  have zc3 : (3 : Int32).toInt = 3 := by decide
  have zc4 : (4 : Int32).toInt = 4 := by decide
  have zc5 : (5 : Int32).toInt = 5 := by decide
  have zc6 : (6 : Int32).toInt = 6 := by decide
  have zc7 : (7 : Int32).toInt = 7 := by decide
  have zc8 : (8 : Int32).toInt = 8 := by decide
  have i_X12 : ∀ w ∈ wsX120, w ∈ wq_k_X12_clearBank := fun w h => List.mem_cons_of_mem _ (List.mem_append_right _ h)
  have hO := hO.notes [(0, .inr (12, [u0_0, u0_1, u0_2, u0_3, u0_4, u0_5, u0_6, u0_7, u0_8, u0_9, u0_10, .ref (ad 1), .ref (ad 2), .ref (ad 3), .ref (ad 4), u0_15, u0_16, u0_17, .ref (ad 6), u0_19, u0_20, u0_21, u0_22, u0_23, u0_24, u0_25, u0_26, .ref (ad 5), u0_28, u0_29, u0_30, u0_31, u0_32, u0_33, u0_34, u0_35, u0_36, .int x0_37, .int x0_38, u0_39, u0_40, u0_41, u0_42, u0_43, u0_44, u0_45, u0_46, u0_47, u0_48, u0_49, u0_50, u0_51, u0_52, u0_53, u0_54, u0_55, u0_56, u0_57, u0_58, u0_59, u0_60, u0_61, u0_62, u0_63, u0_64, u0_65, u0_66, u0_67, u0_68, u0_69, u0_70, u0_71, u0_72, u0_73])), (1, .inl (cy 0, 2, .inl c1)), (2, .inl (cy 0, 2, .inl c2)), (3, .inl (cy 0, 2, .inl c3)), (4, .inl (cy 0, 2, .inl c4)), (5, .inl (cy 2, 2, .inl c5)), (6, .inl (cy 0, 10, .inl c6))] (List.forall_mem_cons.mpr ⟨o0, List.forall_mem_cons.mpr ⟨a1, List.forall_mem_cons.mpr ⟨a2, List.forall_mem_cons.mpr ⟨a3, List.forall_mem_cons.mpr ⟨a4, List.forall_mem_cons.mpr ⟨a5, List.forall_mem_cons.mpr ⟨a6, (fun _ h => absurd h List.not_mem_nil)⟩⟩⟩⟩⟩⟩⟩)
  refine lv_aload_n hx hb ddX12_clearBank_0 rfl (lv_at hl 0 rfl) ?_
  refine cg_get hC hO 0 (by decide) rfl rfl i_X12 11 (by decide) (List.mem_of_getElem? (i := 1) rfl) rfl ddX12_clearBank_1 ?_
  refine lv_aload_n hx hb ddX12_clearBank_4 rfl (lv_at hl 0 rfl) ?_
  refine cg_get hC hO 0 (by decide) rfl rfl i_X12 37 (by decide) (List.mem_of_getElem? (i := 2) rfl) rfl ddX12_clearBank_5 ?_
  refine lv_iconst (v := 0) hx hb ddX12_clearBank_8 (by decide) ?_
  refine zg_iast hC hO 1 (by decide) rfl ha1 (zi_k (a := 0) (b := 5) (x := 0) rfl) (zi_in b0_37 (by decide)) ddX12_clearBank_9 (fun H locs c_9_277 zc_9_278 hO => ?_)
  have hO : cO D cy A s.heap s 7 ad (cup [(0, .inr (12, [u0_0, u0_1, u0_2, u0_3, u0_4, u0_5, u0_6, u0_7, u0_8, u0_9, u0_10, .ref (ad 1), .ref (ad 2), .ref (ad 3), .ref (ad 4), u0_15, u0_16, u0_17, .ref (ad 6), u0_19, u0_20, u0_21, u0_22, u0_23, u0_24, u0_25, u0_26, .ref (ad 5), u0_28, u0_29, u0_30, u0_31, u0_32, u0_33, u0_34, u0_35, u0_36, .int x0_37, .int x0_38, u0_39, u0_40, u0_41, u0_42, u0_43, u0_44, u0_45, u0_46, u0_47, u0_48, u0_49, u0_50, u0_51, u0_52, u0_53, u0_54, u0_55, u0_56, u0_57, u0_58, u0_59, u0_60, u0_61, u0_62, u0_63, u0_64, u0_65, u0_66, u0_67, u0_68, u0_69, u0_70, u0_71, u0_72, u0_73])), (1, .inl (cy 0, 2, .inl c_9_277)), (2, .inl (cy 0, 2, .inl c2)), (3, .inl (cy 0, 2, .inl c3)), (4, .inl (cy 0, 2, .inl c4)), (5, .inl (cy 2, 2, .inl c5)), (6, .inl (cy 0, 10, .inl c6))] g) _ _ := hO
  refine lv_aload_n hx hb ddX12_clearBank_10 rfl (lv_at hl 0 rfl) ?_
  refine cg_get hC hO 0 (by decide) rfl rfl i_X12 12 (by decide) (List.mem_of_getElem? (i := 3) rfl) rfl ddX12_clearBank_11 ?_
  refine lv_aload_n hx hb ddX12_clearBank_14 rfl (lv_at hl 0 rfl) ?_
  refine cg_get hC hO 0 (by decide) rfl rfl i_X12 37 (by decide) (List.mem_of_getElem? (i := 2) rfl) rfl ddX12_clearBank_15 ?_
  refine lv_iconst (v := 0) hx hb ddX12_clearBank_18 (by decide) ?_
  refine zg_iast hC hO 2 (by decide) rfl ha2 (zi_k (a := 0) (b := 4) (x := 0) rfl) (zi_in b0_37 (by decide)) ddX12_clearBank_19 (fun H locs c_19_279 zc_19_280 hO => ?_)
  have hO : cO D cy A s.heap s 7 ad (cup [(0, .inr (12, [u0_0, u0_1, u0_2, u0_3, u0_4, u0_5, u0_6, u0_7, u0_8, u0_9, u0_10, .ref (ad 1), .ref (ad 2), .ref (ad 3), .ref (ad 4), u0_15, u0_16, u0_17, .ref (ad 6), u0_19, u0_20, u0_21, u0_22, u0_23, u0_24, u0_25, u0_26, .ref (ad 5), u0_28, u0_29, u0_30, u0_31, u0_32, u0_33, u0_34, u0_35, u0_36, .int x0_37, .int x0_38, u0_39, u0_40, u0_41, u0_42, u0_43, u0_44, u0_45, u0_46, u0_47, u0_48, u0_49, u0_50, u0_51, u0_52, u0_53, u0_54, u0_55, u0_56, u0_57, u0_58, u0_59, u0_60, u0_61, u0_62, u0_63, u0_64, u0_65, u0_66, u0_67, u0_68, u0_69, u0_70, u0_71, u0_72, u0_73])), (1, .inl (cy 0, 2, .inl c_9_277)), (2, .inl (cy 0, 2, .inl c_19_279)), (3, .inl (cy 0, 2, .inl c3)), (4, .inl (cy 0, 2, .inl c4)), (5, .inl (cy 2, 2, .inl c5)), (6, .inl (cy 0, 10, .inl c6))] g) _ _ := hO
  refine lv_aload_n hx hb ddX12_clearBank_20 rfl (lv_at hl 0 rfl) ?_
  refine cg_get hC hO 0 (by decide) rfl rfl i_X12 13 (by decide) (List.mem_of_getElem? (i := 4) rfl) rfl ddX12_clearBank_21 ?_
  refine lv_aload_n hx hb ddX12_clearBank_24 rfl (lv_at hl 0 rfl) ?_
  refine cg_get hC hO 0 (by decide) rfl rfl i_X12 37 (by decide) (List.mem_of_getElem? (i := 2) rfl) rfl ddX12_clearBank_25 ?_
  refine lv_iconst (v := 0) hx hb ddX12_clearBank_28 (by decide) ?_
  refine zg_iast hC hO 3 (by decide) rfl ha3 (zi_k (a := 0) (b := 12) (x := 0) rfl) (zi_in b0_37 (by decide)) ddX12_clearBank_29 (fun H locs c_29_281 zc_29_282 hO => ?_)
  have hO : cO D cy A s.heap s 7 ad (cup [(0, .inr (12, [u0_0, u0_1, u0_2, u0_3, u0_4, u0_5, u0_6, u0_7, u0_8, u0_9, u0_10, .ref (ad 1), .ref (ad 2), .ref (ad 3), .ref (ad 4), u0_15, u0_16, u0_17, .ref (ad 6), u0_19, u0_20, u0_21, u0_22, u0_23, u0_24, u0_25, u0_26, .ref (ad 5), u0_28, u0_29, u0_30, u0_31, u0_32, u0_33, u0_34, u0_35, u0_36, .int x0_37, .int x0_38, u0_39, u0_40, u0_41, u0_42, u0_43, u0_44, u0_45, u0_46, u0_47, u0_48, u0_49, u0_50, u0_51, u0_52, u0_53, u0_54, u0_55, u0_56, u0_57, u0_58, u0_59, u0_60, u0_61, u0_62, u0_63, u0_64, u0_65, u0_66, u0_67, u0_68, u0_69, u0_70, u0_71, u0_72, u0_73])), (1, .inl (cy 0, 2, .inl c_9_277)), (2, .inl (cy 0, 2, .inl c_19_279)), (3, .inl (cy 0, 2, .inl c_29_281)), (4, .inl (cy 0, 2, .inl c4)), (5, .inl (cy 2, 2, .inl c5)), (6, .inl (cy 0, 10, .inl c6))] g) _ _ := hO
  refine lv_aload_n hx hb ddX12_clearBank_30 rfl (lv_at hl 0 rfl) ?_
  refine cg_get hC hO 0 (by decide) rfl rfl i_X12 14 (by decide) (List.mem_of_getElem? (i := 5) rfl) rfl ddX12_clearBank_31 ?_
  refine lv_aload_n hx hb ddX12_clearBank_34 rfl (lv_at hl 0 rfl) ?_
  refine cg_get hC hO 0 (by decide) rfl rfl i_X12 37 (by decide) (List.mem_of_getElem? (i := 2) rfl) rfl ddX12_clearBank_35 ?_
  refine lv_iconst (v := 0) hx hb ddX12_clearBank_38 (by decide) ?_
  refine zg_iast hC hO 4 (by decide) rfl ha4 (zi_k (a := 0) (b := 30) (x := 0) rfl) (zi_in b0_37 (by decide)) ddX12_clearBank_39 (fun H locs c_39_283 zc_39_284 hO => ?_)
  have hO : cO D cy A s.heap s 7 ad (cup [(0, .inr (12, [u0_0, u0_1, u0_2, u0_3, u0_4, u0_5, u0_6, u0_7, u0_8, u0_9, u0_10, .ref (ad 1), .ref (ad 2), .ref (ad 3), .ref (ad 4), u0_15, u0_16, u0_17, .ref (ad 6), u0_19, u0_20, u0_21, u0_22, u0_23, u0_24, u0_25, u0_26, .ref (ad 5), u0_28, u0_29, u0_30, u0_31, u0_32, u0_33, u0_34, u0_35, u0_36, .int x0_37, .int x0_38, u0_39, u0_40, u0_41, u0_42, u0_43, u0_44, u0_45, u0_46, u0_47, u0_48, u0_49, u0_50, u0_51, u0_52, u0_53, u0_54, u0_55, u0_56, u0_57, u0_58, u0_59, u0_60, u0_61, u0_62, u0_63, u0_64, u0_65, u0_66, u0_67, u0_68, u0_69, u0_70, u0_71, u0_72, u0_73])), (1, .inl (cy 0, 2, .inl c_9_277)), (2, .inl (cy 0, 2, .inl c_19_279)), (3, .inl (cy 0, 2, .inl c_29_281)), (4, .inl (cy 0, 2, .inl c_39_283)), (5, .inl (cy 2, 2, .inl c5)), (6, .inl (cy 0, 10, .inl c6))] g) _ _ := hO
  refine lv_aload_n hx hb ddX12_clearBank_40 rfl (lv_at hl 0 rfl) ?_
  refine cg_get hC hO 0 (by decide) rfl rfl i_X12 27 (by decide) (List.mem_of_getElem? (i := 6) rfl) rfl ddX12_clearBank_41 ?_
  refine lv_aload_n hx hb ddX12_clearBank_44 rfl (lv_at hl 0 rfl) ?_
  refine cg_get hC hO 0 (by decide) rfl rfl i_X12 37 (by decide) (List.mem_of_getElem? (i := 2) rfl) rfl ddX12_clearBank_45 ?_
  refine lv_iconst (v := 0) hx hb ddX12_clearBank_48 (by decide) ?_
  refine zg_zastX hC hO 5 (by decide) rfl ha5 (zi_k (a := 0) (b := 1) (x := 0) rfl) (zi_in b0_37 (by decide)) ddX12_clearBank_49 (fun H locs c_49_285 zc_49_286 eq_49_287 hO => ?_)
  have hO : cO D cy A s.heap s 7 ad (cup [(0, .inr (12, [u0_0, u0_1, u0_2, u0_3, u0_4, u0_5, u0_6, u0_7, u0_8, u0_9, u0_10, .ref (ad 1), .ref (ad 2), .ref (ad 3), .ref (ad 4), u0_15, u0_16, u0_17, .ref (ad 6), u0_19, u0_20, u0_21, u0_22, u0_23, u0_24, u0_25, u0_26, .ref (ad 5), u0_28, u0_29, u0_30, u0_31, u0_32, u0_33, u0_34, u0_35, u0_36, .int x0_37, .int x0_38, u0_39, u0_40, u0_41, u0_42, u0_43, u0_44, u0_45, u0_46, u0_47, u0_48, u0_49, u0_50, u0_51, u0_52, u0_53, u0_54, u0_55, u0_56, u0_57, u0_58, u0_59, u0_60, u0_61, u0_62, u0_63, u0_64, u0_65, u0_66, u0_67, u0_68, u0_69, u0_70, u0_71, u0_72, u0_73])), (1, .inl (cy 0, 2, .inl c_9_277)), (2, .inl (cy 0, 2, .inl c_19_279)), (3, .inl (cy 0, 2, .inl c_29_281)), (4, .inl (cy 0, 2, .inl c_39_283)), (5, .inl (cy 2, 2, .inl c_49_285)), (6, .inl (cy 0, 10, .inl c6))] g) _ _ := hO
  refine lv_aload_n hx hb ddX12_clearBank_50 rfl (lv_at hl 0 rfl) ?_
  refine lv_sipush (v := 490) hx hb ddX12_clearBank_51 (by decide) ?_
  refine lv_aload_n hx hb ddX12_clearBank_54 rfl (lv_at hl 0 rfl) ?_
  refine cg_get hC hO 0 (by decide) rfl rfl i_X12 37 (by decide) (List.mem_of_getElem? (i := 2) rfl) rfl ddX12_clearBank_55 ?_
  refine lv_imul hx hb ddX12_clearBank_58 ?_
  refine zg_top2 (P := fun v => zi 0 490 v) (E := fun v => v.toInt = 490 * (x0_37 : Int32).toInt) (zi_mulk (zi_k (a := 490) (b := 490) (x := 490) rfl) b0_37 (n := 490) (by decide) (by decide)) (fun v_58_288 z_58_289 q_58_290 => ?_)
  refine cg_put hC hO 0 (by decide) rfl rfl i_X12 tyX12_ok nmX12 38 (by decide) (List.mem_of_getElem? (i := 7) rfl) rfl rfl rfl (Nat.le_of_ble_eq_true rfl) ddX12_clearBank_59 (fun H locs hO => ?_)
  have hO : cO D cy A s.heap s 7 ad (cup [(0, .inr (12, [u0_0, u0_1, u0_2, u0_3, u0_4, u0_5, u0_6, u0_7, u0_8, u0_9, u0_10, .ref (ad 1), .ref (ad 2), .ref (ad 3), .ref (ad 4), u0_15, u0_16, u0_17, .ref (ad 6), u0_19, u0_20, u0_21, u0_22, u0_23, u0_24, u0_25, u0_26, .ref (ad 5), u0_28, u0_29, u0_30, u0_31, u0_32, u0_33, u0_34, u0_35, u0_36, .int x0_37, .int v_58_288, u0_39, u0_40, u0_41, u0_42, u0_43, u0_44, u0_45, u0_46, u0_47, u0_48, u0_49, u0_50, u0_51, u0_52, u0_53, u0_54, u0_55, u0_56, u0_57, u0_58, u0_59, u0_60, u0_61, u0_62, u0_63, u0_64, u0_65, u0_66, u0_67, u0_68, u0_69, u0_70, u0_71, u0_72, u0_73])), (1, .inl (cy 0, 2, .inl c_9_277)), (2, .inl (cy 0, 2, .inl c_19_279)), (3, .inl (cy 0, 2, .inl c_29_281)), (4, .inl (cy 0, 2, .inl c_39_283)), (5, .inl (cy 2, 2, .inl c_49_285)), (6, .inl (cy 0, 10, .inl c6))] g) _ _ := hO
  refine lv_iconst (v := 5) hx hb ddX12_clearBank_62 (by decide) ?_
  refine lv_aload_n hx hb ddX12_clearBank_63 rfl (lv_at hl 0 rfl) ?_
  refine cg_get hC hO 0 (by decide) rfl rfl i_X12 37 (by decide) (List.mem_of_getElem? (i := 2) rfl) rfl ddX12_clearBank_64 ?_
  refine lv_imul hx hb ddX12_clearBank_67 ?_
  refine zg_top2 (P := fun v => zi 0 5 v) (E := fun v => v.toInt = 5 * (x0_37 : Int32).toInt) (zi_mulk (zi_k (a := 5) (b := 5) (x := 5) rfl) b0_37 (n := 5) (by decide) (by decide)) (fun v_67_291 z_67_292 q_67_293 => ?_)
  refine lv_istore_n (lv' := [(1, .int v_67_291), (0, .ref (ad 0))]) hx hb ddX12_clearBank_68 rfl hl (by decide) rfl (fun ls hl => ?_)
  have loop_69_420 : ∀ (d_69_421 : Nat) (v_69_399 : Int32) (c_69_401 : Nat → Int32), zi 0 10 v_69_399 → za (-2147483648) 2147483647 c_69_401 → (10 + 1 - v_69_399.toInt).toNat < d_69_421 → ∀ (H : Heap) (locs : List Loc), cO D cy A s.heap s 7 ad (cup [(0, .inr (12, [u0_0, u0_1, u0_2, u0_3, u0_4, u0_5, u0_6, u0_7, u0_8, u0_9, u0_10, .ref (ad 1), .ref (ad 2), .ref (ad 3), .ref (ad 4), u0_15, u0_16, u0_17, .ref (ad 6), u0_19, u0_20, u0_21, u0_22, u0_23, u0_24, u0_25, u0_26, .ref (ad 5), u0_28, u0_29, u0_30, u0_31, u0_32, u0_33, u0_34, u0_35, u0_36, .int x0_37, .int v_58_288, u0_39, u0_40, u0_41, u0_42, u0_43, u0_44, u0_45, u0_46, u0_47, u0_48, u0_49, u0_50, u0_51, u0_52, u0_53, u0_54, u0_55, u0_56, u0_57, u0_58, u0_59, u0_60, u0_61, u0_62, u0_63, u0_64, u0_65, u0_66, u0_67, u0_68, u0_69, u0_70, u0_71, u0_72, u0_73])), (1, .inl (cy 0, 2, .inl c_9_277)), (2, .inl (cy 0, 2, .inl c_19_279)), (3, .inl (cy 0, 2, .inl c_29_281)), (4, .inl (cy 0, 2, .inl c_39_283)), (5, .inl (cy 2, 2, .inl c_49_285)), (6, .inl (cy 0, 10, .inl c_69_401))] g) H locs → ∀ ls : Array Slot, lv_has ls 2 [(1, .int v_69_399), (0, .ref (ad 0))] → W p l e { frames := 0, cells := 0, slots := 0, locals := 0 } s m [.ref (ad 0)].toArray below meth c H locs 0 0 (MQ below (cQv (fun nw lu => ∃ (y0_38 : Int32) (d1 : Nat → Int32) (d2 : Nat → Int32) (d3 : Nat → Int32) (d4 : Nat → Int32) (d5 : Nat → Int32) (d6 : Nat → Int32), (zi 0 490 y0_38) ∧ (za 0 5 d1) ∧ (za 0 4 d2) ∧ (za 0 12 d3) ∧ (za 0 30 d4) ∧ (za 0 1 d5) ∧ ((y0_38 : Int32).toInt = 490 * (x0_37 : Int32).toInt) ∧ (d5 = upd c5 (x0_37 : Int32).toNatClampNeg 0) ∧ (lu = [(0, .inr (12, [u0_0, u0_1, u0_2, u0_3, u0_4, u0_5, u0_6, u0_7, u0_8, u0_9, u0_10, .ref (ad 1), .ref (ad 2), .ref (ad 3), .ref (ad 4), u0_15, u0_16, u0_17, .ref (ad 6), u0_19, u0_20, u0_21, u0_22, u0_23, u0_24, u0_25, u0_26, .ref (ad 5), u0_28, u0_29, u0_30, u0_31, u0_32, u0_33, u0_34, u0_35, u0_36, .int x0_37, .int y0_38, u0_39, u0_40, u0_41, u0_42, u0_43, u0_44, u0_45, u0_46, u0_47, u0_48, u0_49, u0_50, u0_51, u0_52, u0_53, u0_54, u0_55, u0_56, u0_57, u0_58, u0_59, u0_60, u0_61, u0_62, u0_63, u0_64, u0_65, u0_66, u0_67, u0_68, u0_69, u0_70, u0_71, u0_72, u0_73])), (1, .inl (cy 0, 2, .inl d1)), (2, .inl (cy 0, 2, .inl d2)), (3, .inl (cy 0, 2, .inl d3)), (4, .inl (cy 0, 2, .inl d4)), (5, .inl (cy 2, 2, .inl d5)), (6, .inl (cy 0, 10, .inl d6))])) D 7 0 ad g A) [.ref (ad 0)].toArray s 0 0 A) (F0 m 69 ls [])  := by
    intro d_69_421
    induction d_69_421 with
    | zero => intro v_69_399 c_69_401 z_69_400 zc_69_402 mu_69_422; exact absurd mu_69_422 (Nat.not_lt_zero _)
    | succ d_69_421 ih_69_423 =>
      intro v_69_399 c_69_401 z_69_400 zc_69_402 mu_69_422 H locs hO ls hl
      refine lv_iload_n hx hb ddX12_clearBank_69 rfl (lv_at hl 0 rfl) ?_
      refine lv_iconst (v := 5) hx hb ddX12_clearBank_70 (by decide) ?_
      refine lv_aload_n hx hb ddX12_clearBank_71 rfl (lv_at hl 1 rfl) ?_
      refine cg_get hC hO 0 (by decide) rfl rfl i_X12 37 (by decide) (List.mem_of_getElem? (i := 2) rfl) rfl ddX12_clearBank_72 ?_
      refine lv_imul hx hb ddX12_clearBank_75 ?_
      refine zg_top2 (P := fun v => zi 0 5 v) (E := fun v => v.toInt = 5 * (x0_37 : Int32).toInt) (zi_mulk (zi_k (a := 5) (b := 5) (x := 5) rfl) b0_37 (n := 5) (by decide) (by decide)) (fun v_75_424 z_75_425 q_75_426 => ?_)
      refine lv_iconst (v := 5) hx hb ddX12_clearBank_76 (by decide) ?_
      refine lv_iadd hx hb ddX12_clearBank_77 ?_
      refine zg_top2 (P := fun v => zi 5 10 v) (E := fun v => v.toInt = v_75_424.toInt + 5) (zi_addk z_75_425 (n := 5) (by decide) (by decide)) (fun v_77_427 z_77_428 q_77_429 => ?_)
      refine lv_icmp_ge (tgt := 94) hx hb ddX12_clearBank_78 (by decide) (fun h_78_430 => ?_) (fun h_78_430 => ?_)
      · have q_78_431 := zr_le h_78_430
        have z_78_432 : zi 5 10 v_69_399 := zd_le q_78_431 z_77_428 z_69_400 (by decide)
        exact cg_vret (nw := fun _ => 0) hC hr hlk hO.same (Nat.le_of_ble_eq_true rfl) (Nat.le_of_ble_eq_true rfl) (⟨v_58_288, c_9_277, c_19_279, c_29_281, c_39_283, c_49_285, c_69_401, z_58_289, zc_9_278, zc_19_280, zc_29_282, zc_39_284, zc_49_286, (by omega), eq_49_287, rfl⟩) ddX12_clearBank_94
      · have q_78_433 := zr_nle h_78_430
        have z_78_434 : zi 0 9 v_69_399 := zu_lt q_78_433 z_69_400 z_77_428 (by decide)
        refine lv_aload_n hx hb ddX12_clearBank_81 rfl (lv_at hl 1 rfl) ?_
        refine cg_get hC hO 0 (by decide) rfl rfl i_X12 18 (by decide) (List.mem_of_getElem? (i := 8) rfl) rfl ddX12_clearBank_82 ?_
        refine lv_iload_n hx hb ddX12_clearBank_85 rfl (lv_at hl 0 rfl) ?_
        refine lv_iconst (v := (-1)) hx hb ddX12_clearBank_86 (by decide) ?_
        refine zg_iast hC hO 6 (by decide) rfl zc_69_402 (zi_k (a := (-2147483648)) (b := 2147483647) (x := (-1)) rfl) (zi_in z_78_434 (by decide)) ddX12_clearBank_87 (fun H locs c_87_435 zc_87_436 hO => ?_)
        have hO : cO D cy A s.heap s 7 ad (cup [(0, .inr (12, [u0_0, u0_1, u0_2, u0_3, u0_4, u0_5, u0_6, u0_7, u0_8, u0_9, u0_10, .ref (ad 1), .ref (ad 2), .ref (ad 3), .ref (ad 4), u0_15, u0_16, u0_17, .ref (ad 6), u0_19, u0_20, u0_21, u0_22, u0_23, u0_24, u0_25, u0_26, .ref (ad 5), u0_28, u0_29, u0_30, u0_31, u0_32, u0_33, u0_34, u0_35, u0_36, .int x0_37, .int v_58_288, u0_39, u0_40, u0_41, u0_42, u0_43, u0_44, u0_45, u0_46, u0_47, u0_48, u0_49, u0_50, u0_51, u0_52, u0_53, u0_54, u0_55, u0_56, u0_57, u0_58, u0_59, u0_60, u0_61, u0_62, u0_63, u0_64, u0_65, u0_66, u0_67, u0_68, u0_69, u0_70, u0_71, u0_72, u0_73])), (1, .inl (cy 0, 2, .inl c_9_277)), (2, .inl (cy 0, 2, .inl c_19_279)), (3, .inl (cy 0, 2, .inl c_29_281)), (4, .inl (cy 0, 2, .inl c_39_283)), (5, .inl (cy 2, 2, .inl c_49_285)), (6, .inl (cy 0, 10, .inl c_87_435))] g) _ _ := hO
        obtain ⟨v_88_437, e_88_438, z_88_439, q_88_440⟩ := zi_inc (e := 1) (f := 10) 1 z_78_434 (by decide)
        refine lv_iinc (v := v_88_437) (lv' := [(1, .int v_88_437), (0, .ref (ad 0))]) hx hb ddX12_clearBank_88 hl (k := 0) rfl e_88_438 (by decide) rfl (fun ls hl => ?_)
        refine lv_goto (tgt := 69) hx hb ddX12_clearBank_91 (by decide) ?_
        exact ih_69_423 v_88_437 c_87_435 (zi_w (c := 0) (d := 10) z_88_439 (by decide)) zc_87_436 (zm_up q_88_440 ((zi_w (c := 0) (d := 10) z_88_439 (by decide))).2 (by decide) mu_69_422) _ _ hO ls (lv_sub hl [0, 1] rfl)
  exact loop_69_420 ((10 + 1 - (v_67_291 : Int32).toInt).toNat + 1) v_67_291 c6 (zi_w (c := 0) (d := 10) z_67_292 (by decide)) (za_all _) (Nat.lt_succ_self _) _ _ hO ls (lv_sub hl [0, 1] rfl)

