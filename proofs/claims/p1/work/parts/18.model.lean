theorem dX12_layTurns_0 : decode cX12_layTurns 0 = .ok (.iconst 0, 1) := by decide +kernel
theorem dX12_layTurns_1 : decode cX12_layTurns 1 = .ok (.istore_n 1, 1) := by decide +kernel
theorem dX12_layTurns_2 : decode cX12_layTurns 2 = .ok (.iconst 0, 1) := by decide +kernel
theorem dX12_layTurns_3 : decode cX12_layTurns 3 = .ok (.istore_n 2, 1) := by decide +kernel
theorem dX12_layTurns_4 : decode cX12_layTurns 4 = .ok (.iload_n 2, 1) := by decide +kernel
theorem dX12_layTurns_5 : decode cX12_layTurns 5 = .ok (.aload_n 0, 1) := by decide +kernel
theorem dX12_layTurns_6 : decode cX12_layTurns 6 = .ok (.getfield 379, 3) := by decide +kernel
theorem dX12_layTurns_9 : decode cX12_layTurns 9 = .ok (.if_icmp .ge 79, 3) := by decide +kernel
theorem dX12_layTurns_12 : decode cX12_layTurns 12 = .ok (.aload_n 0, 1) := by decide +kernel
theorem dX12_layTurns_13 : decode cX12_layTurns 13 = .ok (.getfield 137, 3) := by decide +kernel
theorem dX12_layTurns_16 : decode cX12_layTurns 16 = .ok (.iload_n 2, 1) := by decide +kernel
theorem dX12_layTurns_17 : decode cX12_layTurns 17 = .ok (.baload, 1) := by decide +kernel
theorem dX12_layTurns_18 : decode cX12_layTurns 18 = .ok (.ifCond .ne 6, 3) := by decide +kernel
theorem dX12_layTurns_21 : decode cX12_layTurns 21 = .ok (.goto 61, 3) := by decide +kernel
theorem dX12_layTurns_24 : decode cX12_layTurns 24 = .ok (.iload_n 1, 1) := by decide +kernel
theorem dX12_layTurns_25 : decode cX12_layTurns 25 = .ok (.istore_n 3, 1) := by decide +kernel
theorem dX12_layTurns_26 : decode cX12_layTurns 26 = .ok (.iload_n 3, 1) := by decide +kernel
theorem dX12_layTurns_27 : decode cX12_layTurns 27 = .ok (.ifCond .le 45, 3) := by decide +kernel
theorem dX12_layTurns_30 : decode cX12_layTurns 30 = .ok (.aload_n 0, 1) := by decide +kernel
theorem dX12_layTurns_31 : decode cX12_layTurns 31 = .ok (.getfield 101, 3) := by decide +kernel
theorem dX12_layTurns_34 : decode cX12_layTurns 34 = .ok (.aload_n 0, 1) := by decide +kernel
theorem dX12_layTurns_35 : decode cX12_layTurns 35 = .ok (.getfield 116, 3) := by decide +kernel
theorem dX12_layTurns_38 : decode cX12_layTurns 38 = .ok (.iload_n 3, 1) := by decide +kernel
theorem dX12_layTurns_39 : decode cX12_layTurns 39 = .ok (.iconst 1, 1) := by decide +kernel
theorem dX12_layTurns_40 : decode cX12_layTurns 40 = .ok (.isub, 1) := by decide +kernel
theorem dX12_layTurns_41 : decode cX12_layTurns 41 = .ok (.iaload, 1) := by decide +kernel
theorem dX12_layTurns_42 : decode cX12_layTurns 42 = .ok (.iaload, 1) := by decide +kernel
theorem dX12_layTurns_43 : decode cX12_layTurns 43 = .ok (.aload_n 0, 1) := by decide +kernel
theorem dX12_layTurns_44 : decode cX12_layTurns 44 = .ok (.getfield 101, 3) := by decide +kernel
theorem dX12_layTurns_47 : decode cX12_layTurns 47 = .ok (.iload_n 2, 1) := by decide +kernel
theorem dX12_layTurns_48 : decode cX12_layTurns 48 = .ok (.iaload, 1) := by decide +kernel
theorem dX12_layTurns_49 : decode cX12_layTurns 49 = .ok (.if_icmp .le 23, 3) := by decide +kernel
theorem dX12_layTurns_52 : decode cX12_layTurns 52 = .ok (.aload_n 0, 1) := by decide +kernel
theorem dX12_layTurns_53 : decode cX12_layTurns 53 = .ok (.getfield 116, 3) := by decide +kernel
theorem dX12_layTurns_56 : decode cX12_layTurns 56 = .ok (.iload_n 3, 1) := by decide +kernel
theorem dX12_layTurns_57 : decode cX12_layTurns 57 = .ok (.aload_n 0, 1) := by decide +kernel
theorem dX12_layTurns_58 : decode cX12_layTurns 58 = .ok (.getfield 116, 3) := by decide +kernel
theorem dX12_layTurns_61 : decode cX12_layTurns 61 = .ok (.iload_n 3, 1) := by decide +kernel
theorem dX12_layTurns_62 : decode cX12_layTurns 62 = .ok (.iconst 1, 1) := by decide +kernel
theorem dX12_layTurns_63 : decode cX12_layTurns 63 = .ok (.isub, 1) := by decide +kernel
theorem dX12_layTurns_64 : decode cX12_layTurns 64 = .ok (.iaload, 1) := by decide +kernel
theorem dX12_layTurns_65 : decode cX12_layTurns 65 = .ok (.iastore, 1) := by decide +kernel
theorem dX12_layTurns_66 : decode cX12_layTurns 66 = .ok (.iinc 3 (-1), 3) := by decide +kernel
theorem dX12_layTurns_69 : decode cX12_layTurns 69 = .ok (.goto (-43), 3) := by decide +kernel
theorem dX12_layTurns_72 : decode cX12_layTurns 72 = .ok (.aload_n 0, 1) := by decide +kernel
theorem dX12_layTurns_73 : decode cX12_layTurns 73 = .ok (.getfield 116, 3) := by decide +kernel
theorem dX12_layTurns_76 : decode cX12_layTurns 76 = .ok (.iload_n 3, 1) := by decide +kernel
theorem dX12_layTurns_77 : decode cX12_layTurns 77 = .ok (.iload_n 2, 1) := by decide +kernel
theorem dX12_layTurns_78 : decode cX12_layTurns 78 = .ok (.iastore, 1) := by decide +kernel
theorem dX12_layTurns_79 : decode cX12_layTurns 79 = .ok (.iinc 1 1, 3) := by decide +kernel
theorem dX12_layTurns_82 : decode cX12_layTurns 82 = .ok (.iinc 2 1, 3) := by decide +kernel
theorem dX12_layTurns_85 : decode cX12_layTurns 85 = .ok (.goto (-81), 3) := by decide +kernel
theorem dX12_layTurns_88 : decode cX12_layTurns 88 = .ok (.iload_n 1, 1) := by decide +kernel
theorem dX12_layTurns_89 : decode cX12_layTurns 89 = .ok (.ireturn, 1) := by decide +kernel
def wq_c_X12_layTurns : List Cond := Cond.code yX12_layTurns cX12_layTurns 4 (some .int) :: (([Cond.fieldLink RX12 379 "CrowTollModel" "dMany" "I", Cond.fieldLink RX12 137 "CrowTollModel" "dComes" "[Z", Cond.fieldLink RX12 116 "CrowTollModel" "turnOf" "[I", Cond.fieldLink RX12 101 "CrowTollModel" "dMinute" "[I"] : List Cond) ++ wsX120)
set_option maxHeartbeats 8000000 in
set_option maxRecDepth 100000 in
theorem c_X12_layTurns (l : Launch) (D : va_G) (cy : Nat → ClassId) (ad : Nat → Nat) (g : Nat → va_E) {f0 : List Value} {mq : Nat} {c902 : Nat → Int32} {c900 : Nat → Int32} {c901 : Nat → Int32} (o0 : g 0 = .inr (12, f0)) (f0_42 : f0[42]? = some (.ref (ad 3))) (f0_47 : f0[47]? = some (.ref (ad 1))) (f0_54 : f0[54]? = some (.ref (ad 2))) (f0_56 : f0[56]? = some (.int (nI mq))) (a1 : g 1 = .inl (cy 0, 30, .inl c902)) (a2 : g 2 = .inl (cy 2, 30, .inl c900)) (a3 : g 3 = .inl (cy 0, 30, .inl c901)) (hm : mq ≤ 30) : cMi l yX12_layTurns wq_c_X12_layTurns { frames := 0, cells := 0, slots := 0, locals := 0 } 4 0 0 0 D cy ad g [.ref (ad 0)] (fun r nw lu => ∃ (a : Nat) (tt : Nat → Int32), (r = (nI a)) ∧ (lu = [(1, .inl (cy 0, 30, .inl tt))])) := by
  refine cM_of (Qc := fun A => cQi (fun r nw lu => ∃ (a : Nat) (tt : Nat → Int32), (r = (nI a)) ∧ (lu = [(1, .inl (cy 0, 30, .inl tt))])) D 4 0 ad g A) (cc := cX12_layTurns) (maxL := 4) (ret := (some .int)) (by decide) rfl (Nat.le_of_ble_eq_true rfl) ?_
  intro p e s m below meth c A hC hr hlk hnm hO ls hl
  have hC : CallFix p m c cX12_layTurns 4 s [.ref (ad 0)].toArray wq_c_X12_layTurns RX12 := hC
  obtain ⟨hx, hb, hml, hown, hts⟩ := id hC
  have hl : lv_has ls 4 [(0, .ref (ad 0))] := hl
  have i_X12 : ∀ w ∈ wsX120, w ∈ wq_c_X12_layTurns := fun w h => List.mem_cons_of_mem _ (List.mem_append_right _ h)
  refine lv_iconst (v := 0) hx hb dX12_layTurns_0 (by decide) ?_
  refine lv_istore_n (lv' := [(1, .int 0), (0, .ref (ad 0))]) hx hb dX12_layTurns_1 rfl hl (by decide) rfl (fun ls hl => ?_)
  refine lv_iconst (v := 0) hx hb dX12_layTurns_2 (by decide) ?_
  refine lv_istore_n (lv' := [(2, .int 0), (1, .int 0), (0, .ref (ad 0))]) hx hb dX12_layTurns_3 rfl hl (by decide) rfl (fun ls hl => ?_)
  have hO := hO.note 1 (e := .inl (cy 0, 30, .inl c902)) a1
  have hO : cO D cy A s.heap s 4 ad (cup [(1, .inl (cy 0, 30, .inl c902))] g) _ _ := hO
  have loop_4_1 : ∀ (d_4_2 : Nat) (a : Nat) (i : Nat) (tt : Nat → Int32), (a ≤ i) → (i ≤ mq) → (tOk tt a) → mq - i < d_4_2 → ∀ (H : Heap) (locs : List Loc), cO D cy A s.heap s 4 ad (cup [(1, .inl (cy 0, 30, .inl tt))] g) H locs → ∀ ls : Array Slot, lv_has ls 4 [(2, .int (nI i)), (1, .int (nI a)), (0, .ref (ad 0))] → W p l e { frames := 0, cells := 0, slots := 0, locals := 0 } s m [.ref (ad 0)].toArray below meth c H locs 0 0 (MQ below (cQi (fun r nw lu => ∃ (a : Nat) (tt : Nat → Int32), (r = (nI a)) ∧ (lu = [(1, .inl (cy 0, 30, .inl tt))])) D 4 0 ad g A) [.ref (ad 0)].toArray s 0 0 A) (F0 m 4 ls []) := by
    intro d_4_2
    induction d_4_2 with
    | zero => intro a i tt ha hi ht mu_4_3; exact absurd mu_4_3 (Nat.not_lt_zero _)
    | succ d_4_2 ih_4_4 =>
      intro a i tt ha hi ht mu_4_3 H locs hO ls hl
      refine lv_iload_n hx hb dX12_layTurns_4 rfl (lv_at hl 0 rfl) ?_
      refine lv_aload_n hx hb dX12_layTurns_5 rfl (lv_at hl 2 rfl) ?_
      refine cg_get hC hO 0 (by decide) o0 rfl i_X12 56 (by decide) (List.mem_of_getElem? (i := 1) rfl) f0_56 dX12_layTurns_6 ?_
      refine lv_icmp_ge (tgt := 88) hx hb dX12_layTurns_9 (by decide) (fun h_9_5 => ?_) (fun h_9_5 => ?_)
      · have nh_9_5 : mq ≤ i := (nI_leI (by omega) (by omega)).mp h_9_5
        refine lv_iload_n hx hb dX12_layTurns_88 rfl (lv_at hl 1 rfl) ?_
        exact cg_iret (nw := fun _ => 0) hC hr hlk hO.same rfl (Nat.le_of_ble_eq_true rfl) (Nat.le_of_ble_eq_true rfl) (⟨a, tt, rfl, rfl⟩) dX12_layTurns_89
      · have nh_9_5 : ¬ mq ≤ i := fun z => h_9_5 ((nI_leI (by omega) (by omega)).mpr z)
        refine lv_aload_n hx hb dX12_layTurns_12 rfl (lv_at hl 2 rfl) ?_
        refine cg_get hC hO 0 (by decide) o0 rfl i_X12 54 (by decide) (List.mem_of_getElem? (i := 2) rfl) f0_54 dX12_layTurns_13 ?_
        refine lv_iload_n hx hb dX12_layTurns_16 rfl (lv_at hl 0 rfl) ?_
        refine cg_zald hC hO 2 (by decide) a2 (vp_in_nI (by omega) (by omega)) dX12_layTurns_17 ?_
        refine lv_topi (fun v_17_6 ev_17_6 => ?_)
        refine lv_if_ne (tgt := 24) hx hb dX12_layTurns_18 (by decide) (fun h_18_7 => ?_) (fun h_18_7 => ?_)
        · refine lv_iload_n hx hb dX12_layTurns_24 rfl (lv_at hl 1 rfl) ?_
          refine lv_istore_n (lv' := [(3, .int (nI a)), (2, .int (nI i)), (1, .int (nI a)), (0, .ref (ad 0))]) hx hb dX12_layTurns_25 rfl hl (by decide) rfl (fun ls hl => ?_)
          have hO : cO D cy A s.heap s 4 ad (cup [(1, .inl (cy 0, 30, .inl tt))] g) _ _ := hO
          have loop_26_8 : ∀ (d_26_9 : Nat) (k : Nat) (ti : Nat → Int32), (k ≤ a) → (tHole ti a k) → k < d_26_9 → ∀ (H : Heap) (locs : List Loc), cO D cy A s.heap s 4 ad (cup [(1, .inl (cy 0, 30, .inl ti))] g) H locs → ∀ ls : Array Slot, lv_has ls 4 [(3, .int (nI k)), (2, .int (nI i)), (1, .int (nI a)), (0, .ref (ad 0))] → W p l e { frames := 0, cells := 0, slots := 0, locals := 0 } s m [.ref (ad 0)].toArray below meth c H locs 0 0 (MQ below (cQi (fun r nw lu => ∃ (a : Nat) (tt : Nat → Int32), (r = (nI a)) ∧ (lu = [(1, .inl (cy 0, 30, .inl tt))])) D 4 0 ad g A) [.ref (ad 0)].toArray s 0 0 A) (F0 m 26 ls []) := by
            intro d_26_9
            induction d_26_9 with
            | zero => intro k ti hk hti mu_26_10; exact absurd mu_26_10 (Nat.not_lt_zero _)
            | succ d_26_9 ih_26_11 =>
              intro k ti hk hti mu_26_10 H locs hO ls hl
              refine lv_iload_n hx hb dX12_layTurns_26 rfl (lv_at hl 0 rfl) ?_
              refine lv_if_le (tgt := 72) hx hb dX12_layTurns_27 (by decide) (fun h_27_12 => ?_) (fun h_27_12 => ?_)
              · have nh_27_12 : k ≤ 0 := (nI_leI (a := k) (b := 0) (by omega) (by omega)).mp h_27_12
                refine lv_aload_n hx hb dX12_layTurns_72 rfl (lv_at hl 3 rfl) ?_
                refine cg_get hC hO 0 (by decide) o0 rfl i_X12 47 (by decide) (List.mem_of_getElem? (i := 3) rfl) f0_47 dX12_layTurns_73 ?_
                refine lv_iload_n hx hb dX12_layTurns_76 rfl (lv_at hl 0 rfl) ?_
                refine lv_iload_n hx hb dX12_layTurns_77 rfl (lv_at hl 1 rfl) ?_
                refine cg_iast hC hO 1 (by decide) rfl (vp_in_nI (by omega) (by omega)) dX12_layTurns_78 (fun H locs hO => ?_)
                have hO : cO D cy A s.heap s 4 ad (cup [(1, .inl (cy 0, 30, .inl (upd ti (nI k).toNatClampNeg (nI i))))] g) _ _ := hO
                obtain ⟨c1_78_13, ec1_78_13⟩ : ∃ z, z = (upd ti (nI k).toNatClampNeg (nI i)) := ⟨_, rfl⟩
                rw [← ec1_78_13] at hO
                have hO : cO D cy A s.heap s 4 ad (cup [(1, .inl (cy 0, 30, .inl c1_78_13))] g) _ _ := hO
                refine lv_iinc (v := (nI (a + 1))) (lv' := [(1, .int (nI (a + 1))), (3, .int (nI k)), (2, .int (nI i)), (0, .ref (ad 0))]) hx hb dX12_layTurns_79 hl (k := 2) rfl (nI_add a 1) (by decide) rfl (fun ls hl => ?_)
                refine lv_iinc (v := (nI (i + 1))) (lv' := [(2, .int (nI (i + 1))), (1, .int (nI (a + 1))), (3, .int (nI k)), (0, .ref (ad 0))]) hx hb dX12_layTurns_82 hl (k := 2) rfl (nI_add i 1) (by decide) rfl (fun ls hl => ?_)
                refine lv_goto (tgt := 4) hx hb dX12_layTurns_85 (by decide) ?_
                exact ih_4_4 (a + 1) (i + 1) c1_78_13 (by omega) (by omega) (ins_ok ec1_78_13 hti hk (by omega) (by omega)) (by omega) _ _ hO ls (lv_sub hl [0, 1, 3] rfl)
              · have nh_27_12 : ¬ k ≤ 0 := fun z => h_27_12 ((nI_leI (a := k) (b := 0) (by omega) (by omega)).mpr z)
                refine lv_aload_n hx hb dX12_layTurns_30 rfl (lv_at hl 3 rfl) ?_
                refine cg_get hC hO 0 (by decide) o0 rfl i_X12 42 (by decide) (List.mem_of_getElem? (i := 4) rfl) f0_42 dX12_layTurns_31 ?_
                refine lv_aload_n hx hb dX12_layTurns_34 rfl (lv_at hl 3 rfl) ?_
                refine cg_get hC hO 0 (by decide) o0 rfl i_X12 47 (by decide) (List.mem_of_getElem? (i := 3) rfl) f0_47 dX12_layTurns_35 ?_
                refine lv_iload_n hx hb dX12_layTurns_38 rfl (lv_at hl 0 rfl) ?_
                refine lv_iconst (v := 1) hx hb dX12_layTurns_39 (by decide) ?_
                refine lv_isub hx hb dX12_layTurns_40 ?_
                refine cg_ev (v := (nI (k - 1))) (nI_sub1 (by omega)) ?_
                refine cg_iald hC hO 1 (by decide) rfl (vp_in_nI (by omega) (by omega)) dX12_layTurns_41 ?_
                obtain ⟨q_13, hq_13, eq_13⟩ := hti (k - 1) (by omega) (by omega)
                refine cg_ev (v := (nI q_13)) (by rw [nI_clamp (by omega)]; exact eq_13) ?_
                refine cg_iald hC hO 3 (by decide) a3 (vp_in_nI (by omega) (by omega)) dX12_layTurns_42 ?_
                refine lv_topi (fun v_42_15 ev_42_15 => ?_)
                refine lv_aload_n hx hb dX12_layTurns_43 rfl (lv_at hl 3 rfl) ?_
                refine cg_get hC hO 0 (by decide) o0 rfl i_X12 42 (by decide) (List.mem_of_getElem? (i := 4) rfl) f0_42 dX12_layTurns_44 ?_
                refine lv_iload_n hx hb dX12_layTurns_47 rfl (lv_at hl 1 rfl) ?_
                refine cg_iald hC hO 3 (by decide) a3 (vp_in_nI (by omega) (by omega)) dX12_layTurns_48 ?_
                refine lv_topi (fun v_48_16 ev_48_16 => ?_)
                refine lv_icmp_le (tgt := 72) hx hb dX12_layTurns_49 (by decide) (fun h_49_17 => ?_) (fun h_49_17 => ?_)
                · refine lv_aload_n hx hb dX12_layTurns_72 rfl (lv_at hl 3 rfl) ?_
                  refine cg_get hC hO 0 (by decide) o0 rfl i_X12 47 (by decide) (List.mem_of_getElem? (i := 3) rfl) f0_47 dX12_layTurns_73 ?_
                  refine lv_iload_n hx hb dX12_layTurns_76 rfl (lv_at hl 0 rfl) ?_
                  refine lv_iload_n hx hb dX12_layTurns_77 rfl (lv_at hl 1 rfl) ?_
                  refine cg_iast hC hO 1 (by decide) rfl (vp_in_nI (by omega) (by omega)) dX12_layTurns_78 (fun H locs hO => ?_)
                  have hO : cO D cy A s.heap s 4 ad (cup [(1, .inl (cy 0, 30, .inl (upd ti (nI k).toNatClampNeg (nI i))))] g) _ _ := hO
                  obtain ⟨c1_78_18, ec1_78_18⟩ : ∃ z, z = (upd ti (nI k).toNatClampNeg (nI i)) := ⟨_, rfl⟩
                  rw [← ec1_78_18] at hO
                  have hO : cO D cy A s.heap s 4 ad (cup [(1, .inl (cy 0, 30, .inl c1_78_18))] g) _ _ := hO
                  refine lv_iinc (v := (nI (a + 1))) (lv' := [(1, .int (nI (a + 1))), (3, .int (nI k)), (2, .int (nI i)), (0, .ref (ad 0))]) hx hb dX12_layTurns_79 hl (k := 2) rfl (nI_add a 1) (by decide) rfl (fun ls hl => ?_)
                  refine lv_iinc (v := (nI (i + 1))) (lv' := [(2, .int (nI (i + 1))), (1, .int (nI (a + 1))), (3, .int (nI k)), (0, .ref (ad 0))]) hx hb dX12_layTurns_82 hl (k := 2) rfl (nI_add i 1) (by decide) rfl (fun ls hl => ?_)
                  refine lv_goto (tgt := 4) hx hb dX12_layTurns_85 (by decide) ?_
                  exact ih_4_4 (a + 1) (i + 1) c1_78_18 (by omega) (by omega) (ins_ok ec1_78_18 hti hk (by omega) (by omega)) (by omega) _ _ hO ls (lv_sub hl [0, 1, 3] rfl)
                · refine lv_aload_n hx hb dX12_layTurns_52 rfl (lv_at hl 3 rfl) ?_
                  refine cg_get hC hO 0 (by decide) o0 rfl i_X12 47 (by decide) (List.mem_of_getElem? (i := 3) rfl) f0_47 dX12_layTurns_53 ?_
                  refine lv_iload_n hx hb dX12_layTurns_56 rfl (lv_at hl 0 rfl) ?_
                  refine lv_aload_n hx hb dX12_layTurns_57 rfl (lv_at hl 3 rfl) ?_
                  refine cg_get hC hO 0 (by decide) o0 rfl i_X12 47 (by decide) (List.mem_of_getElem? (i := 3) rfl) f0_47 dX12_layTurns_58 ?_
                  refine lv_iload_n hx hb dX12_layTurns_61 rfl (lv_at hl 0 rfl) ?_
                  refine lv_iconst (v := 1) hx hb dX12_layTurns_62 (by decide) ?_
                  refine lv_isub hx hb dX12_layTurns_63 ?_
                  refine cg_ev (v := (nI (k - 1))) (nI_sub1 (by omega)) ?_
                  refine cg_iald hC hO 1 (by decide) rfl (vp_in_nI (by omega) (by omega)) dX12_layTurns_64 ?_
                  obtain ⟨q_18, hq_18, eq_18⟩ := hti (k - 1) (by omega) (by omega)
                  refine cg_ev (v := (nI q_18)) (by rw [nI_clamp (by omega)]; exact eq_18) ?_
                  refine cg_iast hC hO 1 (by decide) rfl (vp_in_nI (by omega) (by omega)) dX12_layTurns_65 (fun H locs hO => ?_)
                  have hO : cO D cy A s.heap s 4 ad (cup [(1, .inl (cy 0, 30, .inl (upd ti (nI k).toNatClampNeg (nI q_18))))] g) _ _ := hO
                  obtain ⟨c1_65_20, ec1_65_20⟩ : ∃ z, z = (upd ti (nI k).toNatClampNeg (nI q_18)) := ⟨_, rfl⟩
                  rw [← ec1_65_20] at hO
                  have hO : cO D cy A s.heap s 4 ad (cup [(1, .inl (cy 0, 30, .inl c1_65_20))] g) _ _ := hO
                  refine lv_iinc (v := (nI (k - 1))) (lv' := [(3, .int (nI (k - 1))), (2, .int (nI i)), (1, .int (nI a)), (0, .ref (ad 0))]) hx hb dX12_layTurns_66 hl (k := 0) rfl (nI_dec1 (by omega)) (by decide) rfl (fun ls hl => ?_)
                  refine lv_goto (tgt := 26) hx hb dX12_layTurns_69 (by decide) ?_
                  exact ih_26_11 (k - 1) c1_65_20 (by omega) (shift_ok ec1_65_20 hq_18 hti (by omega) (by omega)) (by omega) _ _ hO ls (lv_sub hl [0, 1, 2, 3] rfl)
          exact loop_26_8 (a + 1) a tt (by omega) (hole_of ht) (by omega) _ _ hO ls hl
        · refine lv_goto (tgt := 82) hx hb dX12_layTurns_21 (by decide) ?_
          refine lv_iinc (v := (nI (i + 1))) (lv' := [(2, .int (nI (i + 1))), (1, .int (nI a)), (0, .ref (ad 0))]) hx hb dX12_layTurns_82 hl (k := 0) rfl (nI_add i 1) (by decide) rfl (fun ls hl => ?_)
          refine lv_goto (tgt := 4) hx hb dX12_layTurns_85 (by decide) ?_
          exact ih_4_4 a (i + 1) tt (by omega) (by omega) ht (by omega) _ _ hO ls (lv_sub hl [0, 1, 2] rfl)
  exact loop_4_1 (mq + 1) 0 0 c902 (by omega) (by omega) (fun _ h => absurd h (Nat.not_lt_zero _)) (by omega) _ _ hO ls hl

theorem dX12_goesBy_0 : decode cX12_goesBy 0 = .ok (.aload_n 0, 1) := by decide +kernel
theorem dX12_goesBy_1 : decode cX12_goesBy 1 = .ok (.invokevirtual 388, 3) := by decide +kernel
theorem dX12_goesBy_4 : decode cX12_goesBy 4 = .ok (.istore_n 1, 1) := by decide +kernel
theorem dX12_goesBy_5 : decode cX12_goesBy 5 = .ok (.iconst 0, 1) := by decide +kernel
theorem dX12_goesBy_6 : decode cX12_goesBy 6 = .ok (.istore_n 2, 1) := by decide +kernel
theorem dX12_goesBy_7 : decode cX12_goesBy 7 = .ok (.iload_n 2, 1) := by decide +kernel
theorem dX12_goesBy_8 : decode cX12_goesBy 8 = .ok (.iconst 5, 1) := by decide +kernel
theorem dX12_goesBy_9 : decode cX12_goesBy 9 = .ok (.if_icmp .ge 30, 3) := by decide +kernel
theorem dX12_goesBy_12 : decode cX12_goesBy 12 = .ok (.aload_n 0, 1) := by decide +kernel
theorem dX12_goesBy_13 : decode cX12_goesBy 13 = .ok (.getfield 125, 3) := by decide +kernel
theorem dX12_goesBy_16 : decode cX12_goesBy 16 = .ok (.iload_n 2, 1) := by decide +kernel
theorem dX12_goesBy_17 : decode cX12_goesBy 17 = .ok (.iconst 0, 1) := by decide +kernel
theorem dX12_goesBy_18 : decode cX12_goesBy 18 = .ok (.iastore, 1) := by decide +kernel
theorem dX12_goesBy_19 : decode cX12_goesBy 19 = .ok (.aload_n 0, 1) := by decide +kernel
theorem dX12_goesBy_20 : decode cX12_goesBy 20 = .ok (.getfield 134, 3) := by decide +kernel
theorem dX12_goesBy_23 : decode cX12_goesBy 23 = .ok (.iload_n 2, 1) := by decide +kernel
theorem dX12_goesBy_24 : decode cX12_goesBy 24 = .ok (.iconst 0, 1) := by decide +kernel
theorem dX12_goesBy_25 : decode cX12_goesBy 25 = .ok (.iastore, 1) := by decide +kernel
theorem dX12_goesBy_26 : decode cX12_goesBy 26 = .ok (.aload_n 0, 1) := by decide +kernel
theorem dX12_goesBy_27 : decode cX12_goesBy 27 = .ok (.getfield 140, 3) := by decide +kernel
theorem dX12_goesBy_30 : decode cX12_goesBy 30 = .ok (.iload_n 2, 1) := by decide +kernel
theorem dX12_goesBy_31 : decode cX12_goesBy 31 = .ok (.iconst 0, 1) := by decide +kernel
theorem dX12_goesBy_32 : decode cX12_goesBy 32 = .ok (.bastore, 1) := by decide +kernel
theorem dX12_goesBy_33 : decode cX12_goesBy 33 = .ok (.iinc 2 1, 3) := by decide +kernel
theorem dX12_goesBy_36 : decode cX12_goesBy 36 = .ok (.goto (-29), 3) := by decide +kernel
theorem dX12_goesBy_39 : decode cX12_goesBy 39 = .ok (.iconst 0, 1) := by decide +kernel
theorem dX12_goesBy_40 : decode cX12_goesBy 40 = .ok (.istore_n 2, 1) := by decide +kernel
theorem dX12_goesBy_41 : decode cX12_goesBy 41 = .ok (.iload_n 2, 1) := by decide +kernel
theorem dX12_goesBy_42 : decode cX12_goesBy 42 = .ok (.bipush 120, 2) := by decide +kernel
theorem dX12_goesBy_44 : decode cX12_goesBy 44 = .ok (.if_icmp .ge 23, 3) := by decide +kernel
theorem dX12_goesBy_47 : decode cX12_goesBy 47 = .ok (.aload_n 0, 1) := by decide +kernel
theorem dX12_goesBy_48 : decode cX12_goesBy 48 = .ok (.getfield 119, 3) := by decide +kernel
theorem dX12_goesBy_51 : decode cX12_goesBy 51 = .ok (.iload_n 2, 1) := by decide +kernel
theorem dX12_goesBy_52 : decode cX12_goesBy 52 = .ok (.iconst 0, 1) := by decide +kernel
theorem dX12_goesBy_53 : decode cX12_goesBy 53 = .ok (.iastore, 1) := by decide +kernel
theorem dX12_goesBy_54 : decode cX12_goesBy 54 = .ok (.aload_n 0, 1) := by decide +kernel
theorem dX12_goesBy_55 : decode cX12_goesBy 55 = .ok (.getfield 122, 3) := by decide +kernel
theorem dX12_goesBy_58 : decode cX12_goesBy 58 = .ok (.iload_n 2, 1) := by decide +kernel
theorem dX12_goesBy_59 : decode cX12_goesBy 59 = .ok (.iconst (-1), 1) := by decide +kernel
theorem dX12_goesBy_60 : decode cX12_goesBy 60 = .ok (.iastore, 1) := by decide +kernel
theorem dX12_goesBy_61 : decode cX12_goesBy 61 = .ok (.iinc 2 1, 3) := by decide +kernel
theorem dX12_goesBy_64 : decode cX12_goesBy 64 = .ok (.goto (-23), 3) := by decide +kernel
theorem dX12_goesBy_67 : decode cX12_goesBy 67 = .ok (.iconst 0, 1) := by decide +kernel
theorem dX12_goesBy_68 : decode cX12_goesBy 68 = .ok (.istore_n 2, 1) := by decide +kernel
theorem dX12_goesBy_69 : decode cX12_goesBy 69 = .ok (.iload_n 2, 1) := by decide +kernel
theorem dX12_goesBy_70 : decode cX12_goesBy 70 = .ok (.aload_n 0, 1) := by decide +kernel
theorem dX12_goesBy_71 : decode cX12_goesBy 71 = .ok (.invokevirtual 370, 3) := by decide +kernel
theorem dX12_goesBy_74 : decode cX12_goesBy 74 = .ok (.if_icmp .ge 65, 3) := by decide +kernel
theorem dX12_goesBy_139 : decode cX12_goesBy 139 = .ok (.return_, 1) := by decide +kernel
def wq_c_X12_goesBy : List Cond := Cond.code yX12_goesBy cX12_goesBy 4 none :: (([Cond.methodLink RX12 388 yX12_layTurns, Cond.instanceMethod yX12_layTurns, Cond.selects RX12 yX12_layTurns yX12_layTurns, Cond.initialized RX12, Cond.code yX12_layTurns cX12_layTurns 4 (some .int), Cond.fieldLink RX12 379 "CrowTollModel" "dMany" "I", Cond.fieldLink RX12 137 "CrowTollModel" "dComes" "[Z", Cond.fieldLink RX12 116 "CrowTollModel" "turnOf" "[I", Cond.fieldLink RX12 101 "CrowTollModel" "dMinute" "[I", Cond.fieldLink RX12 125 "CrowTollModel" "count" "[I", Cond.fieldLink RX12 134 "CrowTollModel" "countedAll" "[I", Cond.fieldLink RX12 140 "CrowTollModel" "hasCounted" "[Z", Cond.methodLink RX12 370 yX12_postMany, Cond.instanceMethod yX12_postMany, Cond.selects RX12 yX12_postMany yX12_postMany, Cond.code yX12_postMany cX12_postMany 1 (some .int), Cond.fieldLink RX12 24 "CrowTollModel" "posts" "[I", Cond.fieldLink RX12 286 "CrowTollModel" "bank" "I", Cond.fieldLink RX12 119 "CrowTollModel" "paid" "[I", Cond.fieldLink RX12 122 "CrowTollModel" "counted" "[I"] : List Cond) ++ wsX120)
set_option maxRecDepth 20000 in
theorem gr_c_X12_goesBy_c_X12_layTurns : GoodIn wq_c_X12_goesBy wq_c_X12_layTurns := List.forall_mem_cons.mpr ⟨⟨(List.mem_of_getElem? (i := 5) rfl), good_of_word rfl⟩, List.forall_mem_append.mpr ⟨List.forall_mem_cons.mpr ⟨⟨(List.mem_of_getElem? (i := 6) rfl), good_of_word rfl⟩, List.forall_mem_cons.mpr ⟨⟨(List.mem_of_getElem? (i := 7) rfl), good_of_word rfl⟩, List.forall_mem_cons.mpr ⟨⟨(List.mem_of_getElem? (i := 8) rfl), good_of_word rfl⟩, List.forall_mem_cons.mpr ⟨⟨(List.mem_of_getElem? (i := 9) rfl), good_of_word rfl⟩, (fun _ h => absurd h List.not_mem_nil)⟩⟩⟩⟩, fun w h => ⟨(fun w h => List.mem_cons_of_mem _ (List.mem_append_right _ h)) w h, good_of_word (List.all_eq_true.mp gw_X12 w h)⟩⟩⟩
set_option maxRecDepth 20000 in
theorem gq_c_X12_goesBy_c_X12_layTurns_388 : GoodIn wq_c_X12_goesBy (wsV RX12 388 RX12 yX12_layTurns wq_c_X12_layTurns) := goodIn_app (List.forall_mem_cons.mpr ⟨⟨(List.mem_of_getElem? (i := 1) rfl), good_of_word rfl⟩, List.forall_mem_cons.mpr ⟨⟨(List.mem_of_getElem? (i := 2) rfl), good_of_word rfl⟩, List.forall_mem_cons.mpr ⟨⟨(List.mem_of_getElem? (i := 3) rfl), good_of_word rfl⟩, List.forall_mem_cons.mpr ⟨⟨(List.mem_of_getElem? (i := 4) rfl), good_of_word rfl⟩, (fun _ h => absurd h List.not_mem_nil)⟩⟩⟩⟩) gr_c_X12_goesBy_c_X12_layTurns
set_option maxRecDepth 20000 in
theorem gr_c_X12_goesBy_c_X12_postMany : GoodIn wq_c_X12_goesBy wq_c_X12_postMany := List.forall_mem_cons.mpr ⟨⟨(List.mem_of_getElem? (i := 16) rfl), good_of_word rfl⟩, List.forall_mem_append.mpr ⟨List.forall_mem_cons.mpr ⟨⟨(List.mem_of_getElem? (i := 17) rfl), good_of_word rfl⟩, List.forall_mem_cons.mpr ⟨⟨(List.mem_of_getElem? (i := 18) rfl), good_of_word rfl⟩, (fun _ h => absurd h List.not_mem_nil)⟩⟩, fun w h => ⟨(fun w h => List.mem_cons_of_mem _ (List.mem_append_right _ h)) w h, good_of_word (List.all_eq_true.mp gw_X12 w h)⟩⟩⟩
set_option maxRecDepth 20000 in
theorem gq_c_X12_goesBy_c_X12_postMany_370 : GoodIn wq_c_X12_goesBy (wsV RX12 370 RX12 yX12_postMany wq_c_X12_postMany) := goodIn_app (List.forall_mem_cons.mpr ⟨⟨(List.mem_of_getElem? (i := 13) rfl), good_of_word rfl⟩, List.forall_mem_cons.mpr ⟨⟨(List.mem_of_getElem? (i := 14) rfl), good_of_word rfl⟩, List.forall_mem_cons.mpr ⟨⟨(List.mem_of_getElem? (i := 15) rfl), good_of_word rfl⟩, List.forall_mem_cons.mpr ⟨⟨(List.mem_of_getElem? (i := 4) rfl), good_of_word rfl⟩, (fun _ h => absurd h List.not_mem_nil)⟩⟩⟩⟩) gr_c_X12_goesBy_c_X12_postMany
set_option maxHeartbeats 8000000 in
set_option maxRecDepth 100000 in
theorem c_X12_goesBy (l : Launch) (D : va_G) (cy : Nat → ClassId) (ad : Nat → Nat) (g : Nat → va_E) {f0 : List Value} {mq : Nat} {c901 : Nat → Int32} {c902 : Nat → Int32} {c900 : Nat → Int32} {c904 : Nat → Int32} (o0 : g 0 = .inr (12, f0)) (f0_12 : f0[12]? = some (.ref (ad 9))) (f0_36 : f0[36]? = some (.int 0)) (f0_42 : f0[42]? = some (.ref (ad 1))) (f0_47 : f0[47]? = some (.ref (ad 2))) (f0_48 : f0[48]? = some (.ref (ad 7))) (f0_49 : f0[49]? = some (.ref (ad 8))) (f0_50 : f0[50]? = some (.ref (ad 4))) (f0_53 : f0[53]? = some (.ref (ad 5))) (f0_54 : f0[54]? = some (.ref (ad 3))) (f0_55 : f0[55]? = some (.ref (ad 6))) (f0_56 : f0[56]? = some (.int (nI mq))) (a1 : g 1 = .inl (cy 0, 30, .inl c901)) (a2 : g 2 = .inl (cy 0, 30, .inl c902)) (a3 : g 3 = .inl (cy 2, 30, .inl c900)) (a4 : g 4 = .inl (cy 0, 5, .inl (fun _ => 0))) (a5 : g 5 = .inl (cy 0, 5, .inl (fun _ => 0))) (a6 : g 6 = .inl (cy 2, 5, .inl (fun _ => 0))) (a7 : g 7 = .inl (cy 0, 120, .inl (fun _ => 0))) (a8 : g 8 = .inl (cy 0, 120, .inl c904)) (a9 : g 9 = .inl (cy 0, 2, .inl (fun _ => 0))) (hm : mq ≤ 30) : cMv l yX12_goesBy wq_c_X12_goesBy { frames := 1, cells := 0, slots := 0, locals := 23 } 10 0 0 0 D cy ad g [.ref (ad 0)] (fun nw lu => ∃ (tt_1_5 : Nat → Int32) (cd : Nat → Int32), lu = [(2, .inl (cy 0, 30, .inl tt_1_5)), (4, .inl (cy 0, 5, .inl (fun _ => 0))), (5, .inl (cy 0, 5, .inl (fun _ => 0))), (6, .inl (cy 2, 5, .inl (fun _ => 0))), (7, .inl (cy 0, 120, .inl (fun _ => 0))), (8, .inl (cy 0, 120, .inl cd))]) := by
  refine cM_of (Qc := fun A => cQv (fun nw lu => ∃ (tt_1_5 : Nat → Int32) (cd : Nat → Int32), lu = [(2, .inl (cy 0, 30, .inl tt_1_5)), (4, .inl (cy 0, 5, .inl (fun _ => 0))), (5, .inl (cy 0, 5, .inl (fun _ => 0))), (6, .inl (cy 2, 5, .inl (fun _ => 0))), (7, .inl (cy 0, 120, .inl (fun _ => 0))), (8, .inl (cy 0, 120, .inl cd))]) D 10 0 ad g A) (cc := cX12_goesBy) (maxL := 4) (ret := none) (by decide) rfl (Nat.le_of_ble_eq_true rfl) ?_
  intro p e s m below meth c A hC hr hlk hnm hO ls hl
  have hC : CallFix p m c cX12_goesBy 4 s [.ref (ad 0)].toArray wq_c_X12_goesBy RX12 := hC
  obtain ⟨hx, hb, hml, hown, hts⟩ := id hC
  have hl : lv_has ls 4 [(0, .ref (ad 0))] := hl
  have i_X12 : ∀ w ∈ wsX120, w ∈ wq_c_X12_goesBy := fun w h => List.mem_cons_of_mem _ (List.mem_append_right _ h)
  refine lv_aload_n hx hb dX12_goesBy_0 rfl (lv_at hl 0 rfl) ?_
  refine cg_Vi (As := []) (rest := []) (mc := 0) (ms := 0) (rm := { frames := 0, cells := 0, slots := 0, locals := 0 }) hC hl.1 hO [0, 2, 3, 1] rfl (c_X12_layTurns l D cy _ _ (f0 := f0) (c901 := c901) (c902 := c902) (c900 := c900) (mq := mq) o0 f0_42 f0_47 f0_54 f0_56 a2 a3 a1 (by omega)) gq_c_X12_goesBy_c_X12_layTurns_388 rfl rfl rfl 0 (by decide +kernel) ⟨Nat.le_of_ble_eq_true rfl, Nat.le_of_ble_eq_true rfl⟩ rfl (by decide) o0 rfl rfl (Nat.le_of_ble_eq_true rfl) dX12_goesBy_1 ⟨Nat.le_of_ble_eq_true rfl, Nat.le_of_ble_eq_true rfl⟩ (fun r_1_3 nw_1_1 l_1_2 H locs hw hO => ?_)
  obtain ⟨a_1_4, tt_1_5, rfl, rfl⟩ := hw
  have hO : cO D cy A s.heap s 10 ad (cup [(2, .inl (cy 0, 30, .inl tt_1_5))] g) _ _ := hO
  refine lv_istore_n (lv' := [(1, .int (nI a_1_4)), (0, .ref (ad 0))]) hx hb dX12_goesBy_4 rfl hl (by decide) rfl (fun ls hl => ?_)
  refine lv_iconst (v := 0) hx hb dX12_goesBy_5 (by decide) ?_
  refine lv_istore_n (lv' := [(2, .int 0), (1, .int (nI a_1_4)), (0, .ref (ad 0))]) hx hb dX12_goesBy_6 rfl hl (by decide) rfl (fun ls hl => ?_)
  refine lv_iload_n hx hb dX12_goesBy_7 rfl (lv_at hl 0 rfl) ?_
  refine lv_iconst (v := 5) hx hb dX12_goesBy_8 (by decide) ?_
  refine lv_icmp_ge (tgt := 39) hx hb dX12_goesBy_9 (by decide) (fun h => absurd h (by decide)) (fun _ => ?_)
  refine lv_aload_n hx hb dX12_goesBy_12 rfl (lv_at hl 2 rfl) ?_
  refine cg_get hC hO 0 (by decide) o0 rfl i_X12 50 (by decide) (List.mem_of_getElem? (i := 10) rfl) f0_50 dX12_goesBy_13 ?_
  refine lv_iload_n hx hb dX12_goesBy_16 rfl (lv_at hl 0 rfl) ?_
  refine lv_iconst (v := 0) hx hb dX12_goesBy_17 (by decide) ?_
  refine cg_iast hC hO 4 (by decide) a4 (cin (by decide)) dX12_goesBy_18 (fun H locs hO => ?_)
  have hO : cO D cy A s.heap s 10 ad (cup [(2, .inl (cy 0, 30, .inl tt_1_5)), (4, .inl (cy 0, 5, .inl (upd (fun _ => 0) (0 : Int32).toNatClampNeg 0)))] g) _ _ := hO
  rw [upd_const] at hO
  have hO : cO D cy A s.heap s 10 ad (cup [(2, .inl (cy 0, 30, .inl tt_1_5)), (4, .inl (cy 0, 5, .inl (fun _ => 0)))] g) _ _ := hO
  refine lv_aload_n hx hb dX12_goesBy_19 rfl (lv_at hl 2 rfl) ?_
  refine cg_get hC hO 0 (by decide) o0 rfl i_X12 53 (by decide) (List.mem_of_getElem? (i := 11) rfl) f0_53 dX12_goesBy_20 ?_
  refine lv_iload_n hx hb dX12_goesBy_23 rfl (lv_at hl 0 rfl) ?_
  refine lv_iconst (v := 0) hx hb dX12_goesBy_24 (by decide) ?_
  refine cg_iast hC hO 5 (by decide) a5 (cin (by decide)) dX12_goesBy_25 (fun H locs hO => ?_)
  have hO : cO D cy A s.heap s 10 ad (cup [(2, .inl (cy 0, 30, .inl tt_1_5)), (4, .inl (cy 0, 5, .inl (fun _ => 0))), (5, .inl (cy 0, 5, .inl (upd (fun _ => 0) (0 : Int32).toNatClampNeg 0)))] g) _ _ := hO
  rw [upd_const] at hO
  have hO : cO D cy A s.heap s 10 ad (cup [(2, .inl (cy 0, 30, .inl tt_1_5)), (4, .inl (cy 0, 5, .inl (fun _ => 0))), (5, .inl (cy 0, 5, .inl (fun _ => 0)))] g) _ _ := hO
  refine lv_aload_n hx hb dX12_goesBy_26 rfl (lv_at hl 2 rfl) ?_
  refine cg_get hC hO 0 (by decide) o0 rfl i_X12 55 (by decide) (List.mem_of_getElem? (i := 12) rfl) f0_55 dX12_goesBy_27 ?_
  refine lv_iload_n hx hb dX12_goesBy_30 rfl (lv_at hl 0 rfl) ?_
  refine lv_iconst (v := 0) hx hb dX12_goesBy_31 (by decide) ?_
  refine cg_zast hC hO 6 (by decide) a6 (cin (by decide)) dX12_goesBy_32 (fun H locs hO => ?_)
  have hO : cO D cy A s.heap s 10 ad (cup [(2, .inl (cy 0, 30, .inl tt_1_5)), (4, .inl (cy 0, 5, .inl (fun _ => 0))), (5, .inl (cy 0, 5, .inl (fun _ => 0))), (6, .inl (cy 2, 5, .inl (upd (fun _ => 0) (0 : Int32).toNatClampNeg 0)))] g) _ _ := hO
  rw [upd_const] at hO
  have hO : cO D cy A s.heap s 10 ad (cup [(2, .inl (cy 0, 30, .inl tt_1_5)), (4, .inl (cy 0, 5, .inl (fun _ => 0))), (5, .inl (cy 0, 5, .inl (fun _ => 0))), (6, .inl (cy 2, 5, .inl (fun _ => 0)))] g) _ _ := hO
  refine lv_iinc (v := 1) (lv' := [(2, .int 1), (1, .int (nI a_1_4)), (0, .ref (ad 0))]) hx hb dX12_goesBy_33 hl (k := 0) rfl (by decide) (by decide) rfl (fun ls hl => ?_)
  refine lv_goto (tgt := 7) hx hb dX12_goesBy_36 (by decide) ?_
  refine lv_iload_n hx hb dX12_goesBy_7 rfl (lv_at hl 0 rfl) ?_
  refine lv_iconst (v := 5) hx hb dX12_goesBy_8 (by decide) ?_
  refine lv_icmp_ge (tgt := 39) hx hb dX12_goesBy_9 (by decide) (fun h => absurd h (by decide)) (fun _ => ?_)
  refine lv_aload_n hx hb dX12_goesBy_12 rfl (lv_at hl 2 rfl) ?_
  refine cg_get hC hO 0 (by decide) o0 rfl i_X12 50 (by decide) (List.mem_of_getElem? (i := 10) rfl) f0_50 dX12_goesBy_13 ?_
  refine lv_iload_n hx hb dX12_goesBy_16 rfl (lv_at hl 0 rfl) ?_
  refine lv_iconst (v := 0) hx hb dX12_goesBy_17 (by decide) ?_
  refine cg_iast hC hO 4 (by decide) rfl (cin (by decide)) dX12_goesBy_18 (fun H locs hO => ?_)
  have hO : cO D cy A s.heap s 10 ad (cup [(2, .inl (cy 0, 30, .inl tt_1_5)), (4, .inl (cy 0, 5, .inl (upd (fun _ => 0) (1 : Int32).toNatClampNeg 0))), (5, .inl (cy 0, 5, .inl (fun _ => 0))), (6, .inl (cy 2, 5, .inl (fun _ => 0)))] g) _ _ := hO
  rw [upd_const] at hO
  have hO : cO D cy A s.heap s 10 ad (cup [(2, .inl (cy 0, 30, .inl tt_1_5)), (4, .inl (cy 0, 5, .inl (fun _ => 0))), (5, .inl (cy 0, 5, .inl (fun _ => 0))), (6, .inl (cy 2, 5, .inl (fun _ => 0)))] g) _ _ := hO
  refine lv_aload_n hx hb dX12_goesBy_19 rfl (lv_at hl 2 rfl) ?_
  refine cg_get hC hO 0 (by decide) o0 rfl i_X12 53 (by decide) (List.mem_of_getElem? (i := 11) rfl) f0_53 dX12_goesBy_20 ?_
  refine lv_iload_n hx hb dX12_goesBy_23 rfl (lv_at hl 0 rfl) ?_
  refine lv_iconst (v := 0) hx hb dX12_goesBy_24 (by decide) ?_
  refine cg_iast hC hO 5 (by decide) rfl (cin (by decide)) dX12_goesBy_25 (fun H locs hO => ?_)
  have hO : cO D cy A s.heap s 10 ad (cup [(2, .inl (cy 0, 30, .inl tt_1_5)), (4, .inl (cy 0, 5, .inl (fun _ => 0))), (5, .inl (cy 0, 5, .inl (upd (fun _ => 0) (1 : Int32).toNatClampNeg 0))), (6, .inl (cy 2, 5, .inl (fun _ => 0)))] g) _ _ := hO
  rw [upd_const] at hO
  have hO : cO D cy A s.heap s 10 ad (cup [(2, .inl (cy 0, 30, .inl tt_1_5)), (4, .inl (cy 0, 5, .inl (fun _ => 0))), (5, .inl (cy 0, 5, .inl (fun _ => 0))), (6, .inl (cy 2, 5, .inl (fun _ => 0)))] g) _ _ := hO
  refine lv_aload_n hx hb dX12_goesBy_26 rfl (lv_at hl 2 rfl) ?_
  refine cg_get hC hO 0 (by decide) o0 rfl i_X12 55 (by decide) (List.mem_of_getElem? (i := 12) rfl) f0_55 dX12_goesBy_27 ?_
  refine lv_iload_n hx hb dX12_goesBy_30 rfl (lv_at hl 0 rfl) ?_
  refine lv_iconst (v := 0) hx hb dX12_goesBy_31 (by decide) ?_
  refine cg_zast hC hO 6 (by decide) rfl (cin (by decide)) dX12_goesBy_32 (fun H locs hO => ?_)
  have hO : cO D cy A s.heap s 10 ad (cup [(2, .inl (cy 0, 30, .inl tt_1_5)), (4, .inl (cy 0, 5, .inl (fun _ => 0))), (5, .inl (cy 0, 5, .inl (fun _ => 0))), (6, .inl (cy 2, 5, .inl (upd (fun _ => 0) (1 : Int32).toNatClampNeg 0)))] g) _ _ := hO
  rw [upd_const] at hO
  have hO : cO D cy A s.heap s 10 ad (cup [(2, .inl (cy 0, 30, .inl tt_1_5)), (4, .inl (cy 0, 5, .inl (fun _ => 0))), (5, .inl (cy 0, 5, .inl (fun _ => 0))), (6, .inl (cy 2, 5, .inl (fun _ => 0)))] g) _ _ := hO
  refine lv_iinc (v := 2) (lv' := [(2, .int 2), (1, .int (nI a_1_4)), (0, .ref (ad 0))]) hx hb dX12_goesBy_33 hl (k := 0) rfl (by decide) (by decide) rfl (fun ls hl => ?_)
  refine lv_goto (tgt := 7) hx hb dX12_goesBy_36 (by decide) ?_
  refine lv_iload_n hx hb dX12_goesBy_7 rfl (lv_at hl 0 rfl) ?_
  refine lv_iconst (v := 5) hx hb dX12_goesBy_8 (by decide) ?_
  refine lv_icmp_ge (tgt := 39) hx hb dX12_goesBy_9 (by decide) (fun h => absurd h (by decide)) (fun _ => ?_)
  refine lv_aload_n hx hb dX12_goesBy_12 rfl (lv_at hl 2 rfl) ?_
  refine cg_get hC hO 0 (by decide) o0 rfl i_X12 50 (by decide) (List.mem_of_getElem? (i := 10) rfl) f0_50 dX12_goesBy_13 ?_
  refine lv_iload_n hx hb dX12_goesBy_16 rfl (lv_at hl 0 rfl) ?_
  refine lv_iconst (v := 0) hx hb dX12_goesBy_17 (by decide) ?_
  refine cg_iast hC hO 4 (by decide) rfl (cin (by decide)) dX12_goesBy_18 (fun H locs hO => ?_)
  have hO : cO D cy A s.heap s 10 ad (cup [(2, .inl (cy 0, 30, .inl tt_1_5)), (4, .inl (cy 0, 5, .inl (upd (fun _ => 0) (2 : Int32).toNatClampNeg 0))), (5, .inl (cy 0, 5, .inl (fun _ => 0))), (6, .inl (cy 2, 5, .inl (fun _ => 0)))] g) _ _ := hO
  rw [upd_const] at hO
  have hO : cO D cy A s.heap s 10 ad (cup [(2, .inl (cy 0, 30, .inl tt_1_5)), (4, .inl (cy 0, 5, .inl (fun _ => 0))), (5, .inl (cy 0, 5, .inl (fun _ => 0))), (6, .inl (cy 2, 5, .inl (fun _ => 0)))] g) _ _ := hO
  refine lv_aload_n hx hb dX12_goesBy_19 rfl (lv_at hl 2 rfl) ?_
  refine cg_get hC hO 0 (by decide) o0 rfl i_X12 53 (by decide) (List.mem_of_getElem? (i := 11) rfl) f0_53 dX12_goesBy_20 ?_
  refine lv_iload_n hx hb dX12_goesBy_23 rfl (lv_at hl 0 rfl) ?_
  refine lv_iconst (v := 0) hx hb dX12_goesBy_24 (by decide) ?_
  refine cg_iast hC hO 5 (by decide) rfl (cin (by decide)) dX12_goesBy_25 (fun H locs hO => ?_)
  have hO : cO D cy A s.heap s 10 ad (cup [(2, .inl (cy 0, 30, .inl tt_1_5)), (4, .inl (cy 0, 5, .inl (fun _ => 0))), (5, .inl (cy 0, 5, .inl (upd (fun _ => 0) (2 : Int32).toNatClampNeg 0))), (6, .inl (cy 2, 5, .inl (fun _ => 0)))] g) _ _ := hO
  rw [upd_const] at hO
  have hO : cO D cy A s.heap s 10 ad (cup [(2, .inl (cy 0, 30, .inl tt_1_5)), (4, .inl (cy 0, 5, .inl (fun _ => 0))), (5, .inl (cy 0, 5, .inl (fun _ => 0))), (6, .inl (cy 2, 5, .inl (fun _ => 0)))] g) _ _ := hO
  refine lv_aload_n hx hb dX12_goesBy_26 rfl (lv_at hl 2 rfl) ?_
  refine cg_get hC hO 0 (by decide) o0 rfl i_X12 55 (by decide) (List.mem_of_getElem? (i := 12) rfl) f0_55 dX12_goesBy_27 ?_
  refine lv_iload_n hx hb dX12_goesBy_30 rfl (lv_at hl 0 rfl) ?_
  refine lv_iconst (v := 0) hx hb dX12_goesBy_31 (by decide) ?_
  refine cg_zast hC hO 6 (by decide) rfl (cin (by decide)) dX12_goesBy_32 (fun H locs hO => ?_)
  have hO : cO D cy A s.heap s 10 ad (cup [(2, .inl (cy 0, 30, .inl tt_1_5)), (4, .inl (cy 0, 5, .inl (fun _ => 0))), (5, .inl (cy 0, 5, .inl (fun _ => 0))), (6, .inl (cy 2, 5, .inl (upd (fun _ => 0) (2 : Int32).toNatClampNeg 0)))] g) _ _ := hO
  rw [upd_const] at hO
  have hO : cO D cy A s.heap s 10 ad (cup [(2, .inl (cy 0, 30, .inl tt_1_5)), (4, .inl (cy 0, 5, .inl (fun _ => 0))), (5, .inl (cy 0, 5, .inl (fun _ => 0))), (6, .inl (cy 2, 5, .inl (fun _ => 0)))] g) _ _ := hO
  refine lv_iinc (v := 3) (lv' := [(2, .int 3), (1, .int (nI a_1_4)), (0, .ref (ad 0))]) hx hb dX12_goesBy_33 hl (k := 0) rfl (by decide) (by decide) rfl (fun ls hl => ?_)
  refine lv_goto (tgt := 7) hx hb dX12_goesBy_36 (by decide) ?_
  refine lv_iload_n hx hb dX12_goesBy_7 rfl (lv_at hl 0 rfl) ?_
  refine lv_iconst (v := 5) hx hb dX12_goesBy_8 (by decide) ?_
  refine lv_icmp_ge (tgt := 39) hx hb dX12_goesBy_9 (by decide) (fun h => absurd h (by decide)) (fun _ => ?_)
  refine lv_aload_n hx hb dX12_goesBy_12 rfl (lv_at hl 2 rfl) ?_
  refine cg_get hC hO 0 (by decide) o0 rfl i_X12 50 (by decide) (List.mem_of_getElem? (i := 10) rfl) f0_50 dX12_goesBy_13 ?_
  refine lv_iload_n hx hb dX12_goesBy_16 rfl (lv_at hl 0 rfl) ?_
  refine lv_iconst (v := 0) hx hb dX12_goesBy_17 (by decide) ?_
  refine cg_iast hC hO 4 (by decide) rfl (cin (by decide)) dX12_goesBy_18 (fun H locs hO => ?_)
  have hO : cO D cy A s.heap s 10 ad (cup [(2, .inl (cy 0, 30, .inl tt_1_5)), (4, .inl (cy 0, 5, .inl (upd (fun _ => 0) (3 : Int32).toNatClampNeg 0))), (5, .inl (cy 0, 5, .inl (fun _ => 0))), (6, .inl (cy 2, 5, .inl (fun _ => 0)))] g) _ _ := hO
  rw [upd_const] at hO
  have hO : cO D cy A s.heap s 10 ad (cup [(2, .inl (cy 0, 30, .inl tt_1_5)), (4, .inl (cy 0, 5, .inl (fun _ => 0))), (5, .inl (cy 0, 5, .inl (fun _ => 0))), (6, .inl (cy 2, 5, .inl (fun _ => 0)))] g) _ _ := hO
  refine lv_aload_n hx hb dX12_goesBy_19 rfl (lv_at hl 2 rfl) ?_
  refine cg_get hC hO 0 (by decide) o0 rfl i_X12 53 (by decide) (List.mem_of_getElem? (i := 11) rfl) f0_53 dX12_goesBy_20 ?_
  refine lv_iload_n hx hb dX12_goesBy_23 rfl (lv_at hl 0 rfl) ?_
  refine lv_iconst (v := 0) hx hb dX12_goesBy_24 (by decide) ?_
  refine cg_iast hC hO 5 (by decide) rfl (cin (by decide)) dX12_goesBy_25 (fun H locs hO => ?_)
  have hO : cO D cy A s.heap s 10 ad (cup [(2, .inl (cy 0, 30, .inl tt_1_5)), (4, .inl (cy 0, 5, .inl (fun _ => 0))), (5, .inl (cy 0, 5, .inl (upd (fun _ => 0) (3 : Int32).toNatClampNeg 0))), (6, .inl (cy 2, 5, .inl (fun _ => 0)))] g) _ _ := hO
  rw [upd_const] at hO
  have hO : cO D cy A s.heap s 10 ad (cup [(2, .inl (cy 0, 30, .inl tt_1_5)), (4, .inl (cy 0, 5, .inl (fun _ => 0))), (5, .inl (cy 0, 5, .inl (fun _ => 0))), (6, .inl (cy 2, 5, .inl (fun _ => 0)))] g) _ _ := hO
  refine lv_aload_n hx hb dX12_goesBy_26 rfl (lv_at hl 2 rfl) ?_
  refine cg_get hC hO 0 (by decide) o0 rfl i_X12 55 (by decide) (List.mem_of_getElem? (i := 12) rfl) f0_55 dX12_goesBy_27 ?_
  refine lv_iload_n hx hb dX12_goesBy_30 rfl (lv_at hl 0 rfl) ?_
  refine lv_iconst (v := 0) hx hb dX12_goesBy_31 (by decide) ?_
  refine cg_zast hC hO 6 (by decide) rfl (cin (by decide)) dX12_goesBy_32 (fun H locs hO => ?_)
  have hO : cO D cy A s.heap s 10 ad (cup [(2, .inl (cy 0, 30, .inl tt_1_5)), (4, .inl (cy 0, 5, .inl (fun _ => 0))), (5, .inl (cy 0, 5, .inl (fun _ => 0))), (6, .inl (cy 2, 5, .inl (upd (fun _ => 0) (3 : Int32).toNatClampNeg 0)))] g) _ _ := hO
  rw [upd_const] at hO
  have hO : cO D cy A s.heap s 10 ad (cup [(2, .inl (cy 0, 30, .inl tt_1_5)), (4, .inl (cy 0, 5, .inl (fun _ => 0))), (5, .inl (cy 0, 5, .inl (fun _ => 0))), (6, .inl (cy 2, 5, .inl (fun _ => 0)))] g) _ _ := hO
  refine lv_iinc (v := 4) (lv' := [(2, .int 4), (1, .int (nI a_1_4)), (0, .ref (ad 0))]) hx hb dX12_goesBy_33 hl (k := 0) rfl (by decide) (by decide) rfl (fun ls hl => ?_)
  refine lv_goto (tgt := 7) hx hb dX12_goesBy_36 (by decide) ?_
  refine lv_iload_n hx hb dX12_goesBy_7 rfl (lv_at hl 0 rfl) ?_
  refine lv_iconst (v := 5) hx hb dX12_goesBy_8 (by decide) ?_
  refine lv_icmp_ge (tgt := 39) hx hb dX12_goesBy_9 (by decide) (fun h => absurd h (by decide)) (fun _ => ?_)
  refine lv_aload_n hx hb dX12_goesBy_12 rfl (lv_at hl 2 rfl) ?_
  refine cg_get hC hO 0 (by decide) o0 rfl i_X12 50 (by decide) (List.mem_of_getElem? (i := 10) rfl) f0_50 dX12_goesBy_13 ?_
  refine lv_iload_n hx hb dX12_goesBy_16 rfl (lv_at hl 0 rfl) ?_
  refine lv_iconst (v := 0) hx hb dX12_goesBy_17 (by decide) ?_
  refine cg_iast hC hO 4 (by decide) rfl (cin (by decide)) dX12_goesBy_18 (fun H locs hO => ?_)
  have hO : cO D cy A s.heap s 10 ad (cup [(2, .inl (cy 0, 30, .inl tt_1_5)), (4, .inl (cy 0, 5, .inl (upd (fun _ => 0) (4 : Int32).toNatClampNeg 0))), (5, .inl (cy 0, 5, .inl (fun _ => 0))), (6, .inl (cy 2, 5, .inl (fun _ => 0)))] g) _ _ := hO
  rw [upd_const] at hO
  have hO : cO D cy A s.heap s 10 ad (cup [(2, .inl (cy 0, 30, .inl tt_1_5)), (4, .inl (cy 0, 5, .inl (fun _ => 0))), (5, .inl (cy 0, 5, .inl (fun _ => 0))), (6, .inl (cy 2, 5, .inl (fun _ => 0)))] g) _ _ := hO
  refine lv_aload_n hx hb dX12_goesBy_19 rfl (lv_at hl 2 rfl) ?_
  refine cg_get hC hO 0 (by decide) o0 rfl i_X12 53 (by decide) (List.mem_of_getElem? (i := 11) rfl) f0_53 dX12_goesBy_20 ?_
  refine lv_iload_n hx hb dX12_goesBy_23 rfl (lv_at hl 0 rfl) ?_
  refine lv_iconst (v := 0) hx hb dX12_goesBy_24 (by decide) ?_
  refine cg_iast hC hO 5 (by decide) rfl (cin (by decide)) dX12_goesBy_25 (fun H locs hO => ?_)
  have hO : cO D cy A s.heap s 10 ad (cup [(2, .inl (cy 0, 30, .inl tt_1_5)), (4, .inl (cy 0, 5, .inl (fun _ => 0))), (5, .inl (cy 0, 5, .inl (upd (fun _ => 0) (4 : Int32).toNatClampNeg 0))), (6, .inl (cy 2, 5, .inl (fun _ => 0)))] g) _ _ := hO
  rw [upd_const] at hO
  have hO : cO D cy A s.heap s 10 ad (cup [(2, .inl (cy 0, 30, .inl tt_1_5)), (4, .inl (cy 0, 5, .inl (fun _ => 0))), (5, .inl (cy 0, 5, .inl (fun _ => 0))), (6, .inl (cy 2, 5, .inl (fun _ => 0)))] g) _ _ := hO
  refine lv_aload_n hx hb dX12_goesBy_26 rfl (lv_at hl 2 rfl) ?_
  refine cg_get hC hO 0 (by decide) o0 rfl i_X12 55 (by decide) (List.mem_of_getElem? (i := 12) rfl) f0_55 dX12_goesBy_27 ?_
  refine lv_iload_n hx hb dX12_goesBy_30 rfl (lv_at hl 0 rfl) ?_
  refine lv_iconst (v := 0) hx hb dX12_goesBy_31 (by decide) ?_
  refine cg_zast hC hO 6 (by decide) rfl (cin (by decide)) dX12_goesBy_32 (fun H locs hO => ?_)
  have hO : cO D cy A s.heap s 10 ad (cup [(2, .inl (cy 0, 30, .inl tt_1_5)), (4, .inl (cy 0, 5, .inl (fun _ => 0))), (5, .inl (cy 0, 5, .inl (fun _ => 0))), (6, .inl (cy 2, 5, .inl (upd (fun _ => 0) (4 : Int32).toNatClampNeg 0)))] g) _ _ := hO
  rw [upd_const] at hO
  have hO : cO D cy A s.heap s 10 ad (cup [(2, .inl (cy 0, 30, .inl tt_1_5)), (4, .inl (cy 0, 5, .inl (fun _ => 0))), (5, .inl (cy 0, 5, .inl (fun _ => 0))), (6, .inl (cy 2, 5, .inl (fun _ => 0)))] g) _ _ := hO
  refine lv_iinc (v := 5) (lv' := [(2, .int 5), (1, .int (nI a_1_4)), (0, .ref (ad 0))]) hx hb dX12_goesBy_33 hl (k := 0) rfl (by decide) (by decide) rfl (fun ls hl => ?_)
  refine lv_goto (tgt := 7) hx hb dX12_goesBy_36 (by decide) ?_
  refine lv_iload_n hx hb dX12_goesBy_7 rfl (lv_at hl 0 rfl) ?_
  refine lv_iconst (v := 5) hx hb dX12_goesBy_8 (by decide) ?_
  refine lv_icmp_ge (tgt := 39) hx hb dX12_goesBy_9 (by decide) (fun _ => ?_) (fun h => absurd h (by decide))
  refine lv_iconst (v := 0) hx hb dX12_goesBy_39 (by decide) ?_
  refine lv_istore_n (lv' := [(2, .int 0), (1, .int (nI a_1_4)), (0, .ref (ad 0))]) hx hb dX12_goesBy_40 rfl hl (by decide) rfl (fun ls hl => ?_)
  have hO := hO.note 7 (e := .inl (cy 0, 120, .inl (fun _ => 0))) a7
  have hO := hO.note 8 (e := .inl (cy 0, 120, .inl c904)) a8
  have hO : cO D cy A s.heap s 10 ad (cup [(2, .inl (cy 0, 30, .inl tt_1_5)), (4, .inl (cy 0, 5, .inl (fun _ => 0))), (5, .inl (cy 0, 5, .inl (fun _ => 0))), (6, .inl (cy 2, 5, .inl (fun _ => 0))), (7, .inl (cy 0, 120, .inl (fun _ => 0))), (8, .inl (cy 0, 120, .inl c904))] g) _ _ := hO
  have loop_41_6 : ∀ (d_41_7 : Nat) (i : Nat) (cd : Nat → Int32), (i ≤ 120) → 120 - i < d_41_7 → ∀ (H : Heap) (locs : List Loc), cO D cy A s.heap s 10 ad (cup [(2, .inl (cy 0, 30, .inl tt_1_5)), (4, .inl (cy 0, 5, .inl (fun _ => 0))), (5, .inl (cy 0, 5, .inl (fun _ => 0))), (6, .inl (cy 2, 5, .inl (fun _ => 0))), (7, .inl (cy 0, 120, .inl (fun _ => 0))), (8, .inl (cy 0, 120, .inl cd))] g) H locs → ∀ ls : Array Slot, lv_has ls 4 [(2, .int (nI i)), (1, .int (nI a_1_4)), (0, .ref (ad 0))] → W p l e { frames := 1, cells := 0, slots := 0, locals := 23 } s m [.ref (ad 0)].toArray below meth c H locs 0 0 (MQ below (cQv (fun nw lu => ∃ (tt_1_5 : Nat → Int32) (cd : Nat → Int32), lu = [(2, .inl (cy 0, 30, .inl tt_1_5)), (4, .inl (cy 0, 5, .inl (fun _ => 0))), (5, .inl (cy 0, 5, .inl (fun _ => 0))), (6, .inl (cy 2, 5, .inl (fun _ => 0))), (7, .inl (cy 0, 120, .inl (fun _ => 0))), (8, .inl (cy 0, 120, .inl cd))]) D 10 0 ad g A) [.ref (ad 0)].toArray s 0 0 A) (F0 m 41 ls []) := by
    intro d_41_7
    induction d_41_7 with
    | zero => intro i cd hi mu_41_8; exact absurd mu_41_8 (Nat.not_lt_zero _)
    | succ d_41_7 ih_41_9 =>
      intro i cd hi mu_41_8 H locs hO ls hl
      refine lv_iload_n hx hb dX12_goesBy_41 rfl (lv_at hl 0 rfl) ?_
      refine lv_bipush (v := 120) hx hb dX12_goesBy_42 (by decide) ?_
      refine lv_icmp_ge (tgt := 67) hx hb dX12_goesBy_44 (by decide) (fun h_44_10 => ?_) (fun h_44_10 => ?_)
      · have nh_44_10 : 120 ≤ i := (nI_leI (a := 120) (b := i) (by omega) (by omega)).mp h_44_10
        refine lv_iconst (v := 0) hx hb dX12_goesBy_67 (by decide) ?_
        refine lv_istore_n (lv' := [(2, .int 0), (1, .int (nI a_1_4)), (0, .ref (ad 0))]) hx hb dX12_goesBy_68 rfl hl (by decide) rfl (fun ls hl => ?_)
        refine lv_iload_n hx hb dX12_goesBy_69 rfl (lv_at hl 0 rfl) ?_
        refine lv_aload_n hx hb dX12_goesBy_70 rfl (lv_at hl 2 rfl) ?_
        refine cg_Vi (As := []) (rest := [.int 0]) (mc := 0) (ms := 0) (rm := { frames := 0, cells := 0, slots := 0, locals := 0 }) hC hl.1 hO [0, 9] rfl (c_X12_postMany l D cy _ _ (f0 := f0) o0 f0_12 f0_36 a9) gq_c_X12_goesBy_c_X12_postMany_370 rfl rfl rfl 0 (by decide +kernel) ⟨Nat.le_of_ble_eq_true rfl, Nat.le_of_ble_eq_true rfl⟩ rfl (by decide) o0 rfl rfl (Nat.le_of_ble_eq_true rfl) dX12_goesBy_71 ⟨Nat.le_of_ble_eq_true rfl, Nat.le_of_ble_eq_true rfl⟩ (fun r_71_13 nw_71_11 l_71_12 H locs hw hO => ?_)
        obtain ⟨rfl, rfl⟩ := hw
        have hO : cO D cy A s.heap s 10 ad (cup [(2, .inl (cy 0, 30, .inl tt_1_5)), (4, .inl (cy 0, 5, .inl (fun _ => 0))), (5, .inl (cy 0, 5, .inl (fun _ => 0))), (6, .inl (cy 2, 5, .inl (fun _ => 0))), (7, .inl (cy 0, 120, .inl (fun _ => 0))), (8, .inl (cy 0, 120, .inl cd))] g) _ _ := hO
        refine lv_icmp_ge (tgt := 139) hx hb dX12_goesBy_74 (by decide) (fun _ => ?_) (fun h => absurd h (by decide))
        exact cg_vret (nw := fun _ => 0) hC hr hlk hO.same (Nat.le_of_ble_eq_true rfl) (Nat.le_of_ble_eq_true rfl) (⟨tt_1_5, cd, rfl⟩) dX12_goesBy_139
      · have nh_44_10 : ¬ 120 ≤ i := fun z => h_44_10 ((nI_leI (a := 120) (b := i) (by omega) (by omega)).mpr z)
        refine lv_aload_n hx hb dX12_goesBy_47 rfl (lv_at hl 2 rfl) ?_
        refine cg_get hC hO 0 (by decide) o0 rfl i_X12 48 (by decide) (List.mem_of_getElem? (i := 19) rfl) f0_48 dX12_goesBy_48 ?_
        refine lv_iload_n hx hb dX12_goesBy_51 rfl (lv_at hl 0 rfl) ?_
        refine lv_iconst (v := 0) hx hb dX12_goesBy_52 (by decide) ?_
        refine cg_iast hC hO 7 (by decide) rfl (vp_in_nI (by omega) (by omega)) dX12_goesBy_53 (fun H locs hO => ?_)
        have hO : cO D cy A s.heap s 10 ad (cup [(2, .inl (cy 0, 30, .inl tt_1_5)), (4, .inl (cy 0, 5, .inl (fun _ => 0))), (5, .inl (cy 0, 5, .inl (fun _ => 0))), (6, .inl (cy 2, 5, .inl (fun _ => 0))), (7, .inl (cy 0, 120, .inl (upd (fun _ => 0) (nI i).toNatClampNeg 0))), (8, .inl (cy 0, 120, .inl cd))] g) _ _ := hO
        rw [upd_const] at hO
        have hO : cO D cy A s.heap s 10 ad (cup [(2, .inl (cy 0, 30, .inl tt_1_5)), (4, .inl (cy 0, 5, .inl (fun _ => 0))), (5, .inl (cy 0, 5, .inl (fun _ => 0))), (6, .inl (cy 2, 5, .inl (fun _ => 0))), (7, .inl (cy 0, 120, .inl (fun _ => 0))), (8, .inl (cy 0, 120, .inl cd))] g) _ _ := hO
        refine lv_aload_n hx hb dX12_goesBy_54 rfl (lv_at hl 2 rfl) ?_
        refine cg_get hC hO 0 (by decide) o0 rfl i_X12 49 (by decide) (List.mem_of_getElem? (i := 20) rfl) f0_49 dX12_goesBy_55 ?_
        refine lv_iload_n hx hb dX12_goesBy_58 rfl (lv_at hl 0 rfl) ?_
        refine lv_iconst (v := (-1)) hx hb dX12_goesBy_59 (by decide) ?_
        refine cg_iast hC hO 8 (by decide) rfl (vp_in_nI (by omega) (by omega)) dX12_goesBy_60 (fun H locs hO => ?_)
        have hO : cO D cy A s.heap s 10 ad (cup [(2, .inl (cy 0, 30, .inl tt_1_5)), (4, .inl (cy 0, 5, .inl (fun _ => 0))), (5, .inl (cy 0, 5, .inl (fun _ => 0))), (6, .inl (cy 2, 5, .inl (fun _ => 0))), (7, .inl (cy 0, 120, .inl (fun _ => 0))), (8, .inl (cy 0, 120, .inl (upd cd (nI i).toNatClampNeg (-1))))] g) _ _ := hO
        obtain ⟨c8_60_14, ec8_60_14⟩ : ∃ z, z = (upd cd (nI i).toNatClampNeg (-1)) := ⟨_, rfl⟩
        rw [← ec8_60_14] at hO
        have hO : cO D cy A s.heap s 10 ad (cup [(2, .inl (cy 0, 30, .inl tt_1_5)), (4, .inl (cy 0, 5, .inl (fun _ => 0))), (5, .inl (cy 0, 5, .inl (fun _ => 0))), (6, .inl (cy 2, 5, .inl (fun _ => 0))), (7, .inl (cy 0, 120, .inl (fun _ => 0))), (8, .inl (cy 0, 120, .inl c8_60_14))] g) _ _ := hO
        refine lv_iinc (v := (nI (i + 1))) (lv' := [(2, .int (nI (i + 1))), (1, .int (nI a_1_4)), (0, .ref (ad 0))]) hx hb dX12_goesBy_61 hl (k := 0) rfl (nI_add i 1) (by decide) rfl (fun ls hl => ?_)
        refine lv_goto (tgt := 41) hx hb dX12_goesBy_64 (by decide) ?_
        exact ih_41_9 (i + 1) c8_60_14 (by omega) (by omega) _ _ hO ls (lv_sub hl [0, 1, 2] rfl)
  exact loop_41_6 (120 + 1) 0 c904 (by omega) (by omega) _ _ hO ls hl

theorem dX12_add_0 : decode cX12_add 0 = .ok (.aload_n 0, 1) := by decide +kernel
theorem dX12_add_1 : decode cX12_add 1 = .ok (.getfield 101, 3) := by decide +kernel
theorem dX12_add_4 : decode cX12_add 4 = .ok (.aload_n 0, 1) := by decide +kernel
theorem dX12_add_5 : decode cX12_add 5 = .ok (.getfield 379, 3) := by decide +kernel
theorem dX12_add_8 : decode cX12_add 8 = .ok (.iload_n 1, 1) := by decide +kernel
theorem dX12_add_9 : decode cX12_add 9 = .ok (.iastore, 1) := by decide +kernel
theorem dX12_add_10 : decode cX12_add 10 = .ok (.aload_n 0, 1) := by decide +kernel
theorem dX12_add_11 : decode cX12_add 11 = .ok (.getfield 104, 3) := by decide +kernel
theorem dX12_add_14 : decode cX12_add 14 = .ok (.aload_n 0, 1) := by decide +kernel
theorem dX12_add_15 : decode cX12_add 15 = .ok (.getfield 379, 3) := by decide +kernel
theorem dX12_add_18 : decode cX12_add 18 = .ok (.iload_n 2, 1) := by decide +kernel
theorem dX12_add_19 : decode cX12_add 19 = .ok (.iastore, 1) := by decide +kernel
theorem dX12_add_20 : decode cX12_add 20 = .ok (.aload_n 0, 1) := by decide +kernel
theorem dX12_add_21 : decode cX12_add 21 = .ok (.getfield 137, 3) := by decide +kernel
theorem dX12_add_24 : decode cX12_add 24 = .ok (.aload_n 0, 1) := by decide +kernel
theorem dX12_add_25 : decode cX12_add 25 = .ok (.getfield 379, 3) := by decide +kernel
theorem dX12_add_28 : decode cX12_add 28 = .ok (.iconst 1, 1) := by decide +kernel
theorem dX12_add_29 : decode cX12_add 29 = .ok (.bastore, 1) := by decide +kernel
theorem dX12_add_30 : decode cX12_add 30 = .ok (.aload_n 0, 1) := by decide +kernel
theorem dX12_add_31 : decode cX12_add 31 = .ok (.dup, 1) := by decide +kernel
theorem dX12_add_32 : decode cX12_add 32 = .ok (.getfield 379, 3) := by decide +kernel
theorem dX12_add_35 : decode cX12_add 35 = .ok (.iconst 1, 1) := by decide +kernel
theorem dX12_add_36 : decode cX12_add 36 = .ok (.iadd, 1) := by decide +kernel
theorem dX12_add_37 : decode cX12_add 37 = .ok (.putfield 379, 3) := by decide +kernel
theorem dX12_add_40 : decode cX12_add 40 = .ok (.return_, 1) := by decide +kernel
def wq_c_X12_add : List Cond := Cond.code yX12_add cX12_add 3 none :: (([Cond.fieldLink RX12 101 "CrowTollModel" "dMinute" "[I", Cond.fieldLink RX12 379 "CrowTollModel" "dMany" "I", Cond.fieldLink RX12 104 "CrowTollModel" "dSacks" "[I", Cond.fieldLink RX12 137 "CrowTollModel" "dComes" "[Z"] : List Cond) ++ wsX120)
set_option maxHeartbeats 8000000 in
set_option maxRecDepth 100000 in
theorem c_X12_add (l : Launch) (D : va_G) (cy : Nat → ClassId) (ad : Nat → Nat) (g : Nat → va_E) {f0 : List Value} {mq : Nat} {c901 : Nat → Int32} {c903 : Nat → Int32} {c900 : Nat → Int32} {x1 : Int32} {x2 : Int32} (o0 : g 0 = .inr (12, f0)) (f0_42 : f0[42]? = some (.ref (ad 1))) (f0_43 : f0[43]? = some (.ref (ad 2))) (f0_54 : f0[54]? = some (.ref (ad 3))) (f0_56 : f0[56]? = some (.int (nI mq))) (a1 : g 1 = .inl (cy 0, 30, .inl c901)) (a2 : g 2 = .inl (cy 0, 30, .inl c903)) (a3 : g 3 = .inl (cy 2, 30, .inl c900)) (hm : mq < 30) : cMv l yX12_add wq_c_X12_add { frames := 0, cells := 0, slots := 0, locals := 0 } 4 0 0 0 D cy ad g [.ref (ad 0), .int x1, .int x2] (fun nw lu => ∃ (c1_9_1 : Nat → Int32) (c2_19_2 : Nat → Int32) (c3_29_3 : Nat → Int32), lu = [(1, .inl (cy 0, 30, .inl c1_9_1)), (2, .inl (cy 0, 30, .inl c2_19_2)), (3, .inl (cy 2, 30, .inl c3_29_3)), (0, .inr (12, (f0.set 56 (.int (nI (mq + 1))))))]) := by
  refine cM_of (Qc := fun A => cQv (fun nw lu => ∃ (c1_9_1 : Nat → Int32) (c2_19_2 : Nat → Int32) (c3_29_3 : Nat → Int32), lu = [(1, .inl (cy 0, 30, .inl c1_9_1)), (2, .inl (cy 0, 30, .inl c2_19_2)), (3, .inl (cy 2, 30, .inl c3_29_3)), (0, .inr (12, (f0.set 56 (.int (nI (mq + 1))))))]) D 4 0 ad g A) (cc := cX12_add) (maxL := 3) (ret := none) (by decide) rfl (Nat.le_of_ble_eq_true rfl) ?_
  intro p e s m below meth c A hC hr hlk hnm hO ls hl
  have hC : CallFix p m c cX12_add 3 s [.ref (ad 0), .int x1, .int x2].toArray wq_c_X12_add RX12 := hC
  obtain ⟨hx, hb, hml, hown, hts⟩ := id hC
  have hl : lv_has ls 3 [(0, .ref (ad 0)), (1, .int x1), (2, .int x2)] := hl
  have i_X12 : ∀ w ∈ wsX120, w ∈ wq_c_X12_add := fun w h => List.mem_cons_of_mem _ (List.mem_append_right _ h)
  refine lv_aload_n hx hb dX12_add_0 rfl (lv_at hl 0 rfl) ?_
  refine cg_get hC hO 0 (by decide) o0 rfl i_X12 42 (by decide) (List.mem_of_getElem? (i := 1) rfl) f0_42 dX12_add_1 ?_
  refine lv_aload_n hx hb dX12_add_4 rfl (lv_at hl 0 rfl) ?_
  refine cg_get hC hO 0 (by decide) o0 rfl i_X12 56 (by decide) (List.mem_of_getElem? (i := 2) rfl) f0_56 dX12_add_5 ?_
  refine lv_iload_n hx hb dX12_add_8 rfl (lv_at hl 1 rfl) ?_
  refine cg_iast hC hO 1 (by decide) a1 (vp_in_nI (by omega) (by omega)) dX12_add_9 (fun H locs hO => ?_)
  have hO : cO D cy A s.heap s 4 ad (cup [(1, .inl (cy 0, 30, .inl (upd c901 (nI mq).toNatClampNeg x1)))] g) _ _ := hO
  obtain ⟨c1_9_1, ec1_9_1⟩ : ∃ z, z = (upd c901 (nI mq).toNatClampNeg x1) := ⟨_, rfl⟩
  rw [← ec1_9_1] at hO
  have hO : cO D cy A s.heap s 4 ad (cup [(1, .inl (cy 0, 30, .inl c1_9_1))] g) _ _ := hO
  refine lv_aload_n hx hb dX12_add_10 rfl (lv_at hl 0 rfl) ?_
  refine cg_get hC hO 0 (by decide) o0 rfl i_X12 43 (by decide) (List.mem_of_getElem? (i := 3) rfl) f0_43 dX12_add_11 ?_
  refine lv_aload_n hx hb dX12_add_14 rfl (lv_at hl 0 rfl) ?_
  refine cg_get hC hO 0 (by decide) o0 rfl i_X12 56 (by decide) (List.mem_of_getElem? (i := 2) rfl) f0_56 dX12_add_15 ?_
  refine lv_iload_n hx hb dX12_add_18 rfl (lv_at hl 2 rfl) ?_
  refine cg_iast hC hO 2 (by decide) a2 (vp_in_nI (by omega) (by omega)) dX12_add_19 (fun H locs hO => ?_)
  have hO : cO D cy A s.heap s 4 ad (cup [(1, .inl (cy 0, 30, .inl c1_9_1)), (2, .inl (cy 0, 30, .inl (upd c903 (nI mq).toNatClampNeg x2)))] g) _ _ := hO
  obtain ⟨c2_19_2, ec2_19_2⟩ : ∃ z, z = (upd c903 (nI mq).toNatClampNeg x2) := ⟨_, rfl⟩
  rw [← ec2_19_2] at hO
  have hO : cO D cy A s.heap s 4 ad (cup [(1, .inl (cy 0, 30, .inl c1_9_1)), (2, .inl (cy 0, 30, .inl c2_19_2))] g) _ _ := hO
  refine lv_aload_n hx hb dX12_add_20 rfl (lv_at hl 0 rfl) ?_
  refine cg_get hC hO 0 (by decide) o0 rfl i_X12 54 (by decide) (List.mem_of_getElem? (i := 4) rfl) f0_54 dX12_add_21 ?_
  refine lv_aload_n hx hb dX12_add_24 rfl (lv_at hl 0 rfl) ?_
  refine cg_get hC hO 0 (by decide) o0 rfl i_X12 56 (by decide) (List.mem_of_getElem? (i := 2) rfl) f0_56 dX12_add_25 ?_
  refine lv_iconst (v := 1) hx hb dX12_add_28 (by decide) ?_
  refine cg_zast hC hO 3 (by decide) a3 (vp_in_nI (by omega) (by omega)) dX12_add_29 (fun H locs hO => ?_)
  have hO : cO D cy A s.heap s 4 ad (cup [(1, .inl (cy 0, 30, .inl c1_9_1)), (2, .inl (cy 0, 30, .inl c2_19_2)), (3, .inl (cy 2, 30, .inl (upd c900 (nI mq).toNatClampNeg (vp_nar .boolean 1))))] g) _ _ := hO
  obtain ⟨c3_29_3, ec3_29_3⟩ : ∃ z, z = (upd c900 (nI mq).toNatClampNeg (vp_nar .boolean 1)) := ⟨_, rfl⟩
  rw [← ec3_29_3] at hO
  have hO : cO D cy A s.heap s 4 ad (cup [(1, .inl (cy 0, 30, .inl c1_9_1)), (2, .inl (cy 0, 30, .inl c2_19_2)), (3, .inl (cy 2, 30, .inl c3_29_3))] g) _ _ := hO
  refine lv_aload_n hx hb dX12_add_30 rfl (lv_at hl 0 rfl) ?_
  refine lv_dup hx hb dX12_add_31 rfl ?_
  refine cg_get hC hO 0 (by decide) o0 rfl i_X12 56 (by decide) (List.mem_of_getElem? (i := 2) rfl) f0_56 dX12_add_32 ?_
  refine lv_iconst (v := 1) hx hb dX12_add_35 (by decide) ?_
  refine lv_iadd hx hb dX12_add_36 ?_
  refine cg_ev (v := (nI (mq + 1))) (nI_add mq 1) ?_
  refine cg_put hC hO 0 (by decide) o0 rfl i_X12 tyX12_ok nmX12 56 (by decide) (List.mem_of_getElem? (i := 2) rfl) rfl rfl rfl (fs_lt f0_56) dX12_add_37 (fun H locs hO => ?_)
  have hO : cO D cy A s.heap s 4 ad (cup [(1, .inl (cy 0, 30, .inl c1_9_1)), (2, .inl (cy 0, 30, .inl c2_19_2)), (3, .inl (cy 2, 30, .inl c3_29_3)), (0, .inr (12, (f0.set 56 (.int (nI (mq + 1))))))] g) _ _ := hO
  exact cg_vret (nw := fun _ => 0) hC hr hlk hO.same (Nat.le_of_ble_eq_true rfl) (Nat.le_of_ble_eq_true rfl) (⟨c1_9_1, c2_19_2, c3_29_3, rfl⟩) dX12_add_40

theorem dX12_dayNow_0 : decode cX12_dayNow 0 = .ok (.aload_n 0, 1) := by decide +kernel
theorem dX12_dayNow_1 : decode cX12_dayNow 1 = .ok (.invokevirtual 400, 3) := by decide +kernel
theorem dX12_dayNow_4 : decode cX12_dayNow 4 = .ok (.aload_n 0, 1) := by decide +kernel
theorem dX12_dayNow_5 : decode cX12_dayNow 5 = .ok (.invokevirtual 403, 3) := by decide +kernel
theorem dX12_dayNow_8 : decode cX12_dayNow 8 = .ok (.return_, 1) := by decide +kernel
def wq_c_X12_dayNow : List Cond := Cond.code yX12_dayNow cX12_dayNow 1 none :: (([Cond.methodLink RX12 400 yX12_layDay, Cond.instanceMethod yX12_layDay, Cond.selects RX12 yX12_layDay yX12_layDay, Cond.initialized RX12, Cond.code yX12_layDay cX12_layDay 2 none, Cond.fieldLink RX12 98 "CrowTollModel" "state" "[I", Cond.fieldLink RX12 379 "CrowTollModel" "dMany" "I", Cond.fieldLink RX12 382 "CrowTollModel" "dLimit" "I", Cond.fieldLink RX12 107 "CrowTollModel" "dFar" "[I", Cond.methodLink RX12 385 yX12_laySeats, Cond.instanceMethod yX12_laySeats, Cond.selects RX12 yX12_laySeats yX12_laySeats, Cond.code yX12_laySeats cX12_laySeats 3 none, Cond.methodLink RX12 370 yX12_postMany, Cond.instanceMethod yX12_postMany, Cond.selects RX12 yX12_postMany yX12_postMany, Cond.code yX12_postMany cX12_postMany 1 (some .int), Cond.fieldLink RX12 24 "CrowTollModel" "posts" "[I", Cond.fieldLink RX12 286 "CrowTollModel" "bank" "I", Cond.methodLink RX12 403 yX12_goesBy, Cond.instanceMethod yX12_goesBy, Cond.selects RX12 yX12_goesBy yX12_goesBy, Cond.code yX12_goesBy cX12_goesBy 4 none, Cond.methodLink RX12 388 yX12_layTurns, Cond.instanceMethod yX12_layTurns, Cond.selects RX12 yX12_layTurns yX12_layTurns, Cond.code yX12_layTurns cX12_layTurns 4 (some .int), Cond.fieldLink RX12 137 "CrowTollModel" "dComes" "[Z", Cond.fieldLink RX12 116 "CrowTollModel" "turnOf" "[I", Cond.fieldLink RX12 101 "CrowTollModel" "dMinute" "[I", Cond.fieldLink RX12 125 "CrowTollModel" "count" "[I", Cond.fieldLink RX12 134 "CrowTollModel" "countedAll" "[I", Cond.fieldLink RX12 140 "CrowTollModel" "hasCounted" "[Z", Cond.fieldLink RX12 119 "CrowTollModel" "paid" "[I", Cond.fieldLink RX12 122 "CrowTollModel" "counted" "[I"] : List Cond) ++ wsX120)
set_option maxRecDepth 20000 in
theorem gr_c_X12_dayNow_c_X12_layDay : GoodIn wq_c_X12_dayNow wq_c_X12_layDay := List.forall_mem_cons.mpr ⟨⟨(List.mem_of_getElem? (i := 5) rfl), good_of_word rfl⟩, List.forall_mem_append.mpr ⟨List.forall_mem_cons.mpr ⟨⟨(List.mem_of_getElem? (i := 6) rfl), good_of_word rfl⟩, List.forall_mem_cons.mpr ⟨⟨(List.mem_of_getElem? (i := 7) rfl), good_of_word rfl⟩, List.forall_mem_cons.mpr ⟨⟨(List.mem_of_getElem? (i := 8) rfl), good_of_word rfl⟩, List.forall_mem_cons.mpr ⟨⟨(List.mem_of_getElem? (i := 9) rfl), good_of_word rfl⟩, List.forall_mem_cons.mpr ⟨⟨(List.mem_of_getElem? (i := 10) rfl), good_of_word rfl⟩, List.forall_mem_cons.mpr ⟨⟨(List.mem_of_getElem? (i := 11) rfl), good_of_word rfl⟩, List.forall_mem_cons.mpr ⟨⟨(List.mem_of_getElem? (i := 12) rfl), good_of_word rfl⟩, List.forall_mem_cons.mpr ⟨⟨(List.mem_of_getElem? (i := 4) rfl), good_of_word rfl⟩, List.forall_mem_cons.mpr ⟨⟨(List.mem_of_getElem? (i := 13) rfl), good_of_word rfl⟩, List.forall_mem_cons.mpr ⟨⟨(List.mem_of_getElem? (i := 14) rfl), good_of_word rfl⟩, List.forall_mem_cons.mpr ⟨⟨(List.mem_of_getElem? (i := 15) rfl), good_of_word rfl⟩, List.forall_mem_cons.mpr ⟨⟨(List.mem_of_getElem? (i := 16) rfl), good_of_word rfl⟩, List.forall_mem_cons.mpr ⟨⟨(List.mem_of_getElem? (i := 17) rfl), good_of_word rfl⟩, List.forall_mem_cons.mpr ⟨⟨(List.mem_of_getElem? (i := 18) rfl), good_of_word rfl⟩, List.forall_mem_cons.mpr ⟨⟨(List.mem_of_getElem? (i := 19) rfl), good_of_word rfl⟩, (fun _ h => absurd h List.not_mem_nil)⟩⟩⟩⟩⟩⟩⟩⟩⟩⟩⟩⟩⟩⟩⟩, fun w h => ⟨(fun w h => List.mem_cons_of_mem _ (List.mem_append_right _ h)) w h, good_of_word (List.all_eq_true.mp gw_X12 w h)⟩⟩⟩
set_option maxRecDepth 20000 in
theorem gq_c_X12_dayNow_c_X12_layDay_400 : GoodIn wq_c_X12_dayNow (wsV RX12 400 RX12 yX12_layDay wq_c_X12_layDay) := goodIn_app (List.forall_mem_cons.mpr ⟨⟨(List.mem_of_getElem? (i := 1) rfl), good_of_word rfl⟩, List.forall_mem_cons.mpr ⟨⟨(List.mem_of_getElem? (i := 2) rfl), good_of_word rfl⟩, List.forall_mem_cons.mpr ⟨⟨(List.mem_of_getElem? (i := 3) rfl), good_of_word rfl⟩, List.forall_mem_cons.mpr ⟨⟨(List.mem_of_getElem? (i := 4) rfl), good_of_word rfl⟩, (fun _ h => absurd h List.not_mem_nil)⟩⟩⟩⟩) gr_c_X12_dayNow_c_X12_layDay
set_option maxRecDepth 20000 in
theorem gr_c_X12_dayNow_c_X12_goesBy : GoodIn wq_c_X12_dayNow wq_c_X12_goesBy := List.forall_mem_cons.mpr ⟨⟨(List.mem_of_getElem? (i := 23) rfl), good_of_word rfl⟩, List.forall_mem_append.mpr ⟨List.forall_mem_cons.mpr ⟨⟨(List.mem_of_getElem? (i := 24) rfl), good_of_word rfl⟩, List.forall_mem_cons.mpr ⟨⟨(List.mem_of_getElem? (i := 25) rfl), good_of_word rfl⟩, List.forall_mem_cons.mpr ⟨⟨(List.mem_of_getElem? (i := 26) rfl), good_of_word rfl⟩, List.forall_mem_cons.mpr ⟨⟨(List.mem_of_getElem? (i := 4) rfl), good_of_word rfl⟩, List.forall_mem_cons.mpr ⟨⟨(List.mem_of_getElem? (i := 27) rfl), good_of_word rfl⟩, List.forall_mem_cons.mpr ⟨⟨(List.mem_of_getElem? (i := 7) rfl), good_of_word rfl⟩, List.forall_mem_cons.mpr ⟨⟨(List.mem_of_getElem? (i := 28) rfl), good_of_word rfl⟩, List.forall_mem_cons.mpr ⟨⟨(List.mem_of_getElem? (i := 29) rfl), good_of_word rfl⟩, List.forall_mem_cons.mpr ⟨⟨(List.mem_of_getElem? (i := 30) rfl), good_of_word rfl⟩, List.forall_mem_cons.mpr ⟨⟨(List.mem_of_getElem? (i := 31) rfl), good_of_word rfl⟩, List.forall_mem_cons.mpr ⟨⟨(List.mem_of_getElem? (i := 32) rfl), good_of_word rfl⟩, List.forall_mem_cons.mpr ⟨⟨(List.mem_of_getElem? (i := 33) rfl), good_of_word rfl⟩, List.forall_mem_cons.mpr ⟨⟨(List.mem_of_getElem? (i := 14) rfl), good_of_word rfl⟩, List.forall_mem_cons.mpr ⟨⟨(List.mem_of_getElem? (i := 15) rfl), good_of_word rfl⟩, List.forall_mem_cons.mpr ⟨⟨(List.mem_of_getElem? (i := 16) rfl), good_of_word rfl⟩, List.forall_mem_cons.mpr ⟨⟨(List.mem_of_getElem? (i := 17) rfl), good_of_word rfl⟩, List.forall_mem_cons.mpr ⟨⟨(List.mem_of_getElem? (i := 18) rfl), good_of_word rfl⟩, List.forall_mem_cons.mpr ⟨⟨(List.mem_of_getElem? (i := 19) rfl), good_of_word rfl⟩, List.forall_mem_cons.mpr ⟨⟨(List.mem_of_getElem? (i := 34) rfl), good_of_word rfl⟩, List.forall_mem_cons.mpr ⟨⟨(List.mem_of_getElem? (i := 35) rfl), good_of_word rfl⟩, (fun _ h => absurd h List.not_mem_nil)⟩⟩⟩⟩⟩⟩⟩⟩⟩⟩⟩⟩⟩⟩⟩⟩⟩⟩⟩⟩, fun w h => ⟨(fun w h => List.mem_cons_of_mem _ (List.mem_append_right _ h)) w h, good_of_word (List.all_eq_true.mp gw_X12 w h)⟩⟩⟩
set_option maxRecDepth 20000 in
theorem gq_c_X12_dayNow_c_X12_goesBy_403 : GoodIn wq_c_X12_dayNow (wsV RX12 403 RX12 yX12_goesBy wq_c_X12_goesBy) := goodIn_app (List.forall_mem_cons.mpr ⟨⟨(List.mem_of_getElem? (i := 20) rfl), good_of_word rfl⟩, List.forall_mem_cons.mpr ⟨⟨(List.mem_of_getElem? (i := 21) rfl), good_of_word rfl⟩, List.forall_mem_cons.mpr ⟨⟨(List.mem_of_getElem? (i := 22) rfl), good_of_word rfl⟩, List.forall_mem_cons.mpr ⟨⟨(List.mem_of_getElem? (i := 4) rfl), good_of_word rfl⟩, (fun _ h => absurd h List.not_mem_nil)⟩⟩⟩⟩) gr_c_X12_dayNow_c_X12_goesBy
set_option maxHeartbeats 8000000 in
set_option maxRecDepth 100000 in
theorem c_X12_dayNow (l : Launch) (D : va_G) (cy : Nat → ClassId) (ad : Nat → Nat) (g : Nat → va_E) {f0 : List Value} {c4 : Nat → Int32} {c5 : Nat → Int32} {c7 : Nat → Int32} {c10 : Nat → Int32} (o0 : g 0 = .inr (12, f0)) (f0_12 : f0[12]? = some (.ref (ad 1))) (f0_36 : f0[36]? = some (.int 0)) (f0_41 : f0[41]? = some (.ref (ad 2))) (f0_42 : f0[42]? = some (.ref (ad 4))) (f0_44 : f0[44]? = some (.ref (ad 3))) (f0_47 : f0[47]? = some (.ref (ad 5))) (f0_48 : f0[48]? = some (.ref (ad 6))) (f0_49 : f0[49]? = some (.ref (ad 7))) (f0_50 : f0[50]? = some (.ref (ad 8))) (f0_53 : f0[53]? = some (.ref (ad 9))) (f0_54 : f0[54]? = some (.ref (ad 10))) (f0_55 : f0[55]? = some (.ref (ad 11))) (f0_56 : f0[56]? = some (.int 0)) (f0_57 : f0[57]? = some (.int 0)) (a1 : g 1 = .inl (cy 0, 2, .inl (fun _ => 0))) (a2 : g 2 = .inl (cy 0, 80, .inl (fun _ => 0))) (a3 : g 3 = .inl (cy 0, 5, .inl (fun _ => 0))) (a4 : g 4 = .inl (cy 0, 30, .inl c4)) (a5 : g 5 = .inl (cy 0, 30, .inl c5)) (a6 : g 6 = .inl (cy 0, 120, .inl (fun _ => 0))) (a7 : g 7 = .inl (cy 0, 120, .inl c7)) (a8 : g 8 = .inl (cy 0, 5, .inl (fun _ => 0))) (a9 : g 9 = .inl (cy 0, 5, .inl (fun _ => 0))) (a10 : g 10 = .inl (cy 2, 30, .inl c10)) (a11 : g 11 = .inl (cy 2, 5, .inl (fun _ => 0))) : cMv l yX12_dayNow wq_c_X12_dayNow { frames := 3, cells := 0, slots := 0, locals := 63 } 12 0 0 0 D cy ad g [.ref (ad 0)] (fun nw lu => ∃ (tt_5_7 : Nat → Int32) (cd_5_8 : Nat → Int32), lu = [(3, .inl (cy 0, 5, .inl (fun _ => 0))), (0, .inr (12, ((f0.set 56 (.int 0)).set 57 (.int 10000)))), (7, .inl (cy 0, 120, .inl cd_5_8)), (6, .inl (cy 0, 120, .inl (fun _ => 0))), (11, .inl (cy 2, 5, .inl (fun _ => 0))), (9, .inl (cy 0, 5, .inl (fun _ => 0))), (8, .inl (cy 0, 5, .inl (fun _ => 0))), (5, .inl (cy 0, 30, .inl tt_5_7))]) := by
  refine cM_of (Qc := fun A => cQv (fun nw lu => ∃ (tt_5_7 : Nat → Int32) (cd_5_8 : Nat → Int32), lu = [(3, .inl (cy 0, 5, .inl (fun _ => 0))), (0, .inr (12, ((f0.set 56 (.int 0)).set 57 (.int 10000)))), (7, .inl (cy 0, 120, .inl cd_5_8)), (6, .inl (cy 0, 120, .inl (fun _ => 0))), (11, .inl (cy 2, 5, .inl (fun _ => 0))), (9, .inl (cy 0, 5, .inl (fun _ => 0))), (8, .inl (cy 0, 5, .inl (fun _ => 0))), (5, .inl (cy 0, 30, .inl tt_5_7))]) D 12 0 ad g A) (cc := cX12_dayNow) (maxL := 1) (ret := none) (by decide) rfl (Nat.le_of_ble_eq_true rfl) ?_
  intro p e s m below meth c A hC hr hlk hnm hO ls hl
  have hC : CallFix p m c cX12_dayNow 1 s [.ref (ad 0)].toArray wq_c_X12_dayNow RX12 := hC
  obtain ⟨hx, hb, hml, hown, hts⟩ := id hC
  have hl : lv_has ls 1 [(0, .ref (ad 0))] := hl
  have i_X12 : ∀ w ∈ wsX120, w ∈ wq_c_X12_dayNow := fun w h => List.mem_cons_of_mem _ (List.mem_append_right _ h)
  refine lv_aload_n hx hb dX12_dayNow_0 rfl (lv_at hl 0 rfl) ?_
  refine cg_Vv (As := []) (rest := []) (mc := 0) (ms := 0) (rm := { frames := 2, cells := 0, slots := 0, locals := 42 }) hC hl.1 hO [0, 2, 3, 1] rfl (c_X12_layDay l D cy _ _ (f0 := f0) (xm := 0) (xl := 0) o0 f0_12 f0_36 f0_41 f0_44 f0_56 f0_57 a2 a3 a1) gq_c_X12_dayNow_c_X12_layDay_400 rfl rfl rfl 0 (by decide +kernel) ⟨Nat.le_of_ble_eq_true rfl, Nat.le_of_ble_eq_true rfl⟩ rfl (by decide) o0 rfl rfl (Nat.le_of_ble_eq_true rfl) dX12_dayNow_1 ⟨Nat.le_of_ble_eq_true rfl, Nat.le_of_ble_eq_true rfl⟩ (fun nw_1_1 l_1_2 H locs hw hO => ?_)
  obtain rfl := hw
  have hO : cO D cy A s.heap s 12 ad (cup [(3, .inl (cy 0, 5, .inl (fun _ => 0))), (0, .inr (12, ((f0.set 56 (.int 0)).set 57 (.int 10000))))] g) _ _ := hO
  refine lv_aload_n hx hb dX12_dayNow_4 rfl (lv_at hl 0 rfl) ?_
  refine cg_Vv (As := []) (rest := []) (mc := 0) (ms := 0) (rm := { frames := 1, cells := 0, slots := 0, locals := 23 }) hC hl.1 hO [0, 4, 5, 10, 8, 9, 11, 6, 7, 1] rfl (c_X12_goesBy l D cy _ _ (f0 := ((f0.set 56 (.int 0)).set 57 (.int 10000))) (c901 := c4) (c902 := c5) (c904 := c7) (c900 := c10) (mq := 0) rfl (fs_ne (by decide) (fs_ne (by decide) f0_12)) (fs_ne (by decide) (fs_ne (by decide) f0_36)) (fs_ne (by decide) (fs_ne (by decide) f0_42)) (fs_ne (by decide) (fs_ne (by decide) f0_47)) (fs_ne (by decide) (fs_ne (by decide) f0_48)) (fs_ne (by decide) (fs_ne (by decide) f0_49)) (fs_ne (by decide) (fs_ne (by decide) f0_50)) (fs_ne (by decide) (fs_ne (by decide) f0_53)) (fs_ne (by decide) (fs_ne (by decide) f0_54)) (fs_ne (by decide) (fs_ne (by decide) f0_55)) (fs_ne (by decide) (fs_eq f0_56)) a4 a5 a10 a8 a9 a11 a6 a7 a1 (by omega)) gq_c_X12_dayNow_c_X12_goesBy_403 rfl rfl rfl 0 (by decide +kernel) ⟨Nat.le_of_ble_eq_true rfl, Nat.le_of_ble_eq_true rfl⟩ rfl (by decide) rfl rfl rfl (Nat.le_of_ble_eq_true rfl) dX12_dayNow_5 ⟨Nat.le_of_ble_eq_true rfl, Nat.le_of_ble_eq_true rfl⟩ (fun nw_5_4 l_5_5 H locs hw hO => ?_)
  obtain ⟨tt_5_7, cd_5_8, rfl⟩ := hw
  have hO : cO D cy A s.heap s 12 ad (cup [(3, .inl (cy 0, 5, .inl (fun _ => 0))), (0, .inr (12, ((f0.set 56 (.int 0)).set 57 (.int 10000)))), (7, .inl (cy 0, 120, .inl cd_5_8)), (6, .inl (cy 0, 120, .inl (fun _ => 0))), (11, .inl (cy 2, 5, .inl (fun _ => 0))), (9, .inl (cy 0, 5, .inl (fun _ => 0))), (8, .inl (cy 0, 5, .inl (fun _ => 0))), (5, .inl (cy 0, 30, .inl tt_5_7))] g) _ _ := hO
  exact cg_vret (nw := fun _ => 0) hC hr hlk hO.same (Nat.le_of_ble_eq_true rfl) (Nat.le_of_ble_eq_true rfl) (⟨tt_5_7, cd_5_8, rfl⟩) dX12_dayNow_8

theorem dX12_incomeOf_0 : decode cX12_incomeOf 0 = .ok (.iconst 0, 1) := by decide +kernel
theorem dX12_incomeOf_1 : decode cX12_incomeOf 1 = .ok (.istore_n 1, 1) := by decide +kernel
theorem dX12_incomeOf_2 : decode cX12_incomeOf 2 = .ok (.iconst 0, 1) := by decide +kernel
theorem dX12_incomeOf_3 : decode cX12_incomeOf 3 = .ok (.istore_n 2, 1) := by decide +kernel
theorem dX12_incomeOf_4 : decode cX12_incomeOf 4 = .ok (.iload_n 2, 1) := by decide +kernel
theorem dX12_incomeOf_5 : decode cX12_incomeOf 5 = .ok (.aload_n 0, 1) := by decide +kernel
theorem dX12_incomeOf_6 : decode cX12_incomeOf 6 = .ok (.getfield 379, 3) := by decide +kernel
theorem dX12_incomeOf_9 : decode cX12_incomeOf 9 = .ok (.if_icmp .ge 17, 3) := by decide +kernel
theorem dX12_incomeOf_26 : decode cX12_incomeOf 26 = .ok (.iload_n 1, 1) := by decide +kernel
theorem dX12_incomeOf_27 : decode cX12_incomeOf 27 = .ok (.ireturn, 1) := by decide +kernel
def wq_c_X12_incomeOf : List Cond := Cond.code yX12_incomeOf cX12_incomeOf 3 (some .int) :: (([Cond.fieldLink RX12 379 "CrowTollModel" "dMany" "I"] : List Cond) ++ wsX120)
set_option maxHeartbeats 8000000 in
set_option maxRecDepth 100000 in
theorem c_X12_incomeOf (l : Launch) (D : va_G) (cy : Nat → ClassId) (ad : Nat → Nat) (g : Nat → va_E) {f0 : List Value} (o0 : g 0 = .inr (12, f0)) (f0_56 : f0[56]? = some (.int 0)) : cMi l yX12_incomeOf wq_c_X12_incomeOf { frames := 0, cells := 0, slots := 0, locals := 0 } 1 0 0 0 D cy ad g [.ref (ad 0)] (fun r nw lu => (r = 0) ∧ (lu = [])) := by
  refine cM_of (Qc := fun A => cQi (fun r nw lu => (r = 0) ∧ (lu = [])) D 1 0 ad g A) (cc := cX12_incomeOf) (maxL := 3) (ret := (some .int)) (by decide) rfl (Nat.le_of_ble_eq_true rfl) ?_
  intro p e s m below meth c A hC hr hlk hnm hO ls hl
  have hC : CallFix p m c cX12_incomeOf 3 s [.ref (ad 0)].toArray wq_c_X12_incomeOf RX12 := hC
  obtain ⟨hx, hb, hml, hown, hts⟩ := id hC
  have hl : lv_has ls 3 [(0, .ref (ad 0))] := hl
  have i_X12 : ∀ w ∈ wsX120, w ∈ wq_c_X12_incomeOf := fun w h => List.mem_cons_of_mem _ (List.mem_append_right _ h)
  refine lv_iconst (v := 0) hx hb dX12_incomeOf_0 (by decide) ?_
  refine lv_istore_n (lv' := [(1, .int 0), (0, .ref (ad 0))]) hx hb dX12_incomeOf_1 rfl hl (by decide) rfl (fun ls hl => ?_)
  refine lv_iconst (v := 0) hx hb dX12_incomeOf_2 (by decide) ?_
  refine lv_istore_n (lv' := [(2, .int 0), (1, .int 0), (0, .ref (ad 0))]) hx hb dX12_incomeOf_3 rfl hl (by decide) rfl (fun ls hl => ?_)
  refine lv_iload_n hx hb dX12_incomeOf_4 rfl (lv_at hl 0 rfl) ?_
  refine lv_aload_n hx hb dX12_incomeOf_5 rfl (lv_at hl 2 rfl) ?_
  refine cg_get hC hO 0 (by decide) o0 rfl i_X12 56 (by decide) (List.mem_of_getElem? (i := 1) rfl) f0_56 dX12_incomeOf_6 ?_
  refine lv_icmp_ge (tgt := 26) hx hb dX12_incomeOf_9 (by decide) (fun _ => ?_) (fun h => absurd h (by decide))
  refine lv_iload_n hx hb dX12_incomeOf_26 rfl (lv_at hl 1 rfl) ?_
  exact cg_iret (nw := fun _ => 0) hC hr hlk hO.same rfl (Nat.le_of_ble_eq_true rfl) (Nat.le_of_ble_eq_true rfl) (⟨rfl, rfl⟩) dX12_incomeOf_27

theorem dX12_cart_0 : decode cX12_cart 0 = .ok (.aload_n 0, 1) := by decide +kernel
theorem dX12_cart_1 : decode cX12_cart 1 = .ok (.iload_n 1, 1) := by decide +kernel
theorem dX12_cart_2 : decode cX12_cart 2 = .ok (.invokevirtual 406, 3) := by decide +kernel
theorem dX12_cart_5 : decode cX12_cart 5 = .ok (.ifCond .ne 5, 3) := by decide +kernel
theorem dX12_cart_8 : decode cX12_cart 8 = .ok (.iconst (-1), 1) := by decide +kernel
theorem dX12_cart_9 : decode cX12_cart 9 = .ok (.ireturn, 1) := by decide +kernel
def wq_c_X12_cart : List Cond := Cond.code yX12_cart cX12_cart 3 (some .int) :: (([Cond.methodLink RX12 406 yX12_isCart, Cond.instanceMethod yX12_isCart, Cond.selects RX12 yX12_isCart yX12_isCart, Cond.initialized RX12, Cond.code yX12_isCart cX12_isCart 2 (some .boolean), Cond.fieldLink RX12 98 "CrowTollModel" "state" "[I", Cond.methodLink RX12 366 yX12_isIn, Cond.static yX12_isIn, Cond.code yX12_isIn cX12_isIn 3 (some .boolean)] : List Cond) ++ wsX120)
set_option maxRecDepth 20000 in
theorem gr_c_X12_cart_c_X12_isCart : GoodIn wq_c_X12_cart wq_c_X12_isCart := List.forall_mem_cons.mpr ⟨⟨(List.mem_of_getElem? (i := 5) rfl), good_of_word rfl⟩, List.forall_mem_append.mpr ⟨List.forall_mem_cons.mpr ⟨⟨(List.mem_of_getElem? (i := 6) rfl), good_of_word rfl⟩, List.forall_mem_cons.mpr ⟨⟨(List.mem_of_getElem? (i := 7) rfl), good_of_word rfl⟩, List.forall_mem_cons.mpr ⟨⟨(List.mem_of_getElem? (i := 8) rfl), good_of_word rfl⟩, List.forall_mem_cons.mpr ⟨⟨(List.mem_of_getElem? (i := 4) rfl), good_of_word rfl⟩, List.forall_mem_cons.mpr ⟨⟨(List.mem_of_getElem? (i := 9) rfl), good_of_word rfl⟩, (fun _ h => absurd h List.not_mem_nil)⟩⟩⟩⟩⟩, fun w h => ⟨(fun w h => List.mem_cons_of_mem _ (List.mem_append_right _ h)) w h, good_of_word (List.all_eq_true.mp gw_X12 w h)⟩⟩⟩
set_option maxRecDepth 20000 in
theorem gq_c_X12_cart_c_X12_isCart_406 : GoodIn wq_c_X12_cart (wsV RX12 406 RX12 yX12_isCart wq_c_X12_isCart) := goodIn_app (List.forall_mem_cons.mpr ⟨⟨(List.mem_of_getElem? (i := 1) rfl), good_of_word rfl⟩, List.forall_mem_cons.mpr ⟨⟨(List.mem_of_getElem? (i := 2) rfl), good_of_word rfl⟩, List.forall_mem_cons.mpr ⟨⟨(List.mem_of_getElem? (i := 3) rfl), good_of_word rfl⟩, List.forall_mem_cons.mpr ⟨⟨(List.mem_of_getElem? (i := 4) rfl), good_of_word rfl⟩, (fun _ h => absurd h List.not_mem_nil)⟩⟩⟩⟩) gr_c_X12_cart_c_X12_isCart
set_option maxHeartbeats 8000000 in
set_option maxRecDepth 100000 in
theorem c_X12_cart (l : Launch) (D : va_G) (cy : Nat → ClassId) (ad : Nat → Nat) (g : Nat → va_E) {f0 : List Value} {n : Int32} {q : Int32} (o0 : g 0 = .inr (12, f0)) (f0_41 : f0[41]? = some (.ref (ad 1))) (a1 : g 1 = .inl (cy 0, 80, .inl (fun _ => 0))) : cMi l yX12_cart wq_c_X12_cart { frames := 2, cells := 0, slots := 0, locals := 43 } 2 0 0 0 D cy ad g [.ref (ad 0), .int n, .int q] (fun r nw lu => r = -1) := by
  refine cM_of (Qc := fun A => cQi (fun r nw lu => r = -1) D 2 0 ad g A) (cc := cX12_cart) (maxL := 3) (ret := (some .int)) (by decide) rfl (Nat.le_of_ble_eq_true rfl) ?_
  intro p e s m below meth c A hC hr hlk hnm hO ls hl
  have hC : CallFix p m c cX12_cart 3 s [.ref (ad 0), .int n, .int q].toArray wq_c_X12_cart RX12 := hC
  obtain ⟨hx, hb, hml, hown, hts⟩ := id hC
  have hl : lv_has ls 3 [(0, .ref (ad 0)), (1, .int n), (2, .int q)] := hl
  have i_X12 : ∀ w ∈ wsX120, w ∈ wq_c_X12_cart := fun w h => List.mem_cons_of_mem _ (List.mem_append_right _ h)
  refine lv_aload_n hx hb dX12_cart_0 rfl (lv_at hl 0 rfl) ?_
  refine lv_iload_n hx hb dX12_cart_1 rfl (lv_at hl 1 rfl) ?_
  refine cg_Vi (As := [.int n]) (rest := []) (mc := 0) (ms := 0) (rm := { frames := 1, cells := 0, slots := 0, locals := 22 }) hC hl.1 hO [0, 1] rfl (c_X12_isCart l D cy _ _ (f0 := f0) (n := n) o0 f0_41 a1) gq_c_X12_cart_c_X12_isCart_406 rfl rfl rfl 1 (by decide +kernel) ⟨Nat.le_of_ble_eq_true rfl, Nat.le_of_ble_eq_true rfl⟩ rfl (by decide) o0 rfl rfl (Nat.le_of_ble_eq_true rfl) dX12_cart_2 ⟨Nat.le_of_ble_eq_true rfl, Nat.le_of_ble_eq_true rfl⟩ (fun r_2_3 nw_2_1 l_2_2 H locs hw hO => ?_)
  obtain ⟨rfl, rfl⟩ := hw
  have hO : cO D cy A s.heap s 2 ad (cup [] g) _ _ := hO
  refine lv_if_ne (tgt := 10) hx hb dX12_cart_5 (by decide) (fun h => absurd h (by decide)) (fun _ => ?_)
  refine lv_iconst (v := (-1)) hx hb dX12_cart_8 (by decide) ?_
  exact cg_iret (nw := fun _ => 0) hC hr hlk hO.same rfl (Nat.le_of_ble_eq_true rfl) (Nat.le_of_ble_eq_true rfl) rfl dX12_cart_9

theorem dX12_counter_0 : decode cX12_counter 0 = .ok (.aload_n 0, 1) := by decide +kernel
theorem dX12_counter_1 : decode cX12_counter 1 = .ok (.iload_n 1, 1) := by decide +kernel
theorem dX12_counter_2 : decode cX12_counter 2 = .ok (.invokevirtual 406, 3) := by decide +kernel
theorem dX12_counter_5 : decode cX12_counter 5 = .ok (.ifCond .eq 11, 3) := by decide +kernel
theorem dX12_counter_16 : decode cX12_counter 16 = .ok (.bipush (-2), 2) := by decide +kernel
theorem dX12_counter_18 : decode cX12_counter 18 = .ok (.ireturn, 1) := by decide +kernel
def wq_c_X12_counter : List Cond := Cond.code yX12_counter cX12_counter 3 (some .int) :: (([Cond.methodLink RX12 406 yX12_isCart, Cond.instanceMethod yX12_isCart, Cond.selects RX12 yX12_isCart yX12_isCart, Cond.initialized RX12, Cond.code yX12_isCart cX12_isCart 2 (some .boolean), Cond.fieldLink RX12 98 "CrowTollModel" "state" "[I", Cond.methodLink RX12 366 yX12_isIn, Cond.static yX12_isIn, Cond.code yX12_isIn cX12_isIn 3 (some .boolean)] : List Cond) ++ wsX120)
set_option maxRecDepth 20000 in
theorem gr_c_X12_counter_c_X12_isCart : GoodIn wq_c_X12_counter wq_c_X12_isCart := List.forall_mem_cons.mpr ⟨⟨(List.mem_of_getElem? (i := 5) rfl), good_of_word rfl⟩, List.forall_mem_append.mpr ⟨List.forall_mem_cons.mpr ⟨⟨(List.mem_of_getElem? (i := 6) rfl), good_of_word rfl⟩, List.forall_mem_cons.mpr ⟨⟨(List.mem_of_getElem? (i := 7) rfl), good_of_word rfl⟩, List.forall_mem_cons.mpr ⟨⟨(List.mem_of_getElem? (i := 8) rfl), good_of_word rfl⟩, List.forall_mem_cons.mpr ⟨⟨(List.mem_of_getElem? (i := 4) rfl), good_of_word rfl⟩, List.forall_mem_cons.mpr ⟨⟨(List.mem_of_getElem? (i := 9) rfl), good_of_word rfl⟩, (fun _ h => absurd h List.not_mem_nil)⟩⟩⟩⟩⟩, fun w h => ⟨(fun w h => List.mem_cons_of_mem _ (List.mem_append_right _ h)) w h, good_of_word (List.all_eq_true.mp gw_X12 w h)⟩⟩⟩
set_option maxRecDepth 20000 in
theorem gq_c_X12_counter_c_X12_isCart_406 : GoodIn wq_c_X12_counter (wsV RX12 406 RX12 yX12_isCart wq_c_X12_isCart) := goodIn_app (List.forall_mem_cons.mpr ⟨⟨(List.mem_of_getElem? (i := 1) rfl), good_of_word rfl⟩, List.forall_mem_cons.mpr ⟨⟨(List.mem_of_getElem? (i := 2) rfl), good_of_word rfl⟩, List.forall_mem_cons.mpr ⟨⟨(List.mem_of_getElem? (i := 3) rfl), good_of_word rfl⟩, List.forall_mem_cons.mpr ⟨⟨(List.mem_of_getElem? (i := 4) rfl), good_of_word rfl⟩, (fun _ h => absurd h List.not_mem_nil)⟩⟩⟩⟩) gr_c_X12_counter_c_X12_isCart
set_option maxHeartbeats 8000000 in
set_option maxRecDepth 100000 in
theorem c_X12_counter (l : Launch) (D : va_G) (cy : Nat → ClassId) (ad : Nat → Nat) (g : Nat → va_E) {f0 : List Value} {n : Int32} {q : Int32} (o0 : g 0 = .inr (12, f0)) (f0_41 : f0[41]? = some (.ref (ad 1))) (a1 : g 1 = .inl (cy 0, 80, .inl (fun _ => 0))) : cMi l yX12_counter wq_c_X12_counter { frames := 2, cells := 0, slots := 0, locals := 43 } 2 0 0 0 D cy ad g [.ref (ad 0), .int n, .int q] (fun r nw lu => r = -2) := by
  refine cM_of (Qc := fun A => cQi (fun r nw lu => r = -2) D 2 0 ad g A) (cc := cX12_counter) (maxL := 3) (ret := (some .int)) (by decide) rfl (Nat.le_of_ble_eq_true rfl) ?_
  intro p e s m below meth c A hC hr hlk hnm hO ls hl
  have hC : CallFix p m c cX12_counter 3 s [.ref (ad 0), .int n, .int q].toArray wq_c_X12_counter RX12 := hC
  obtain ⟨hx, hb, hml, hown, hts⟩ := id hC
  have hl : lv_has ls 3 [(0, .ref (ad 0)), (1, .int n), (2, .int q)] := hl
  have i_X12 : ∀ w ∈ wsX120, w ∈ wq_c_X12_counter := fun w h => List.mem_cons_of_mem _ (List.mem_append_right _ h)
  refine lv_aload_n hx hb dX12_counter_0 rfl (lv_at hl 0 rfl) ?_
  refine lv_iload_n hx hb dX12_counter_1 rfl (lv_at hl 1 rfl) ?_
  refine cg_Vi (As := [.int n]) (rest := []) (mc := 0) (ms := 0) (rm := { frames := 1, cells := 0, slots := 0, locals := 22 }) hC hl.1 hO [0, 1] rfl (c_X12_isCart l D cy _ _ (f0 := f0) (n := n) o0 f0_41 a1) gq_c_X12_counter_c_X12_isCart_406 rfl rfl rfl 1 (by decide +kernel) ⟨Nat.le_of_ble_eq_true rfl, Nat.le_of_ble_eq_true rfl⟩ rfl (by decide) o0 rfl rfl (Nat.le_of_ble_eq_true rfl) dX12_counter_2 ⟨Nat.le_of_ble_eq_true rfl, Nat.le_of_ble_eq_true rfl⟩ (fun r_2_3 nw_2_1 l_2_2 H locs hw hO => ?_)
  obtain ⟨rfl, rfl⟩ := hw
  have hO : cO D cy A s.heap s 2 ad (cup [] g) _ _ := hO
  refine lv_if_eq (tgt := 16) hx hb dX12_counter_5 (by decide) (fun _ => ?_) (fun h => absurd h (by decide))
  refine lv_bipush (v := (-2)) hx hb dX12_counter_16 (by decide) ?_
  exact cg_iret (nw := fun _ => 0) hC hr hlk hO.same rfl (Nat.le_of_ble_eq_true rfl) (Nat.le_of_ble_eq_true rfl) rfl dX12_counter_18

theorem dX12_pays_0 : decode cX12_pays 0 = .ok (.aload_n 0, 1) := by decide +kernel
theorem dX12_pays_1 : decode cX12_pays 1 = .ok (.iload_n 1, 1) := by decide +kernel
theorem dX12_pays_2 : decode cX12_pays 2 = .ok (.invokevirtual 406, 3) := by decide +kernel
theorem dX12_pays_5 : decode cX12_pays 5 = .ok (.ifCond .eq 11, 3) := by decide +kernel
theorem dX12_pays_16 : decode cX12_pays 16 = .ok (.iconst (-1), 1) := by decide +kernel
theorem dX12_pays_17 : decode cX12_pays 17 = .ok (.ireturn, 1) := by decide +kernel
def wq_c_X12_pays : List Cond := Cond.code yX12_pays cX12_pays 3 (some .int) :: (([Cond.methodLink RX12 406 yX12_isCart, Cond.instanceMethod yX12_isCart, Cond.selects RX12 yX12_isCart yX12_isCart, Cond.initialized RX12, Cond.code yX12_isCart cX12_isCart 2 (some .boolean), Cond.fieldLink RX12 98 "CrowTollModel" "state" "[I", Cond.methodLink RX12 366 yX12_isIn, Cond.static yX12_isIn, Cond.code yX12_isIn cX12_isIn 3 (some .boolean)] : List Cond) ++ wsX120)
set_option maxRecDepth 20000 in
theorem gr_c_X12_pays_c_X12_isCart : GoodIn wq_c_X12_pays wq_c_X12_isCart := List.forall_mem_cons.mpr ⟨⟨(List.mem_of_getElem? (i := 5) rfl), good_of_word rfl⟩, List.forall_mem_append.mpr ⟨List.forall_mem_cons.mpr ⟨⟨(List.mem_of_getElem? (i := 6) rfl), good_of_word rfl⟩, List.forall_mem_cons.mpr ⟨⟨(List.mem_of_getElem? (i := 7) rfl), good_of_word rfl⟩, List.forall_mem_cons.mpr ⟨⟨(List.mem_of_getElem? (i := 8) rfl), good_of_word rfl⟩, List.forall_mem_cons.mpr ⟨⟨(List.mem_of_getElem? (i := 4) rfl), good_of_word rfl⟩, List.forall_mem_cons.mpr ⟨⟨(List.mem_of_getElem? (i := 9) rfl), good_of_word rfl⟩, (fun _ h => absurd h List.not_mem_nil)⟩⟩⟩⟩⟩, fun w h => ⟨(fun w h => List.mem_cons_of_mem _ (List.mem_append_right _ h)) w h, good_of_word (List.all_eq_true.mp gw_X12 w h)⟩⟩⟩
set_option maxRecDepth 20000 in
theorem gq_c_X12_pays_c_X12_isCart_406 : GoodIn wq_c_X12_pays (wsV RX12 406 RX12 yX12_isCart wq_c_X12_isCart) := goodIn_app (List.forall_mem_cons.mpr ⟨⟨(List.mem_of_getElem? (i := 1) rfl), good_of_word rfl⟩, List.forall_mem_cons.mpr ⟨⟨(List.mem_of_getElem? (i := 2) rfl), good_of_word rfl⟩, List.forall_mem_cons.mpr ⟨⟨(List.mem_of_getElem? (i := 3) rfl), good_of_word rfl⟩, List.forall_mem_cons.mpr ⟨⟨(List.mem_of_getElem? (i := 4) rfl), good_of_word rfl⟩, (fun _ h => absurd h List.not_mem_nil)⟩⟩⟩⟩) gr_c_X12_pays_c_X12_isCart
set_option maxHeartbeats 8000000 in
set_option maxRecDepth 100000 in
theorem c_X12_pays (l : Launch) (D : va_G) (cy : Nat → ClassId) (ad : Nat → Nat) (g : Nat → va_E) {f0 : List Value} {n : Int32} {q : Int32} (o0 : g 0 = .inr (12, f0)) (f0_41 : f0[41]? = some (.ref (ad 1))) (a1 : g 1 = .inl (cy 0, 80, .inl (fun _ => 0))) : cMi l yX12_pays wq_c_X12_pays { frames := 2, cells := 0, slots := 0, locals := 43 } 2 0 0 0 D cy ad g [.ref (ad 0), .int n, .int q] (fun r nw lu => r = -1) := by
  refine cM_of (Qc := fun A => cQi (fun r nw lu => r = -1) D 2 0 ad g A) (cc := cX12_pays) (maxL := 3) (ret := (some .int)) (by decide) rfl (Nat.le_of_ble_eq_true rfl) ?_
  intro p e s m below meth c A hC hr hlk hnm hO ls hl
  have hC : CallFix p m c cX12_pays 3 s [.ref (ad 0), .int n, .int q].toArray wq_c_X12_pays RX12 := hC
  obtain ⟨hx, hb, hml, hown, hts⟩ := id hC
  have hl : lv_has ls 3 [(0, .ref (ad 0)), (1, .int n), (2, .int q)] := hl
  have i_X12 : ∀ w ∈ wsX120, w ∈ wq_c_X12_pays := fun w h => List.mem_cons_of_mem _ (List.mem_append_right _ h)
  refine lv_aload_n hx hb dX12_pays_0 rfl (lv_at hl 0 rfl) ?_
  refine lv_iload_n hx hb dX12_pays_1 rfl (lv_at hl 1 rfl) ?_
  refine cg_Vi (As := [.int n]) (rest := []) (mc := 0) (ms := 0) (rm := { frames := 1, cells := 0, slots := 0, locals := 22 }) hC hl.1 hO [0, 1] rfl (c_X12_isCart l D cy _ _ (f0 := f0) (n := n) o0 f0_41 a1) gq_c_X12_pays_c_X12_isCart_406 rfl rfl rfl 1 (by decide +kernel) ⟨Nat.le_of_ble_eq_true rfl, Nat.le_of_ble_eq_true rfl⟩ rfl (by decide) o0 rfl rfl (Nat.le_of_ble_eq_true rfl) dX12_pays_2 ⟨Nat.le_of_ble_eq_true rfl, Nat.le_of_ble_eq_true rfl⟩ (fun r_2_3 nw_2_1 l_2_2 H locs hw hO => ?_)
  obtain ⟨rfl, rfl⟩ := hw
  have hO : cO D cy A s.heap s 2 ad (cup [] g) _ _ := hO
  refine lv_if_eq (tgt := 16) hx hb dX12_pays_5 (by decide) (fun _ => ?_) (fun h => absurd h (by decide))
  refine lv_iconst (v := (-1)) hx hb dX12_pays_16 (by decide) ?_
  exact cg_iret (nw := fun _ => 0) hC hr hlk hO.same rfl (Nat.le_of_ble_eq_true rfl) (Nat.le_of_ble_eq_true rfl) rfl dX12_pays_17

theorem dX12_bird_0 : decode cX12_bird 0 = .ok (.aload_n 0, 1) := by decide +kernel
theorem dX12_bird_1 : decode cX12_bird 1 = .ok (.iload_n 1, 1) := by decide +kernel
theorem dX12_bird_2 : decode cX12_bird 2 = .ok (.invokevirtual 418, 3) := by decide +kernel
theorem dX12_bird_5 : decode cX12_bird 5 = .ok (.ifCond .ne 5, 3) := by decide +kernel
theorem dX12_bird_8 : decode cX12_bird 8 = .ok (.iconst (-1), 1) := by decide +kernel
theorem dX12_bird_9 : decode cX12_bird 9 = .ok (.ireturn, 1) := by decide +kernel
def wq_c_X12_bird : List Cond := Cond.code yX12_bird cX12_bird 3 (some .int) :: (([Cond.methodLink RX12 418 yX12_isBird, Cond.instanceMethod yX12_isBird, Cond.selects RX12 yX12_isBird yX12_isBird, Cond.initialized RX12, Cond.code yX12_isBird cX12_isBird 2 (some .boolean), Cond.methodLink RX12 363 yX12_birdMany, Cond.instanceMethod yX12_birdMany, Cond.selects RX12 yX12_birdMany yX12_birdMany, Cond.code yX12_birdMany cX12_birdMany 1 (some .int), Cond.fieldLink RX12 20 "CrowTollModel" "birds" "[I", Cond.fieldLink RX12 286 "CrowTollModel" "bank" "I", Cond.methodLink RX12 366 yX12_isIn, Cond.static yX12_isIn, Cond.code yX12_isIn cX12_isIn 3 (some .boolean)] : List Cond) ++ wsX120)
set_option maxRecDepth 20000 in
theorem gr_c_X12_bird_c_X12_isBird : GoodIn wq_c_X12_bird wq_c_X12_isBird := List.forall_mem_cons.mpr ⟨⟨(List.mem_of_getElem? (i := 5) rfl), good_of_word rfl⟩, List.forall_mem_append.mpr ⟨List.forall_mem_cons.mpr ⟨⟨(List.mem_of_getElem? (i := 6) rfl), good_of_word rfl⟩, List.forall_mem_cons.mpr ⟨⟨(List.mem_of_getElem? (i := 7) rfl), good_of_word rfl⟩, List.forall_mem_cons.mpr ⟨⟨(List.mem_of_getElem? (i := 8) rfl), good_of_word rfl⟩, List.forall_mem_cons.mpr ⟨⟨(List.mem_of_getElem? (i := 4) rfl), good_of_word rfl⟩, List.forall_mem_cons.mpr ⟨⟨(List.mem_of_getElem? (i := 9) rfl), good_of_word rfl⟩, List.forall_mem_cons.mpr ⟨⟨(List.mem_of_getElem? (i := 10) rfl), good_of_word rfl⟩, List.forall_mem_cons.mpr ⟨⟨(List.mem_of_getElem? (i := 11) rfl), good_of_word rfl⟩, List.forall_mem_cons.mpr ⟨⟨(List.mem_of_getElem? (i := 12) rfl), good_of_word rfl⟩, List.forall_mem_cons.mpr ⟨⟨(List.mem_of_getElem? (i := 13) rfl), good_of_word rfl⟩, List.forall_mem_cons.mpr ⟨⟨(List.mem_of_getElem? (i := 14) rfl), good_of_word rfl⟩, (fun _ h => absurd h List.not_mem_nil)⟩⟩⟩⟩⟩⟩⟩⟩⟩⟩, fun w h => ⟨(fun w h => List.mem_cons_of_mem _ (List.mem_append_right _ h)) w h, good_of_word (List.all_eq_true.mp gw_X12 w h)⟩⟩⟩
set_option maxRecDepth 20000 in
theorem gq_c_X12_bird_c_X12_isBird_418 : GoodIn wq_c_X12_bird (wsV RX12 418 RX12 yX12_isBird wq_c_X12_isBird) := goodIn_app (List.forall_mem_cons.mpr ⟨⟨(List.mem_of_getElem? (i := 1) rfl), good_of_word rfl⟩, List.forall_mem_cons.mpr ⟨⟨(List.mem_of_getElem? (i := 2) rfl), good_of_word rfl⟩, List.forall_mem_cons.mpr ⟨⟨(List.mem_of_getElem? (i := 3) rfl), good_of_word rfl⟩, List.forall_mem_cons.mpr ⟨⟨(List.mem_of_getElem? (i := 4) rfl), good_of_word rfl⟩, (fun _ h => absurd h List.not_mem_nil)⟩⟩⟩⟩) gr_c_X12_bird_c_X12_isBird
set_option maxHeartbeats 8000000 in
set_option maxRecDepth 100000 in
theorem c_X12_bird (l : Launch) (D : va_G) (cy : Nat → ClassId) (ad : Nat → Nat) (g : Nat → va_E) {f0 : List Value} {n : Int32} {q : Int32} (o0 : g 0 = .inr (12, f0)) (f0_11 : f0[11]? = some (.ref (ad 1))) (f0_36 : f0[36]? = some (.int 0)) (a1 : g 1 = .inl (cy 0, 2, .inl (fun _ => 0))) : cMi l yX12_bird wq_c_X12_bird { frames := 2, cells := 0, slots := 0, locals := 43 } 2 0 0 0 D cy ad g [.ref (ad 0), .int n, .int q] (fun r nw lu => r = -1) := by
  refine cM_of (Qc := fun A => cQi (fun r nw lu => r = -1) D 2 0 ad g A) (cc := cX12_bird) (maxL := 3) (ret := (some .int)) (by decide) rfl (Nat.le_of_ble_eq_true rfl) ?_
  intro p e s m below meth c A hC hr hlk hnm hO ls hl
  have hC : CallFix p m c cX12_bird 3 s [.ref (ad 0), .int n, .int q].toArray wq_c_X12_bird RX12 := hC
  obtain ⟨hx, hb, hml, hown, hts⟩ := id hC
  have hl : lv_has ls 3 [(0, .ref (ad 0)), (1, .int n), (2, .int q)] := hl
  have i_X12 : ∀ w ∈ wsX120, w ∈ wq_c_X12_bird := fun w h => List.mem_cons_of_mem _ (List.mem_append_right _ h)
  refine lv_aload_n hx hb dX12_bird_0 rfl (lv_at hl 0 rfl) ?_
  refine lv_iload_n hx hb dX12_bird_1 rfl (lv_at hl 1 rfl) ?_
  refine cg_Vi (As := [.int n]) (rest := []) (mc := 0) (ms := 0) (rm := { frames := 1, cells := 0, slots := 0, locals := 22 }) hC hl.1 hO [0, 1] rfl (c_X12_isBird l D cy _ _ (f0 := f0) (n := n) o0 f0_11 f0_36 a1) gq_c_X12_bird_c_X12_isBird_418 rfl rfl rfl 1 (by decide +kernel) ⟨Nat.le_of_ble_eq_true rfl, Nat.le_of_ble_eq_true rfl⟩ rfl (by decide) o0 rfl rfl (Nat.le_of_ble_eq_true rfl) dX12_bird_2 ⟨Nat.le_of_ble_eq_true rfl, Nat.le_of_ble_eq_true rfl⟩ (fun r_2_3 nw_2_1 l_2_2 H locs hw hO => ?_)
  obtain ⟨rfl, rfl⟩ := hw
  have hO : cO D cy A s.heap s 2 ad (cup [] g) _ _ := hO
  refine lv_if_ne (tgt := 10) hx hb dX12_bird_5 (by decide) (fun h => absurd h (by decide)) (fun _ => ?_)
  refine lv_iconst (v := (-1)) hx hb dX12_bird_8 (by decide) ?_
  exact cg_iret (nw := fun _ => 0) hC hr hlk hO.same rfl (Nat.le_of_ble_eq_true rfl) (Nat.le_of_ble_eq_true rfl) rfl dX12_bird_9

theorem dX12_income_0 : decode cX12_income 0 = .ok (.iload_n 1, 1) := by decide +kernel
theorem dX12_income_1 : decode cX12_income 1 = .ok (.iconst (-1), 1) := by decide +kernel
theorem dX12_income_2 : decode cX12_income 2 = .ok (.if_icmp .eq 14, 3) := by decide +kernel
theorem dX12_income_5 : decode cX12_income 5 = .ok (.aload_n 0, 1) := by decide +kernel
theorem dX12_income_6 : decode cX12_income 6 = .ok (.iload_n 1, 1) := by decide +kernel
theorem dX12_income_7 : decode cX12_income 7 = .ok (.invokevirtual 415, 3) := by decide +kernel
theorem dX12_income_10 : decode cX12_income 10 = .ok (.ifCond .ne 6, 3) := by decide +kernel
theorem dX12_income_13 : decode cX12_income 13 = .ok (.bipush (-2), 2) := by decide +kernel
theorem dX12_income_15 : decode cX12_income 15 = .ok (.ireturn, 1) := by decide +kernel
theorem dX12_income_16 : decode cX12_income 16 = .ok (.aload_n 0, 1) := by decide +kernel
theorem dX12_income_17 : decode cX12_income 17 = .ok (.invokevirtual 412, 3) := by decide +kernel
theorem dX12_income_20 : decode cX12_income 20 = .ok (.iload_n 1, 1) := by decide +kernel
theorem dX12_income_21 : decode cX12_income 21 = .ok (.iconst (-1), 1) := by decide +kernel
theorem dX12_income_22 : decode cX12_income 22 = .ok (.if_icmp .ne 8, 3) := by decide +kernel
theorem dX12_income_25 : decode cX12_income 25 = .ok (.aload_n 0, 1) := by decide +kernel
theorem dX12_income_26 : decode cX12_income 26 = .ok (.invokevirtual 421, 3) := by decide +kernel
theorem dX12_income_29 : decode cX12_income 29 = .ok (.ireturn, 1) := by decide +kernel
theorem dX12_income_30 : decode cX12_income 30 = .ok (.iconst 0, 1) := by decide +kernel
theorem dX12_income_31 : decode cX12_income 31 = .ok (.istore_n 2, 1) := by decide +kernel
theorem dX12_income_32 : decode cX12_income 32 = .ok (.iconst 0, 1) := by decide +kernel
theorem dX12_income_33 : decode cX12_income 33 = .ok (.istore_n 3, 1) := by decide +kernel
theorem dX12_income_34 : decode cX12_income 34 = .ok (.iload_n 3, 1) := by decide +kernel
theorem dX12_income_35 : decode cX12_income 35 = .ok (.aload_n 0, 1) := by decide +kernel
theorem dX12_income_36 : decode cX12_income 36 = .ok (.getfield 379, 3) := by decide +kernel
theorem dX12_income_39 : decode cX12_income 39 = .ok (.if_icmp .ge 22, 3) := by decide +kernel
theorem dX12_income_61 : decode cX12_income 61 = .ok (.iload_n 2, 1) := by decide +kernel
theorem dX12_income_62 : decode cX12_income 62 = .ok (.ireturn, 1) := by decide +kernel
def wq_c_X12_income : List Cond := Cond.code yX12_income cX12_income 4 (some .int) :: (([Cond.methodLink RX12 412 yX12_dayNow, Cond.instanceMethod yX12_dayNow, Cond.selects RX12 yX12_dayNow yX12_dayNow, Cond.initialized RX12, Cond.code yX12_dayNow cX12_dayNow 1 none, Cond.methodLink RX12 400 yX12_layDay, Cond.instanceMethod yX12_layDay, Cond.selects RX12 yX12_layDay yX12_layDay, Cond.code yX12_layDay cX12_layDay 2 none, Cond.fieldLink RX12 98 "CrowTollModel" "state" "[I", Cond.fieldLink RX12 379 "CrowTollModel" "dMany" "I", Cond.fieldLink RX12 382 "CrowTollModel" "dLimit" "I", Cond.fieldLink RX12 107 "CrowTollModel" "dFar" "[I", Cond.methodLink RX12 385 yX12_laySeats, Cond.instanceMethod yX12_laySeats, Cond.selects RX12 yX12_laySeats yX12_laySeats, Cond.code yX12_laySeats cX12_laySeats 3 none, Cond.methodLink RX12 370 yX12_postMany, Cond.instanceMethod yX12_postMany, Cond.selects RX12 yX12_postMany yX12_postMany, Cond.code yX12_postMany cX12_postMany 1 (some .int), Cond.fieldLink RX12 24 "CrowTollModel" "posts" "[I", Cond.fieldLink RX12 286 "CrowTollModel" "bank" "I", Cond.methodLink RX12 403 yX12_goesBy, Cond.instanceMethod yX12_goesBy, Cond.selects RX12 yX12_goesBy yX12_goesBy, Cond.code yX12_goesBy cX12_goesBy 4 none, Cond.methodLink RX12 388 yX12_layTurns, Cond.instanceMethod yX12_layTurns, Cond.selects RX12 yX12_layTurns yX12_layTurns, Cond.code yX12_layTurns cX12_layTurns 4 (some .int), Cond.fieldLink RX12 137 "CrowTollModel" "dComes" "[Z", Cond.fieldLink RX12 116 "CrowTollModel" "turnOf" "[I", Cond.fieldLink RX12 101 "CrowTollModel" "dMinute" "[I", Cond.fieldLink RX12 125 "CrowTollModel" "count" "[I", Cond.fieldLink RX12 134 "CrowTollModel" "countedAll" "[I", Cond.fieldLink RX12 140 "CrowTollModel" "hasCounted" "[Z", Cond.fieldLink RX12 119 "CrowTollModel" "paid" "[I", Cond.fieldLink RX12 122 "CrowTollModel" "counted" "[I", Cond.methodLink RX12 421 yX12_incomeOf, Cond.instanceMethod yX12_incomeOf, Cond.selects RX12 yX12_incomeOf yX12_incomeOf, Cond.code yX12_incomeOf cX12_incomeOf 3 (some .int), Cond.methodLink RX12 415 yX12_isPost, Cond.instanceMethod yX12_isPost, Cond.selects RX12 yX12_isPost yX12_isPost, Cond.code yX12_isPost cX12_isPost 2 (some .boolean), Cond.methodLink RX12 366 yX12_isIn, Cond.static yX12_isIn, Cond.code yX12_isIn cX12_isIn 3 (some .boolean)] : List Cond) ++ wsX120)
set_option maxRecDepth 20000 in
theorem gr_c_X12_income_c_X12_dayNow : GoodIn wq_c_X12_income wq_c_X12_dayNow := List.forall_mem_cons.mpr ⟨⟨(List.mem_of_getElem? (i := 5) rfl), good_of_word rfl⟩, List.forall_mem_append.mpr ⟨List.forall_mem_cons.mpr ⟨⟨(List.mem_of_getElem? (i := 6) rfl), good_of_word rfl⟩, List.forall_mem_cons.mpr ⟨⟨(List.mem_of_getElem? (i := 7) rfl), good_of_word rfl⟩, List.forall_mem_cons.mpr ⟨⟨(List.mem_of_getElem? (i := 8) rfl), good_of_word rfl⟩, List.forall_mem_cons.mpr ⟨⟨(List.mem_of_getElem? (i := 4) rfl), good_of_word rfl⟩, List.forall_mem_cons.mpr ⟨⟨(List.mem_of_getElem? (i := 9) rfl), good_of_word rfl⟩, List.forall_mem_cons.mpr ⟨⟨(List.mem_of_getElem? (i := 10) rfl), good_of_word rfl⟩, List.forall_mem_cons.mpr ⟨⟨(List.mem_of_getElem? (i := 11) rfl), good_of_word rfl⟩, List.forall_mem_cons.mpr ⟨⟨(List.mem_of_getElem? (i := 12) rfl), good_of_word rfl⟩, List.forall_mem_cons.mpr ⟨⟨(List.mem_of_getElem? (i := 13) rfl), good_of_word rfl⟩, List.forall_mem_cons.mpr ⟨⟨(List.mem_of_getElem? (i := 14) rfl), good_of_word rfl⟩, List.forall_mem_cons.mpr ⟨⟨(List.mem_of_getElem? (i := 15) rfl), good_of_word rfl⟩, List.forall_mem_cons.mpr ⟨⟨(List.mem_of_getElem? (i := 16) rfl), good_of_word rfl⟩, List.forall_mem_cons.mpr ⟨⟨(List.mem_of_getElem? (i := 17) rfl), good_of_word rfl⟩, List.forall_mem_cons.mpr ⟨⟨(List.mem_of_getElem? (i := 18) rfl), good_of_word rfl⟩, List.forall_mem_cons.mpr ⟨⟨(List.mem_of_getElem? (i := 19) rfl), good_of_word rfl⟩, List.forall_mem_cons.mpr ⟨⟨(List.mem_of_getElem? (i := 20) rfl), good_of_word rfl⟩, List.forall_mem_cons.mpr ⟨⟨(List.mem_of_getElem? (i := 21) rfl), good_of_word rfl⟩, List.forall_mem_cons.mpr ⟨⟨(List.mem_of_getElem? (i := 22) rfl), good_of_word rfl⟩, List.forall_mem_cons.mpr ⟨⟨(List.mem_of_getElem? (i := 23) rfl), good_of_word rfl⟩, List.forall_mem_cons.mpr ⟨⟨(List.mem_of_getElem? (i := 24) rfl), good_of_word rfl⟩, List.forall_mem_cons.mpr ⟨⟨(List.mem_of_getElem? (i := 25) rfl), good_of_word rfl⟩, List.forall_mem_cons.mpr ⟨⟨(List.mem_of_getElem? (i := 26) rfl), good_of_word rfl⟩, List.forall_mem_cons.mpr ⟨⟨(List.mem_of_getElem? (i := 27) rfl), good_of_word rfl⟩, List.forall_mem_cons.mpr ⟨⟨(List.mem_of_getElem? (i := 28) rfl), good_of_word rfl⟩, List.forall_mem_cons.mpr ⟨⟨(List.mem_of_getElem? (i := 29) rfl), good_of_word rfl⟩, List.forall_mem_cons.mpr ⟨⟨(List.mem_of_getElem? (i := 30) rfl), good_of_word rfl⟩, List.forall_mem_cons.mpr ⟨⟨(List.mem_of_getElem? (i := 31) rfl), good_of_word rfl⟩, List.forall_mem_cons.mpr ⟨⟨(List.mem_of_getElem? (i := 32) rfl), good_of_word rfl⟩, List.forall_mem_cons.mpr ⟨⟨(List.mem_of_getElem? (i := 33) rfl), good_of_word rfl⟩, List.forall_mem_cons.mpr ⟨⟨(List.mem_of_getElem? (i := 34) rfl), good_of_word rfl⟩, List.forall_mem_cons.mpr ⟨⟨(List.mem_of_getElem? (i := 35) rfl), good_of_word rfl⟩, List.forall_mem_cons.mpr ⟨⟨(List.mem_of_getElem? (i := 36) rfl), good_of_word rfl⟩, List.forall_mem_cons.mpr ⟨⟨(List.mem_of_getElem? (i := 37) rfl), good_of_word rfl⟩, List.forall_mem_cons.mpr ⟨⟨(List.mem_of_getElem? (i := 38) rfl), good_of_word rfl⟩, List.forall_mem_cons.mpr ⟨⟨(List.mem_of_getElem? (i := 39) rfl), good_of_word rfl⟩, (fun _ h => absurd h List.not_mem_nil)⟩⟩⟩⟩⟩⟩⟩⟩⟩⟩⟩⟩⟩⟩⟩⟩⟩⟩⟩⟩⟩⟩⟩⟩⟩⟩⟩⟩⟩⟩⟩⟩⟩⟩⟩, fun w h => ⟨(fun w h => List.mem_cons_of_mem _ (List.mem_append_right _ h)) w h, good_of_word (List.all_eq_true.mp gw_X12 w h)⟩⟩⟩
set_option maxRecDepth 20000 in
theorem gq_c_X12_income_c_X12_dayNow_412 : GoodIn wq_c_X12_income (wsV RX12 412 RX12 yX12_dayNow wq_c_X12_dayNow) := goodIn_app (List.forall_mem_cons.mpr ⟨⟨(List.mem_of_getElem? (i := 1) rfl), good_of_word rfl⟩, List.forall_mem_cons.mpr ⟨⟨(List.mem_of_getElem? (i := 2) rfl), good_of_word rfl⟩, List.forall_mem_cons.mpr ⟨⟨(List.mem_of_getElem? (i := 3) rfl), good_of_word rfl⟩, List.forall_mem_cons.mpr ⟨⟨(List.mem_of_getElem? (i := 4) rfl), good_of_word rfl⟩, (fun _ h => absurd h List.not_mem_nil)⟩⟩⟩⟩) gr_c_X12_income_c_X12_dayNow
set_option maxRecDepth 20000 in
theorem gr_c_X12_income_c_X12_incomeOf : GoodIn wq_c_X12_income wq_c_X12_incomeOf := List.forall_mem_cons.mpr ⟨⟨(List.mem_of_getElem? (i := 43) rfl), good_of_word rfl⟩, List.forall_mem_append.mpr ⟨List.forall_mem_cons.mpr ⟨⟨(List.mem_of_getElem? (i := 11) rfl), good_of_word rfl⟩, (fun _ h => absurd h List.not_mem_nil)⟩, fun w h => ⟨(fun w h => List.mem_cons_of_mem _ (List.mem_append_right _ h)) w h, good_of_word (List.all_eq_true.mp gw_X12 w h)⟩⟩⟩
set_option maxRecDepth 20000 in
theorem gq_c_X12_income_c_X12_incomeOf_421 : GoodIn wq_c_X12_income (wsV RX12 421 RX12 yX12_incomeOf wq_c_X12_incomeOf) := goodIn_app (List.forall_mem_cons.mpr ⟨⟨(List.mem_of_getElem? (i := 40) rfl), good_of_word rfl⟩, List.forall_mem_cons.mpr ⟨⟨(List.mem_of_getElem? (i := 41) rfl), good_of_word rfl⟩, List.forall_mem_cons.mpr ⟨⟨(List.mem_of_getElem? (i := 42) rfl), good_of_word rfl⟩, List.forall_mem_cons.mpr ⟨⟨(List.mem_of_getElem? (i := 4) rfl), good_of_word rfl⟩, (fun _ h => absurd h List.not_mem_nil)⟩⟩⟩⟩) gr_c_X12_income_c_X12_incomeOf
set_option maxRecDepth 20000 in
theorem gr_c_X12_income_c_X12_isPost : GoodIn wq_c_X12_income wq_c_X12_isPost := List.forall_mem_cons.mpr ⟨⟨(List.mem_of_getElem? (i := 47) rfl), good_of_word rfl⟩, List.forall_mem_append.mpr ⟨List.forall_mem_cons.mpr ⟨⟨(List.mem_of_getElem? (i := 18) rfl), good_of_word rfl⟩, List.forall_mem_cons.mpr ⟨⟨(List.mem_of_getElem? (i := 19) rfl), good_of_word rfl⟩, List.forall_mem_cons.mpr ⟨⟨(List.mem_of_getElem? (i := 20) rfl), good_of_word rfl⟩, List.forall_mem_cons.mpr ⟨⟨(List.mem_of_getElem? (i := 4) rfl), good_of_word rfl⟩, List.forall_mem_cons.mpr ⟨⟨(List.mem_of_getElem? (i := 21) rfl), good_of_word rfl⟩, List.forall_mem_cons.mpr ⟨⟨(List.mem_of_getElem? (i := 22) rfl), good_of_word rfl⟩, List.forall_mem_cons.mpr ⟨⟨(List.mem_of_getElem? (i := 23) rfl), good_of_word rfl⟩, List.forall_mem_cons.mpr ⟨⟨(List.mem_of_getElem? (i := 48) rfl), good_of_word rfl⟩, List.forall_mem_cons.mpr ⟨⟨(List.mem_of_getElem? (i := 49) rfl), good_of_word rfl⟩, List.forall_mem_cons.mpr ⟨⟨(List.mem_of_getElem? (i := 50) rfl), good_of_word rfl⟩, (fun _ h => absurd h List.not_mem_nil)⟩⟩⟩⟩⟩⟩⟩⟩⟩⟩, fun w h => ⟨(fun w h => List.mem_cons_of_mem _ (List.mem_append_right _ h)) w h, good_of_word (List.all_eq_true.mp gw_X12 w h)⟩⟩⟩
set_option maxRecDepth 20000 in
theorem gq_c_X12_income_c_X12_isPost_415 : GoodIn wq_c_X12_income (wsV RX12 415 RX12 yX12_isPost wq_c_X12_isPost) := goodIn_app (List.forall_mem_cons.mpr ⟨⟨(List.mem_of_getElem? (i := 44) rfl), good_of_word rfl⟩, List.forall_mem_cons.mpr ⟨⟨(List.mem_of_getElem? (i := 45) rfl), good_of_word rfl⟩, List.forall_mem_cons.mpr ⟨⟨(List.mem_of_getElem? (i := 46) rfl), good_of_word rfl⟩, List.forall_mem_cons.mpr ⟨⟨(List.mem_of_getElem? (i := 4) rfl), good_of_word rfl⟩, (fun _ h => absurd h List.not_mem_nil)⟩⟩⟩⟩) gr_c_X12_income_c_X12_isPost
set_option maxHeartbeats 8000000 in
set_option maxRecDepth 100000 in
theorem c_X12_income (l : Launch) (D : va_G) (cy : Nat → ClassId) (ad : Nat → Nat) (g : Nat → va_E) {f0 : List Value} {c3 : Nat → Int32} {c5 : Nat → Int32} {c7 : Nat → Int32} {c10 : Nat → Int32} {n : Int32} (o0 : g 0 = .inr (12, f0)) (f0_12 : f0[12]? = some (.ref (ad 1))) (f0_36 : f0[36]? = some (.int 0)) (f0_41 : f0[41]? = some (.ref (ad 2))) (f0_42 : f0[42]? = some (.ref (ad 3))) (f0_44 : f0[44]? = some (.ref (ad 4))) (f0_47 : f0[47]? = some (.ref (ad 5))) (f0_48 : f0[48]? = some (.ref (ad 6))) (f0_49 : f0[49]? = some (.ref (ad 7))) (f0_50 : f0[50]? = some (.ref (ad 8))) (f0_53 : f0[53]? = some (.ref (ad 9))) (f0_54 : f0[54]? = some (.ref (ad 10))) (f0_55 : f0[55]? = some (.ref (ad 11))) (f0_56 : f0[56]? = some (.int 0)) (f0_57 : f0[57]? = some (.int 0)) (a1 : g 1 = .inl (cy 0, 2, .inl (fun _ => 0))) (a2 : g 2 = .inl (cy 0, 80, .inl (fun _ => 0))) (a3 : g 3 = .inl (cy 0, 30, .inl c3)) (a4 : g 4 = .inl (cy 0, 5, .inl (fun _ => 0))) (a5 : g 5 = .inl (cy 0, 30, .inl c5)) (a6 : g 6 = .inl (cy 0, 120, .inl (fun _ => 0))) (a7 : g 7 = .inl (cy 0, 120, .inl c7)) (a8 : g 8 = .inl (cy 0, 5, .inl (fun _ => 0))) (a9 : g 9 = .inl (cy 0, 5, .inl (fun _ => 0))) (a10 : g 10 = .inl (cy 2, 30, .inl c10)) (a11 : g 11 = .inl (cy 2, 5, .inl (fun _ => 0))) : cMi l yX12_income wq_c_X12_income { frames := 4, cells := 0, slots := 0, locals := 83 } 12 0 0 0 D cy ad g [.ref (ad 0), .int n] (fun r nw lu => r = ans_income n) := by
  refine cM_of (Qc := fun A => cQi (fun r nw lu => r = ans_income n) D 12 0 ad g A) (cc := cX12_income) (maxL := 4) (ret := (some .int)) (by decide) rfl (Nat.le_of_ble_eq_true rfl) ?_
  intro p e s m below meth c A hC hr hlk hnm hO ls hl
  have hC : CallFix p m c cX12_income 4 s [.ref (ad 0), .int n].toArray wq_c_X12_income RX12 := hC
  obtain ⟨hx, hb, hml, hown, hts⟩ := id hC
  have hl : lv_has ls 4 [(0, .ref (ad 0)), (1, .int n)] := hl
  have i_X12 : ∀ w ∈ wsX120, w ∈ wq_c_X12_income := fun w h => List.mem_cons_of_mem _ (List.mem_append_right _ h)
  refine lv_iload_n hx hb dX12_income_0 rfl (lv_at hl 1 rfl) ?_
  refine lv_iconst (v := (-1)) hx hb dX12_income_1 (by decide) ?_
  refine lv_icmp_eq (tgt := 16) hx hb dX12_income_2 (by decide) (fun h_2_1 => ?_) (fun h_2_1 => ?_)
  · refine lv_aload_n hx hb dX12_income_16 rfl (lv_at hl 0 rfl) ?_
    refine cg_Vv (As := []) (rest := []) (mc := 0) (ms := 0) (rm := { frames := 3, cells := 0, slots := 0, locals := 63 }) hC hl.1 hO [0, 1, 2, 4, 3, 5, 6, 7, 8, 9, 10, 11] rfl (c_X12_dayNow l D cy _ _ (f0 := f0) (c4 := c3) (c5 := c5) (c7 := c7) (c10 := c10) o0 f0_12 f0_36 f0_41 f0_42 f0_44 f0_47 f0_48 f0_49 f0_50 f0_53 f0_54 f0_55 f0_56 f0_57 a1 a2 a4 a3 a5 a6 a7 a8 a9 a10 a11) gq_c_X12_income_c_X12_dayNow_412 rfl rfl rfl 0 (by decide +kernel) ⟨Nat.le_of_ble_eq_true rfl, Nat.le_of_ble_eq_true rfl⟩ rfl (by decide) o0 rfl rfl (Nat.le_of_ble_eq_true rfl) dX12_income_17 ⟨Nat.le_of_ble_eq_true rfl, Nat.le_of_ble_eq_true rfl⟩ (fun nw_17_2 l_17_3 H locs hw hO => ?_)
    obtain ⟨tt_17_5, cd_17_6, rfl⟩ := hw
    have hO : cO D cy A s.heap s 12 ad (cup [(5, .inl (cy 0, 30, .inl tt_17_5)), (8, .inl (cy 0, 5, .inl (fun _ => 0))), (9, .inl (cy 0, 5, .inl (fun _ => 0))), (11, .inl (cy 2, 5, .inl (fun _ => 0))), (6, .inl (cy 0, 120, .inl (fun _ => 0))), (7, .inl (cy 0, 120, .inl cd_17_6)), (0, .inr (12, ((f0.set 56 (.int 0)).set 57 (.int 10000)))), (4, .inl (cy 0, 5, .inl (fun _ => 0)))] g) _ _ := hO
    refine lv_iload_n hx hb dX12_income_20 rfl (lv_at hl 1 rfl) ?_
    refine lv_iconst (v := (-1)) hx hb dX12_income_21 (by decide) ?_
    refine lv_icmp_ne (tgt := 30) hx hb dX12_income_22 (by decide) (fun h_22_7 => ?_) (fun h_22_7 => ?_)
    · refine lv_iconst (v := 0) hx hb dX12_income_30 (by decide) ?_
      refine lv_istore_n (lv' := [(2, .int 0), (0, .ref (ad 0)), (1, .int n)]) hx hb dX12_income_31 rfl hl (by decide) rfl (fun ls hl => ?_)
      refine lv_iconst (v := 0) hx hb dX12_income_32 (by decide) ?_
      refine lv_istore_n (lv' := [(3, .int 0), (2, .int 0), (0, .ref (ad 0)), (1, .int n)]) hx hb dX12_income_33 rfl hl (by decide) rfl (fun ls hl => ?_)
      refine lv_iload_n hx hb dX12_income_34 rfl (lv_at hl 0 rfl) ?_
      refine lv_aload_n hx hb dX12_income_35 rfl (lv_at hl 2 rfl) ?_
      refine cg_get hC hO 0 (by decide) rfl rfl i_X12 56 (by decide) (List.mem_of_getElem? (i := 11) rfl) (fs_ne (by decide) (fs_eq f0_56)) dX12_income_36 ?_
      refine lv_icmp_ge (tgt := 61) hx hb dX12_income_39 (by decide) (fun _ => ?_) (fun h => absurd h (by decide))
      refine lv_iload_n hx hb dX12_income_61 rfl (lv_at hl 1 rfl) ?_
      exact cg_iret (nw := fun _ => 0) hC hr hlk hO.same rfl (Nat.le_of_ble_eq_true rfl) (Nat.le_of_ble_eq_true rfl) (by simp [ans_income, h_2_1, h_22_7]) dX12_income_62
    · refine lv_aload_n hx hb dX12_income_25 rfl (lv_at hl 0 rfl) ?_
      refine cg_Vi (As := []) (rest := []) (mc := 0) (ms := 0) (rm := { frames := 0, cells := 0, slots := 0, locals := 0 }) hC hl.1 hO [0] rfl (c_X12_incomeOf l D cy _ _ (f0 := ((f0.set 56 (.int 0)).set 57 (.int 10000))) rfl (fs_ne (by decide) (fs_eq f0_56))) gq_c_X12_income_c_X12_incomeOf_421 rfl rfl rfl 0 (by decide +kernel) ⟨Nat.le_of_ble_eq_true rfl, Nat.le_of_ble_eq_true rfl⟩ rfl (by decide) rfl rfl rfl (Nat.le_of_ble_eq_true rfl) dX12_income_26 ⟨Nat.le_of_ble_eq_true rfl, Nat.le_of_ble_eq_true rfl⟩ (fun r_26_10 nw_26_8 l_26_9 H locs hw hO => ?_)
      obtain ⟨rfl, rfl⟩ := hw
      have hO : cO D cy A s.heap s 12 ad (cup [(5, .inl (cy 0, 30, .inl tt_17_5)), (8, .inl (cy 0, 5, .inl (fun _ => 0))), (9, .inl (cy 0, 5, .inl (fun _ => 0))), (11, .inl (cy 2, 5, .inl (fun _ => 0))), (6, .inl (cy 0, 120, .inl (fun _ => 0))), (7, .inl (cy 0, 120, .inl cd_17_6)), (0, .inr (12, ((f0.set 56 (.int 0)).set 57 (.int 10000)))), (4, .inl (cy 0, 5, .inl (fun _ => 0)))] g) _ _ := hO
      exact cg_iret (nw := fun _ => 0) hC hr hlk hO.same rfl (Nat.le_of_ble_eq_true rfl) (Nat.le_of_ble_eq_true rfl) (by simp [ans_income, h_2_1, h_22_7]) dX12_income_29
  · refine lv_aload_n hx hb dX12_income_5 rfl (lv_at hl 0 rfl) ?_
    refine lv_iload_n hx hb dX12_income_6 rfl (lv_at hl 1 rfl) ?_
    refine cg_Vi (As := [.int n]) (rest := []) (mc := 0) (ms := 0) (rm := { frames := 1, cells := 0, slots := 0, locals := 22 }) hC hl.1 hO [0, 1] rfl (c_X12_isPost l D cy _ _ (f0 := f0) (n := n) o0 f0_12 f0_36 a1) gq_c_X12_income_c_X12_isPost_415 rfl rfl rfl 1 (by decide +kernel) ⟨Nat.le_of_ble_eq_true rfl, Nat.le_of_ble_eq_true rfl⟩ rfl (by decide) o0 rfl rfl (Nat.le_of_ble_eq_true rfl) dX12_income_7 ⟨Nat.le_of_ble_eq_true rfl, Nat.le_of_ble_eq_true rfl⟩ (fun r_7_13 nw_7_11 l_7_12 H locs hw hO => ?_)
    obtain ⟨rfl, rfl⟩ := hw
    have hO : cO D cy A s.heap s 12 ad (cup [] g) _ _ := hO
    refine lv_if_ne (tgt := 16) hx hb dX12_income_10 (by decide) (fun h => absurd h (by decide)) (fun _ => ?_)
    refine lv_bipush (v := (-2)) hx hb dX12_income_13 (by decide) ?_
    exact cg_iret (nw := fun _ => 0) hC hr hlk hO.same rfl (Nat.le_of_ble_eq_true rfl) (Nat.le_of_ble_eq_true rfl) (by simp [ans_income, h_2_1]) dX12_income_15

theorem dX12_fault_0 : decode cX12_fault 0 = .ok (.iload_n 1, 1) := by decide +kernel
theorem dX12_fault_1 : decode cX12_fault 1 = .ok (.ifCond .ne 10, 3) := by decide +kernel
theorem dX12_fault_4 : decode cX12_fault 4 = .ok (.aload_n 0, 1) := by decide +kernel
theorem dX12_fault_5 : decode cX12_fault 5 = .ok (.getfield 185, 3) := by decide +kernel
theorem dX12_fault_8 : decode cX12_fault 8 = .ok (.goto 16, 3) := by decide +kernel
theorem dX12_fault_11 : decode cX12_fault 11 = .ok (.iload_n 1, 1) := by decide +kernel
theorem dX12_fault_12 : decode cX12_fault 12 = .ok (.iconst 1, 1) := by decide +kernel
theorem dX12_fault_13 : decode cX12_fault 13 = .ok (.if_icmp .ne 10, 3) := by decide +kernel
theorem dX12_fault_16 : decode cX12_fault 16 = .ok (.aload_n 0, 1) := by decide +kernel
theorem dX12_fault_17 : decode cX12_fault 17 = .ok (.getfield 16, 3) := by decide +kernel
theorem dX12_fault_20 : decode cX12_fault 20 = .ok (.goto 4, 3) := by decide +kernel
theorem dX12_fault_23 : decode cX12_fault 23 = .ok (.iconst (-1), 1) := by decide +kernel
theorem dX12_fault_24 : decode cX12_fault 24 = .ok (.ireturn, 1) := by decide +kernel
def wq_c_X12_fault : List Cond := Cond.code yX12_fault cX12_fault 2 (some .int) :: (([Cond.fieldLink RX12 16 "CrowTollModel" "faultPlace" "I", Cond.fieldLink RX12 185 "CrowTollModel" "faultKind" "I"] : List Cond) ++ wsX120)
set_option maxHeartbeats 8000000 in
set_option maxRecDepth 100000 in
theorem c_X12_fault (l : Launch) (D : va_G) (cy : Nat → ClassId) (ad : Nat → Nat) (g : Nat → va_E) {f0 : List Value} {n : Int32} (o0 : g 0 = .inr (12, f0)) (f0_4 : f0[4]? = some (.int 0)) (f0_5 : f0[5]? = some (.int (-1))) : cMi l yX12_fault wq_c_X12_fault { frames := 0, cells := 0, slots := 0, locals := 0 } 1 0 0 0 D cy ad g [.ref (ad 0), .int n] (fun r nw lu => r = ans_fault n) := by
  refine cM_of (Qc := fun A => cQi (fun r nw lu => r = ans_fault n) D 1 0 ad g A) (cc := cX12_fault) (maxL := 2) (ret := (some .int)) (by decide) rfl (Nat.le_of_ble_eq_true rfl) ?_
  intro p e s m below meth c A hC hr hlk hnm hO ls hl
  have hC : CallFix p m c cX12_fault 2 s [.ref (ad 0), .int n].toArray wq_c_X12_fault RX12 := hC
  obtain ⟨hx, hb, hml, hown, hts⟩ := id hC
  have hl : lv_has ls 2 [(0, .ref (ad 0)), (1, .int n)] := hl
  have i_X12 : ∀ w ∈ wsX120, w ∈ wq_c_X12_fault := fun w h => List.mem_cons_of_mem _ (List.mem_append_right _ h)
  refine lv_iload_n hx hb dX12_fault_0 rfl (lv_at hl 1 rfl) ?_
  refine lv_if_ne (tgt := 11) hx hb dX12_fault_1 (by decide) (fun h_1_1 => ?_) (fun h_1_1 => ?_)
  · refine lv_iload_n hx hb dX12_fault_11 rfl (lv_at hl 1 rfl) ?_
    refine lv_iconst (v := 1) hx hb dX12_fault_12 (by decide) ?_
    refine lv_icmp_ne (tgt := 23) hx hb dX12_fault_13 (by decide) (fun h_13_2 => ?_) (fun h_13_2 => ?_)
    · refine lv_iconst (v := (-1)) hx hb dX12_fault_23 (by decide) ?_
      exact cg_iret (nw := fun _ => 0) hC hr hlk hO.same rfl (Nat.le_of_ble_eq_true rfl) (Nat.le_of_ble_eq_true rfl) (by simp [ans_fault, h_1_1, h_13_2]) dX12_fault_24
    · refine lv_aload_n hx hb dX12_fault_16 rfl (lv_at hl 0 rfl) ?_
      refine cg_get hC hO 0 (by decide) o0 rfl i_X12 5 (by decide) (List.mem_of_getElem? (i := 1) rfl) f0_5 dX12_fault_17 ?_
      refine lv_goto (tgt := 24) hx hb dX12_fault_20 (by decide) ?_
      exact cg_iret (nw := fun _ => 0) hC hr hlk hO.same rfl (Nat.le_of_ble_eq_true rfl) (Nat.le_of_ble_eq_true rfl) (by simp [ans_fault, h_1_1, h_13_2]) dX12_fault_24
  · refine lv_aload_n hx hb dX12_fault_4 rfl (lv_at hl 0 rfl) ?_
    refine cg_get hC hO 0 (by decide) o0 rfl i_X12 4 (by decide) (List.mem_of_getElem? (i := 2) rfl) f0_4 dX12_fault_5 ?_
    refine lv_goto (tgt := 24) hx hb dX12_fault_8 (by decide) ?_
    exact cg_iret (nw := fun _ => 0) hC hr hlk hO.same rfl (Nat.le_of_ble_eq_true rfl) (Nat.le_of_ble_eq_true rfl) (by simp [ans_fault, h_1_1]) dX12_fault_24

theorem dX12_keepAct_0 : decode cX12_keepAct 0 = .ok (.aload_n 0, 1) := by decide +kernel
theorem dX12_keepAct_1 : decode cX12_keepAct 1 = .ok (.getfield 373, 3) := by decide +kernel
theorem dX12_keepAct_4 : decode cX12_keepAct 4 = .ok (.bipush 40, 2) := by decide +kernel
theorem dX12_keepAct_6 : decode cX12_keepAct 6 = .ok (.if_icmp .ne 43, 3) := by decide +kernel
theorem dX12_keepAct_49 : decode cX12_keepAct 49 = .ok (.iconst 0, 1) := by decide +kernel
theorem dX12_keepAct_50 : decode cX12_keepAct 50 = .ok (.istore_n 1, 1) := by decide +kernel
theorem dX12_keepAct_51 : decode cX12_keepAct 51 = .ok (.iload_n 1, 1) := by decide +kernel
theorem dX12_keepAct_52 : decode cX12_keepAct 52 = .ok (.bipush 80, 2) := by decide +kernel
theorem dX12_keepAct_54 : decode cX12_keepAct 54 = .ok (.if_icmp .ge 29, 3) := by decide +kernel
theorem dX12_keepAct_57 : decode cX12_keepAct 57 = .ok (.aload_n 0, 1) := by decide +kernel
theorem dX12_keepAct_58 : decode cX12_keepAct 58 = .ok (.getfield 143, 3) := by decide +kernel
theorem dX12_keepAct_61 : decode cX12_keepAct 61 = .ok (.bipush 80, 2) := by decide +kernel
theorem dX12_keepAct_63 : decode cX12_keepAct 63 = .ok (.aload_n 0, 1) := by decide +kernel
theorem dX12_keepAct_64 : decode cX12_keepAct 64 = .ok (.getfield 373, 3) := by decide +kernel
theorem dX12_keepAct_67 : decode cX12_keepAct 67 = .ok (.imul, 1) := by decide +kernel
theorem dX12_keepAct_68 : decode cX12_keepAct 68 = .ok (.iload_n 1, 1) := by decide +kernel
theorem dX12_keepAct_69 : decode cX12_keepAct 69 = .ok (.iadd, 1) := by decide +kernel
theorem dX12_keepAct_70 : decode cX12_keepAct 70 = .ok (.aload_n 0, 1) := by decide +kernel
theorem dX12_keepAct_71 : decode cX12_keepAct 71 = .ok (.getfield 98, 3) := by decide +kernel
theorem dX12_keepAct_74 : decode cX12_keepAct 74 = .ok (.iload_n 1, 1) := by decide +kernel
theorem dX12_keepAct_75 : decode cX12_keepAct 75 = .ok (.iaload, 1) := by decide +kernel
theorem dX12_keepAct_76 : decode cX12_keepAct 76 = .ok (.iastore, 1) := by decide +kernel
theorem dX12_keepAct_77 : decode cX12_keepAct 77 = .ok (.iinc 1 1, 3) := by decide +kernel
theorem dX12_keepAct_80 : decode cX12_keepAct 80 = .ok (.goto (-29), 3) := by decide +kernel
theorem dX12_keepAct_83 : decode cX12_keepAct 83 = .ok (.aload_n 0, 1) := by decide +kernel
theorem dX12_keepAct_84 : decode cX12_keepAct 84 = .ok (.dup, 1) := by decide +kernel
theorem dX12_keepAct_85 : decode cX12_keepAct 85 = .ok (.getfield 373, 3) := by decide +kernel
theorem dX12_keepAct_88 : decode cX12_keepAct 88 = .ok (.iconst 1, 1) := by decide +kernel
theorem dX12_keepAct_89 : decode cX12_keepAct 89 = .ok (.iadd, 1) := by decide +kernel
theorem dX12_keepAct_90 : decode cX12_keepAct 90 = .ok (.putfield 373, 3) := by decide +kernel
theorem dX12_keepAct_93 : decode cX12_keepAct 93 = .ok (.aload_n 0, 1) := by decide +kernel
theorem dX12_keepAct_94 : decode cX12_keepAct 94 = .ok (.iconst 0, 1) := by decide +kernel
theorem dX12_keepAct_95 : decode cX12_keepAct 95 = .ok (.putfield 376, 3) := by decide +kernel
theorem dX12_keepAct_98 : decode cX12_keepAct 98 = .ok (.return_, 1) := by decide +kernel
def wq_c_X12_keepAct : List Cond := Cond.code yX12_keepAct cX12_keepAct 2 none :: (([Cond.fieldLink RX12 373 "CrowTollModel" "acts" "I", Cond.fieldLink RX12 376 "CrowTollModel" "undone" "I", Cond.fieldLink RX12 143 "CrowTollModel" "was" "[I", Cond.fieldLink RX12 98 "CrowTollModel" "state" "[I"] : List Cond) ++ wsX120)
set_option maxHeartbeats 8000000 in
set_option maxRecDepth 100000 in
theorem c_X12_keepAct (l : Launch) (D : va_G) (cy : Nat → ClassId) (ad : Nat → Nat) (g : Nat → va_E) {f0 : List Value} {c1 : Nat → Int32} (o0 : g 0 = .inr (12, f0)) (f0_41 : f0[41]? = some (.ref (ad 2))) (f0_58 : f0[58]? = some (.ref (ad 1))) (f0_59 : f0[59]? = some (.int 0)) (f0_60 : f0[60]? = some (.int 0)) (a1 : g 1 = .inl (cy 0, 3280, .inl c1)) (a2 : g 2 = .inl (cy 0, 80, .inl (fun _ => 0))) : cMv l yX12_keepAct wq_c_X12_keepAct { frames := 0, cells := 0, slots := 0, locals := 0 } 3 0 0 0 D cy ad g [.ref (ad 0)] (fun nw lu => ∃ (cd : Nat → Int32), lu = [(1, .inl (cy 0, 3280, .inl cd)), (0, .inr (12, ((f0.set 59 (.int 1)).set 60 (.int 0))))]) := by
  refine cM_of (Qc := fun A => cQv (fun nw lu => ∃ (cd : Nat → Int32), lu = [(1, .inl (cy 0, 3280, .inl cd)), (0, .inr (12, ((f0.set 59 (.int 1)).set 60 (.int 0))))]) D 3 0 ad g A) (cc := cX12_keepAct) (maxL := 2) (ret := none) (by decide) rfl (Nat.le_of_ble_eq_true rfl) ?_
  intro p e s m below meth c A hC hr hlk hnm hO ls hl
  have hC : CallFix p m c cX12_keepAct 2 s [.ref (ad 0)].toArray wq_c_X12_keepAct RX12 := hC
  obtain ⟨hx, hb, hml, hown, hts⟩ := id hC
  have hl : lv_has ls 2 [(0, .ref (ad 0))] := hl
  have i_X12 : ∀ w ∈ wsX120, w ∈ wq_c_X12_keepAct := fun w h => List.mem_cons_of_mem _ (List.mem_append_right _ h)
  refine lv_aload_n hx hb dX12_keepAct_0 rfl (lv_at hl 0 rfl) ?_
  refine cg_get hC hO 0 (by decide) o0 rfl i_X12 59 (by decide) (List.mem_of_getElem? (i := 1) rfl) f0_59 dX12_keepAct_1 ?_
  refine lv_bipush (v := 40) hx hb dX12_keepAct_4 (by decide) ?_
  refine lv_icmp_ne (tgt := 49) hx hb dX12_keepAct_6 (by decide) (fun _ => ?_) (fun h => absurd h (by decide))
  refine lv_iconst (v := 0) hx hb dX12_keepAct_49 (by decide) ?_
  refine lv_istore_n (lv' := [(1, .int 0), (0, .ref (ad 0))]) hx hb dX12_keepAct_50 rfl hl (by decide) rfl (fun ls hl => ?_)
  have hO := hO.note 1 (e := .inl (cy 0, 3280, .inl c1)) a1
  have hO : cO D cy A s.heap s 3 ad (cup [(1, .inl (cy 0, 3280, .inl c1))] g) _ _ := hO
  have loop_51_1 : ∀ (d_51_2 : Nat) (i : Nat) (cd : Nat → Int32), (i ≤ 80) → 80 - i < d_51_2 → ∀ (H : Heap) (locs : List Loc), cO D cy A s.heap s 3 ad (cup [(1, .inl (cy 0, 3280, .inl cd))] g) H locs → ∀ ls : Array Slot, lv_has ls 2 [(1, .int (nI i)), (0, .ref (ad 0))] → W p l e { frames := 0, cells := 0, slots := 0, locals := 0 } s m [.ref (ad 0)].toArray below meth c H locs 0 0 (MQ below (cQv (fun nw lu => ∃ (cd : Nat → Int32), lu = [(1, .inl (cy 0, 3280, .inl cd)), (0, .inr (12, ((f0.set 59 (.int 1)).set 60 (.int 0))))]) D 3 0 ad g A) [.ref (ad 0)].toArray s 0 0 A) (F0 m 51 ls []) := by
    intro d_51_2
    induction d_51_2 with
    | zero => intro i cd hi mu_51_3; exact absurd mu_51_3 (Nat.not_lt_zero _)
    | succ d_51_2 ih_51_4 =>
      intro i cd hi mu_51_3 H locs hO ls hl
      refine lv_iload_n hx hb dX12_keepAct_51 rfl (lv_at hl 0 rfl) ?_
      refine lv_bipush (v := 80) hx hb dX12_keepAct_52 (by decide) ?_
      refine lv_icmp_ge (tgt := 83) hx hb dX12_keepAct_54 (by decide) (fun h_54_5 => ?_) (fun h_54_5 => ?_)
      · have nh_54_5 : 80 ≤ i := (nI_leI (a := 80) (b := i) (by omega) (by omega)).mp h_54_5
        refine lv_aload_n hx hb dX12_keepAct_83 rfl (lv_at hl 1 rfl) ?_
        refine lv_dup hx hb dX12_keepAct_84 rfl ?_
        refine cg_get hC hO 0 (by decide) o0 rfl i_X12 59 (by decide) (List.mem_of_getElem? (i := 1) rfl) f0_59 dX12_keepAct_85 ?_
        refine lv_iconst (v := 1) hx hb dX12_keepAct_88 (by decide) ?_
        refine lv_iadd hx hb dX12_keepAct_89 ?_
        refine cg_ev (v := 1) (by decide) ?_
        refine cg_put hC hO 0 (by decide) o0 rfl i_X12 tyX12_ok nmX12 59 (by decide) (List.mem_of_getElem? (i := 1) rfl) rfl rfl rfl (fs_lt f0_59) dX12_keepAct_90 (fun H locs hO => ?_)
        have hO : cO D cy A s.heap s 3 ad (cup [(1, .inl (cy 0, 3280, .inl cd)), (0, .inr (12, (f0.set 59 (.int 1))))] g) _ _ := hO
        refine lv_aload_n hx hb dX12_keepAct_93 rfl (lv_at hl 1 rfl) ?_
        refine lv_iconst (v := 0) hx hb dX12_keepAct_94 (by decide) ?_
        refine cg_put hC hO 0 (by decide) rfl rfl i_X12 tyX12_ok nmX12 60 (by decide) (List.mem_of_getElem? (i := 2) rfl) rfl rfl rfl (fs_lt (fs_ne (by decide) f0_60)) dX12_keepAct_95 (fun H locs hO => ?_)
        have hO : cO D cy A s.heap s 3 ad (cup [(1, .inl (cy 0, 3280, .inl cd)), (0, .inr (12, ((f0.set 59 (.int 1)).set 60 (.int 0))))] g) _ _ := hO
        exact cg_vret (nw := fun _ => 0) hC hr hlk hO.same (Nat.le_of_ble_eq_true rfl) (Nat.le_of_ble_eq_true rfl) (⟨cd, rfl⟩) dX12_keepAct_98
      · have nh_54_5 : ¬ 80 ≤ i := fun z => h_54_5 ((nI_leI (a := 80) (b := i) (by omega) (by omega)).mpr z)
        refine lv_aload_n hx hb dX12_keepAct_57 rfl (lv_at hl 1 rfl) ?_
        refine cg_get hC hO 0 (by decide) o0 rfl i_X12 58 (by decide) (List.mem_of_getElem? (i := 3) rfl) f0_58 dX12_keepAct_58 ?_
        refine lv_bipush (v := 80) hx hb dX12_keepAct_61 (by decide) ?_
        refine lv_aload_n hx hb dX12_keepAct_63 rfl (lv_at hl 1 rfl) ?_
        refine cg_get hC hO 0 (by decide) o0 rfl i_X12 59 (by decide) (List.mem_of_getElem? (i := 1) rfl) f0_59 dX12_keepAct_64 ?_
        refine lv_imul hx hb dX12_keepAct_67 ?_
        refine cg_ev (v := 0) (by decide) ?_
        refine lv_iload_n hx hb dX12_keepAct_68 rfl (lv_at hl 0 rfl) ?_
        refine lv_iadd hx hb dX12_keepAct_69 ?_
        refine cg_ev (v := (nI (0 + i))) (nI_add 0 i) ?_
        refine lv_aload_n hx hb dX12_keepAct_70 rfl (lv_at hl 1 rfl) ?_
        refine cg_get hC hO 0 (by decide) o0 rfl i_X12 41 (by decide) (List.mem_of_getElem? (i := 4) rfl) f0_41 dX12_keepAct_71 ?_
        refine lv_iload_n hx hb dX12_keepAct_74 rfl (lv_at hl 0 rfl) ?_
        refine cg_iald hC hO 2 (by decide) a2 (vp_in_nI (by omega) (by omega)) dX12_keepAct_75 ?_
        refine cg_ev (v := 0) (rfl) ?_
        refine cg_iast hC hO 1 (by decide) rfl (vp_in_nI (by omega) (by omega)) dX12_keepAct_76 (fun H locs hO => ?_)
        have hO : cO D cy A s.heap s 3 ad (cup [(1, .inl (cy 0, 3280, .inl (upd cd (nI (0 + i)).toNatClampNeg 0)))] g) _ _ := hO
        obtain ⟨c1_76_6, ec1_76_6⟩ : ∃ z, z = (upd cd (nI (0 + i)).toNatClampNeg 0) := ⟨_, rfl⟩
        rw [← ec1_76_6] at hO
        have hO : cO D cy A s.heap s 3 ad (cup [(1, .inl (cy 0, 3280, .inl c1_76_6))] g) _ _ := hO
        refine lv_iinc (v := (nI (i + 1))) (lv' := [(1, .int (nI (i + 1))), (0, .ref (ad 0))]) hx hb dX12_keepAct_77 hl (k := 0) rfl (nI_add i 1) (by decide) rfl (fun ls hl => ?_)
        refine lv_goto (tgt := 51) hx hb dX12_keepAct_80 (by decide) ?_
        exact ih_51_4 (i + 1) c1_76_6 (by omega) (by omega) _ _ hO ls (lv_sub hl [0, 1] rfl)
  exact loop_51_1 (80 + 1) 0 c1 (by omega) (by omega) _ _ hO ls hl

theorem dX12_come_0 : decode cX12_come 0 = .ok (.iload_n 1, 1) := by decide +kernel
theorem dX12_come_1 : decode cX12_come 1 = .ok (.iconst 0, 1) := by decide +kernel
theorem dX12_come_2 : decode cX12_come 2 = .ok (.sipush 600, 3) := by decide +kernel
theorem dX12_come_5 : decode cX12_come 5 = .ok (.invokestatic 366, 3) := by decide +kernel
theorem dX12_come_8 : decode cX12_come 8 = .ok (.ifCond .eq 24, 3) := by decide +kernel
theorem dX12_come_11 : decode cX12_come 11 = .ok (.iload_n 2, 1) := by decide +kernel
theorem dX12_come_12 : decode cX12_come 12 = .ok (.iconst 1, 1) := by decide +kernel
theorem dX12_come_13 : decode cX12_come 13 = .ok (.bipush 99, 2) := by decide +kernel
theorem dX12_come_15 : decode cX12_come 15 = .ok (.invokestatic 366, 3) := by decide +kernel
theorem dX12_come_18 : decode cX12_come 18 = .ok (.ifCond .eq 14, 3) := by decide +kernel
theorem dX12_come_21 : decode cX12_come 21 = .ok (.aload_n 0, 1) := by decide +kernel
theorem dX12_come_22 : decode cX12_come 22 = .ok (.getfield 98, 3) := by decide +kernel
theorem dX12_come_25 : decode cX12_come 25 = .ok (.iconst 0, 1) := by decide +kernel
theorem dX12_come_26 : decode cX12_come 26 = .ok (.iaload, 1) := by decide +kernel
theorem dX12_come_27 : decode cX12_come 27 = .ok (.bipush 24, 2) := by decide +kernel
theorem dX12_come_29 : decode cX12_come 29 = .ok (.if_icmp .ne 5, 3) := by decide +kernel
theorem dX12_come_32 : decode cX12_come 32 = .ok (.iconst (-1), 1) := by decide +kernel
theorem dX12_come_33 : decode cX12_come 33 = .ok (.ireturn, 1) := by decide +kernel
theorem dX12_come_34 : decode cX12_come 34 = .ok (.aload_n 0, 1) := by decide +kernel
theorem dX12_come_35 : decode cX12_come 35 = .ok (.invokevirtual 424, 3) := by decide +kernel
theorem dX12_come_38 : decode cX12_come 38 = .ok (.aload_n 0, 1) := by decide +kernel
theorem dX12_come_39 : decode cX12_come 39 = .ok (.getfield 98, 3) := by decide +kernel
theorem dX12_come_42 : decode cX12_come 42 = .ok (.iconst 0, 1) := by decide +kernel
theorem dX12_come_43 : decode cX12_come 43 = .ok (.iaload, 1) := by decide +kernel
theorem dX12_come_44 : decode cX12_come 44 = .ok (.istore_n 3, 1) := by decide +kernel
theorem dX12_come_45 : decode cX12_come 45 = .ok (.aload_n 0, 1) := by decide +kernel
theorem dX12_come_46 : decode cX12_come 46 = .ok (.getfield 98, 3) := by decide +kernel
theorem dX12_come_49 : decode cX12_come 49 = .ok (.iconst 1, 1) := by decide +kernel
theorem dX12_come_50 : decode cX12_come 50 = .ok (.iload_n 3, 1) := by decide +kernel
theorem dX12_come_51 : decode cX12_come 51 = .ok (.iadd, 1) := by decide +kernel
theorem dX12_come_52 : decode cX12_come 52 = .ok (.iload_n 1, 1) := by decide +kernel
theorem dX12_come_53 : decode cX12_come 53 = .ok (.iastore, 1) := by decide +kernel
theorem dX12_come_54 : decode cX12_come 54 = .ok (.aload_n 0, 1) := by decide +kernel
theorem dX12_come_55 : decode cX12_come 55 = .ok (.getfield 98, 3) := by decide +kernel
theorem dX12_come_58 : decode cX12_come 58 = .ok (.bipush 25, 2) := by decide +kernel
theorem dX12_come_60 : decode cX12_come 60 = .ok (.iload_n 3, 1) := by decide +kernel
theorem dX12_come_61 : decode cX12_come 61 = .ok (.iadd, 1) := by decide +kernel
theorem dX12_come_62 : decode cX12_come 62 = .ok (.iload_n 2, 1) := by decide +kernel
theorem dX12_come_63 : decode cX12_come 63 = .ok (.iastore, 1) := by decide +kernel
theorem dX12_come_64 : decode cX12_come 64 = .ok (.aload_n 0, 1) := by decide +kernel
theorem dX12_come_65 : decode cX12_come 65 = .ok (.getfield 98, 3) := by decide +kernel
theorem dX12_come_68 : decode cX12_come 68 = .ok (.bipush 49, 2) := by decide +kernel
theorem dX12_come_70 : decode cX12_come 70 = .ok (.iload_n 3, 1) := by decide +kernel
theorem dX12_come_71 : decode cX12_come 71 = .ok (.iadd, 1) := by decide +kernel
theorem dX12_come_72 : decode cX12_come 72 = .ok (.iconst 1, 1) := by decide +kernel
theorem dX12_come_73 : decode cX12_come 73 = .ok (.iastore, 1) := by decide +kernel
theorem dX12_come_74 : decode cX12_come 74 = .ok (.aload_n 0, 1) := by decide +kernel
theorem dX12_come_75 : decode cX12_come 75 = .ok (.getfield 98, 3) := by decide +kernel
theorem dX12_come_78 : decode cX12_come 78 = .ok (.iconst 0, 1) := by decide +kernel
theorem dX12_come_79 : decode cX12_come 79 = .ok (.dup2, 1) := by decide +kernel
theorem dX12_come_80 : decode cX12_come 80 = .ok (.iaload, 1) := by decide +kernel
theorem dX12_come_81 : decode cX12_come 81 = .ok (.iconst 1, 1) := by decide +kernel
theorem dX12_come_82 : decode cX12_come 82 = .ok (.iadd, 1) := by decide +kernel
theorem dX12_come_83 : decode cX12_come 83 = .ok (.iastore, 1) := by decide +kernel
theorem dX12_come_84 : decode cX12_come 84 = .ok (.iload_n 3, 1) := by decide +kernel
theorem dX12_come_85 : decode cX12_come 85 = .ok (.ireturn, 1) := by decide +kernel
def wq_c_X12_come : List Cond := Cond.code yX12_come cX12_come 4 (some .int) :: (([Cond.methodLink RX12 366 yX12_isIn, Cond.static yX12_isIn, Cond.initialized RX12, Cond.code yX12_isIn cX12_isIn 3 (some .boolean), Cond.fieldLink RX12 98 "CrowTollModel" "state" "[I", Cond.methodLink RX12 424 yX12_keepAct, Cond.instanceMethod yX12_keepAct, Cond.selects RX12 yX12_keepAct yX12_keepAct, Cond.code yX12_keepAct cX12_keepAct 2 none, Cond.fieldLink RX12 373 "CrowTollModel" "acts" "I", Cond.fieldLink RX12 376 "CrowTollModel" "undone" "I", Cond.fieldLink RX12 143 "CrowTollModel" "was" "[I"] : List Cond) ++ wsX120)
set_option maxRecDepth 20000 in
theorem gr_c_X12_come_c_X12_isIn : GoodIn wq_c_X12_come wq_c_X12_isIn := List.forall_mem_cons.mpr ⟨⟨(List.mem_of_getElem? (i := 4) rfl), good_of_word rfl⟩, (fun _ h => absurd h List.not_mem_nil)⟩
set_option maxRecDepth 20000 in
theorem gq_c_X12_come_c_X12_isIn_366 : GoodIn wq_c_X12_come (va_wsS RX12 366 yX12_isIn wq_c_X12_isIn) := goodIn_app (List.forall_mem_cons.mpr ⟨⟨(List.mem_of_getElem? (i := 1) rfl), good_of_word rfl⟩, List.forall_mem_cons.mpr ⟨⟨(List.mem_of_getElem? (i := 2) rfl), good_of_word rfl⟩, List.forall_mem_cons.mpr ⟨⟨(List.mem_of_getElem? (i := 3) rfl), good_of_word rfl⟩, (fun _ h => absurd h List.not_mem_nil)⟩⟩⟩) gr_c_X12_come_c_X12_isIn
set_option maxRecDepth 20000 in
theorem gr_c_X12_come_c_X12_keepAct : GoodIn wq_c_X12_come wq_c_X12_keepAct := List.forall_mem_cons.mpr ⟨⟨(List.mem_of_getElem? (i := 9) rfl), good_of_word rfl⟩, List.forall_mem_append.mpr ⟨List.forall_mem_cons.mpr ⟨⟨(List.mem_of_getElem? (i := 10) rfl), good_of_word rfl⟩, List.forall_mem_cons.mpr ⟨⟨(List.mem_of_getElem? (i := 11) rfl), good_of_word rfl⟩, List.forall_mem_cons.mpr ⟨⟨(List.mem_of_getElem? (i := 12) rfl), good_of_word rfl⟩, List.forall_mem_cons.mpr ⟨⟨(List.mem_of_getElem? (i := 5) rfl), good_of_word rfl⟩, (fun _ h => absurd h List.not_mem_nil)⟩⟩⟩⟩, fun w h => ⟨(fun w h => List.mem_cons_of_mem _ (List.mem_append_right _ h)) w h, good_of_word (List.all_eq_true.mp gw_X12 w h)⟩⟩⟩
set_option maxRecDepth 20000 in
theorem gq_c_X12_come_c_X12_keepAct_424 : GoodIn wq_c_X12_come (wsV RX12 424 RX12 yX12_keepAct wq_c_X12_keepAct) := goodIn_app (List.forall_mem_cons.mpr ⟨⟨(List.mem_of_getElem? (i := 6) rfl), good_of_word rfl⟩, List.forall_mem_cons.mpr ⟨⟨(List.mem_of_getElem? (i := 7) rfl), good_of_word rfl⟩, List.forall_mem_cons.mpr ⟨⟨(List.mem_of_getElem? (i := 8) rfl), good_of_word rfl⟩, List.forall_mem_cons.mpr ⟨⟨(List.mem_of_getElem? (i := 3) rfl), good_of_word rfl⟩, (fun _ h => absurd h List.not_mem_nil)⟩⟩⟩⟩) gr_c_X12_come_c_X12_keepAct
set_option maxHeartbeats 8000000 in
set_option maxRecDepth 100000 in
theorem c_X12_come (l : Launch) (D : va_G) (cy : Nat → ClassId) (ad : Nat → Nat) (g : Nat → va_E) {f0 : List Value} {c2 : Nat → Int32} {x1 : Int32} {x2 : Int32} (o0 : g 0 = .inr (12, f0)) (f0_41 : f0[41]? = some (.ref (ad 1))) (f0_58 : f0[58]? = some (.ref (ad 2))) (f0_59 : f0[59]? = some (.int 0)) (f0_60 : f0[60]? = some (.int 0)) (a1 : g 1 = .inl (cy 0, 80, .inl (fun _ => 0))) (a2 : g 2 = .inl (cy 0, 3280, .inl c2)) : cMi l yX12_come wq_c_X12_come { frames := 1, cells := 0, slots := 0, locals := 22 } 3 0 0 0 D cy ad g [.ref (ad 0), .int x1, .int x2] (fun r nw lu => r = ans_come x1 x2) := by
  refine cM_of (Qc := fun A => cQi (fun r nw lu => r = ans_come x1 x2) D 3 0 ad g A) (cc := cX12_come) (maxL := 4) (ret := (some .int)) (by decide) rfl (Nat.le_of_ble_eq_true rfl) ?_
  intro p e s m below meth c A hC hr hlk hnm hO ls hl
  have hC : CallFix p m c cX12_come 4 s [.ref (ad 0), .int x1, .int x2].toArray wq_c_X12_come RX12 := hC
  obtain ⟨hx, hb, hml, hown, hts⟩ := id hC
  have hl : lv_has ls 4 [(0, .ref (ad 0)), (1, .int x1), (2, .int x2)] := hl
  have i_X12 : ∀ w ∈ wsX120, w ∈ wq_c_X12_come := fun w h => List.mem_cons_of_mem _ (List.mem_append_right _ h)
  refine lv_iload_n hx hb dX12_come_0 rfl (lv_at hl 1 rfl) ?_
  refine lv_iconst (v := 0) hx hb dX12_come_1 (by decide) ?_
  refine lv_sipush (v := 600) hx hb dX12_come_2 (by decide) ?_
  refine cg_Si (As := [.int x1, .int 0, .int 600]) (rest := []) (mc := 0) (ms := 0) (rm := { frames := 0, cells := 0, slots := 0, locals := 0 }) hC hl.1 hO [] rfl (c_X12_isIn l D cy _ _ (x := x1) (y := 0) (z := 600) ) gq_c_X12_come_c_X12_isIn_366 rfl rfl rfl 3 (by decide +kernel) ⟨Nat.le_of_ble_eq_true rfl, Nat.le_of_ble_eq_true rfl⟩ rfl rfl (Nat.le_of_ble_eq_true rfl) dX12_come_5 ⟨Nat.le_of_ble_eq_true rfl, Nat.le_of_ble_eq_true rfl⟩ (fun r_5_3 nw_5_1 l_5_2 H locs hw hO => ?_)
  rcases hw with hw | hw
  · obtain ⟨hr_5_4, rfl, rfl⟩ := hw
    have hO : cO D cy A s.heap s 3 ad (cup [] g) _ _ := hO
    refine lv_if_eq (tgt := 32) hx hb dX12_come_8 (by decide) (fun h => absurd h (by decide)) (fun _ => ?_)
    refine lv_iload_n hx hb dX12_come_11 rfl (lv_at hl 2 rfl) ?_
    refine lv_iconst (v := 1) hx hb dX12_come_12 (by decide) ?_
    refine lv_bipush (v := 99) hx hb dX12_come_13 (by decide) ?_
    refine cg_Si (As := [.int x2, .int 1, .int 99]) (rest := []) (mc := 0) (ms := 0) (rm := { frames := 0, cells := 0, slots := 0, locals := 0 }) hC hl.1 hO [] rfl (c_X12_isIn l D cy _ _ (x := x2) (y := 1) (z := 99) ) gq_c_X12_come_c_X12_isIn_366 rfl rfl rfl 3 (by decide +kernel) ⟨Nat.le_of_ble_eq_true rfl, Nat.le_of_ble_eq_true rfl⟩ rfl rfl (Nat.le_of_ble_eq_true rfl) dX12_come_15 ⟨Nat.le_of_ble_eq_true rfl, Nat.le_of_ble_eq_true rfl⟩ (fun r_15_7 nw_15_5 l_15_6 H locs hw hO => ?_)
    rcases hw with hw | hw
    · obtain ⟨hr_15_8, rfl, rfl⟩ := hw
      have hO : cO D cy A s.heap s 3 ad (cup [] g) _ _ := hO
      refine lv_if_eq (tgt := 32) hx hb dX12_come_18 (by decide) (fun h => absurd h (by decide)) (fun _ => ?_)
      refine lv_aload_n hx hb dX12_come_21 rfl (lv_at hl 0 rfl) ?_
      refine cg_get hC hO 0 (by decide) o0 rfl i_X12 41 (by decide) (List.mem_of_getElem? (i := 5) rfl) f0_41 dX12_come_22 ?_
      refine lv_iconst (v := 0) hx hb dX12_come_25 (by decide) ?_
      refine cg_iald hC hO 1 (by decide) a1 (cin (by decide)) dX12_come_26 ?_
      refine cg_ev (v := 0) (rfl) ?_
      refine lv_bipush (v := 24) hx hb dX12_come_27 (by decide) ?_
      refine lv_icmp_ne (tgt := 34) hx hb dX12_come_29 (by decide) (fun _ => ?_) (fun h => absurd h (by decide))
      refine lv_aload_n hx hb dX12_come_34 rfl (lv_at hl 0 rfl) ?_
      refine cg_Vv (As := []) (rest := []) (mc := 0) (ms := 0) (rm := { frames := 0, cells := 0, slots := 0, locals := 0 }) hC hl.1 hO [0, 2, 1] rfl (c_X12_keepAct l D cy _ _ (f0 := f0) (c1 := c2) o0 f0_41 f0_58 f0_59 f0_60 a2 a1) gq_c_X12_come_c_X12_keepAct_424 rfl rfl rfl 0 (by decide +kernel) ⟨Nat.le_of_ble_eq_true rfl, Nat.le_of_ble_eq_true rfl⟩ rfl (by decide) o0 rfl rfl (Nat.le_of_ble_eq_true rfl) dX12_come_35 ⟨Nat.le_of_ble_eq_true rfl, Nat.le_of_ble_eq_true rfl⟩ (fun nw_35_9 l_35_10 H locs hw hO => ?_)
      obtain ⟨cd_35_12, rfl⟩ := hw
      have hO : cO D cy A s.heap s 3 ad (cup [(0, .inr (12, ((f0.set 59 (.int 1)).set 60 (.int 0)))), (2, .inl (cy 0, 3280, .inl cd_35_12))] g) _ _ := hO
      refine lv_aload_n hx hb dX12_come_38 rfl (lv_at hl 0 rfl) ?_
      refine cg_get hC hO 0 (by decide) rfl rfl i_X12 41 (by decide) (List.mem_of_getElem? (i := 5) rfl) (fs_ne (by decide) (fs_ne (by decide) f0_41)) dX12_come_39 ?_
      refine lv_iconst (v := 0) hx hb dX12_come_42 (by decide) ?_
      refine cg_iald hC hO 1 (by decide) a1 (cin (by decide)) dX12_come_43 ?_
      refine cg_ev (v := 0) (rfl) ?_
      refine lv_istore_n (lv' := [(3, .int 0), (0, .ref (ad 0)), (1, .int x1), (2, .int x2)]) hx hb dX12_come_44 rfl hl (by decide) rfl (fun ls hl => ?_)
      refine lv_aload_n hx hb dX12_come_45 rfl (lv_at hl 1 rfl) ?_
      refine cg_get hC hO 0 (by decide) rfl rfl i_X12 41 (by decide) (List.mem_of_getElem? (i := 5) rfl) (fs_ne (by decide) (fs_ne (by decide) f0_41)) dX12_come_46 ?_
      refine lv_iconst (v := 1) hx hb dX12_come_49 (by decide) ?_
      refine lv_iload_n hx hb dX12_come_50 rfl (lv_at hl 0 rfl) ?_
      refine lv_iadd hx hb dX12_come_51 ?_
      refine cg_ev (v := 1) (by decide) ?_
      refine lv_iload_n hx hb dX12_come_52 rfl (lv_at hl 2 rfl) ?_
      refine cg_iast hC hO 1 (by decide) a1 (cin (by decide)) dX12_come_53 (fun H locs hO => ?_)
      have hO : cO D cy A s.heap s 3 ad (cup [(0, .inr (12, ((f0.set 59 (.int 1)).set 60 (.int 0)))), (2, .inl (cy 0, 3280, .inl cd_35_12)), (1, .inl (cy 0, 80, .inl (upd (fun _ => 0) (1 : Int32).toNatClampNeg x1)))] g) _ _ := hO
      refine lv_aload_n hx hb dX12_come_54 rfl (lv_at hl 1 rfl) ?_
      refine cg_get hC hO 0 (by decide) rfl rfl i_X12 41 (by decide) (List.mem_of_getElem? (i := 5) rfl) (fs_ne (by decide) (fs_ne (by decide) f0_41)) dX12_come_55 ?_
      refine lv_bipush (v := 25) hx hb dX12_come_58 (by decide) ?_
      refine lv_iload_n hx hb dX12_come_60 rfl (lv_at hl 0 rfl) ?_
      refine lv_iadd hx hb dX12_come_61 ?_
      refine cg_ev (v := 25) (by decide) ?_
      refine lv_iload_n hx hb dX12_come_62 rfl (lv_at hl 3 rfl) ?_
      refine cg_iast hC hO 1 (by decide) rfl (cin (by decide)) dX12_come_63 (fun H locs hO => ?_)
      have hO : cO D cy A s.heap s 3 ad (cup [(0, .inr (12, ((f0.set 59 (.int 1)).set 60 (.int 0)))), (2, .inl (cy 0, 3280, .inl cd_35_12)), (1, .inl (cy 0, 80, .inl (upd (upd (fun _ => 0) (1 : Int32).toNatClampNeg x1) (25 : Int32).toNatClampNeg x2)))] g) _ _ := hO
      refine lv_aload_n hx hb dX12_come_64 rfl (lv_at hl 1 rfl) ?_
      refine cg_get hC hO 0 (by decide) rfl rfl i_X12 41 (by decide) (List.mem_of_getElem? (i := 5) rfl) (fs_ne (by decide) (fs_ne (by decide) f0_41)) dX12_come_65 ?_
      refine lv_bipush (v := 49) hx hb dX12_come_68 (by decide) ?_
      refine lv_iload_n hx hb dX12_come_70 rfl (lv_at hl 0 rfl) ?_
      refine lv_iadd hx hb dX12_come_71 ?_
      refine cg_ev (v := 49) (by decide) ?_
      refine lv_iconst (v := 1) hx hb dX12_come_72 (by decide) ?_
      refine cg_iast hC hO 1 (by decide) rfl (cin (by decide)) dX12_come_73 (fun H locs hO => ?_)
      have hO : cO D cy A s.heap s 3 ad (cup [(0, .inr (12, ((f0.set 59 (.int 1)).set 60 (.int 0)))), (2, .inl (cy 0, 3280, .inl cd_35_12)), (1, .inl (cy 0, 80, .inl (upd (upd (upd (fun _ => 0) (1 : Int32).toNatClampNeg x1) (25 : Int32).toNatClampNeg x2) (49 : Int32).toNatClampNeg 1)))] g) _ _ := hO
      refine lv_aload_n hx hb dX12_come_74 rfl (lv_at hl 1 rfl) ?_
      refine cg_get hC hO 0 (by decide) rfl rfl i_X12 41 (by decide) (List.mem_of_getElem? (i := 5) rfl) (fs_ne (by decide) (fs_ne (by decide) f0_41)) dX12_come_75 ?_
      refine lv_iconst (v := 0) hx hb dX12_come_78 (by decide) ?_
      refine lv_dup2_11 hx hb dX12_come_79 rfl rfl ?_
      refine cg_iald hC hO 1 (by decide) rfl (cin (by decide)) dX12_come_80 ?_
      refine cg_ev (v := 0) (rfl) ?_
      refine lv_iconst (v := 1) hx hb dX12_come_81 (by decide) ?_
      refine lv_iadd hx hb dX12_come_82 ?_
      refine cg_ev (v := 1) (by decide) ?_
      refine cg_iast hC hO 1 (by decide) rfl (cin (by decide)) dX12_come_83 (fun H locs hO => ?_)
      have hO : cO D cy A s.heap s 3 ad (cup [(0, .inr (12, ((f0.set 59 (.int 1)).set 60 (.int 0)))), (2, .inl (cy 0, 3280, .inl cd_35_12)), (1, .inl (cy 0, 80, .inl (upd (upd (upd (upd (fun _ => 0) (1 : Int32).toNatClampNeg x1) (25 : Int32).toNatClampNeg x2) (49 : Int32).toNatClampNeg 1) (0 : Int32).toNatClampNeg 1)))] g) _ _ := hO
      refine lv_iload_n hx hb dX12_come_84 rfl (lv_at hl 0 rfl) ?_
      exact cg_iret (nw := fun _ => 0) hC hr hlk hO.same rfl (Nat.le_of_ble_eq_true rfl) (Nat.le_of_ble_eq_true rfl) ((if_pos ⟨hr_5_4, hr_15_8⟩).symm) dX12_come_85
    · obtain ⟨hr_15_13, rfl, rfl⟩ := hw
      have hO : cO D cy A s.heap s 3 ad (cup [] g) _ _ := hO
      refine lv_if_eq (tgt := 32) hx hb dX12_come_18 (by decide) (fun _ => ?_) (fun h => absurd h (by decide))
      refine lv_iconst (v := (-1)) hx hb dX12_come_32 (by decide) ?_
      exact cg_iret (nw := fun _ => 0) hC hr hlk hO.same rfl (Nat.le_of_ble_eq_true rfl) (Nat.le_of_ble_eq_true rfl) ((if_neg (fun z => hr_15_13 z.2)).symm) dX12_come_33
  · obtain ⟨hr_5_14, rfl, rfl⟩ := hw
    have hO : cO D cy A s.heap s 3 ad (cup [] g) _ _ := hO
    refine lv_if_eq (tgt := 32) hx hb dX12_come_8 (by decide) (fun _ => ?_) (fun h => absurd h (by decide))
    refine lv_iconst (v := (-1)) hx hb dX12_come_32 (by decide) ?_
    exact cg_iret (nw := fun _ => 0) hC hr hlk hO.same rfl (Nat.le_of_ble_eq_true rfl) (Nat.le_of_ble_eq_true rfl) ((if_neg (fun z => hr_5_14 z.1)).symm) dX12_come_33

theorem dX12_doubt_0 : decode cX12_doubt 0 = .ok (.aload_n 0, 1) := by decide +kernel
theorem dX12_doubt_1 : decode cX12_doubt 1 = .ok (.iload_n 1, 1) := by decide +kernel
theorem dX12_doubt_2 : decode cX12_doubt 2 = .ok (.invokevirtual 406, 3) := by decide +kernel
theorem dX12_doubt_5 : decode cX12_doubt 5 = .ok (.ifCond .eq 11, 3) := by decide +kernel
theorem dX12_doubt_16 : decode cX12_doubt 16 = .ok (.iconst (-1), 1) := by decide +kernel
theorem dX12_doubt_17 : decode cX12_doubt 17 = .ok (.ireturn, 1) := by decide +kernel
def wq_c_X12_doubt : List Cond := Cond.code yX12_doubt cX12_doubt 2 (some .int) :: (([Cond.methodLink RX12 406 yX12_isCart, Cond.instanceMethod yX12_isCart, Cond.selects RX12 yX12_isCart yX12_isCart, Cond.initialized RX12, Cond.code yX12_isCart cX12_isCart 2 (some .boolean), Cond.fieldLink RX12 98 "CrowTollModel" "state" "[I", Cond.methodLink RX12 366 yX12_isIn, Cond.static yX12_isIn, Cond.code yX12_isIn cX12_isIn 3 (some .boolean)] : List Cond) ++ wsX120)
set_option maxRecDepth 20000 in
theorem gr_c_X12_doubt_c_X12_isCart : GoodIn wq_c_X12_doubt wq_c_X12_isCart := List.forall_mem_cons.mpr ⟨⟨(List.mem_of_getElem? (i := 5) rfl), good_of_word rfl⟩, List.forall_mem_append.mpr ⟨List.forall_mem_cons.mpr ⟨⟨(List.mem_of_getElem? (i := 6) rfl), good_of_word rfl⟩, List.forall_mem_cons.mpr ⟨⟨(List.mem_of_getElem? (i := 7) rfl), good_of_word rfl⟩, List.forall_mem_cons.mpr ⟨⟨(List.mem_of_getElem? (i := 8) rfl), good_of_word rfl⟩, List.forall_mem_cons.mpr ⟨⟨(List.mem_of_getElem? (i := 4) rfl), good_of_word rfl⟩, List.forall_mem_cons.mpr ⟨⟨(List.mem_of_getElem? (i := 9) rfl), good_of_word rfl⟩, (fun _ h => absurd h List.not_mem_nil)⟩⟩⟩⟩⟩, fun w h => ⟨(fun w h => List.mem_cons_of_mem _ (List.mem_append_right _ h)) w h, good_of_word (List.all_eq_true.mp gw_X12 w h)⟩⟩⟩
set_option maxRecDepth 20000 in
theorem gq_c_X12_doubt_c_X12_isCart_406 : GoodIn wq_c_X12_doubt (wsV RX12 406 RX12 yX12_isCart wq_c_X12_isCart) := goodIn_app (List.forall_mem_cons.mpr ⟨⟨(List.mem_of_getElem? (i := 1) rfl), good_of_word rfl⟩, List.forall_mem_cons.mpr ⟨⟨(List.mem_of_getElem? (i := 2) rfl), good_of_word rfl⟩, List.forall_mem_cons.mpr ⟨⟨(List.mem_of_getElem? (i := 3) rfl), good_of_word rfl⟩, List.forall_mem_cons.mpr ⟨⟨(List.mem_of_getElem? (i := 4) rfl), good_of_word rfl⟩, (fun _ h => absurd h List.not_mem_nil)⟩⟩⟩⟩) gr_c_X12_doubt_c_X12_isCart
set_option maxHeartbeats 8000000 in
set_option maxRecDepth 100000 in
theorem c_X12_doubt (l : Launch) (D : va_G) (cy : Nat → ClassId) (ad : Nat → Nat) (g : Nat → va_E) {f0 : List Value} {n : Int32} (o0 : g 0 = .inr (12, f0)) (f0_41 : f0[41]? = some (.ref (ad 1))) (a1 : g 1 = .inl (cy 0, 80, .inl (fun _ => 0))) : cMi l yX12_doubt wq_c_X12_doubt { frames := 2, cells := 0, slots := 0, locals := 43 } 2 0 0 0 D cy ad g [.ref (ad 0), .int n] (fun r nw lu => r = -1) := by
  refine cM_of (Qc := fun A => cQi (fun r nw lu => r = -1) D 2 0 ad g A) (cc := cX12_doubt) (maxL := 2) (ret := (some .int)) (by decide) rfl (Nat.le_of_ble_eq_true rfl) ?_
  intro p e s m below meth c A hC hr hlk hnm hO ls hl
  have hC : CallFix p m c cX12_doubt 2 s [.ref (ad 0), .int n].toArray wq_c_X12_doubt RX12 := hC
  obtain ⟨hx, hb, hml, hown, hts⟩ := id hC
  have hl : lv_has ls 2 [(0, .ref (ad 0)), (1, .int n)] := hl
  have i_X12 : ∀ w ∈ wsX120, w ∈ wq_c_X12_doubt := fun w h => List.mem_cons_of_mem _ (List.mem_append_right _ h)
  refine lv_aload_n hx hb dX12_doubt_0 rfl (lv_at hl 0 rfl) ?_
  refine lv_iload_n hx hb dX12_doubt_1 rfl (lv_at hl 1 rfl) ?_
  refine cg_Vi (As := [.int n]) (rest := []) (mc := 0) (ms := 0) (rm := { frames := 1, cells := 0, slots := 0, locals := 22 }) hC hl.1 hO [0, 1] rfl (c_X12_isCart l D cy _ _ (f0 := f0) (n := n) o0 f0_41 a1) gq_c_X12_doubt_c_X12_isCart_406 rfl rfl rfl 1 (by decide +kernel) ⟨Nat.le_of_ble_eq_true rfl, Nat.le_of_ble_eq_true rfl⟩ rfl (by decide) o0 rfl rfl (Nat.le_of_ble_eq_true rfl) dX12_doubt_2 ⟨Nat.le_of_ble_eq_true rfl, Nat.le_of_ble_eq_true rfl⟩ (fun r_2_3 nw_2_1 l_2_2 H locs hw hO => ?_)
  obtain ⟨rfl, rfl⟩ := hw
  have hO : cO D cy A s.heap s 2 ad (cup [] g) _ _ := hO
  refine lv_if_eq (tgt := 16) hx hb dX12_doubt_5 (by decide) (fun _ => ?_) (fun h => absurd h (by decide))
  refine lv_iconst (v := (-1)) hx hb dX12_doubt_16 (by decide) ?_
  exact cg_iret (nw := fun _ => 0) hC hr hlk hO.same rfl (Nat.le_of_ble_eq_true rfl) (Nat.le_of_ble_eq_true rfl) rfl dX12_doubt_17

theorem dX12_learn_0 : decode cX12_learn 0 = .ok (.aload_n 0, 1) := by decide +kernel
theorem dX12_learn_1 : decode cX12_learn 1 = .ok (.iload_n 1, 1) := by decide +kernel
theorem dX12_learn_2 : decode cX12_learn 2 = .ok (.invokevirtual 418, 3) := by decide +kernel
theorem dX12_learn_5 : decode cX12_learn 5 = .ok (.ifCond .eq 34, 3) := by decide +kernel
theorem dX12_learn_39 : decode cX12_learn 39 = .ok (.iconst (-1), 1) := by decide +kernel
theorem dX12_learn_40 : decode cX12_learn 40 = .ok (.ireturn, 1) := by decide +kernel
def wq_c_X12_learn : List Cond := Cond.code yX12_learn cX12_learn 3 (some .int) :: (([Cond.methodLink RX12 418 yX12_isBird, Cond.instanceMethod yX12_isBird, Cond.selects RX12 yX12_isBird yX12_isBird, Cond.initialized RX12, Cond.code yX12_isBird cX12_isBird 2 (some .boolean), Cond.methodLink RX12 363 yX12_birdMany, Cond.instanceMethod yX12_birdMany, Cond.selects RX12 yX12_birdMany yX12_birdMany, Cond.code yX12_birdMany cX12_birdMany 1 (some .int), Cond.fieldLink RX12 20 "CrowTollModel" "birds" "[I", Cond.fieldLink RX12 286 "CrowTollModel" "bank" "I", Cond.methodLink RX12 366 yX12_isIn, Cond.static yX12_isIn, Cond.code yX12_isIn cX12_isIn 3 (some .boolean)] : List Cond) ++ wsX120)
set_option maxRecDepth 20000 in
theorem gr_c_X12_learn_c_X12_isBird : GoodIn wq_c_X12_learn wq_c_X12_isBird := List.forall_mem_cons.mpr ⟨⟨(List.mem_of_getElem? (i := 5) rfl), good_of_word rfl⟩, List.forall_mem_append.mpr ⟨List.forall_mem_cons.mpr ⟨⟨(List.mem_of_getElem? (i := 6) rfl), good_of_word rfl⟩, List.forall_mem_cons.mpr ⟨⟨(List.mem_of_getElem? (i := 7) rfl), good_of_word rfl⟩, List.forall_mem_cons.mpr ⟨⟨(List.mem_of_getElem? (i := 8) rfl), good_of_word rfl⟩, List.forall_mem_cons.mpr ⟨⟨(List.mem_of_getElem? (i := 4) rfl), good_of_word rfl⟩, List.forall_mem_cons.mpr ⟨⟨(List.mem_of_getElem? (i := 9) rfl), good_of_word rfl⟩, List.forall_mem_cons.mpr ⟨⟨(List.mem_of_getElem? (i := 10) rfl), good_of_word rfl⟩, List.forall_mem_cons.mpr ⟨⟨(List.mem_of_getElem? (i := 11) rfl), good_of_word rfl⟩, List.forall_mem_cons.mpr ⟨⟨(List.mem_of_getElem? (i := 12) rfl), good_of_word rfl⟩, List.forall_mem_cons.mpr ⟨⟨(List.mem_of_getElem? (i := 13) rfl), good_of_word rfl⟩, List.forall_mem_cons.mpr ⟨⟨(List.mem_of_getElem? (i := 14) rfl), good_of_word rfl⟩, (fun _ h => absurd h List.not_mem_nil)⟩⟩⟩⟩⟩⟩⟩⟩⟩⟩, fun w h => ⟨(fun w h => List.mem_cons_of_mem _ (List.mem_append_right _ h)) w h, good_of_word (List.all_eq_true.mp gw_X12 w h)⟩⟩⟩
set_option maxRecDepth 20000 in
theorem gq_c_X12_learn_c_X12_isBird_418 : GoodIn wq_c_X12_learn (wsV RX12 418 RX12 yX12_isBird wq_c_X12_isBird) := goodIn_app (List.forall_mem_cons.mpr ⟨⟨(List.mem_of_getElem? (i := 1) rfl), good_of_word rfl⟩, List.forall_mem_cons.mpr ⟨⟨(List.mem_of_getElem? (i := 2) rfl), good_of_word rfl⟩, List.forall_mem_cons.mpr ⟨⟨(List.mem_of_getElem? (i := 3) rfl), good_of_word rfl⟩, List.forall_mem_cons.mpr ⟨⟨(List.mem_of_getElem? (i := 4) rfl), good_of_word rfl⟩, (fun _ h => absurd h List.not_mem_nil)⟩⟩⟩⟩) gr_c_X12_learn_c_X12_isBird
set_option maxHeartbeats 8000000 in
set_option maxRecDepth 100000 in
theorem c_X12_learn (l : Launch) (D : va_G) (cy : Nat → ClassId) (ad : Nat → Nat) (g : Nat → va_E) {f0 : List Value} {n : Int32} {q : Int32} (o0 : g 0 = .inr (12, f0)) (f0_11 : f0[11]? = some (.ref (ad 1))) (f0_36 : f0[36]? = some (.int 0)) (a1 : g 1 = .inl (cy 0, 2, .inl (fun _ => 0))) : cMi l yX12_learn wq_c_X12_learn { frames := 2, cells := 0, slots := 0, locals := 43 } 2 0 0 0 D cy ad g [.ref (ad 0), .int n, .int q] (fun r nw lu => r = -1) := by
  refine cM_of (Qc := fun A => cQi (fun r nw lu => r = -1) D 2 0 ad g A) (cc := cX12_learn) (maxL := 3) (ret := (some .int)) (by decide) rfl (Nat.le_of_ble_eq_true rfl) ?_
  intro p e s m below meth c A hC hr hlk hnm hO ls hl
  have hC : CallFix p m c cX12_learn 3 s [.ref (ad 0), .int n, .int q].toArray wq_c_X12_learn RX12 := hC
  obtain ⟨hx, hb, hml, hown, hts⟩ := id hC
  have hl : lv_has ls 3 [(0, .ref (ad 0)), (1, .int n), (2, .int q)] := hl
  have i_X12 : ∀ w ∈ wsX120, w ∈ wq_c_X12_learn := fun w h => List.mem_cons_of_mem _ (List.mem_append_right _ h)
  refine lv_aload_n hx hb dX12_learn_0 rfl (lv_at hl 0 rfl) ?_
  refine lv_iload_n hx hb dX12_learn_1 rfl (lv_at hl 1 rfl) ?_
  refine cg_Vi (As := [.int n]) (rest := []) (mc := 0) (ms := 0) (rm := { frames := 1, cells := 0, slots := 0, locals := 22 }) hC hl.1 hO [0, 1] rfl (c_X12_isBird l D cy _ _ (f0 := f0) (n := n) o0 f0_11 f0_36 a1) gq_c_X12_learn_c_X12_isBird_418 rfl rfl rfl 1 (by decide +kernel) ⟨Nat.le_of_ble_eq_true rfl, Nat.le_of_ble_eq_true rfl⟩ rfl (by decide) o0 rfl rfl (Nat.le_of_ble_eq_true rfl) dX12_learn_2 ⟨Nat.le_of_ble_eq_true rfl, Nat.le_of_ble_eq_true rfl⟩ (fun r_2_3 nw_2_1 l_2_2 H locs hw hO => ?_)
  obtain ⟨rfl, rfl⟩ := hw
  have hO : cO D cy A s.heap s 2 ad (cup [] g) _ _ := hO
  refine lv_if_eq (tgt := 39) hx hb dX12_learn_5 (by decide) (fun _ => ?_) (fun h => absurd h (by decide))
  refine lv_iconst (v := (-1)) hx hb dX12_learn_39 (by decide) ?_
  exact cg_iret (nw := fun _ => 0) hC hr hlk hO.same rfl (Nat.le_of_ble_eq_true rfl) (Nat.le_of_ble_eq_true rfl) rfl dX12_learn_40

theorem dX12_undo_0 : decode cX12_undo 0 = .ok (.aload_n 0, 1) := by decide +kernel
theorem dX12_undo_1 : decode cX12_undo 1 = .ok (.getfield 373, 3) := by decide +kernel
theorem dX12_undo_4 : decode cX12_undo 4 = .ok (.ifCond .ne 5, 3) := by decide +kernel
theorem dX12_undo_7 : decode cX12_undo 7 = .ok (.iconst 0, 1) := by decide +kernel
theorem dX12_undo_8 : decode cX12_undo 8 = .ok (.ireturn, 1) := by decide +kernel
def wq_c_X12_undo : List Cond := Cond.code yX12_undo cX12_undo 1 (some .boolean) :: (([Cond.fieldLink RX12 373 "CrowTollModel" "acts" "I"] : List Cond) ++ wsX120)
set_option maxHeartbeats 8000000 in
set_option maxRecDepth 100000 in
theorem c_X12_undo (l : Launch) (D : va_G) (cy : Nat → ClassId) (ad : Nat → Nat) (g : Nat → va_E) {f0 : List Value} (o0 : g 0 = .inr (12, f0)) (f0_59 : f0[59]? = some (.int 0)) : cMi l yX12_undo wq_c_X12_undo { frames := 0, cells := 0, slots := 0, locals := 0 } 1 0 0 0 D cy ad g [.ref (ad 0)] (fun r nw lu => r = 0) := by
  refine cM_of (Qc := fun A => cQi (fun r nw lu => r = 0) D 1 0 ad g A) (cc := cX12_undo) (maxL := 1) (ret := (some .boolean)) (by decide) rfl (Nat.le_of_ble_eq_true rfl) ?_
  intro p e s m below meth c A hC hr hlk hnm hO ls hl
  have hC : CallFix p m c cX12_undo 1 s [.ref (ad 0)].toArray wq_c_X12_undo RX12 := hC
  obtain ⟨hx, hb, hml, hown, hts⟩ := id hC
  have hl : lv_has ls 1 [(0, .ref (ad 0))] := hl
  have i_X12 : ∀ w ∈ wsX120, w ∈ wq_c_X12_undo := fun w h => List.mem_cons_of_mem _ (List.mem_append_right _ h)
  refine lv_aload_n hx hb dX12_undo_0 rfl (lv_at hl 0 rfl) ?_
  refine cg_get hC hO 0 (by decide) o0 rfl i_X12 59 (by decide) (List.mem_of_getElem? (i := 1) rfl) f0_59 dX12_undo_1 ?_
  refine lv_if_ne (tgt := 9) hx hb dX12_undo_4 (by decide) (fun h => absurd h (by decide)) (fun _ => ?_)
  refine lv_iconst (v := 0) hx hb dX12_undo_7 (by decide) ?_
  exact cg_iret (nw := fun _ => 0) hC hr hlk hO.same rfl (Nat.le_of_ble_eq_true rfl) (Nat.le_of_ble_eq_true rfl) rfl dX12_undo_8

theorem dX12_redo_0 : decode cX12_redo 0 = .ok (.aload_n 0, 1) := by decide +kernel
theorem dX12_redo_1 : decode cX12_redo 1 = .ok (.getfield 376, 3) := by decide +kernel
theorem dX12_redo_4 : decode cX12_redo 4 = .ok (.ifCond .ne 5, 3) := by decide +kernel
theorem dX12_redo_7 : decode cX12_redo 7 = .ok (.iconst 0, 1) := by decide +kernel
theorem dX12_redo_8 : decode cX12_redo 8 = .ok (.ireturn, 1) := by decide +kernel
def wq_c_X12_redo : List Cond := Cond.code yX12_redo cX12_redo 1 (some .boolean) :: (([Cond.fieldLink RX12 376 "CrowTollModel" "undone" "I"] : List Cond) ++ wsX120)
set_option maxHeartbeats 8000000 in
set_option maxRecDepth 100000 in
theorem c_X12_redo (l : Launch) (D : va_G) (cy : Nat → ClassId) (ad : Nat → Nat) (g : Nat → va_E) {f0 : List Value} (o0 : g 0 = .inr (12, f0)) (f0_60 : f0[60]? = some (.int 0)) : cMi l yX12_redo wq_c_X12_redo { frames := 0, cells := 0, slots := 0, locals := 0 } 1 0 0 0 D cy ad g [.ref (ad 0)] (fun r nw lu => r = 0) := by
  refine cM_of (Qc := fun A => cQi (fun r nw lu => r = 0) D 1 0 ad g A) (cc := cX12_redo) (maxL := 1) (ret := (some .boolean)) (by decide) rfl (Nat.le_of_ble_eq_true rfl) ?_
  intro p e s m below meth c A hC hr hlk hnm hO ls hl
  have hC : CallFix p m c cX12_redo 1 s [.ref (ad 0)].toArray wq_c_X12_redo RX12 := hC
  obtain ⟨hx, hb, hml, hown, hts⟩ := id hC
  have hl : lv_has ls 1 [(0, .ref (ad 0))] := hl
  have i_X12 : ∀ w ∈ wsX120, w ∈ wq_c_X12_redo := fun w h => List.mem_cons_of_mem _ (List.mem_append_right _ h)
  refine lv_aload_n hx hb dX12_redo_0 rfl (lv_at hl 0 rfl) ?_
  refine cg_get hC hO 0 (by decide) o0 rfl i_X12 60 (by decide) (List.mem_of_getElem? (i := 1) rfl) f0_60 dX12_redo_1 ?_
  refine lv_if_ne (tgt := 9) hx hb dX12_redo_4 (by decide) (fun h => absurd h (by decide)) (fun _ => ?_)
  refine lv_iconst (v := 0) hx hb dX12_redo_7 (by decide) ?_
  exact cg_iret (nw := fun _ => 0) hC hr hlk hO.same rfl (Nat.le_of_ble_eq_true rfl) (Nat.le_of_ble_eq_true rfl) rfl dX12_redo_8

theorem dX12_lies_0 : decode cX12_lies 0 = .ok (.iload_n 1, 1) := by decide +kernel
theorem dX12_lies_1 : decode cX12_lies 1 = .ok (.iconst 0, 1) := by decide +kernel
theorem dX12_lies_2 : decode cX12_lies 2 = .ok (.aload_n 0, 1) := by decide +kernel
theorem dX12_lies_3 : decode cX12_lies 3 = .ok (.getfield 295, 3) := by decide +kernel
theorem dX12_lies_6 : decode cX12_lies 6 = .ok (.iconst 1, 1) := by decide +kernel
theorem dX12_lies_7 : decode cX12_lies 7 = .ok (.isub, 1) := by decide +kernel
theorem dX12_lies_8 : decode cX12_lies 8 = .ok (.invokestatic 366, 3) := by decide +kernel
theorem dX12_lies_11 : decode cX12_lies 11 = .ok (.ifCond .eq 12, 3) := by decide +kernel
theorem dX12_lies_23 : decode cX12_lies 23 = .ok (.iconst (-1), 1) := by decide +kernel
theorem dX12_lies_24 : decode cX12_lies 24 = .ok (.ireturn, 1) := by decide +kernel
def wq_c_X12_lies : List Cond := Cond.code yX12_lies cX12_lies 2 (some .int) :: (([Cond.fieldLink RX12 295 "CrowTollModel" "laid" "I", Cond.methodLink RX12 366 yX12_isIn, Cond.static yX12_isIn, Cond.initialized RX12, Cond.code yX12_isIn cX12_isIn 3 (some .boolean)] : List Cond) ++ wsX120)
set_option maxRecDepth 20000 in
theorem gr_c_X12_lies_c_X12_isIn : GoodIn wq_c_X12_lies wq_c_X12_isIn := List.forall_mem_cons.mpr ⟨⟨(List.mem_of_getElem? (i := 5) rfl), good_of_word rfl⟩, (fun _ h => absurd h List.not_mem_nil)⟩
set_option maxRecDepth 20000 in
theorem gq_c_X12_lies_c_X12_isIn_366 : GoodIn wq_c_X12_lies (va_wsS RX12 366 yX12_isIn wq_c_X12_isIn) := goodIn_app (List.forall_mem_cons.mpr ⟨⟨(List.mem_of_getElem? (i := 2) rfl), good_of_word rfl⟩, List.forall_mem_cons.mpr ⟨⟨(List.mem_of_getElem? (i := 3) rfl), good_of_word rfl⟩, List.forall_mem_cons.mpr ⟨⟨(List.mem_of_getElem? (i := 4) rfl), good_of_word rfl⟩, (fun _ h => absurd h List.not_mem_nil)⟩⟩⟩) gr_c_X12_lies_c_X12_isIn
set_option maxHeartbeats 8000000 in
set_option maxRecDepth 100000 in
theorem c_X12_lies (l : Launch) (D : va_G) (cy : Nat → ClassId) (ad : Nat → Nat) (g : Nat → va_E) {f0 : List Value} {n : Int32} (o0 : g 0 = .inr (12, f0)) (f0_62 : f0[62]? = some (.int 0)) : cMi l yX12_lies wq_c_X12_lies { frames := 1, cells := 0, slots := 0, locals := 22 } 1 0 0 0 D cy ad g [.ref (ad 0), .int n] (fun r nw lu => r = -1) := by
  refine cM_of (Qc := fun A => cQi (fun r nw lu => r = -1) D 1 0 ad g A) (cc := cX12_lies) (maxL := 2) (ret := (some .int)) (by decide) rfl (Nat.le_of_ble_eq_true rfl) ?_
  intro p e s m below meth c A hC hr hlk hnm hO ls hl
  have hC : CallFix p m c cX12_lies 2 s [.ref (ad 0), .int n].toArray wq_c_X12_lies RX12 := hC
  obtain ⟨hx, hb, hml, hown, hts⟩ := id hC
  have hl : lv_has ls 2 [(0, .ref (ad 0)), (1, .int n)] := hl
  have i_X12 : ∀ w ∈ wsX120, w ∈ wq_c_X12_lies := fun w h => List.mem_cons_of_mem _ (List.mem_append_right _ h)
  refine lv_iload_n hx hb dX12_lies_0 rfl (lv_at hl 1 rfl) ?_
  refine lv_iconst (v := 0) hx hb dX12_lies_1 (by decide) ?_
  refine lv_aload_n hx hb dX12_lies_2 rfl (lv_at hl 0 rfl) ?_
  refine cg_get hC hO 0 (by decide) o0 rfl i_X12 62 (by decide) (List.mem_of_getElem? (i := 1) rfl) f0_62 dX12_lies_3 ?_
  refine lv_iconst (v := 1) hx hb dX12_lies_6 (by decide) ?_
  refine lv_isub hx hb dX12_lies_7 ?_
  refine cg_ev (v := (-1)) (by decide) ?_
  refine cg_Si (As := [.int n, .int 0, .int (-1)]) (rest := []) (mc := 0) (ms := 0) (rm := { frames := 0, cells := 0, slots := 0, locals := 0 }) hC hl.1 hO [] rfl (c_X12_isIn l D cy _ _ (x := n) (y := 0) (z := (-1)) ) gq_c_X12_lies_c_X12_isIn_366 rfl rfl rfl 3 (by decide +kernel) ⟨Nat.le_of_ble_eq_true rfl, Nat.le_of_ble_eq_true rfl⟩ rfl rfl (Nat.le_of_ble_eq_true rfl) dX12_lies_8 ⟨Nat.le_of_ble_eq_true rfl, Nat.le_of_ble_eq_true rfl⟩ (fun r_8_3 nw_8_1 l_8_2 H locs hw hO => ?_)
  rcases hw with hw | hw
  · obtain ⟨hr_8_4, rfl, rfl⟩ := hw
    exact absurd (Int32.le_trans hr_8_4.1 hr_8_4.2) (by decide)
  · obtain ⟨hr_8_5, rfl, rfl⟩ := hw
    have hO : cO D cy A s.heap s 1 ad (cup [] g) _ _ := hO
    refine lv_if_eq (tgt := 23) hx hb dX12_lies_11 (by decide) (fun _ => ?_) (fun h => absurd h (by decide))
    refine lv_iconst (v := (-1)) hx hb dX12_lies_23 (by decide) ?_
    exact cg_iret (nw := fun _ => 0) hC hr hlk hO.same rfl (Nat.le_of_ble_eq_true rfl) (Nat.le_of_ble_eq_true rfl) rfl dX12_lies_24

theorem dX12_rest_0 : decode cX12_rest 0 = .ok (.aload_n 0, 1) := by decide +kernel
theorem dX12_rest_1 : decode cX12_rest 1 = .ok (.iconst 0, 1) := by decide +kernel
theorem dX12_rest_2 : decode cX12_rest 2 = .ok (.putfield 295, 3) := by decide +kernel
theorem dX12_rest_5 : decode cX12_rest 5 = .ok (.iconst 0, 1) := by decide +kernel
theorem dX12_rest_6 : decode cX12_rest 6 = .ok (.istore_n 1, 1) := by decide +kernel
theorem dX12_rest_7 : decode cX12_rest 7 = .ok (.iconst 0, 1) := by decide +kernel
theorem dX12_rest_8 : decode cX12_rest 8 = .ok (.istore_n 2, 1) := by decide +kernel
theorem dX12_rest_9 : decode cX12_rest 9 = .ok (.iload_n 2, 1) := by decide +kernel
theorem dX12_rest_10 : decode cX12_rest 10 = .ok (.aload_n 0, 1) := by decide +kernel
theorem dX12_rest_11 : decode cX12_rest 11 = .ok (.getfield 98, 3) := by decide +kernel
theorem dX12_rest_14 : decode cX12_rest 14 = .ok (.iconst 0, 1) := by decide +kernel
theorem dX12_rest_15 : decode cX12_rest 15 = .ok (.iaload, 1) := by decide +kernel
theorem dX12_rest_16 : decode cX12_rest 16 = .ok (.if_icmp .ge 28, 3) := by decide +kernel
theorem dX12_rest_44 : decode cX12_rest 44 = .ok (.iload_n 1, 1) := by decide +kernel
theorem dX12_rest_45 : decode cX12_rest 45 = .ok (.bipush 8, 2) := by decide +kernel
theorem dX12_rest_47 : decode cX12_rest 47 = .ok (.if_icmp .le 5, 3) := by decide +kernel
theorem dX12_rest_52 : decode cX12_rest 52 = .ok (.iconst 1, 1) := by decide +kernel
theorem dX12_rest_53 : decode cX12_rest 53 = .ok (.istore_n 2, 1) := by decide +kernel
theorem dX12_rest_54 : decode cX12_rest 54 = .ok (.iload_n 2, 1) := by decide +kernel
theorem dX12_rest_55 : decode cX12_rest 55 = .ok (.bipush 20, 2) := by decide +kernel
theorem dX12_rest_57 : decode cX12_rest 57 = .ok (.if_icmp .gt 139, 3) := by decide +kernel
theorem dX12_rest_60 : decode cX12_rest 60 = .ok (.iconst 0, 1) := by decide +kernel
theorem dX12_rest_61 : decode cX12_rest 61 = .ok (.istore_n 3, 1) := by decide +kernel
theorem dX12_rest_62 : decode cX12_rest 62 = .ok (.iconst 0, 1) := by decide +kernel
theorem dX12_rest_63 : decode cX12_rest 63 = .ok (.istore 4, 2) := by decide +kernel
theorem dX12_rest_65 : decode cX12_rest 65 = .ok (.iload 4, 2) := by decide +kernel
theorem dX12_rest_67 : decode cX12_rest 67 = .ok (.aload_n 0, 1) := by decide +kernel
theorem dX12_rest_68 : decode cX12_rest 68 = .ok (.getfield 98, 3) := by decide +kernel
theorem dX12_rest_71 : decode cX12_rest 71 = .ok (.iconst 0, 1) := by decide +kernel
theorem dX12_rest_72 : decode cX12_rest 72 = .ok (.iaload, 1) := by decide +kernel
theorem dX12_rest_73 : decode cX12_rest 73 = .ok (.if_icmp .ge 64, 3) := by decide +kernel
theorem dX12_rest_137 : decode cX12_rest 137 = .ok (.iload_n 3, 1) := by decide +kernel
theorem dX12_rest_138 : decode cX12_rest 138 = .ok (.ifCond .eq 6, 3) := by decide +kernel
theorem dX12_rest_144 : decode cX12_rest 144 = .ok (.iconst 0, 1) := by decide +kernel
theorem dX12_rest_145 : decode cX12_rest 145 = .ok (.istore 4, 2) := by decide +kernel
theorem dX12_rest_147 : decode cX12_rest 147 = .ok (.iload 4, 2) := by decide +kernel
theorem dX12_rest_149 : decode cX12_rest 149 = .ok (.aload_n 0, 1) := by decide +kernel
theorem dX12_rest_150 : decode cX12_rest 150 = .ok (.getfield 98, 3) := by decide +kernel
theorem dX12_rest_153 : decode cX12_rest 153 = .ok (.iconst 0, 1) := by decide +kernel
theorem dX12_rest_154 : decode cX12_rest 154 = .ok (.iaload, 1) := by decide +kernel
theorem dX12_rest_155 : decode cX12_rest 155 = .ok (.if_icmp .ge 23, 3) := by decide +kernel
theorem dX12_rest_178 : decode cX12_rest 178 = .ok (.aload_n 0, 1) := by decide +kernel
theorem dX12_rest_179 : decode cX12_rest 179 = .ok (.aload_n 0, 1) := by decide +kernel
theorem dX12_rest_180 : decode cX12_rest 180 = .ok (.getfield 98, 3) := by decide +kernel
theorem dX12_rest_183 : decode cX12_rest 183 = .ok (.iconst 0, 1) := by decide +kernel
theorem dX12_rest_184 : decode cX12_rest 184 = .ok (.iaload, 1) := by decide +kernel
theorem dX12_rest_185 : decode cX12_rest 185 = .ok (.putfield 295, 3) := by decide +kernel
theorem dX12_rest_188 : decode cX12_rest 188 = .ok (.iload_n 2, 1) := by decide +kernel
theorem dX12_rest_189 : decode cX12_rest 189 = .ok (.ireturn, 1) := by decide +kernel
def wq_c_X12_rest : List Cond := Cond.code yX12_rest cX12_rest 6 (some .int) :: (([Cond.fieldLink RX12 295 "CrowTollModel" "laid" "I", Cond.fieldLink RX12 98 "CrowTollModel" "state" "[I"] : List Cond) ++ wsX120)
set_option maxHeartbeats 8000000 in
set_option maxRecDepth 100000 in
theorem c_X12_rest (l : Launch) (D : va_G) (cy : Nat → ClassId) (ad : Nat → Nat) (g : Nat → va_E) {f0 : List Value} (o0 : g 0 = .inr (12, f0)) (f0_41 : f0[41]? = some (.ref (ad 1))) (f0_62 : f0[62]? = some (.int 0)) (a1 : g 1 = .inl (cy 0, 80, .inl (fun _ => 0))) : cMi l yX12_rest wq_c_X12_rest { frames := 0, cells := 0, slots := 0, locals := 0 } 2 0 0 0 D cy ad g [.ref (ad 0)] (fun r nw lu => r = 1) := by
  refine cM_of (Qc := fun A => cQi (fun r nw lu => r = 1) D 2 0 ad g A) (cc := cX12_rest) (maxL := 6) (ret := (some .int)) (by decide) rfl (Nat.le_of_ble_eq_true rfl) ?_
  intro p e s m below meth c A hC hr hlk hnm hO ls hl
  have hC : CallFix p m c cX12_rest 6 s [.ref (ad 0)].toArray wq_c_X12_rest RX12 := hC
  obtain ⟨hx, hb, hml, hown, hts⟩ := id hC
  have hl : lv_has ls 6 [(0, .ref (ad 0))] := hl
  have i_X12 : ∀ w ∈ wsX120, w ∈ wq_c_X12_rest := fun w h => List.mem_cons_of_mem _ (List.mem_append_right _ h)
  refine lv_aload_n hx hb dX12_rest_0 rfl (lv_at hl 0 rfl) ?_
  refine lv_iconst (v := 0) hx hb dX12_rest_1 (by decide) ?_
  refine cg_put hC hO 0 (by decide) o0 rfl i_X12 tyX12_ok nmX12 62 (by decide) (List.mem_of_getElem? (i := 1) rfl) rfl rfl rfl (fs_lt f0_62) dX12_rest_2 (fun H locs hO => ?_)
  have hO : cO D cy A s.heap s 2 ad (cup [(0, .inr (12, (f0.set 62 (.int 0))))] g) _ _ := hO
  refine lv_iconst (v := 0) hx hb dX12_rest_5 (by decide) ?_
  refine lv_istore_n (lv' := [(1, .int 0), (0, .ref (ad 0))]) hx hb dX12_rest_6 rfl hl (by decide) rfl (fun ls hl => ?_)
  refine lv_iconst (v := 0) hx hb dX12_rest_7 (by decide) ?_
  refine lv_istore_n (lv' := [(2, .int 0), (1, .int 0), (0, .ref (ad 0))]) hx hb dX12_rest_8 rfl hl (by decide) rfl (fun ls hl => ?_)
  refine lv_iload_n hx hb dX12_rest_9 rfl (lv_at hl 0 rfl) ?_
  refine lv_aload_n hx hb dX12_rest_10 rfl (lv_at hl 2 rfl) ?_
  refine cg_get hC hO 0 (by decide) rfl rfl i_X12 41 (by decide) (List.mem_of_getElem? (i := 2) rfl) (fs_ne (by decide) f0_41) dX12_rest_11 ?_
  refine lv_iconst (v := 0) hx hb dX12_rest_14 (by decide) ?_
  refine cg_iald hC hO 1 (by decide) a1 (cin (by decide)) dX12_rest_15 ?_
  refine cg_ev (v := 0) (rfl) ?_
  refine lv_icmp_ge (tgt := 44) hx hb dX12_rest_16 (by decide) (fun _ => ?_) (fun h => absurd h (by decide))
  refine lv_iload_n hx hb dX12_rest_44 rfl (lv_at hl 1 rfl) ?_
  refine lv_bipush (v := 8) hx hb dX12_rest_45 (by decide) ?_
  refine lv_icmp_le (tgt := 52) hx hb dX12_rest_47 (by decide) (fun _ => ?_) (fun h => absurd h (by decide))
  refine lv_iconst (v := 1) hx hb dX12_rest_52 (by decide) ?_
  refine lv_istore_n (lv' := [(2, .int 1), (1, .int 0), (0, .ref (ad 0))]) hx hb dX12_rest_53 rfl hl (by decide) rfl (fun ls hl => ?_)
  refine lv_iload_n hx hb dX12_rest_54 rfl (lv_at hl 0 rfl) ?_
  refine lv_bipush (v := 20) hx hb dX12_rest_55 (by decide) ?_
  refine lv_icmp_gt (tgt := 196) hx hb dX12_rest_57 (by decide) (fun h => absurd h (by decide)) (fun _ => ?_)
  refine lv_iconst (v := 0) hx hb dX12_rest_60 (by decide) ?_
  refine lv_istore_n (lv' := [(3, .int 0), (2, .int 1), (1, .int 0), (0, .ref (ad 0))]) hx hb dX12_rest_61 rfl hl (by decide) rfl (fun ls hl => ?_)
  refine lv_iconst (v := 0) hx hb dX12_rest_62 (by decide) ?_
  refine lv_istore (lv' := [(4, .int 0), (3, .int 0), (2, .int 1), (1, .int 0), (0, .ref (ad 0))]) hx hb dX12_rest_63 hl (by decide) rfl (fun ls hl => ?_)
  refine lv_iload hx hb dX12_rest_65 (lv_at hl 0 rfl) ?_
  refine lv_aload_n hx hb dX12_rest_67 rfl (lv_at hl 4 rfl) ?_
  refine cg_get hC hO 0 (by decide) rfl rfl i_X12 41 (by decide) (List.mem_of_getElem? (i := 2) rfl) (fs_ne (by decide) f0_41) dX12_rest_68 ?_
  refine lv_iconst (v := 0) hx hb dX12_rest_71 (by decide) ?_
  refine cg_iald hC hO 1 (by decide) a1 (cin (by decide)) dX12_rest_72 ?_
  refine cg_ev (v := 0) (rfl) ?_
  refine lv_icmp_ge (tgt := 137) hx hb dX12_rest_73 (by decide) (fun _ => ?_) (fun h => absurd h (by decide))
  refine lv_iload_n hx hb dX12_rest_137 rfl (lv_at hl 1 rfl) ?_
  refine lv_if_eq (tgt := 144) hx hb dX12_rest_138 (by decide) (fun _ => ?_) (fun h => absurd h (by decide))
  refine lv_iconst (v := 0) hx hb dX12_rest_144 (by decide) ?_
  refine lv_istore (lv' := [(4, .int 0), (3, .int 0), (2, .int 1), (1, .int 0), (0, .ref (ad 0))]) hx hb dX12_rest_145 hl (by decide) rfl (fun ls hl => ?_)
  refine lv_iload hx hb dX12_rest_147 (lv_at hl 0 rfl) ?_
  refine lv_aload_n hx hb dX12_rest_149 rfl (lv_at hl 4 rfl) ?_
  refine cg_get hC hO 0 (by decide) rfl rfl i_X12 41 (by decide) (List.mem_of_getElem? (i := 2) rfl) (fs_ne (by decide) f0_41) dX12_rest_150 ?_
  refine lv_iconst (v := 0) hx hb dX12_rest_153 (by decide) ?_
  refine cg_iald hC hO 1 (by decide) a1 (cin (by decide)) dX12_rest_154 ?_
  refine cg_ev (v := 0) (rfl) ?_
  refine lv_icmp_ge (tgt := 178) hx hb dX12_rest_155 (by decide) (fun _ => ?_) (fun h => absurd h (by decide))
  refine lv_aload_n hx hb dX12_rest_178 rfl (lv_at hl 4 rfl) ?_
  refine lv_aload_n hx hb dX12_rest_179 rfl (lv_at hl 4 rfl) ?_
  refine cg_get hC hO 0 (by decide) rfl rfl i_X12 41 (by decide) (List.mem_of_getElem? (i := 2) rfl) (fs_ne (by decide) f0_41) dX12_rest_180 ?_
  refine lv_iconst (v := 0) hx hb dX12_rest_183 (by decide) ?_
  refine cg_iald hC hO 1 (by decide) a1 (cin (by decide)) dX12_rest_184 ?_
  refine cg_ev (v := 0) (rfl) ?_
  refine cg_put hC hO 0 (by decide) rfl rfl i_X12 tyX12_ok nmX12 62 (by decide) (List.mem_of_getElem? (i := 1) rfl) rfl rfl rfl (fs_lt (fs_eq f0_62)) dX12_rest_185 (fun H locs hO => ?_)
  have hO : cO D cy A s.heap s 2 ad (cup [(0, .inr (12, ((f0.set 62 (.int 0)).set 62 (.int 0))))] g) _ _ := hO
  refine lv_iload_n hx hb dX12_rest_188 rfl (lv_at hl 2 rfl) ?_
  exact cg_iret (nw := fun _ => 0) hC hr hlk hO.same rfl (Nat.le_of_ble_eq_true rfl) (Nat.le_of_ble_eq_true rfl) rfl dX12_rest_189

theorem dX12_rows_0 : decode cX12_rows 0 = .ok (.iconst 1, 1) := by decide +kernel
theorem dX12_rows_1 : decode cX12_rows 1 = .ok (.istore_n 2, 1) := by decide +kernel
theorem dX12_rows_2 : decode cX12_rows 2 = .ok (.iconst 0, 1) := by decide +kernel
theorem dX12_rows_3 : decode cX12_rows 3 = .ok (.istore_n 3, 1) := by decide +kernel
theorem dX12_rows_4 : decode cX12_rows 4 = .ok (.iload_n 3, 1) := by decide +kernel
theorem dX12_rows_5 : decode cX12_rows 5 = .ok (.aload_n 0, 1) := by decide +kernel
theorem dX12_rows_6 : decode cX12_rows 6 = .ok (.invokevirtual 363, 3) := by decide +kernel
theorem dX12_rows_9 : decode cX12_rows 9 = .ok (.if_icmp .ge 13, 3) := by decide +kernel
theorem dX12_rows_22 : decode cX12_rows 22 = .ok (.iload_n 2, 1) := by decide +kernel
theorem dX12_rows_23 : decode cX12_rows 23 = .ok (.ireturn, 1) := by decide +kernel
def wq_c_X12_rows : List Cond := Cond.code yX12_rows cX12_rows 4 (some .int) :: (([Cond.methodLink RX12 363 yX12_birdMany, Cond.instanceMethod yX12_birdMany, Cond.selects RX12 yX12_birdMany yX12_birdMany, Cond.initialized RX12, Cond.code yX12_birdMany cX12_birdMany 1 (some .int), Cond.fieldLink RX12 20 "CrowTollModel" "birds" "[I", Cond.fieldLink RX12 286 "CrowTollModel" "bank" "I"] : List Cond) ++ wsX120)
set_option maxRecDepth 20000 in
theorem gr_c_X12_rows_c_birdMany0 : GoodIn wq_c_X12_rows wq_c_birdMany0 := List.forall_mem_cons.mpr ⟨⟨(List.mem_of_getElem? (i := 5) rfl), good_of_word rfl⟩, List.forall_mem_append.mpr ⟨List.forall_mem_cons.mpr ⟨⟨(List.mem_of_getElem? (i := 6) rfl), good_of_word rfl⟩, List.forall_mem_cons.mpr ⟨⟨(List.mem_of_getElem? (i := 7) rfl), good_of_word rfl⟩, (fun _ h => absurd h List.not_mem_nil)⟩⟩, fun w h => ⟨(fun w h => List.mem_cons_of_mem _ (List.mem_append_right _ h)) w h, good_of_word (List.all_eq_true.mp gw_X12 w h)⟩⟩⟩
set_option maxRecDepth 20000 in
theorem gq_c_X12_rows_c_birdMany0_363 : GoodIn wq_c_X12_rows (wsV RX12 363 RX12 yX12_birdMany wq_c_birdMany0) := goodIn_app (List.forall_mem_cons.mpr ⟨⟨(List.mem_of_getElem? (i := 1) rfl), good_of_word rfl⟩, List.forall_mem_cons.mpr ⟨⟨(List.mem_of_getElem? (i := 2) rfl), good_of_word rfl⟩, List.forall_mem_cons.mpr ⟨⟨(List.mem_of_getElem? (i := 3) rfl), good_of_word rfl⟩, List.forall_mem_cons.mpr ⟨⟨(List.mem_of_getElem? (i := 4) rfl), good_of_word rfl⟩, (fun _ h => absurd h List.not_mem_nil)⟩⟩⟩⟩) gr_c_X12_rows_c_birdMany0
set_option maxHeartbeats 8000000 in
set_option maxRecDepth 100000 in
theorem c_X12_rows (l : Launch) (D : va_G) (cy : Nat → ClassId) (ad : Nat → Nat) (g : Nat → va_E) {f0 : List Value} {x : Int32} (o0 : g 0 = .inr (12, f0)) (f0_11 : f0[11]? = some (.ref (ad 1))) (f0_36 : f0[36]? = some (.int 0)) (a1 : g 1 = .inl (cy 0, 2, .inl (fun _ => 0))) : cMi l yX12_rows wq_c_X12_rows { frames := 1, cells := 0, slots := 0, locals := 20 } 2 0 0 0 D cy ad g [.ref (ad 0), .int x] (fun r nw lu => (r = 1) ∧ (lu = [])) := by
  refine cM_of (Qc := fun A => cQi (fun r nw lu => (r = 1) ∧ (lu = [])) D 2 0 ad g A) (cc := cX12_rows) (maxL := 4) (ret := (some .int)) (by decide) rfl (Nat.le_of_ble_eq_true rfl) ?_
  intro p e s m below meth c A hC hr hlk hnm hO ls hl
  have hC : CallFix p m c cX12_rows 4 s [.ref (ad 0), .int x].toArray wq_c_X12_rows RX12 := hC
  obtain ⟨hx, hb, hml, hown, hts⟩ := id hC
  have hl : lv_has ls 4 [(0, .ref (ad 0)), (1, .int x)] := hl
  have i_X12 : ∀ w ∈ wsX120, w ∈ wq_c_X12_rows := fun w h => List.mem_cons_of_mem _ (List.mem_append_right _ h)
  refine lv_iconst (v := 1) hx hb dX12_rows_0 (by decide) ?_
  refine lv_istore_n (lv' := [(2, .int 1), (0, .ref (ad 0)), (1, .int x)]) hx hb dX12_rows_1 rfl hl (by decide) rfl (fun ls hl => ?_)
  refine lv_iconst (v := 0) hx hb dX12_rows_2 (by decide) ?_
  refine lv_istore_n (lv' := [(3, .int 0), (2, .int 1), (0, .ref (ad 0)), (1, .int x)]) hx hb dX12_rows_3 rfl hl (by decide) rfl (fun ls hl => ?_)
  refine lv_iload_n hx hb dX12_rows_4 rfl (lv_at hl 0 rfl) ?_
  refine lv_aload_n hx hb dX12_rows_5 rfl (lv_at hl 2 rfl) ?_
  refine cg_Vi (As := []) (rest := [.int 0]) (mc := 0) (ms := 0) (rm := { frames := 0, cells := 0, slots := 0, locals := 0 }) hC hl.1 hO [0, 1] rfl (c_birdMany0 l D cy _ _ (f0 := f0) o0 f0_11 f0_36 a1) gq_c_X12_rows_c_birdMany0_363 rfl rfl rfl 0 (by decide +kernel) ⟨Nat.le_of_ble_eq_true rfl, Nat.le_of_ble_eq_true rfl⟩ rfl (by decide) o0 rfl rfl (Nat.le_of_ble_eq_true rfl) dX12_rows_6 ⟨Nat.le_of_ble_eq_true rfl, Nat.le_of_ble_eq_true rfl⟩ (fun r_6_3 nw_6_1 l_6_2 H locs hw hO => ?_)
  obtain ⟨rfl, rfl⟩ := hw
  have hO : cO D cy A s.heap s 2 ad (cup [] g) _ _ := hO
  refine lv_icmp_ge (tgt := 22) hx hb dX12_rows_9 (by decide) (fun _ => ?_) (fun h => absurd h (by decide))
  refine lv_iload_n hx hb dX12_rows_22 rfl (lv_at hl 1 rfl) ?_
  exact cg_iret (nw := fun _ => 0) hC hr hlk hO.same rfl (Nat.le_of_ble_eq_true rfl) (Nat.le_of_ble_eq_true rfl) (⟨rfl, rfl⟩) dX12_rows_23

theorem dX12_layRow_0 : decode cX12_layRow 0 = .ok (.iload_n 1, 1) := by decide +kernel
theorem dX12_layRow_1 : decode cX12_layRow 1 = .ok (.istore_n 3, 1) := by decide +kernel
theorem dX12_layRow_2 : decode cX12_layRow 2 = .ok (.aload_n 0, 1) := by decide +kernel
theorem dX12_layRow_3 : decode cX12_layRow 3 = .ok (.invokevirtual 363, 3) := by decide +kernel
theorem dX12_layRow_6 : decode cX12_layRow 6 = .ok (.iconst 1, 1) := by decide +kernel
theorem dX12_layRow_7 : decode cX12_layRow 7 = .ok (.isub, 1) := by decide +kernel
theorem dX12_layRow_8 : decode cX12_layRow 8 = .ok (.istore 4, 2) := by decide +kernel
theorem dX12_layRow_10 : decode cX12_layRow 10 = .ok (.iload 4, 2) := by decide +kernel
theorem dX12_layRow_12 : decode cX12_layRow 12 = .ok (.ifCond .lt 23, 3) := by decide +kernel
theorem dX12_layRow_35 : decode cX12_layRow 35 = .ok (.return_, 1) := by decide +kernel
def wq_c_X12_layRow : List Cond := Cond.code yX12_layRow cX12_layRow 5 none :: (([Cond.methodLink RX12 363 yX12_birdMany, Cond.instanceMethod yX12_birdMany, Cond.selects RX12 yX12_birdMany yX12_birdMany, Cond.initialized RX12, Cond.code yX12_birdMany cX12_birdMany 1 (some .int), Cond.fieldLink RX12 20 "CrowTollModel" "birds" "[I", Cond.fieldLink RX12 286 "CrowTollModel" "bank" "I"] : List Cond) ++ wsX120)
set_option maxRecDepth 20000 in
theorem gr_c_X12_layRow_c_birdMany0 : GoodIn wq_c_X12_layRow wq_c_birdMany0 := List.forall_mem_cons.mpr ⟨⟨(List.mem_of_getElem? (i := 5) rfl), good_of_word rfl⟩, List.forall_mem_append.mpr ⟨List.forall_mem_cons.mpr ⟨⟨(List.mem_of_getElem? (i := 6) rfl), good_of_word rfl⟩, List.forall_mem_cons.mpr ⟨⟨(List.mem_of_getElem? (i := 7) rfl), good_of_word rfl⟩, (fun _ h => absurd h List.not_mem_nil)⟩⟩, fun w h => ⟨(fun w h => List.mem_cons_of_mem _ (List.mem_append_right _ h)) w h, good_of_word (List.all_eq_true.mp gw_X12 w h)⟩⟩⟩
set_option maxRecDepth 20000 in
theorem gq_c_X12_layRow_c_birdMany0_363 : GoodIn wq_c_X12_layRow (wsV RX12 363 RX12 yX12_birdMany wq_c_birdMany0) := goodIn_app (List.forall_mem_cons.mpr ⟨⟨(List.mem_of_getElem? (i := 1) rfl), good_of_word rfl⟩, List.forall_mem_cons.mpr ⟨⟨(List.mem_of_getElem? (i := 2) rfl), good_of_word rfl⟩, List.forall_mem_cons.mpr ⟨⟨(List.mem_of_getElem? (i := 3) rfl), good_of_word rfl⟩, List.forall_mem_cons.mpr ⟨⟨(List.mem_of_getElem? (i := 4) rfl), good_of_word rfl⟩, (fun _ h => absurd h List.not_mem_nil)⟩⟩⟩⟩) gr_c_X12_layRow_c_birdMany0
set_option maxHeartbeats 8000000 in
set_option maxRecDepth 100000 in
theorem c_X12_layRow (l : Launch) (D : va_G) (cy : Nat → ClassId) (ad : Nat → Nat) (g : Nat → va_E) {f0 : List Value} {x : Int32} {y : Int32} (o0 : g 0 = .inr (12, f0)) (f0_11 : f0[11]? = some (.ref (ad 1))) (f0_36 : f0[36]? = some (.int 0)) (a1 : g 1 = .inl (cy 0, 2, .inl (fun _ => 0))) : cMv l yX12_layRow wq_c_X12_layRow { frames := 1, cells := 0, slots := 0, locals := 20 } 2 0 0 0 D cy ad g [.ref (ad 0), .int x, .int y] (fun nw lu => lu = []) := by
  refine cM_of (Qc := fun A => cQv (fun nw lu => lu = []) D 2 0 ad g A) (cc := cX12_layRow) (maxL := 5) (ret := none) (by decide) rfl (Nat.le_of_ble_eq_true rfl) ?_
  intro p e s m below meth c A hC hr hlk hnm hO ls hl
  have hC : CallFix p m c cX12_layRow 5 s [.ref (ad 0), .int x, .int y].toArray wq_c_X12_layRow RX12 := hC
  obtain ⟨hx, hb, hml, hown, hts⟩ := id hC
  have hl : lv_has ls 5 [(0, .ref (ad 0)), (1, .int x), (2, .int y)] := hl
  have i_X12 : ∀ w ∈ wsX120, w ∈ wq_c_X12_layRow := fun w h => List.mem_cons_of_mem _ (List.mem_append_right _ h)
  refine lv_iload_n hx hb dX12_layRow_0 rfl (lv_at hl 1 rfl) ?_
  refine lv_istore_n (lv' := [(3, .int x), (0, .ref (ad 0)), (1, .int x), (2, .int y)]) hx hb dX12_layRow_1 rfl hl (by decide) rfl (fun ls hl => ?_)
  refine lv_aload_n hx hb dX12_layRow_2 rfl (lv_at hl 1 rfl) ?_
  refine cg_Vi (As := []) (rest := []) (mc := 0) (ms := 0) (rm := { frames := 0, cells := 0, slots := 0, locals := 0 }) hC hl.1 hO [0, 1] rfl (c_birdMany0 l D cy _ _ (f0 := f0) o0 f0_11 f0_36 a1) gq_c_X12_layRow_c_birdMany0_363 rfl rfl rfl 0 (by decide +kernel) ⟨Nat.le_of_ble_eq_true rfl, Nat.le_of_ble_eq_true rfl⟩ rfl (by decide) o0 rfl rfl (Nat.le_of_ble_eq_true rfl) dX12_layRow_3 ⟨Nat.le_of_ble_eq_true rfl, Nat.le_of_ble_eq_true rfl⟩ (fun r_3_3 nw_3_1 l_3_2 H locs hw hO => ?_)
  obtain ⟨rfl, rfl⟩ := hw
  have hO : cO D cy A s.heap s 2 ad (cup [] g) _ _ := hO
  refine lv_iconst (v := 1) hx hb dX12_layRow_6 (by decide) ?_
  refine lv_isub hx hb dX12_layRow_7 ?_
  refine cg_ev (v := (-1)) (by decide) ?_
  refine lv_istore (lv' := [(4, .int (-1)), (3, .int x), (0, .ref (ad 0)), (1, .int x), (2, .int y)]) hx hb dX12_layRow_8 hl (by decide) rfl (fun ls hl => ?_)
  refine lv_iload hx hb dX12_layRow_10 (lv_at hl 0 rfl) ?_
  refine lv_if_lt (tgt := 35) hx hb dX12_layRow_12 (by decide) (fun _ => ?_) (fun h => absurd h (by decide))
  exact cg_vret (nw := fun _ => 0) hC hr hlk hO.same (Nat.le_of_ble_eq_true rfl) (Nat.le_of_ble_eq_true rfl) rfl dX12_layRow_35

theorem dX12_isTaught_0 : decode cX12_isTaught 0 = .ok (.iconst 0, 1) := by decide +kernel
theorem dX12_isTaught_1 : decode cX12_isTaught 1 = .ok (.istore_n 2, 1) := by decide +kernel
theorem dX12_isTaught_2 : decode cX12_isTaught 2 = .ok (.iconst 0, 1) := by decide +kernel
theorem dX12_isTaught_3 : decode cX12_isTaught 3 = .ok (.istore_n 3, 1) := by decide +kernel
theorem dX12_isTaught_4 : decode cX12_isTaught 4 = .ok (.iload_n 3, 1) := by decide +kernel
theorem dX12_isTaught_5 : decode cX12_isTaught 5 = .ok (.aload_n 0, 1) := by decide +kernel
theorem dX12_isTaught_6 : decode cX12_isTaught 6 = .ok (.invokevirtual 363, 3) := by decide +kernel
theorem dX12_isTaught_9 : decode cX12_isTaught 9 = .ok (.if_icmp .ge 41, 3) := by decide +kernel
theorem dX12_isTaught_50 : decode cX12_isTaught 50 = .ok (.iload_n 2, 1) := by decide +kernel
theorem dX12_isTaught_51 : decode cX12_isTaught 51 = .ok (.iload_n 1, 1) := by decide +kernel
theorem dX12_isTaught_52 : decode cX12_isTaught 52 = .ok (.if_icmp .ne 7, 3) := by decide +kernel
theorem dX12_isTaught_55 : decode cX12_isTaught 55 = .ok (.iconst 1, 1) := by decide +kernel
theorem dX12_isTaught_56 : decode cX12_isTaught 56 = .ok (.goto 4, 3) := by decide +kernel
theorem dX12_isTaught_59 : decode cX12_isTaught 59 = .ok (.iconst 0, 1) := by decide +kernel
theorem dX12_isTaught_60 : decode cX12_isTaught 60 = .ok (.ireturn, 1) := by decide +kernel
def wq_c_X12_isTaught : List Cond := Cond.code yX12_isTaught cX12_isTaught 4 (some .boolean) :: (([Cond.methodLink RX12 363 yX12_birdMany, Cond.instanceMethod yX12_birdMany, Cond.selects RX12 yX12_birdMany yX12_birdMany, Cond.initialized RX12, Cond.code yX12_birdMany cX12_birdMany 1 (some .int), Cond.fieldLink RX12 20 "CrowTollModel" "birds" "[I", Cond.fieldLink RX12 286 "CrowTollModel" "bank" "I"] : List Cond) ++ wsX120)
set_option maxRecDepth 20000 in
theorem gr_c_X12_isTaught_c_birdMany0 : GoodIn wq_c_X12_isTaught wq_c_birdMany0 := List.forall_mem_cons.mpr ⟨⟨(List.mem_of_getElem? (i := 5) rfl), good_of_word rfl⟩, List.forall_mem_append.mpr ⟨List.forall_mem_cons.mpr ⟨⟨(List.mem_of_getElem? (i := 6) rfl), good_of_word rfl⟩, List.forall_mem_cons.mpr ⟨⟨(List.mem_of_getElem? (i := 7) rfl), good_of_word rfl⟩, (fun _ h => absurd h List.not_mem_nil)⟩⟩, fun w h => ⟨(fun w h => List.mem_cons_of_mem _ (List.mem_append_right _ h)) w h, good_of_word (List.all_eq_true.mp gw_X12 w h)⟩⟩⟩
set_option maxRecDepth 20000 in
theorem gq_c_X12_isTaught_c_birdMany0_363 : GoodIn wq_c_X12_isTaught (wsV RX12 363 RX12 yX12_birdMany wq_c_birdMany0) := goodIn_app (List.forall_mem_cons.mpr ⟨⟨(List.mem_of_getElem? (i := 1) rfl), good_of_word rfl⟩, List.forall_mem_cons.mpr ⟨⟨(List.mem_of_getElem? (i := 2) rfl), good_of_word rfl⟩, List.forall_mem_cons.mpr ⟨⟨(List.mem_of_getElem? (i := 3) rfl), good_of_word rfl⟩, List.forall_mem_cons.mpr ⟨⟨(List.mem_of_getElem? (i := 4) rfl), good_of_word rfl⟩, (fun _ h => absurd h List.not_mem_nil)⟩⟩⟩⟩) gr_c_X12_isTaught_c_birdMany0
set_option maxHeartbeats 8000000 in
set_option maxRecDepth 100000 in
theorem c_X12_isTaught (l : Launch) (D : va_G) (cy : Nat → ClassId) (ad : Nat → Nat) (g : Nat → va_E) {f0 : List Value} {n : Int32} (o0 : g 0 = .inr (12, f0)) (f0_11 : f0[11]? = some (.ref (ad 1))) (f0_36 : f0[36]? = some (.int 0)) (a1 : g 1 = .inl (cy 0, 2, .inl (fun _ => 0))) : cMi l yX12_isTaught wq_c_X12_isTaught { frames := 1, cells := 0, slots := 0, locals := 20 } 2 0 0 0 D cy ad g [.ref (ad 0), .int n] (fun r nw lu => ((¬ 0 = n) ∧ (r = 0) ∧ (lu = [])) ∨ ((0 = n) ∧ (r = 1) ∧ (lu = []))) := by
  refine cM_of (Qc := fun A => cQi (fun r nw lu => ((¬ 0 = n) ∧ (r = 0) ∧ (lu = [])) ∨ ((0 = n) ∧ (r = 1) ∧ (lu = []))) D 2 0 ad g A) (cc := cX12_isTaught) (maxL := 4) (ret := (some .boolean)) (by decide) rfl (Nat.le_of_ble_eq_true rfl) ?_
  intro p e s m below meth c A hC hr hlk hnm hO ls hl
  have hC : CallFix p m c cX12_isTaught 4 s [.ref (ad 0), .int n].toArray wq_c_X12_isTaught RX12 := hC
  obtain ⟨hx, hb, hml, hown, hts⟩ := id hC
  have hl : lv_has ls 4 [(0, .ref (ad 0)), (1, .int n)] := hl
  have i_X12 : ∀ w ∈ wsX120, w ∈ wq_c_X12_isTaught := fun w h => List.mem_cons_of_mem _ (List.mem_append_right _ h)
  refine lv_iconst (v := 0) hx hb dX12_isTaught_0 (by decide) ?_
  refine lv_istore_n (lv' := [(2, .int 0), (0, .ref (ad 0)), (1, .int n)]) hx hb dX12_isTaught_1 rfl hl (by decide) rfl (fun ls hl => ?_)
  refine lv_iconst (v := 0) hx hb dX12_isTaught_2 (by decide) ?_
  refine lv_istore_n (lv' := [(3, .int 0), (2, .int 0), (0, .ref (ad 0)), (1, .int n)]) hx hb dX12_isTaught_3 rfl hl (by decide) rfl (fun ls hl => ?_)
  refine lv_iload_n hx hb dX12_isTaught_4 rfl (lv_at hl 0 rfl) ?_
  refine lv_aload_n hx hb dX12_isTaught_5 rfl (lv_at hl 2 rfl) ?_
  refine cg_Vi (As := []) (rest := [.int 0]) (mc := 0) (ms := 0) (rm := { frames := 0, cells := 0, slots := 0, locals := 0 }) hC hl.1 hO [0, 1] rfl (c_birdMany0 l D cy _ _ (f0 := f0) o0 f0_11 f0_36 a1) gq_c_X12_isTaught_c_birdMany0_363 rfl rfl rfl 0 (by decide +kernel) ⟨Nat.le_of_ble_eq_true rfl, Nat.le_of_ble_eq_true rfl⟩ rfl (by decide) o0 rfl rfl (Nat.le_of_ble_eq_true rfl) dX12_isTaught_6 ⟨Nat.le_of_ble_eq_true rfl, Nat.le_of_ble_eq_true rfl⟩ (fun r_6_3 nw_6_1 l_6_2 H locs hw hO => ?_)
  obtain ⟨rfl, rfl⟩ := hw
  have hO : cO D cy A s.heap s 2 ad (cup [] g) _ _ := hO
  refine lv_icmp_ge (tgt := 50) hx hb dX12_isTaught_9 (by decide) (fun _ => ?_) (fun h => absurd h (by decide))
  refine lv_iload_n hx hb dX12_isTaught_50 rfl (lv_at hl 1 rfl) ?_
  refine lv_iload_n hx hb dX12_isTaught_51 rfl (lv_at hl 3 rfl) ?_
  refine lv_icmp_ne (tgt := 59) hx hb dX12_isTaught_52 (by decide) (fun h_52_4 => ?_) (fun h_52_4 => ?_)
  · refine lv_iconst (v := 0) hx hb dX12_isTaught_59 (by decide) ?_
    exact cg_iret (nw := fun _ => 0) hC hr hlk hO.same rfl (Nat.le_of_ble_eq_true rfl) (Nat.le_of_ble_eq_true rfl) (Or.inl ⟨h_52_4, rfl, rfl⟩) dX12_isTaught_60
  · refine lv_iconst (v := 1) hx hb dX12_isTaught_55 (by decide) ?_
    refine lv_goto (tgt := 60) hx hb dX12_isTaught_56 (by decide) ?_
    exact cg_iret (nw := fun _ => 0) hC hr hlk hO.same rfl (Nat.le_of_ble_eq_true rfl) (Nat.le_of_ble_eq_true rfl) (Or.inr ⟨h_52_4, rfl, rfl⟩) dX12_isTaught_60

theorem dX12_takeRow_0 : decode cX12_takeRow 0 = .ok (.aload_n 0, 1) := by decide +kernel
theorem dX12_takeRow_1 : decode cX12_takeRow 1 = .ok (.invokevirtual 421, 3) := by decide +kernel
theorem dX12_takeRow_4 : decode cX12_takeRow 4 = .ok (.istore_n 2, 1) := by decide +kernel
theorem dX12_takeRow_5 : decode cX12_takeRow 5 = .ok (.iload_n 1, 1) := by decide +kernel
theorem dX12_takeRow_6 : decode cX12_takeRow 6 = .ok (.ifCond .lt 10, 3) := by decide +kernel
theorem dX12_takeRow_16 : decode cX12_takeRow 16 = .ok (.iconst 0, 1) := by decide +kernel
theorem dX12_takeRow_17 : decode cX12_takeRow 17 = .ok (.istore_n 3, 1) := by decide +kernel
theorem dX12_takeRow_18 : decode cX12_takeRow 18 = .ok (.iload_n 3, 1) := by decide +kernel
theorem dX12_takeRow_19 : decode cX12_takeRow 19 = .ok (.aload_n 0, 1) := by decide +kernel
theorem dX12_takeRow_20 : decode cX12_takeRow 20 = .ok (.invokevirtual 363, 3) := by decide +kernel
theorem dX12_takeRow_23 : decode cX12_takeRow 23 = .ok (.if_icmp .ge 21, 3) := by decide +kernel
theorem dX12_takeRow_44 : decode cX12_takeRow 44 = .ok (.iload_n 2, 1) := by decide +kernel
theorem dX12_takeRow_45 : decode cX12_takeRow 45 = .ok (.ireturn, 1) := by decide +kernel
def wq_c_X12_takeRow : List Cond := Cond.code yX12_takeRow cX12_takeRow 4 (some .int) :: (([Cond.methodLink RX12 421 yX12_incomeOf, Cond.instanceMethod yX12_incomeOf, Cond.selects RX12 yX12_incomeOf yX12_incomeOf, Cond.initialized RX12, Cond.code yX12_incomeOf cX12_incomeOf 3 (some .int), Cond.fieldLink RX12 379 "CrowTollModel" "dMany" "I", Cond.methodLink RX12 363 yX12_birdMany, Cond.instanceMethod yX12_birdMany, Cond.selects RX12 yX12_birdMany yX12_birdMany, Cond.code yX12_birdMany cX12_birdMany 1 (some .int), Cond.fieldLink RX12 20 "CrowTollModel" "birds" "[I", Cond.fieldLink RX12 286 "CrowTollModel" "bank" "I"] : List Cond) ++ wsX120)
set_option maxRecDepth 20000 in
theorem gr_c_X12_takeRow_c_X12_incomeOf : GoodIn wq_c_X12_takeRow wq_c_X12_incomeOf := List.forall_mem_cons.mpr ⟨⟨(List.mem_of_getElem? (i := 5) rfl), good_of_word rfl⟩, List.forall_mem_append.mpr ⟨List.forall_mem_cons.mpr ⟨⟨(List.mem_of_getElem? (i := 6) rfl), good_of_word rfl⟩, (fun _ h => absurd h List.not_mem_nil)⟩, fun w h => ⟨(fun w h => List.mem_cons_of_mem _ (List.mem_append_right _ h)) w h, good_of_word (List.all_eq_true.mp gw_X12 w h)⟩⟩⟩
set_option maxRecDepth 20000 in
theorem gq_c_X12_takeRow_c_X12_incomeOf_421 : GoodIn wq_c_X12_takeRow (wsV RX12 421 RX12 yX12_incomeOf wq_c_X12_incomeOf) := goodIn_app (List.forall_mem_cons.mpr ⟨⟨(List.mem_of_getElem? (i := 1) rfl), good_of_word rfl⟩, List.forall_mem_cons.mpr ⟨⟨(List.mem_of_getElem? (i := 2) rfl), good_of_word rfl⟩, List.forall_mem_cons.mpr ⟨⟨(List.mem_of_getElem? (i := 3) rfl), good_of_word rfl⟩, List.forall_mem_cons.mpr ⟨⟨(List.mem_of_getElem? (i := 4) rfl), good_of_word rfl⟩, (fun _ h => absurd h List.not_mem_nil)⟩⟩⟩⟩) gr_c_X12_takeRow_c_X12_incomeOf
set_option maxRecDepth 20000 in
theorem gr_c_X12_takeRow_c_birdMany0 : GoodIn wq_c_X12_takeRow wq_c_birdMany0 := List.forall_mem_cons.mpr ⟨⟨(List.mem_of_getElem? (i := 10) rfl), good_of_word rfl⟩, List.forall_mem_append.mpr ⟨List.forall_mem_cons.mpr ⟨⟨(List.mem_of_getElem? (i := 11) rfl), good_of_word rfl⟩, List.forall_mem_cons.mpr ⟨⟨(List.mem_of_getElem? (i := 12) rfl), good_of_word rfl⟩, (fun _ h => absurd h List.not_mem_nil)⟩⟩, fun w h => ⟨(fun w h => List.mem_cons_of_mem _ (List.mem_append_right _ h)) w h, good_of_word (List.all_eq_true.mp gw_X12 w h)⟩⟩⟩
set_option maxRecDepth 20000 in
theorem gq_c_X12_takeRow_c_birdMany0_363 : GoodIn wq_c_X12_takeRow (wsV RX12 363 RX12 yX12_birdMany wq_c_birdMany0) := goodIn_app (List.forall_mem_cons.mpr ⟨⟨(List.mem_of_getElem? (i := 7) rfl), good_of_word rfl⟩, List.forall_mem_cons.mpr ⟨⟨(List.mem_of_getElem? (i := 8) rfl), good_of_word rfl⟩, List.forall_mem_cons.mpr ⟨⟨(List.mem_of_getElem? (i := 9) rfl), good_of_word rfl⟩, List.forall_mem_cons.mpr ⟨⟨(List.mem_of_getElem? (i := 4) rfl), good_of_word rfl⟩, (fun _ h => absurd h List.not_mem_nil)⟩⟩⟩⟩) gr_c_X12_takeRow_c_birdMany0
set_option maxHeartbeats 8000000 in
set_option maxRecDepth 100000 in
theorem c_X12_takeRow (l : Launch) (D : va_G) (cy : Nat → ClassId) (ad : Nat → Nat) (g : Nat → va_E) {f0 : List Value} (o0 : g 0 = .inr (12, f0)) (f0_11 : f0[11]? = some (.ref (ad 1))) (f0_36 : f0[36]? = some (.int 0)) (f0_56 : f0[56]? = some (.int 0)) (a1 : g 1 = .inl (cy 0, 2, .inl (fun _ => 0))) : cMi l yX12_takeRow wq_c_X12_takeRow { frames := 1, cells := 0, slots := 0, locals := 22 } 2 0 0 0 D cy ad g [.ref (ad 0), .int (-1)] (fun r nw lu => (r = 0) ∧ (lu = [])) := by
  refine cM_of (Qc := fun A => cQi (fun r nw lu => (r = 0) ∧ (lu = [])) D 2 0 ad g A) (cc := cX12_takeRow) (maxL := 4) (ret := (some .int)) (by decide) rfl (Nat.le_of_ble_eq_true rfl) ?_
  intro p e s m below meth c A hC hr hlk hnm hO ls hl
  have hC : CallFix p m c cX12_takeRow 4 s [.ref (ad 0), .int (-1)].toArray wq_c_X12_takeRow RX12 := hC
  obtain ⟨hx, hb, hml, hown, hts⟩ := id hC
  have hl : lv_has ls 4 [(0, .ref (ad 0)), (1, .int (-1))] := hl
  have i_X12 : ∀ w ∈ wsX120, w ∈ wq_c_X12_takeRow := fun w h => List.mem_cons_of_mem _ (List.mem_append_right _ h)
  refine lv_aload_n hx hb dX12_takeRow_0 rfl (lv_at hl 0 rfl) ?_
  refine cg_Vi (As := []) (rest := []) (mc := 0) (ms := 0) (rm := { frames := 0, cells := 0, slots := 0, locals := 0 }) hC hl.1 hO [0] rfl (c_X12_incomeOf l D cy _ _ (f0 := f0) o0 f0_56) gq_c_X12_takeRow_c_X12_incomeOf_421 rfl rfl rfl 0 (by decide +kernel) ⟨Nat.le_of_ble_eq_true rfl, Nat.le_of_ble_eq_true rfl⟩ rfl (by decide) o0 rfl rfl (Nat.le_of_ble_eq_true rfl) dX12_takeRow_1 ⟨Nat.le_of_ble_eq_true rfl, Nat.le_of_ble_eq_true rfl⟩ (fun r_1_3 nw_1_1 l_1_2 H locs hw hO => ?_)
  obtain ⟨rfl, rfl⟩ := hw
  have hO : cO D cy A s.heap s 2 ad (cup [] g) _ _ := hO
  refine lv_istore_n (lv' := [(2, .int 0), (0, .ref (ad 0)), (1, .int (-1))]) hx hb dX12_takeRow_4 rfl hl (by decide) rfl (fun ls hl => ?_)
  refine lv_iload_n hx hb dX12_takeRow_5 rfl (lv_at hl 2 rfl) ?_
  refine lv_if_lt (tgt := 16) hx hb dX12_takeRow_6 (by decide) (fun _ => ?_) (fun h => absurd h (by decide))
  refine lv_iconst (v := 0) hx hb dX12_takeRow_16 (by decide) ?_
  refine lv_istore_n (lv' := [(3, .int 0), (2, .int 0), (0, .ref (ad 0)), (1, .int (-1))]) hx hb dX12_takeRow_17 rfl hl (by decide) rfl (fun ls hl => ?_)
  refine lv_iload_n hx hb dX12_takeRow_18 rfl (lv_at hl 0 rfl) ?_
  refine lv_aload_n hx hb dX12_takeRow_19 rfl (lv_at hl 2 rfl) ?_
  refine cg_Vi (As := []) (rest := [.int 0]) (mc := 0) (ms := 0) (rm := { frames := 0, cells := 0, slots := 0, locals := 0 }) hC hl.1 hO [0, 1] rfl (c_birdMany0 l D cy _ _ (f0 := f0) o0 f0_11 f0_36 a1) gq_c_X12_takeRow_c_birdMany0_363 rfl rfl rfl 0 (by decide +kernel) ⟨Nat.le_of_ble_eq_true rfl, Nat.le_of_ble_eq_true rfl⟩ rfl (by decide) o0 rfl rfl (Nat.le_of_ble_eq_true rfl) dX12_takeRow_20 ⟨Nat.le_of_ble_eq_true rfl, Nat.le_of_ble_eq_true rfl⟩ (fun r_20_6 nw_20_4 l_20_5 H locs hw hO => ?_)
  obtain ⟨rfl, rfl⟩ := hw
  have hO : cO D cy A s.heap s 2 ad (cup [] g) _ _ := hO
  refine lv_icmp_ge (tgt := 44) hx hb dX12_takeRow_23 (by decide) (fun _ => ?_) (fun h => absurd h (by decide))
  refine lv_iload_n hx hb dX12_takeRow_44 rfl (lv_at hl 1 rfl) ?_
  exact cg_iret (nw := fun _ => 0) hC hr hlk hO.same rfl (Nat.le_of_ble_eq_true rfl) (Nat.le_of_ble_eq_true rfl) (⟨rfl, rfl⟩) dX12_takeRow_45

theorem dX12_teach_0 : decode cX12_teach 0 = .ok (.aload_n 0, 1) := by decide +kernel
theorem dX12_teach_1 : decode cX12_teach 1 = .ok (.iconst 0, 1) := by decide +kernel
theorem dX12_teach_2 : decode cX12_teach 2 = .ok (.putfield 295, 3) := by decide +kernel
theorem dX12_teach_5 : decode cX12_teach 5 = .ok (.iload_n 1, 1) := by decide +kernel
theorem dX12_teach_6 : decode cX12_teach 6 = .ok (.iconst 0, 1) := by decide +kernel
theorem dX12_teach_7 : decode cX12_teach 7 = .ok (.iconst 3, 1) := by decide +kernel
theorem dX12_teach_8 : decode cX12_teach 8 = .ok (.invokestatic 366, 3) := by decide +kernel
theorem dX12_teach_11 : decode cX12_teach 11 = .ok (.ifCond .ne 5, 3) := by decide +kernel
theorem dX12_teach_14 : decode cX12_teach 14 = .ok (.iconst (-1), 1) := by decide +kernel
theorem dX12_teach_15 : decode cX12_teach 15 = .ok (.ireturn, 1) := by decide +kernel
theorem dX12_teach_16 : decode cX12_teach 16 = .ok (.iconst (-1), 1) := by decide +kernel
theorem dX12_teach_17 : decode cX12_teach 17 = .ok (.istore_n 2, 1) := by decide +kernel
theorem dX12_teach_18 : decode cX12_teach 18 = .ok (.iconst 0, 1) := by decide +kernel
theorem dX12_teach_19 : decode cX12_teach 19 = .ok (.istore_n 3, 1) := by decide +kernel
theorem dX12_teach_20 : decode cX12_teach 20 = .ok (.iload_n 3, 1) := by decide +kernel
theorem dX12_teach_21 : decode cX12_teach 21 = .ok (.aload_n 0, 1) := by decide +kernel
theorem dX12_teach_22 : decode cX12_teach 22 = .ok (.iconst 4, 1) := by decide +kernel
theorem dX12_teach_23 : decode cX12_teach 23 = .ok (.invokevirtual 443, 3) := by decide +kernel
theorem dX12_teach_26 : decode cX12_teach 26 = .ok (.if_icmp .ge 75, 3) := by decide +kernel
theorem dX12_teach_29 : decode cX12_teach 29 = .ok (.aload_n 0, 1) := by decide +kernel
theorem dX12_teach_30 : decode cX12_teach 30 = .ok (.iload_n 3, 1) := by decide +kernel
theorem dX12_teach_31 : decode cX12_teach 31 = .ok (.iconst 4, 1) := by decide +kernel
theorem dX12_teach_32 : decode cX12_teach 32 = .ok (.invokevirtual 446, 3) := by decide +kernel
theorem dX12_teach_35 : decode cX12_teach 35 = .ok (.aload_n 0, 1) := by decide +kernel
theorem dX12_teach_36 : decode cX12_teach 36 = .ok (.iload_n 1, 1) := by decide +kernel
theorem dX12_teach_37 : decode cX12_teach 37 = .ok (.invokevirtual 449, 3) := by decide +kernel
theorem dX12_teach_40 : decode cX12_teach 40 = .ok (.ifCond .ne 6, 3) := by decide +kernel
theorem dX12_teach_43 : decode cX12_teach 43 = .ok (.goto 52, 3) := by decide +kernel
theorem dX12_teach_46 : decode cX12_teach 46 = .ok (.aload_n 0, 1) := by decide +kernel
theorem dX12_teach_47 : decode cX12_teach 47 = .ok (.invokevirtual 400, 3) := by decide +kernel
theorem dX12_teach_50 : decode cX12_teach 50 = .ok (.iconst 0, 1) := by decide +kernel
theorem dX12_teach_51 : decode cX12_teach 51 = .ok (.istore 4, 2) := by decide +kernel
theorem dX12_teach_53 : decode cX12_teach 53 = .ok (.iload 4, 2) := by decide +kernel
theorem dX12_teach_55 : decode cX12_teach 55 = .ok (.aload_n 0, 1) := by decide +kernel
theorem dX12_teach_56 : decode cX12_teach 56 = .ok (.invokevirtual 363, 3) := by decide +kernel
theorem dX12_teach_59 : decode cX12_teach 59 = .ok (.if_icmp .ge 26, 3) := by decide +kernel
theorem dX12_teach_85 : decode cX12_teach 85 = .ok (.aload_n 0, 1) := by decide +kernel
theorem dX12_teach_86 : decode cX12_teach 86 = .ok (.invokevirtual 403, 3) := by decide +kernel
theorem dX12_teach_89 : decode cX12_teach 89 = .ok (.aload_n 0, 1) := by decide +kernel
theorem dX12_teach_90 : decode cX12_teach 90 = .ok (.iload_n 2, 1) := by decide +kernel
theorem dX12_teach_91 : decode cX12_teach 91 = .ok (.invokevirtual 452, 3) := by decide +kernel
theorem dX12_teach_94 : decode cX12_teach 94 = .ok (.istore_n 2, 1) := by decide +kernel
theorem dX12_teach_95 : decode cX12_teach 95 = .ok (.iinc 3 1, 3) := by decide +kernel
theorem dX12_teach_98 : decode cX12_teach 98 = .ok (.goto (-78), 3) := by decide +kernel
theorem dX12_teach_101 : decode cX12_teach 101 = .ok (.iload_n 2, 1) := by decide +kernel
theorem dX12_teach_102 : decode cX12_teach 102 = .ok (.ifCond .lt 11, 3) := by decide +kernel
theorem dX12_teach_105 : decode cX12_teach 105 = .ok (.aload_n 0, 1) := by decide +kernel
theorem dX12_teach_106 : decode cX12_teach 106 = .ok (.aload_n 0, 1) := by decide +kernel
theorem dX12_teach_107 : decode cX12_teach 107 = .ok (.invokevirtual 363, 3) := by decide +kernel
theorem dX12_teach_110 : decode cX12_teach 110 = .ok (.putfield 295, 3) := by decide +kernel
theorem dX12_teach_113 : decode cX12_teach 113 = .ok (.iload_n 2, 1) := by decide +kernel
theorem dX12_teach_114 : decode cX12_teach 114 = .ok (.ireturn, 1) := by decide +kernel
def wq_c_X12_teach : List Cond := Cond.code yX12_teach cX12_teach 5 (some .int) :: (([Cond.fieldLink RX12 295 "CrowTollModel" "laid" "I", Cond.methodLink RX12 366 yX12_isIn, Cond.static yX12_isIn, Cond.initialized RX12, Cond.code yX12_isIn cX12_isIn 3 (some .boolean), Cond.methodLink RX12 443 yX12_rows, Cond.instanceMethod yX12_rows, Cond.selects RX12 yX12_rows yX12_rows, Cond.code yX12_rows cX12_rows 4 (some .int), Cond.methodLink RX12 363 yX12_birdMany, Cond.instanceMethod yX12_birdMany, Cond.selects RX12 yX12_birdMany yX12_birdMany, Cond.code yX12_birdMany cX12_birdMany 1 (some .int), Cond.fieldLink RX12 20 "CrowTollModel" "birds" "[I", Cond.fieldLink RX12 286 "CrowTollModel" "bank" "I", Cond.methodLink RX12 446 yX12_layRow, Cond.instanceMethod yX12_layRow, Cond.selects RX12 yX12_layRow yX12_layRow, Cond.code yX12_layRow cX12_layRow 5 none, Cond.methodLink RX12 449 yX12_isTaught, Cond.instanceMethod yX12_isTaught, Cond.selects RX12 yX12_isTaught yX12_isTaught, Cond.code yX12_isTaught cX12_isTaught 4 (some .boolean), Cond.methodLink RX12 400 yX12_layDay, Cond.instanceMethod yX12_layDay, Cond.selects RX12 yX12_layDay yX12_layDay, Cond.code yX12_layDay cX12_layDay 2 none, Cond.fieldLink RX12 98 "CrowTollModel" "state" "[I", Cond.fieldLink RX12 379 "CrowTollModel" "dMany" "I", Cond.fieldLink RX12 382 "CrowTollModel" "dLimit" "I", Cond.fieldLink RX12 107 "CrowTollModel" "dFar" "[I", Cond.methodLink RX12 385 yX12_laySeats, Cond.instanceMethod yX12_laySeats, Cond.selects RX12 yX12_laySeats yX12_laySeats, Cond.code yX12_laySeats cX12_laySeats 3 none, Cond.methodLink RX12 370 yX12_postMany, Cond.instanceMethod yX12_postMany, Cond.selects RX12 yX12_postMany yX12_postMany, Cond.code yX12_postMany cX12_postMany 1 (some .int), Cond.fieldLink RX12 24 "CrowTollModel" "posts" "[I", Cond.methodLink RX12 403 yX12_goesBy, Cond.instanceMethod yX12_goesBy, Cond.selects RX12 yX12_goesBy yX12_goesBy, Cond.code yX12_goesBy cX12_goesBy 4 none, Cond.methodLink RX12 388 yX12_layTurns, Cond.instanceMethod yX12_layTurns, Cond.selects RX12 yX12_layTurns yX12_layTurns, Cond.code yX12_layTurns cX12_layTurns 4 (some .int), Cond.fieldLink RX12 137 "CrowTollModel" "dComes" "[Z", Cond.fieldLink RX12 116 "CrowTollModel" "turnOf" "[I", Cond.fieldLink RX12 101 "CrowTollModel" "dMinute" "[I", Cond.fieldLink RX12 125 "CrowTollModel" "count" "[I", Cond.fieldLink RX12 134 "CrowTollModel" "countedAll" "[I", Cond.fieldLink RX12 140 "CrowTollModel" "hasCounted" "[Z", Cond.fieldLink RX12 119 "CrowTollModel" "paid" "[I", Cond.fieldLink RX12 122 "CrowTollModel" "counted" "[I", Cond.methodLink RX12 452 yX12_takeRow, Cond.instanceMethod yX12_takeRow, Cond.selects RX12 yX12_takeRow yX12_takeRow, Cond.code yX12_takeRow cX12_takeRow 4 (some .int), Cond.methodLink RX12 421 yX12_incomeOf, Cond.instanceMethod yX12_incomeOf, Cond.selects RX12 yX12_incomeOf yX12_incomeOf, Cond.code yX12_incomeOf cX12_incomeOf 3 (some .int)] : List Cond) ++ wsX120)
set_option maxRecDepth 20000 in
theorem gr_c_X12_teach_c_X12_isIn : GoodIn wq_c_X12_teach wq_c_X12_isIn := List.forall_mem_cons.mpr ⟨⟨(List.mem_of_getElem? (i := 5) rfl), good_of_word rfl⟩, (fun _ h => absurd h List.not_mem_nil)⟩
set_option maxRecDepth 20000 in
theorem gq_c_X12_teach_c_X12_isIn_366 : GoodIn wq_c_X12_teach (va_wsS RX12 366 yX12_isIn wq_c_X12_isIn) := goodIn_app (List.forall_mem_cons.mpr ⟨⟨(List.mem_of_getElem? (i := 2) rfl), good_of_word rfl⟩, List.forall_mem_cons.mpr ⟨⟨(List.mem_of_getElem? (i := 3) rfl), good_of_word rfl⟩, List.forall_mem_cons.mpr ⟨⟨(List.mem_of_getElem? (i := 4) rfl), good_of_word rfl⟩, (fun _ h => absurd h List.not_mem_nil)⟩⟩⟩) gr_c_X12_teach_c_X12_isIn
set_option maxRecDepth 20000 in
theorem gr_c_X12_teach_c_X12_rows : GoodIn wq_c_X12_teach wq_c_X12_rows := List.forall_mem_cons.mpr ⟨⟨(List.mem_of_getElem? (i := 9) rfl), good_of_word rfl⟩, List.forall_mem_append.mpr ⟨List.forall_mem_cons.mpr ⟨⟨(List.mem_of_getElem? (i := 10) rfl), good_of_word rfl⟩, List.forall_mem_cons.mpr ⟨⟨(List.mem_of_getElem? (i := 11) rfl), good_of_word rfl⟩, List.forall_mem_cons.mpr ⟨⟨(List.mem_of_getElem? (i := 12) rfl), good_of_word rfl⟩, List.forall_mem_cons.mpr ⟨⟨(List.mem_of_getElem? (i := 4) rfl), good_of_word rfl⟩, List.forall_mem_cons.mpr ⟨⟨(List.mem_of_getElem? (i := 13) rfl), good_of_word rfl⟩, List.forall_mem_cons.mpr ⟨⟨(List.mem_of_getElem? (i := 14) rfl), good_of_word rfl⟩, List.forall_mem_cons.mpr ⟨⟨(List.mem_of_getElem? (i := 15) rfl), good_of_word rfl⟩, (fun _ h => absurd h List.not_mem_nil)⟩⟩⟩⟩⟩⟩⟩, fun w h => ⟨(fun w h => List.mem_cons_of_mem _ (List.mem_append_right _ h)) w h, good_of_word (List.all_eq_true.mp gw_X12 w h)⟩⟩⟩
set_option maxRecDepth 20000 in
theorem gq_c_X12_teach_c_X12_rows_443 : GoodIn wq_c_X12_teach (wsV RX12 443 RX12 yX12_rows wq_c_X12_rows) := goodIn_app (List.forall_mem_cons.mpr ⟨⟨(List.mem_of_getElem? (i := 6) rfl), good_of_word rfl⟩, List.forall_mem_cons.mpr ⟨⟨(List.mem_of_getElem? (i := 7) rfl), good_of_word rfl⟩, List.forall_mem_cons.mpr ⟨⟨(List.mem_of_getElem? (i := 8) rfl), good_of_word rfl⟩, List.forall_mem_cons.mpr ⟨⟨(List.mem_of_getElem? (i := 4) rfl), good_of_word rfl⟩, (fun _ h => absurd h List.not_mem_nil)⟩⟩⟩⟩) gr_c_X12_teach_c_X12_rows
set_option maxRecDepth 20000 in
theorem gr_c_X12_teach_c_X12_layRow : GoodIn wq_c_X12_teach wq_c_X12_layRow := List.forall_mem_cons.mpr ⟨⟨(List.mem_of_getElem? (i := 19) rfl), good_of_word rfl⟩, List.forall_mem_append.mpr ⟨List.forall_mem_cons.mpr ⟨⟨(List.mem_of_getElem? (i := 10) rfl), good_of_word rfl⟩, List.forall_mem_cons.mpr ⟨⟨(List.mem_of_getElem? (i := 11) rfl), good_of_word rfl⟩, List.forall_mem_cons.mpr ⟨⟨(List.mem_of_getElem? (i := 12) rfl), good_of_word rfl⟩, List.forall_mem_cons.mpr ⟨⟨(List.mem_of_getElem? (i := 4) rfl), good_of_word rfl⟩, List.forall_mem_cons.mpr ⟨⟨(List.mem_of_getElem? (i := 13) rfl), good_of_word rfl⟩, List.forall_mem_cons.mpr ⟨⟨(List.mem_of_getElem? (i := 14) rfl), good_of_word rfl⟩, List.forall_mem_cons.mpr ⟨⟨(List.mem_of_getElem? (i := 15) rfl), good_of_word rfl⟩, (fun _ h => absurd h List.not_mem_nil)⟩⟩⟩⟩⟩⟩⟩, fun w h => ⟨(fun w h => List.mem_cons_of_mem _ (List.mem_append_right _ h)) w h, good_of_word (List.all_eq_true.mp gw_X12 w h)⟩⟩⟩
set_option maxRecDepth 20000 in
theorem gq_c_X12_teach_c_X12_layRow_446 : GoodIn wq_c_X12_teach (wsV RX12 446 RX12 yX12_layRow wq_c_X12_layRow) := goodIn_app (List.forall_mem_cons.mpr ⟨⟨(List.mem_of_getElem? (i := 16) rfl), good_of_word rfl⟩, List.forall_mem_cons.mpr ⟨⟨(List.mem_of_getElem? (i := 17) rfl), good_of_word rfl⟩, List.forall_mem_cons.mpr ⟨⟨(List.mem_of_getElem? (i := 18) rfl), good_of_word rfl⟩, List.forall_mem_cons.mpr ⟨⟨(List.mem_of_getElem? (i := 4) rfl), good_of_word rfl⟩, (fun _ h => absurd h List.not_mem_nil)⟩⟩⟩⟩) gr_c_X12_teach_c_X12_layRow
set_option maxRecDepth 20000 in
theorem gr_c_X12_teach_c_X12_isTaught : GoodIn wq_c_X12_teach wq_c_X12_isTaught := List.forall_mem_cons.mpr ⟨⟨(List.mem_of_getElem? (i := 23) rfl), good_of_word rfl⟩, List.forall_mem_append.mpr ⟨List.forall_mem_cons.mpr ⟨⟨(List.mem_of_getElem? (i := 10) rfl), good_of_word rfl⟩, List.forall_mem_cons.mpr ⟨⟨(List.mem_of_getElem? (i := 11) rfl), good_of_word rfl⟩, List.forall_mem_cons.mpr ⟨⟨(List.mem_of_getElem? (i := 12) rfl), good_of_word rfl⟩, List.forall_mem_cons.mpr ⟨⟨(List.mem_of_getElem? (i := 4) rfl), good_of_word rfl⟩, List.forall_mem_cons.mpr ⟨⟨(List.mem_of_getElem? (i := 13) rfl), good_of_word rfl⟩, List.forall_mem_cons.mpr ⟨⟨(List.mem_of_getElem? (i := 14) rfl), good_of_word rfl⟩, List.forall_mem_cons.mpr ⟨⟨(List.mem_of_getElem? (i := 15) rfl), good_of_word rfl⟩, (fun _ h => absurd h List.not_mem_nil)⟩⟩⟩⟩⟩⟩⟩, fun w h => ⟨(fun w h => List.mem_cons_of_mem _ (List.mem_append_right _ h)) w h, good_of_word (List.all_eq_true.mp gw_X12 w h)⟩⟩⟩
set_option maxRecDepth 20000 in
theorem gq_c_X12_teach_c_X12_isTaught_449 : GoodIn wq_c_X12_teach (wsV RX12 449 RX12 yX12_isTaught wq_c_X12_isTaught) := goodIn_app (List.forall_mem_cons.mpr ⟨⟨(List.mem_of_getElem? (i := 20) rfl), good_of_word rfl⟩, List.forall_mem_cons.mpr ⟨⟨(List.mem_of_getElem? (i := 21) rfl), good_of_word rfl⟩, List.forall_mem_cons.mpr ⟨⟨(List.mem_of_getElem? (i := 22) rfl), good_of_word rfl⟩, List.forall_mem_cons.mpr ⟨⟨(List.mem_of_getElem? (i := 4) rfl), good_of_word rfl⟩, (fun _ h => absurd h List.not_mem_nil)⟩⟩⟩⟩) gr_c_X12_teach_c_X12_isTaught
set_option maxRecDepth 20000 in
theorem gr_c_X12_teach_c_X12_layDay : GoodIn wq_c_X12_teach wq_c_X12_layDay := List.forall_mem_cons.mpr ⟨⟨(List.mem_of_getElem? (i := 27) rfl), good_of_word rfl⟩, List.forall_mem_append.mpr ⟨List.forall_mem_cons.mpr ⟨⟨(List.mem_of_getElem? (i := 28) rfl), good_of_word rfl⟩, List.forall_mem_cons.mpr ⟨⟨(List.mem_of_getElem? (i := 29) rfl), good_of_word rfl⟩, List.forall_mem_cons.mpr ⟨⟨(List.mem_of_getElem? (i := 30) rfl), good_of_word rfl⟩, List.forall_mem_cons.mpr ⟨⟨(List.mem_of_getElem? (i := 31) rfl), good_of_word rfl⟩, List.forall_mem_cons.mpr ⟨⟨(List.mem_of_getElem? (i := 32) rfl), good_of_word rfl⟩, List.forall_mem_cons.mpr ⟨⟨(List.mem_of_getElem? (i := 33) rfl), good_of_word rfl⟩, List.forall_mem_cons.mpr ⟨⟨(List.mem_of_getElem? (i := 34) rfl), good_of_word rfl⟩, List.forall_mem_cons.mpr ⟨⟨(List.mem_of_getElem? (i := 4) rfl), good_of_word rfl⟩, List.forall_mem_cons.mpr ⟨⟨(List.mem_of_getElem? (i := 35) rfl), good_of_word rfl⟩, List.forall_mem_cons.mpr ⟨⟨(List.mem_of_getElem? (i := 36) rfl), good_of_word rfl⟩, List.forall_mem_cons.mpr ⟨⟨(List.mem_of_getElem? (i := 37) rfl), good_of_word rfl⟩, List.forall_mem_cons.mpr ⟨⟨(List.mem_of_getElem? (i := 38) rfl), good_of_word rfl⟩, List.forall_mem_cons.mpr ⟨⟨(List.mem_of_getElem? (i := 39) rfl), good_of_word rfl⟩, List.forall_mem_cons.mpr ⟨⟨(List.mem_of_getElem? (i := 40) rfl), good_of_word rfl⟩, List.forall_mem_cons.mpr ⟨⟨(List.mem_of_getElem? (i := 15) rfl), good_of_word rfl⟩, (fun _ h => absurd h List.not_mem_nil)⟩⟩⟩⟩⟩⟩⟩⟩⟩⟩⟩⟩⟩⟩⟩, fun w h => ⟨(fun w h => List.mem_cons_of_mem _ (List.mem_append_right _ h)) w h, good_of_word (List.all_eq_true.mp gw_X12 w h)⟩⟩⟩
set_option maxRecDepth 20000 in
theorem gq_c_X12_teach_c_X12_layDay_400 : GoodIn wq_c_X12_teach (wsV RX12 400 RX12 yX12_layDay wq_c_X12_layDay) := goodIn_app (List.forall_mem_cons.mpr ⟨⟨(List.mem_of_getElem? (i := 24) rfl), good_of_word rfl⟩, List.forall_mem_cons.mpr ⟨⟨(List.mem_of_getElem? (i := 25) rfl), good_of_word rfl⟩, List.forall_mem_cons.mpr ⟨⟨(List.mem_of_getElem? (i := 26) rfl), good_of_word rfl⟩, List.forall_mem_cons.mpr ⟨⟨(List.mem_of_getElem? (i := 4) rfl), good_of_word rfl⟩, (fun _ h => absurd h List.not_mem_nil)⟩⟩⟩⟩) gr_c_X12_teach_c_X12_layDay
set_option maxRecDepth 20000 in
theorem gr_c_X12_teach_c_birdMany0 : GoodIn wq_c_X12_teach wq_c_birdMany0 := List.forall_mem_cons.mpr ⟨⟨(List.mem_of_getElem? (i := 13) rfl), good_of_word rfl⟩, List.forall_mem_append.mpr ⟨List.forall_mem_cons.mpr ⟨⟨(List.mem_of_getElem? (i := 14) rfl), good_of_word rfl⟩, List.forall_mem_cons.mpr ⟨⟨(List.mem_of_getElem? (i := 15) rfl), good_of_word rfl⟩, (fun _ h => absurd h List.not_mem_nil)⟩⟩, fun w h => ⟨(fun w h => List.mem_cons_of_mem _ (List.mem_append_right _ h)) w h, good_of_word (List.all_eq_true.mp gw_X12 w h)⟩⟩⟩
set_option maxRecDepth 20000 in
theorem gq_c_X12_teach_c_birdMany0_363 : GoodIn wq_c_X12_teach (wsV RX12 363 RX12 yX12_birdMany wq_c_birdMany0) := goodIn_app (List.forall_mem_cons.mpr ⟨⟨(List.mem_of_getElem? (i := 10) rfl), good_of_word rfl⟩, List.forall_mem_cons.mpr ⟨⟨(List.mem_of_getElem? (i := 11) rfl), good_of_word rfl⟩, List.forall_mem_cons.mpr ⟨⟨(List.mem_of_getElem? (i := 12) rfl), good_of_word rfl⟩, List.forall_mem_cons.mpr ⟨⟨(List.mem_of_getElem? (i := 4) rfl), good_of_word rfl⟩, (fun _ h => absurd h List.not_mem_nil)⟩⟩⟩⟩) gr_c_X12_teach_c_birdMany0
set_option maxRecDepth 20000 in
theorem gr_c_X12_teach_c_X12_goesBy : GoodIn wq_c_X12_teach wq_c_X12_goesBy := List.forall_mem_cons.mpr ⟨⟨(List.mem_of_getElem? (i := 44) rfl), good_of_word rfl⟩, List.forall_mem_append.mpr ⟨List.forall_mem_cons.mpr ⟨⟨(List.mem_of_getElem? (i := 45) rfl), good_of_word rfl⟩, List.forall_mem_cons.mpr ⟨⟨(List.mem_of_getElem? (i := 46) rfl), good_of_word rfl⟩, List.forall_mem_cons.mpr ⟨⟨(List.mem_of_getElem? (i := 47) rfl), good_of_word rfl⟩, List.forall_mem_cons.mpr ⟨⟨(List.mem_of_getElem? (i := 4) rfl), good_of_word rfl⟩, List.forall_mem_cons.mpr ⟨⟨(List.mem_of_getElem? (i := 48) rfl), good_of_word rfl⟩, List.forall_mem_cons.mpr ⟨⟨(List.mem_of_getElem? (i := 29) rfl), good_of_word rfl⟩, List.forall_mem_cons.mpr ⟨⟨(List.mem_of_getElem? (i := 49) rfl), good_of_word rfl⟩, List.forall_mem_cons.mpr ⟨⟨(List.mem_of_getElem? (i := 50) rfl), good_of_word rfl⟩, List.forall_mem_cons.mpr ⟨⟨(List.mem_of_getElem? (i := 51) rfl), good_of_word rfl⟩, List.forall_mem_cons.mpr ⟨⟨(List.mem_of_getElem? (i := 52) rfl), good_of_word rfl⟩, List.forall_mem_cons.mpr ⟨⟨(List.mem_of_getElem? (i := 53) rfl), good_of_word rfl⟩, List.forall_mem_cons.mpr ⟨⟨(List.mem_of_getElem? (i := 54) rfl), good_of_word rfl⟩, List.forall_mem_cons.mpr ⟨⟨(List.mem_of_getElem? (i := 36) rfl), good_of_word rfl⟩, List.forall_mem_cons.mpr ⟨⟨(List.mem_of_getElem? (i := 37) rfl), good_of_word rfl⟩, List.forall_mem_cons.mpr ⟨⟨(List.mem_of_getElem? (i := 38) rfl), good_of_word rfl⟩, List.forall_mem_cons.mpr ⟨⟨(List.mem_of_getElem? (i := 39) rfl), good_of_word rfl⟩, List.forall_mem_cons.mpr ⟨⟨(List.mem_of_getElem? (i := 40) rfl), good_of_word rfl⟩, List.forall_mem_cons.mpr ⟨⟨(List.mem_of_getElem? (i := 15) rfl), good_of_word rfl⟩, List.forall_mem_cons.mpr ⟨⟨(List.mem_of_getElem? (i := 55) rfl), good_of_word rfl⟩, List.forall_mem_cons.mpr ⟨⟨(List.mem_of_getElem? (i := 56) rfl), good_of_word rfl⟩, (fun _ h => absurd h List.not_mem_nil)⟩⟩⟩⟩⟩⟩⟩⟩⟩⟩⟩⟩⟩⟩⟩⟩⟩⟩⟩⟩, fun w h => ⟨(fun w h => List.mem_cons_of_mem _ (List.mem_append_right _ h)) w h, good_of_word (List.all_eq_true.mp gw_X12 w h)⟩⟩⟩
set_option maxRecDepth 20000 in
theorem gq_c_X12_teach_c_X12_goesBy_403 : GoodIn wq_c_X12_teach (wsV RX12 403 RX12 yX12_goesBy wq_c_X12_goesBy) := goodIn_app (List.forall_mem_cons.mpr ⟨⟨(List.mem_of_getElem? (i := 41) rfl), good_of_word rfl⟩, List.forall_mem_cons.mpr ⟨⟨(List.mem_of_getElem? (i := 42) rfl), good_of_word rfl⟩, List.forall_mem_cons.mpr ⟨⟨(List.mem_of_getElem? (i := 43) rfl), good_of_word rfl⟩, List.forall_mem_cons.mpr ⟨⟨(List.mem_of_getElem? (i := 4) rfl), good_of_word rfl⟩, (fun _ h => absurd h List.not_mem_nil)⟩⟩⟩⟩) gr_c_X12_teach_c_X12_goesBy
set_option maxRecDepth 20000 in
theorem gr_c_X12_teach_c_X12_takeRow : GoodIn wq_c_X12_teach wq_c_X12_takeRow := List.forall_mem_cons.mpr ⟨⟨(List.mem_of_getElem? (i := 60) rfl), good_of_word rfl⟩, List.forall_mem_append.mpr ⟨List.forall_mem_cons.mpr ⟨⟨(List.mem_of_getElem? (i := 61) rfl), good_of_word rfl⟩, List.forall_mem_cons.mpr ⟨⟨(List.mem_of_getElem? (i := 62) rfl), good_of_word rfl⟩, List.forall_mem_cons.mpr ⟨⟨(List.mem_of_getElem? (i := 63) rfl), good_of_word rfl⟩, List.forall_mem_cons.mpr ⟨⟨(List.mem_of_getElem? (i := 4) rfl), good_of_word rfl⟩, List.forall_mem_cons.mpr ⟨⟨(List.mem_of_getElem? (i := 64) rfl), good_of_word rfl⟩, List.forall_mem_cons.mpr ⟨⟨(List.mem_of_getElem? (i := 29) rfl), good_of_word rfl⟩, List.forall_mem_cons.mpr ⟨⟨(List.mem_of_getElem? (i := 10) rfl), good_of_word rfl⟩, List.forall_mem_cons.mpr ⟨⟨(List.mem_of_getElem? (i := 11) rfl), good_of_word rfl⟩, List.forall_mem_cons.mpr ⟨⟨(List.mem_of_getElem? (i := 12) rfl), good_of_word rfl⟩, List.forall_mem_cons.mpr ⟨⟨(List.mem_of_getElem? (i := 13) rfl), good_of_word rfl⟩, List.forall_mem_cons.mpr ⟨⟨(List.mem_of_getElem? (i := 14) rfl), good_of_word rfl⟩, List.forall_mem_cons.mpr ⟨⟨(List.mem_of_getElem? (i := 15) rfl), good_of_word rfl⟩, (fun _ h => absurd h List.not_mem_nil)⟩⟩⟩⟩⟩⟩⟩⟩⟩⟩⟩⟩, fun w h => ⟨(fun w h => List.mem_cons_of_mem _ (List.mem_append_right _ h)) w h, good_of_word (List.all_eq_true.mp gw_X12 w h)⟩⟩⟩
set_option maxRecDepth 20000 in
theorem gq_c_X12_teach_c_X12_takeRow_452 : GoodIn wq_c_X12_teach (wsV RX12 452 RX12 yX12_takeRow wq_c_X12_takeRow) := goodIn_app (List.forall_mem_cons.mpr ⟨⟨(List.mem_of_getElem? (i := 57) rfl), good_of_word rfl⟩, List.forall_mem_cons.mpr ⟨⟨(List.mem_of_getElem? (i := 58) rfl), good_of_word rfl⟩, List.forall_mem_cons.mpr ⟨⟨(List.mem_of_getElem? (i := 59) rfl), good_of_word rfl⟩, List.forall_mem_cons.mpr ⟨⟨(List.mem_of_getElem? (i := 4) rfl), good_of_word rfl⟩, (fun _ h => absurd h List.not_mem_nil)⟩⟩⟩⟩) gr_c_X12_teach_c_X12_takeRow
set_option maxHeartbeats 8000000 in
set_option maxRecDepth 100000 in
theorem c_X12_teach (l : Launch) (D : va_G) (cy : Nat → ClassId) (ad : Nat → Nat) (g : Nat → va_E) {f0 : List Value} {c5 : Nat → Int32} {c6 : Nat → Int32} {c8 : Nat → Int32} {c11 : Nat → Int32} {n : Int32} (o0 : g 0 = .inr (12, f0)) (f0_11 : f0[11]? = some (.ref (ad 1))) (f0_12 : f0[12]? = some (.ref (ad 2))) (f0_36 : f0[36]? = some (.int 0)) (f0_41 : f0[41]? = some (.ref (ad 3))) (f0_42 : f0[42]? = some (.ref (ad 5))) (f0_44 : f0[44]? = some (.ref (ad 4))) (f0_47 : f0[47]? = some (.ref (ad 6))) (f0_48 : f0[48]? = some (.ref (ad 7))) (f0_49 : f0[49]? = some (.ref (ad 8))) (f0_50 : f0[50]? = some (.ref (ad 9))) (f0_53 : f0[53]? = some (.ref (ad 10))) (f0_54 : f0[54]? = some (.ref (ad 11))) (f0_55 : f0[55]? = some (.ref (ad 12))) (f0_56 : f0[56]? = some (.int 0)) (f0_57 : f0[57]? = some (.int 0)) (f0_62 : f0[62]? = some (.int 0)) (a1 : g 1 = .inl (cy 0, 2, .inl (fun _ => 0))) (a2 : g 2 = .inl (cy 0, 2, .inl (fun _ => 0))) (a3 : g 3 = .inl (cy 0, 80, .inl (fun _ => 0))) (a4 : g 4 = .inl (cy 0, 5, .inl (fun _ => 0))) (a5 : g 5 = .inl (cy 0, 30, .inl c5)) (a6 : g 6 = .inl (cy 0, 30, .inl c6)) (a7 : g 7 = .inl (cy 0, 120, .inl (fun _ => 0))) (a8 : g 8 = .inl (cy 0, 120, .inl c8)) (a9 : g 9 = .inl (cy 0, 5, .inl (fun _ => 0))) (a10 : g 10 = .inl (cy 0, 5, .inl (fun _ => 0))) (a11 : g 11 = .inl (cy 2, 30, .inl c11)) (a12 : g 12 = .inl (cy 2, 5, .inl (fun _ => 0))) : cMi l yX12_teach wq_c_X12_teach { frames := 3, cells := 0, slots := 0, locals := 63 } 13 0 0 0 D cy ad g [.ref (ad 0), .int n] (fun r nw lu => r = ans_teach n) := by
  refine cM_of (Qc := fun A => cQi (fun r nw lu => r = ans_teach n) D 13 0 ad g A) (cc := cX12_teach) (maxL := 5) (ret := (some .int)) (by decide) rfl (Nat.le_of_ble_eq_true rfl) ?_
  intro p e s m below meth c A hC hr hlk hnm hO ls hl
  have hC : CallFix p m c cX12_teach 5 s [.ref (ad 0), .int n].toArray wq_c_X12_teach RX12 := hC
  obtain ⟨hx, hb, hml, hown, hts⟩ := id hC
  have hl : lv_has ls 5 [(0, .ref (ad 0)), (1, .int n)] := hl
  have i_X12 : ∀ w ∈ wsX120, w ∈ wq_c_X12_teach := fun w h => List.mem_cons_of_mem _ (List.mem_append_right _ h)
  refine lv_aload_n hx hb dX12_teach_0 rfl (lv_at hl 0 rfl) ?_
  refine lv_iconst (v := 0) hx hb dX12_teach_1 (by decide) ?_
  refine cg_put hC hO 0 (by decide) o0 rfl i_X12 tyX12_ok nmX12 62 (by decide) (List.mem_of_getElem? (i := 1) rfl) rfl rfl rfl (fs_lt f0_62) dX12_teach_2 (fun H locs hO => ?_)
  have hO : cO D cy A s.heap s 13 ad (cup [(0, .inr (12, (f0.set 62 (.int 0))))] g) _ _ := hO
  refine lv_iload_n hx hb dX12_teach_5 rfl (lv_at hl 1 rfl) ?_
  refine lv_iconst (v := 0) hx hb dX12_teach_6 (by decide) ?_
  refine lv_iconst (v := 3) hx hb dX12_teach_7 (by decide) ?_
  refine cg_Si (As := [.int n, .int 0, .int 3]) (rest := []) (mc := 0) (ms := 0) (rm := { frames := 0, cells := 0, slots := 0, locals := 0 }) hC hl.1 hO [] rfl (c_X12_isIn l D cy _ _ (x := n) (y := 0) (z := 3) ) gq_c_X12_teach_c_X12_isIn_366 rfl rfl rfl 3 (by decide +kernel) ⟨Nat.le_of_ble_eq_true rfl, Nat.le_of_ble_eq_true rfl⟩ rfl rfl (Nat.le_of_ble_eq_true rfl) dX12_teach_8 ⟨Nat.le_of_ble_eq_true rfl, Nat.le_of_ble_eq_true rfl⟩ (fun r_8_3 nw_8_1 l_8_2 H locs hw hO => ?_)
  rcases hw with hw | hw
  · obtain ⟨hr_8_4, rfl, rfl⟩ := hw
    have hO : cO D cy A s.heap s 13 ad (cup [(0, .inr (12, (f0.set 62 (.int 0))))] g) _ _ := hO
    refine lv_if_ne (tgt := 16) hx hb dX12_teach_11 (by decide) (fun _ => ?_) (fun h => absurd h (by decide))
    refine lv_iconst (v := (-1)) hx hb dX12_teach_16 (by decide) ?_
    refine lv_istore_n (lv' := [(2, .int (-1)), (0, .ref (ad 0)), (1, .int n)]) hx hb dX12_teach_17 rfl hl (by decide) rfl (fun ls hl => ?_)
    refine lv_iconst (v := 0) hx hb dX12_teach_18 (by decide) ?_
    refine lv_istore_n (lv' := [(3, .int 0), (2, .int (-1)), (0, .ref (ad 0)), (1, .int n)]) hx hb dX12_teach_19 rfl hl (by decide) rfl (fun ls hl => ?_)
    refine lv_iload_n hx hb dX12_teach_20 rfl (lv_at hl 0 rfl) ?_
    refine lv_aload_n hx hb dX12_teach_21 rfl (lv_at hl 2 rfl) ?_
    refine lv_iconst (v := 4) hx hb dX12_teach_22 (by decide) ?_
    refine cg_Vi (As := [.int 4]) (rest := [.int 0]) (mc := 0) (ms := 0) (rm := { frames := 1, cells := 0, slots := 0, locals := 20 }) hC hl.1 hO [0, 1] rfl (c_X12_rows l D cy _ _ (f0 := (f0.set 62 (.int 0))) (x := 4) rfl (fs_ne (by decide) f0_11) (fs_ne (by decide) f0_36) a1) gq_c_X12_teach_c_X12_rows_443 rfl rfl rfl 1 (by decide +kernel) ⟨Nat.le_of_ble_eq_true rfl, Nat.le_of_ble_eq_true rfl⟩ rfl (by decide) rfl rfl rfl (Nat.le_of_ble_eq_true rfl) dX12_teach_23 ⟨Nat.le_of_ble_eq_true rfl, Nat.le_of_ble_eq_true rfl⟩ (fun r_23_7 nw_23_5 l_23_6 H locs hw hO => ?_)
    obtain ⟨rfl, rfl⟩ := hw
    have hO : cO D cy A s.heap s 13 ad (cup [(0, .inr (12, (f0.set 62 (.int 0))))] g) _ _ := hO
    refine lv_icmp_ge (tgt := 101) hx hb dX12_teach_26 (by decide) (fun h => absurd h (by decide)) (fun _ => ?_)
    refine lv_aload_n hx hb dX12_teach_29 rfl (lv_at hl 2 rfl) ?_
    refine lv_iload_n hx hb dX12_teach_30 rfl (lv_at hl 0 rfl) ?_
    refine lv_iconst (v := 4) hx hb dX12_teach_31 (by decide) ?_
    refine cg_Vv (As := [.int 0, .int 4]) (rest := []) (mc := 0) (ms := 0) (rm := { frames := 1, cells := 0, slots := 0, locals := 20 }) hC hl.1 hO [0, 1] rfl (c_X12_layRow l D cy _ _ (f0 := (f0.set 62 (.int 0))) (x := 0) (y := 4) rfl (fs_ne (by decide) f0_11) (fs_ne (by decide) f0_36) a1) gq_c_X12_teach_c_X12_layRow_446 rfl rfl rfl 2 (by decide +kernel) ⟨Nat.le_of_ble_eq_true rfl, Nat.le_of_ble_eq_true rfl⟩ rfl (by decide) rfl rfl rfl (Nat.le_of_ble_eq_true rfl) dX12_teach_32 ⟨Nat.le_of_ble_eq_true rfl, Nat.le_of_ble_eq_true rfl⟩ (fun nw_32_8 l_32_9 H locs hw hO => ?_)
    obtain rfl := hw
    have hO : cO D cy A s.heap s 13 ad (cup [(0, .inr (12, (f0.set 62 (.int 0))))] g) _ _ := hO
    refine lv_aload_n hx hb dX12_teach_35 rfl (lv_at hl 2 rfl) ?_
    refine lv_iload_n hx hb dX12_teach_36 rfl (lv_at hl 3 rfl) ?_
    refine cg_Vi (As := [.int n]) (rest := []) (mc := 0) (ms := 0) (rm := { frames := 1, cells := 0, slots := 0, locals := 20 }) hC hl.1 hO [0, 1] rfl (c_X12_isTaught l D cy _ _ (f0 := (f0.set 62 (.int 0))) (n := n) rfl (fs_ne (by decide) f0_11) (fs_ne (by decide) f0_36) a1) gq_c_X12_teach_c_X12_isTaught_449 rfl rfl rfl 1 (by decide +kernel) ⟨Nat.le_of_ble_eq_true rfl, Nat.le_of_ble_eq_true rfl⟩ rfl (by decide) rfl rfl rfl (Nat.le_of_ble_eq_true rfl) dX12_teach_37 ⟨Nat.le_of_ble_eq_true rfl, Nat.le_of_ble_eq_true rfl⟩ (fun r_37_13 nw_37_11 l_37_12 H locs hw hO => ?_)
    rcases hw with hw | hw
    · obtain ⟨h_37_14, rfl, rfl⟩ := hw
      have hO : cO D cy A s.heap s 13 ad (cup [(0, .inr (12, (f0.set 62 (.int 0))))] g) _ _ := hO
      refine lv_if_ne (tgt := 46) hx hb dX12_teach_40 (by decide) (fun h => absurd h (by decide)) (fun _ => ?_)
      refine lv_goto (tgt := 95) hx hb dX12_teach_43 (by decide) ?_
      refine lv_iinc (v := 1) (lv' := [(3, .int 1), (2, .int (-1)), (0, .ref (ad 0)), (1, .int n)]) hx hb dX12_teach_95 hl (k := 0) rfl (by decide) (by decide) rfl (fun ls hl => ?_)
      refine lv_goto (tgt := 20) hx hb dX12_teach_98 (by decide) ?_
      refine lv_iload_n hx hb dX12_teach_20 rfl (lv_at hl 0 rfl) ?_
      refine lv_aload_n hx hb dX12_teach_21 rfl (lv_at hl 2 rfl) ?_
      refine lv_iconst (v := 4) hx hb dX12_teach_22 (by decide) ?_
      refine cg_Vi (As := [.int 4]) (rest := [.int 1]) (mc := 0) (ms := 0) (rm := { frames := 1, cells := 0, slots := 0, locals := 20 }) hC hl.1 hO [0, 1] rfl (c_X12_rows l D cy _ _ (f0 := (f0.set 62 (.int 0))) (x := 4) rfl (fs_ne (by decide) f0_11) (fs_ne (by decide) f0_36) a1) gq_c_X12_teach_c_X12_rows_443 rfl rfl rfl 1 (by decide +kernel) ⟨Nat.le_of_ble_eq_true rfl, Nat.le_of_ble_eq_true rfl⟩ rfl (by decide) rfl rfl rfl (Nat.le_of_ble_eq_true rfl) dX12_teach_23 ⟨Nat.le_of_ble_eq_true rfl, Nat.le_of_ble_eq_true rfl⟩ (fun r_23_17 nw_23_15 l_23_16 H locs hw hO => ?_)
      obtain ⟨rfl, rfl⟩ := hw
      have hO : cO D cy A s.heap s 13 ad (cup [(0, .inr (12, (f0.set 62 (.int 0))))] g) _ _ := hO
      refine lv_icmp_ge (tgt := 101) hx hb dX12_teach_26 (by decide) (fun _ => ?_) (fun h => absurd h (by decide))
      refine lv_iload_n hx hb dX12_teach_101 rfl (lv_at hl 1 rfl) ?_
      refine lv_if_lt (tgt := 113) hx hb dX12_teach_102 (by decide) (fun _ => ?_) (fun h => absurd h (by decide))
      refine lv_iload_n hx hb dX12_teach_113 rfl (lv_at hl 1 rfl) ?_
      exact cg_iret (nw := fun _ => 0) hC hr hlk hO.same rfl (Nat.le_of_ble_eq_true rfl) (Nat.le_of_ble_eq_true rfl) ((if_neg (fun z => h_37_14 z.symm)).symm) dX12_teach_114
    · obtain ⟨h_37_18, rfl, rfl⟩ := hw
      have hO : cO D cy A s.heap s 13 ad (cup [(0, .inr (12, (f0.set 62 (.int 0))))] g) _ _ := hO
      refine lv_if_ne (tgt := 46) hx hb dX12_teach_40 (by decide) (fun _ => ?_) (fun h => absurd h (by decide))
      refine lv_aload_n hx hb dX12_teach_46 rfl (lv_at hl 2 rfl) ?_
      refine cg_Vv (As := []) (rest := []) (mc := 0) (ms := 0) (rm := { frames := 2, cells := 0, slots := 0, locals := 42 }) hC hl.1 hO [0, 3, 4, 2] rfl (c_X12_layDay l D cy _ _ (f0 := (f0.set 62 (.int 0))) (xm := 0) (xl := 0) rfl (fs_ne (by decide) f0_12) (fs_ne (by decide) f0_36) (fs_ne (by decide) f0_41) (fs_ne (by decide) f0_44) (fs_ne (by decide) f0_56) (fs_ne (by decide) f0_57) a3 a4 a2) gq_c_X12_teach_c_X12_layDay_400 rfl rfl rfl 0 (by decide +kernel) ⟨Nat.le_of_ble_eq_true rfl, Nat.le_of_ble_eq_true rfl⟩ rfl (by decide) rfl rfl rfl (Nat.le_of_ble_eq_true rfl) dX12_teach_47 ⟨Nat.le_of_ble_eq_true rfl, Nat.le_of_ble_eq_true rfl⟩ (fun nw_47_19 l_47_20 H locs hw hO => ?_)
      obtain rfl := hw
      have hO : cO D cy A s.heap s 13 ad (cup [(0, .inr (12, (((f0.set 62 (.int 0)).set 56 (.int 0)).set 57 (.int 10000)))), (4, .inl (cy 0, 5, .inl (fun _ => 0)))] g) _ _ := hO
      refine lv_iconst (v := 0) hx hb dX12_teach_50 (by decide) ?_
      refine lv_istore (lv' := [(4, .int 0), (3, .int 0), (2, .int (-1)), (0, .ref (ad 0)), (1, .int n)]) hx hb dX12_teach_51 hl (by decide) rfl (fun ls hl => ?_)
      refine lv_iload hx hb dX12_teach_53 (lv_at hl 0 rfl) ?_
      refine lv_aload_n hx hb dX12_teach_55 rfl (lv_at hl 3 rfl) ?_
      refine cg_Vi (As := []) (rest := [.int 0]) (mc := 0) (ms := 0) (rm := { frames := 0, cells := 0, slots := 0, locals := 0 }) hC hl.1 hO [0, 1] rfl (c_birdMany0 l D cy _ _ (f0 := (((f0.set 62 (.int 0)).set 56 (.int 0)).set 57 (.int 10000))) rfl (fs_ne (by decide) (fs_ne (by decide) (fs_ne (by decide) f0_11))) (fs_ne (by decide) (fs_ne (by decide) (fs_ne (by decide) f0_36))) a1) gq_c_X12_teach_c_birdMany0_363 rfl rfl rfl 0 (by decide +kernel) ⟨Nat.le_of_ble_eq_true rfl, Nat.le_of_ble_eq_true rfl⟩ rfl (by decide) rfl rfl rfl (Nat.le_of_ble_eq_true rfl) dX12_teach_56 ⟨Nat.le_of_ble_eq_true rfl, Nat.le_of_ble_eq_true rfl⟩ (fun r_56_24 nw_56_22 l_56_23 H locs hw hO => ?_)
      obtain ⟨rfl, rfl⟩ := hw
      have hO : cO D cy A s.heap s 13 ad (cup [(0, .inr (12, (((f0.set 62 (.int 0)).set 56 (.int 0)).set 57 (.int 10000)))), (4, .inl (cy 0, 5, .inl (fun _ => 0)))] g) _ _ := hO
      refine lv_icmp_ge (tgt := 85) hx hb dX12_teach_59 (by decide) (fun _ => ?_) (fun h => absurd h (by decide))
      refine lv_aload_n hx hb dX12_teach_85 rfl (lv_at hl 3 rfl) ?_
      refine cg_Vv (As := []) (rest := []) (mc := 0) (ms := 0) (rm := { frames := 1, cells := 0, slots := 0, locals := 23 }) hC hl.1 hO [0, 5, 6, 11, 9, 10, 12, 7, 8, 2] rfl (c_X12_goesBy l D cy _ _ (f0 := (((f0.set 62 (.int 0)).set 56 (.int 0)).set 57 (.int 10000))) (c901 := c5) (c902 := c6) (c904 := c8) (c900 := c11) (mq := 0) rfl (fs_ne (by decide) (fs_ne (by decide) (fs_ne (by decide) f0_12))) (fs_ne (by decide) (fs_ne (by decide) (fs_ne (by decide) f0_36))) (fs_ne (by decide) (fs_ne (by decide) (fs_ne (by decide) f0_42))) (fs_ne (by decide) (fs_ne (by decide) (fs_ne (by decide) f0_47))) (fs_ne (by decide) (fs_ne (by decide) (fs_ne (by decide) f0_48))) (fs_ne (by decide) (fs_ne (by decide) (fs_ne (by decide) f0_49))) (fs_ne (by decide) (fs_ne (by decide) (fs_ne (by decide) f0_50))) (fs_ne (by decide) (fs_ne (by decide) (fs_ne (by decide) f0_53))) (fs_ne (by decide) (fs_ne (by decide) (fs_ne (by decide) f0_54))) (fs_ne (by decide) (fs_ne (by decide) (fs_ne (by decide) f0_55))) (fs_ne (by decide) (fs_eq (fs_ne (by decide) f0_56))) a5 a6 a11 a9 a10 a12 a7 a8 a2 (by omega)) gq_c_X12_teach_c_X12_goesBy_403 rfl rfl rfl 0 (by decide +kernel) ⟨Nat.le_of_ble_eq_true rfl, Nat.le_of_ble_eq_true rfl⟩ rfl (by decide) rfl rfl rfl (Nat.le_of_ble_eq_true rfl) dX12_teach_86 ⟨Nat.le_of_ble_eq_true rfl, Nat.le_of_ble_eq_true rfl⟩ (fun nw_86_25 l_86_26 H locs hw hO => ?_)
      obtain ⟨tt_86_28, cd_86_29, rfl⟩ := hw
      have hO : cO D cy A s.heap s 13 ad (cup [(0, .inr (12, (((f0.set 62 (.int 0)).set 56 (.int 0)).set 57 (.int 10000)))), (4, .inl (cy 0, 5, .inl (fun _ => 0))), (8, .inl (cy 0, 120, .inl cd_86_29)), (7, .inl (cy 0, 120, .inl (fun _ => 0))), (12, .inl (cy 2, 5, .inl (fun _ => 0))), (10, .inl (cy 0, 5, .inl (fun _ => 0))), (9, .inl (cy 0, 5, .inl (fun _ => 0))), (6, .inl (cy 0, 30, .inl tt_86_28))] g) _ _ := hO
      refine lv_aload_n hx hb dX12_teach_89 rfl (lv_at hl 3 rfl) ?_
      refine lv_iload_n hx hb dX12_teach_90 rfl (lv_at hl 2 rfl) ?_
      refine cg_Vi (As := [.int (-1)]) (rest := []) (mc := 0) (ms := 0) (rm := { frames := 1, cells := 0, slots := 0, locals := 22 }) hC hl.1 hO [0, 1] rfl (c_X12_takeRow l D cy _ _ (f0 := (((f0.set 62 (.int 0)).set 56 (.int 0)).set 57 (.int 10000))) rfl (fs_ne (by decide) (fs_ne (by decide) (fs_ne (by decide) f0_11))) (fs_ne (by decide) (fs_ne (by decide) (fs_ne (by decide) f0_36))) (fs_ne (by decide) (fs_eq (fs_ne (by decide) f0_56))) a1) gq_c_X12_teach_c_X12_takeRow_452 rfl rfl rfl 1 (by decide +kernel) ⟨Nat.le_of_ble_eq_true rfl, Nat.le_of_ble_eq_true rfl⟩ rfl (by decide) rfl rfl rfl (Nat.le_of_ble_eq_true rfl) dX12_teach_91 ⟨Nat.le_of_ble_eq_true rfl, Nat.le_of_ble_eq_true rfl⟩ (fun r_91_32 nw_91_30 l_91_31 H locs hw hO => ?_)
      obtain ⟨rfl, rfl⟩ := hw
      have hO : cO D cy A s.heap s 13 ad (cup [(0, .inr (12, (((f0.set 62 (.int 0)).set 56 (.int 0)).set 57 (.int 10000)))), (4, .inl (cy 0, 5, .inl (fun _ => 0))), (8, .inl (cy 0, 120, .inl cd_86_29)), (7, .inl (cy 0, 120, .inl (fun _ => 0))), (12, .inl (cy 2, 5, .inl (fun _ => 0))), (10, .inl (cy 0, 5, .inl (fun _ => 0))), (9, .inl (cy 0, 5, .inl (fun _ => 0))), (6, .inl (cy 0, 30, .inl tt_86_28))] g) _ _ := hO
      refine lv_istore_n (lv' := [(2, .int 0), (4, .int 0), (3, .int 0), (0, .ref (ad 0)), (1, .int n)]) hx hb dX12_teach_94 rfl hl (by decide) rfl (fun ls hl => ?_)
      refine lv_iinc (v := 1) (lv' := [(3, .int 1), (2, .int 0), (4, .int 0), (0, .ref (ad 0)), (1, .int n)]) hx hb dX12_teach_95 hl (k := 2) rfl (by decide) (by decide) rfl (fun ls hl => ?_)
      refine lv_goto (tgt := 20) hx hb dX12_teach_98 (by decide) ?_
      refine lv_iload_n hx hb dX12_teach_20 rfl (lv_at hl 0 rfl) ?_
      refine lv_aload_n hx hb dX12_teach_21 rfl (lv_at hl 3 rfl) ?_
      refine lv_iconst (v := 4) hx hb dX12_teach_22 (by decide) ?_
      refine cg_Vi (As := [.int 4]) (rest := [.int 1]) (mc := 0) (ms := 0) (rm := { frames := 1, cells := 0, slots := 0, locals := 20 }) hC hl.1 hO [0, 1] rfl (c_X12_rows l D cy _ _ (f0 := (((f0.set 62 (.int 0)).set 56 (.int 0)).set 57 (.int 10000))) (x := 4) rfl (fs_ne (by decide) (fs_ne (by decide) (fs_ne (by decide) f0_11))) (fs_ne (by decide) (fs_ne (by decide) (fs_ne (by decide) f0_36))) a1) gq_c_X12_teach_c_X12_rows_443 rfl rfl rfl 1 (by decide +kernel) ⟨Nat.le_of_ble_eq_true rfl, Nat.le_of_ble_eq_true rfl⟩ rfl (by decide) rfl rfl rfl (Nat.le_of_ble_eq_true rfl) dX12_teach_23 ⟨Nat.le_of_ble_eq_true rfl, Nat.le_of_ble_eq_true rfl⟩ (fun r_23_35 nw_23_33 l_23_34 H locs hw hO => ?_)
      obtain ⟨rfl, rfl⟩ := hw
      have hO : cO D cy A s.heap s 13 ad (cup [(0, .inr (12, (((f0.set 62 (.int 0)).set 56 (.int 0)).set 57 (.int 10000)))), (4, .inl (cy 0, 5, .inl (fun _ => 0))), (8, .inl (cy 0, 120, .inl cd_86_29)), (7, .inl (cy 0, 120, .inl (fun _ => 0))), (12, .inl (cy 2, 5, .inl (fun _ => 0))), (10, .inl (cy 0, 5, .inl (fun _ => 0))), (9, .inl (cy 0, 5, .inl (fun _ => 0))), (6, .inl (cy 0, 30, .inl tt_86_28))] g) _ _ := hO
      refine lv_icmp_ge (tgt := 101) hx hb dX12_teach_26 (by decide) (fun _ => ?_) (fun h => absurd h (by decide))
      refine lv_iload_n hx hb dX12_teach_101 rfl (lv_at hl 1 rfl) ?_
      refine lv_if_lt (tgt := 113) hx hb dX12_teach_102 (by decide) (fun h => absurd h (by decide)) (fun _ => ?_)
      refine lv_aload_n hx hb dX12_teach_105 rfl (lv_at hl 3 rfl) ?_
      refine lv_aload_n hx hb dX12_teach_106 rfl (lv_at hl 3 rfl) ?_
      refine cg_Vi (As := []) (rest := [.ref (ad 0)]) (mc := 0) (ms := 0) (rm := { frames := 0, cells := 0, slots := 0, locals := 0 }) hC hl.1 hO [0, 1] rfl (c_birdMany0 l D cy _ _ (f0 := (((f0.set 62 (.int 0)).set 56 (.int 0)).set 57 (.int 10000))) rfl (fs_ne (by decide) (fs_ne (by decide) (fs_ne (by decide) f0_11))) (fs_ne (by decide) (fs_ne (by decide) (fs_ne (by decide) f0_36))) a1) gq_c_X12_teach_c_birdMany0_363 rfl rfl rfl 0 (by decide +kernel) ⟨Nat.le_of_ble_eq_true rfl, Nat.le_of_ble_eq_true rfl⟩ rfl (by decide) rfl rfl rfl (Nat.le_of_ble_eq_true rfl) dX12_teach_107 ⟨Nat.le_of_ble_eq_true rfl, Nat.le_of_ble_eq_true rfl⟩ (fun r_107_38 nw_107_36 l_107_37 H locs hw hO => ?_)
      obtain ⟨rfl, rfl⟩ := hw
      have hO : cO D cy A s.heap s 13 ad (cup [(0, .inr (12, (((f0.set 62 (.int 0)).set 56 (.int 0)).set 57 (.int 10000)))), (4, .inl (cy 0, 5, .inl (fun _ => 0))), (8, .inl (cy 0, 120, .inl cd_86_29)), (7, .inl (cy 0, 120, .inl (fun _ => 0))), (12, .inl (cy 2, 5, .inl (fun _ => 0))), (10, .inl (cy 0, 5, .inl (fun _ => 0))), (9, .inl (cy 0, 5, .inl (fun _ => 0))), (6, .inl (cy 0, 30, .inl tt_86_28))] g) _ _ := hO
      refine cg_put hC hO 0 (by decide) rfl rfl i_X12 tyX12_ok nmX12 62 (by decide) (List.mem_of_getElem? (i := 1) rfl) rfl rfl rfl (fs_lt (fs_ne (by decide) (fs_ne (by decide) (fs_eq f0_62)))) dX12_teach_110 (fun H locs hO => ?_)
      have hO : cO D cy A s.heap s 13 ad (cup [(0, .inr (12, ((((f0.set 62 (.int 0)).set 56 (.int 0)).set 57 (.int 10000)).set 62 (.int 0)))), (4, .inl (cy 0, 5, .inl (fun _ => 0))), (8, .inl (cy 0, 120, .inl cd_86_29)), (7, .inl (cy 0, 120, .inl (fun _ => 0))), (12, .inl (cy 2, 5, .inl (fun _ => 0))), (10, .inl (cy 0, 5, .inl (fun _ => 0))), (9, .inl (cy 0, 5, .inl (fun _ => 0))), (6, .inl (cy 0, 30, .inl tt_86_28))] g) _ _ := hO
      refine lv_iload_n hx hb dX12_teach_113 rfl (lv_at hl 1 rfl) ?_
      exact cg_iret (nw := fun _ => 0) hC hr hlk hO.same rfl (Nat.le_of_ble_eq_true rfl) (Nat.le_of_ble_eq_true rfl) ((if_pos h_37_18.symm).symm) dX12_teach_114
  · obtain ⟨hr_8_39, rfl, rfl⟩ := hw
    have hO : cO D cy A s.heap s 13 ad (cup [(0, .inr (12, (f0.set 62 (.int 0))))] g) _ _ := hO
    refine lv_if_ne (tgt := 16) hx hb dX12_teach_11 (by decide) (fun h => absurd h (by decide)) (fun _ => ?_)
    refine lv_iconst (v := (-1)) hx hb dX12_teach_14 (by decide) ?_
    exact cg_iret (nw := fun _ => 0) hC hr hlk hO.same rfl (Nat.le_of_ble_eq_true rfl) (Nat.le_of_ble_eq_true rfl) ((if_neg (fun z => hr_8_39 (by rw [z]; decide))).symm) dX12_teach_15

theorem dX12_seats_0 : decode cX12_seats 0 = .ok (.aload_n 0, 1) := by decide +kernel
theorem dX12_seats_1 : decode cX12_seats 1 = .ok (.iconst 0, 1) := by decide +kernel
theorem dX12_seats_2 : decode cX12_seats 2 = .ok (.putfield 295, 3) := by decide +kernel
theorem dX12_seats_5 : decode cX12_seats 5 = .ok (.aload_n 0, 1) := by decide +kernel
theorem dX12_seats_6 : decode cX12_seats 6 = .ok (.invokevirtual 370, 3) := by decide +kernel
theorem dX12_seats_9 : decode cX12_seats 9 = .ok (.ifCond .ne 5, 3) := by decide +kernel
theorem dX12_seats_12 : decode cX12_seats 12 = .ok (.iconst (-1), 1) := by decide +kernel
theorem dX12_seats_13 : decode cX12_seats 13 = .ok (.ireturn, 1) := by decide +kernel
def wq_c_X12_seats : List Cond := Cond.code yX12_seats cX12_seats 4 (some .int) :: (([Cond.fieldLink RX12 295 "CrowTollModel" "laid" "I", Cond.methodLink RX12 370 yX12_postMany, Cond.instanceMethod yX12_postMany, Cond.selects RX12 yX12_postMany yX12_postMany, Cond.initialized RX12, Cond.code yX12_postMany cX12_postMany 1 (some .int), Cond.fieldLink RX12 24 "CrowTollModel" "posts" "[I", Cond.fieldLink RX12 286 "CrowTollModel" "bank" "I"] : List Cond) ++ wsX120)
set_option maxRecDepth 20000 in
theorem gr_c_X12_seats_c_X12_postMany : GoodIn wq_c_X12_seats wq_c_X12_postMany := List.forall_mem_cons.mpr ⟨⟨(List.mem_of_getElem? (i := 6) rfl), good_of_word rfl⟩, List.forall_mem_append.mpr ⟨List.forall_mem_cons.mpr ⟨⟨(List.mem_of_getElem? (i := 7) rfl), good_of_word rfl⟩, List.forall_mem_cons.mpr ⟨⟨(List.mem_of_getElem? (i := 8) rfl), good_of_word rfl⟩, (fun _ h => absurd h List.not_mem_nil)⟩⟩, fun w h => ⟨(fun w h => List.mem_cons_of_mem _ (List.mem_append_right _ h)) w h, good_of_word (List.all_eq_true.mp gw_X12 w h)⟩⟩⟩
set_option maxRecDepth 20000 in
theorem gq_c_X12_seats_c_X12_postMany_370 : GoodIn wq_c_X12_seats (wsV RX12 370 RX12 yX12_postMany wq_c_X12_postMany) := goodIn_app (List.forall_mem_cons.mpr ⟨⟨(List.mem_of_getElem? (i := 2) rfl), good_of_word rfl⟩, List.forall_mem_cons.mpr ⟨⟨(List.mem_of_getElem? (i := 3) rfl), good_of_word rfl⟩, List.forall_mem_cons.mpr ⟨⟨(List.mem_of_getElem? (i := 4) rfl), good_of_word rfl⟩, List.forall_mem_cons.mpr ⟨⟨(List.mem_of_getElem? (i := 5) rfl), good_of_word rfl⟩, (fun _ h => absurd h List.not_mem_nil)⟩⟩⟩⟩) gr_c_X12_seats_c_X12_postMany
set_option maxHeartbeats 8000000 in
set_option maxRecDepth 100000 in
theorem c_X12_seats (l : Launch) (D : va_G) (cy : Nat → ClassId) (ad : Nat → Nat) (g : Nat → va_E) {f0 : List Value} (o0 : g 0 = .inr (12, f0)) (f0_12 : f0[12]? = some (.ref (ad 1))) (f0_36 : f0[36]? = some (.int 0)) (f0_62 : f0[62]? = some (.int 0)) (a1 : g 1 = .inl (cy 0, 2, .inl (fun _ => 0))) : cMi l yX12_seats wq_c_X12_seats { frames := 1, cells := 0, slots := 0, locals := 20 } 2 0 0 0 D cy ad g [.ref (ad 0)] (fun r nw lu => r = -1) := by
  refine cM_of (Qc := fun A => cQi (fun r nw lu => r = -1) D 2 0 ad g A) (cc := cX12_seats) (maxL := 4) (ret := (some .int)) (by decide) rfl (Nat.le_of_ble_eq_true rfl) ?_
  intro p e s m below meth c A hC hr hlk hnm hO ls hl
  have hC : CallFix p m c cX12_seats 4 s [.ref (ad 0)].toArray wq_c_X12_seats RX12 := hC
  obtain ⟨hx, hb, hml, hown, hts⟩ := id hC
  have hl : lv_has ls 4 [(0, .ref (ad 0))] := hl
  have i_X12 : ∀ w ∈ wsX120, w ∈ wq_c_X12_seats := fun w h => List.mem_cons_of_mem _ (List.mem_append_right _ h)
  refine lv_aload_n hx hb dX12_seats_0 rfl (lv_at hl 0 rfl) ?_
  refine lv_iconst (v := 0) hx hb dX12_seats_1 (by decide) ?_
  refine cg_put hC hO 0 (by decide) o0 rfl i_X12 tyX12_ok nmX12 62 (by decide) (List.mem_of_getElem? (i := 1) rfl) rfl rfl rfl (fs_lt f0_62) dX12_seats_2 (fun H locs hO => ?_)
  have hO : cO D cy A s.heap s 2 ad (cup [(0, .inr (12, (f0.set 62 (.int 0))))] g) _ _ := hO
  refine lv_aload_n hx hb dX12_seats_5 rfl (lv_at hl 0 rfl) ?_
  refine cg_Vi (As := []) (rest := []) (mc := 0) (ms := 0) (rm := { frames := 0, cells := 0, slots := 0, locals := 0 }) hC hl.1 hO [0, 1] rfl (c_X12_postMany l D cy _ _ (f0 := (f0.set 62 (.int 0))) rfl (fs_ne (by decide) f0_12) (fs_ne (by decide) f0_36) a1) gq_c_X12_seats_c_X12_postMany_370 rfl rfl rfl 0 (by decide +kernel) ⟨Nat.le_of_ble_eq_true rfl, Nat.le_of_ble_eq_true rfl⟩ rfl (by decide) rfl rfl rfl (Nat.le_of_ble_eq_true rfl) dX12_seats_6 ⟨Nat.le_of_ble_eq_true rfl, Nat.le_of_ble_eq_true rfl⟩ (fun r_6_3 nw_6_1 l_6_2 H locs hw hO => ?_)
  obtain ⟨rfl, rfl⟩ := hw
  have hO : cO D cy A s.heap s 2 ad (cup [(0, .inr (12, (f0.set 62 (.int 0))))] g) _ _ := hO
  refine lv_if_ne (tgt := 14) hx hb dX12_seats_9 (by decide) (fun h => absurd h (by decide)) (fun _ => ?_)
  refine lv_iconst (v := (-1)) hx hb dX12_seats_12 (by decide) ?_
  exact cg_iret (nw := fun _ => 0) hC hr hlk hO.same rfl (Nat.le_of_ble_eq_true rfl) (Nat.le_of_ble_eq_true rfl) rfl dX12_seats_13

theorem dX12_sight_0 : decode cX12_sight 0 = .ok (.iload_n 1, 1) := by decide +kernel
theorem dX12_sight_1 : decode cX12_sight 1 = .ok (.iconst 0, 1) := by decide +kernel
theorem dX12_sight_2 : decode cX12_sight 2 = .ok (.sipush 720, 3) := by decide +kernel
theorem dX12_sight_5 : decode cX12_sight 5 = .ok (.invokestatic 366, 3) := by decide +kernel
theorem dX12_sight_8 : decode cX12_sight 8 = .ok (.ifCond .eq 30, 3) := by decide +kernel
theorem dX12_sight_11 : decode cX12_sight 11 = .ok (.aload_n 0, 1) := by decide +kernel
theorem dX12_sight_12 : decode cX12_sight 12 = .ok (.iload_n 2, 1) := by decide +kernel
theorem dX12_sight_13 : decode cX12_sight 13 = .ok (.invokevirtual 418, 3) := by decide +kernel
theorem dX12_sight_16 : decode cX12_sight 16 = .ok (.ifCond .eq 22, 3) := by decide +kernel
theorem dX12_sight_38 : decode cX12_sight 38 = .ok (.iconst (-1), 1) := by decide +kernel
theorem dX12_sight_39 : decode cX12_sight 39 = .ok (.ireturn, 1) := by decide +kernel
def wq_c_X12_sight : List Cond := Cond.code yX12_sight cX12_sight 4 (some .int) :: (([Cond.methodLink RX12 366 yX12_isIn, Cond.static yX12_isIn, Cond.initialized RX12, Cond.code yX12_isIn cX12_isIn 3 (some .boolean), Cond.methodLink RX12 418 yX12_isBird, Cond.instanceMethod yX12_isBird, Cond.selects RX12 yX12_isBird yX12_isBird, Cond.code yX12_isBird cX12_isBird 2 (some .boolean), Cond.methodLink RX12 363 yX12_birdMany, Cond.instanceMethod yX12_birdMany, Cond.selects RX12 yX12_birdMany yX12_birdMany, Cond.code yX12_birdMany cX12_birdMany 1 (some .int), Cond.fieldLink RX12 20 "CrowTollModel" "birds" "[I", Cond.fieldLink RX12 286 "CrowTollModel" "bank" "I"] : List Cond) ++ wsX120)
set_option maxRecDepth 20000 in
theorem gr_c_X12_sight_c_X12_isIn : GoodIn wq_c_X12_sight wq_c_X12_isIn := List.forall_mem_cons.mpr ⟨⟨(List.mem_of_getElem? (i := 4) rfl), good_of_word rfl⟩, (fun _ h => absurd h List.not_mem_nil)⟩
set_option maxRecDepth 20000 in
theorem gq_c_X12_sight_c_X12_isIn_366 : GoodIn wq_c_X12_sight (va_wsS RX12 366 yX12_isIn wq_c_X12_isIn) := goodIn_app (List.forall_mem_cons.mpr ⟨⟨(List.mem_of_getElem? (i := 1) rfl), good_of_word rfl⟩, List.forall_mem_cons.mpr ⟨⟨(List.mem_of_getElem? (i := 2) rfl), good_of_word rfl⟩, List.forall_mem_cons.mpr ⟨⟨(List.mem_of_getElem? (i := 3) rfl), good_of_word rfl⟩, (fun _ h => absurd h List.not_mem_nil)⟩⟩⟩) gr_c_X12_sight_c_X12_isIn
set_option maxRecDepth 20000 in
theorem gr_c_X12_sight_c_X12_isBird : GoodIn wq_c_X12_sight wq_c_X12_isBird := List.forall_mem_cons.mpr ⟨⟨(List.mem_of_getElem? (i := 8) rfl), good_of_word rfl⟩, List.forall_mem_append.mpr ⟨List.forall_mem_cons.mpr ⟨⟨(List.mem_of_getElem? (i := 9) rfl), good_of_word rfl⟩, List.forall_mem_cons.mpr ⟨⟨(List.mem_of_getElem? (i := 10) rfl), good_of_word rfl⟩, List.forall_mem_cons.mpr ⟨⟨(List.mem_of_getElem? (i := 11) rfl), good_of_word rfl⟩, List.forall_mem_cons.mpr ⟨⟨(List.mem_of_getElem? (i := 3) rfl), good_of_word rfl⟩, List.forall_mem_cons.mpr ⟨⟨(List.mem_of_getElem? (i := 12) rfl), good_of_word rfl⟩, List.forall_mem_cons.mpr ⟨⟨(List.mem_of_getElem? (i := 13) rfl), good_of_word rfl⟩, List.forall_mem_cons.mpr ⟨⟨(List.mem_of_getElem? (i := 14) rfl), good_of_word rfl⟩, List.forall_mem_cons.mpr ⟨⟨(List.mem_of_getElem? (i := 1) rfl), good_of_word rfl⟩, List.forall_mem_cons.mpr ⟨⟨(List.mem_of_getElem? (i := 2) rfl), good_of_word rfl⟩, List.forall_mem_cons.mpr ⟨⟨(List.mem_of_getElem? (i := 4) rfl), good_of_word rfl⟩, (fun _ h => absurd h List.not_mem_nil)⟩⟩⟩⟩⟩⟩⟩⟩⟩⟩, fun w h => ⟨(fun w h => List.mem_cons_of_mem _ (List.mem_append_right _ h)) w h, good_of_word (List.all_eq_true.mp gw_X12 w h)⟩⟩⟩
set_option maxRecDepth 20000 in
theorem gq_c_X12_sight_c_X12_isBird_418 : GoodIn wq_c_X12_sight (wsV RX12 418 RX12 yX12_isBird wq_c_X12_isBird) := goodIn_app (List.forall_mem_cons.mpr ⟨⟨(List.mem_of_getElem? (i := 5) rfl), good_of_word rfl⟩, List.forall_mem_cons.mpr ⟨⟨(List.mem_of_getElem? (i := 6) rfl), good_of_word rfl⟩, List.forall_mem_cons.mpr ⟨⟨(List.mem_of_getElem? (i := 7) rfl), good_of_word rfl⟩, List.forall_mem_cons.mpr ⟨⟨(List.mem_of_getElem? (i := 3) rfl), good_of_word rfl⟩, (fun _ h => absurd h List.not_mem_nil)⟩⟩⟩⟩) gr_c_X12_sight_c_X12_isBird
set_option maxHeartbeats 8000000 in
set_option maxRecDepth 100000 in
theorem c_X12_sight (l : Launch) (D : va_G) (cy : Nat → ClassId) (ad : Nat → Nat) (g : Nat → va_E) {f0 : List Value} {n : Int32} {q : Int32} {q2 : Int32} (o0 : g 0 = .inr (12, f0)) (f0_11 : f0[11]? = some (.ref (ad 1))) (f0_36 : f0[36]? = some (.int 0)) (a1 : g 1 = .inl (cy 0, 2, .inl (fun _ => 0))) : cMi l yX12_sight wq_c_X12_sight { frames := 2, cells := 0, slots := 0, locals := 43 } 2 0 0 0 D cy ad g [.ref (ad 0), .int n, .int q, .int q2] (fun r nw lu => r = -1) := by
  refine cM_of (Qc := fun A => cQi (fun r nw lu => r = -1) D 2 0 ad g A) (cc := cX12_sight) (maxL := 4) (ret := (some .int)) (by decide) rfl (Nat.le_of_ble_eq_true rfl) ?_
  intro p e s m below meth c A hC hr hlk hnm hO ls hl
  have hC : CallFix p m c cX12_sight 4 s [.ref (ad 0), .int n, .int q, .int q2].toArray wq_c_X12_sight RX12 := hC
  obtain ⟨hx, hb, hml, hown, hts⟩ := id hC
  have hl : lv_has ls 4 [(0, .ref (ad 0)), (1, .int n), (2, .int q), (3, .int q2)] := hl
  have i_X12 : ∀ w ∈ wsX120, w ∈ wq_c_X12_sight := fun w h => List.mem_cons_of_mem _ (List.mem_append_right _ h)
  refine lv_iload_n hx hb dX12_sight_0 rfl (lv_at hl 1 rfl) ?_
  refine lv_iconst (v := 0) hx hb dX12_sight_1 (by decide) ?_
  refine lv_sipush (v := 720) hx hb dX12_sight_2 (by decide) ?_
  refine cg_Si (As := [.int n, .int 0, .int 720]) (rest := []) (mc := 0) (ms := 0) (rm := { frames := 0, cells := 0, slots := 0, locals := 0 }) hC hl.1 hO [] rfl (c_X12_isIn l D cy _ _ (x := n) (y := 0) (z := 720) ) gq_c_X12_sight_c_X12_isIn_366 rfl rfl rfl 3 (by decide +kernel) ⟨Nat.le_of_ble_eq_true rfl, Nat.le_of_ble_eq_true rfl⟩ rfl rfl (Nat.le_of_ble_eq_true rfl) dX12_sight_5 ⟨Nat.le_of_ble_eq_true rfl, Nat.le_of_ble_eq_true rfl⟩ (fun r_5_3 nw_5_1 l_5_2 H locs hw hO => ?_)
  rcases hw with hw | hw
  · obtain ⟨hr_5_4, rfl, rfl⟩ := hw
    have hO : cO D cy A s.heap s 2 ad (cup [] g) _ _ := hO
    refine lv_if_eq (tgt := 38) hx hb dX12_sight_8 (by decide) (fun h => absurd h (by decide)) (fun _ => ?_)
    refine lv_aload_n hx hb dX12_sight_11 rfl (lv_at hl 0 rfl) ?_
    refine lv_iload_n hx hb dX12_sight_12 rfl (lv_at hl 2 rfl) ?_
    refine cg_Vi (As := [.int q]) (rest := []) (mc := 0) (ms := 0) (rm := { frames := 1, cells := 0, slots := 0, locals := 22 }) hC hl.1 hO [0, 1] rfl (c_X12_isBird l D cy _ _ (f0 := f0) (n := q) o0 f0_11 f0_36 a1) gq_c_X12_sight_c_X12_isBird_418 rfl rfl rfl 1 (by decide +kernel) ⟨Nat.le_of_ble_eq_true rfl, Nat.le_of_ble_eq_true rfl⟩ rfl (by decide) o0 rfl rfl (Nat.le_of_ble_eq_true rfl) dX12_sight_13 ⟨Nat.le_of_ble_eq_true rfl, Nat.le_of_ble_eq_true rfl⟩ (fun r_13_7 nw_13_5 l_13_6 H locs hw hO => ?_)
    obtain ⟨rfl, rfl⟩ := hw
    have hO : cO D cy A s.heap s 2 ad (cup [] g) _ _ := hO
    refine lv_if_eq (tgt := 38) hx hb dX12_sight_16 (by decide) (fun _ => ?_) (fun h => absurd h (by decide))
    refine lv_iconst (v := (-1)) hx hb dX12_sight_38 (by decide) ?_
    exact cg_iret (nw := fun _ => 0) hC hr hlk hO.same rfl (Nat.le_of_ble_eq_true rfl) (Nat.le_of_ble_eq_true rfl) rfl dX12_sight_39
  · obtain ⟨hr_5_8, rfl, rfl⟩ := hw
    have hO : cO D cy A s.heap s 2 ad (cup [] g) _ _ := hO
    refine lv_if_eq (tgt := 38) hx hb dX12_sight_8 (by decide) (fun _ => ?_) (fun h => absurd h (by decide))
    refine lv_iconst (v := (-1)) hx hb dX12_sight_38 (by decide) ?_
    exact cg_iret (nw := fun _ => 0) hC hr hlk hO.same rfl (Nat.le_of_ble_eq_true rfl) (Nat.le_of_ble_eq_true rfl) rfl dX12_sight_39

theorem dX12_untell_0 : decode cX12_untell 0 = .ok (.iload_n 1, 1) := by decide +kernel
theorem dX12_untell_1 : decode cX12_untell 1 = .ok (.iconst 0, 1) := by decide +kernel
theorem dX12_untell_2 : decode cX12_untell 2 = .ok (.aload_n 0, 1) := by decide +kernel
theorem dX12_untell_3 : decode cX12_untell 3 = .ok (.getfield 292, 3) := by decide +kernel
theorem dX12_untell_6 : decode cX12_untell 6 = .ok (.iconst 1, 1) := by decide +kernel
theorem dX12_untell_7 : decode cX12_untell 7 = .ok (.isub, 1) := by decide +kernel
theorem dX12_untell_8 : decode cX12_untell 8 = .ok (.invokestatic 366, 3) := by decide +kernel
theorem dX12_untell_11 : decode cX12_untell 11 = .ok (.ifCond .eq 12, 3) := by decide +kernel
theorem dX12_untell_23 : decode cX12_untell 23 = .ok (.iconst 0, 1) := by decide +kernel
theorem dX12_untell_24 : decode cX12_untell 24 = .ok (.ireturn, 1) := by decide +kernel
def wq_c_X12_untell : List Cond := Cond.code yX12_untell cX12_untell 2 (some .boolean) :: (([Cond.fieldLink RX12 292 "CrowTollModel" "sights" "I", Cond.methodLink RX12 366 yX12_isIn, Cond.static yX12_isIn, Cond.initialized RX12, Cond.code yX12_isIn cX12_isIn 3 (some .boolean)] : List Cond) ++ wsX120)
set_option maxRecDepth 20000 in
theorem gr_c_X12_untell_c_X12_isIn : GoodIn wq_c_X12_untell wq_c_X12_isIn := List.forall_mem_cons.mpr ⟨⟨(List.mem_of_getElem? (i := 5) rfl), good_of_word rfl⟩, (fun _ h => absurd h List.not_mem_nil)⟩
set_option maxRecDepth 20000 in
theorem gq_c_X12_untell_c_X12_isIn_366 : GoodIn wq_c_X12_untell (va_wsS RX12 366 yX12_isIn wq_c_X12_isIn) := goodIn_app (List.forall_mem_cons.mpr ⟨⟨(List.mem_of_getElem? (i := 2) rfl), good_of_word rfl⟩, List.forall_mem_cons.mpr ⟨⟨(List.mem_of_getElem? (i := 3) rfl), good_of_word rfl⟩, List.forall_mem_cons.mpr ⟨⟨(List.mem_of_getElem? (i := 4) rfl), good_of_word rfl⟩, (fun _ h => absurd h List.not_mem_nil)⟩⟩⟩) gr_c_X12_untell_c_X12_isIn
set_option maxHeartbeats 8000000 in
set_option maxRecDepth 100000 in
theorem c_X12_untell (l : Launch) (D : va_G) (cy : Nat → ClassId) (ad : Nat → Nat) (g : Nat → va_E) {f0 : List Value} {n : Int32} (o0 : g 0 = .inr (12, f0)) (f0_70 : f0[70]? = some (.int 0)) : cMi l yX12_untell wq_c_X12_untell { frames := 1, cells := 0, slots := 0, locals := 22 } 1 0 0 0 D cy ad g [.ref (ad 0), .int n] (fun r nw lu => r = 0) := by
  refine cM_of (Qc := fun A => cQi (fun r nw lu => r = 0) D 1 0 ad g A) (cc := cX12_untell) (maxL := 2) (ret := (some .boolean)) (by decide) rfl (Nat.le_of_ble_eq_true rfl) ?_
  intro p e s m below meth c A hC hr hlk hnm hO ls hl
  have hC : CallFix p m c cX12_untell 2 s [.ref (ad 0), .int n].toArray wq_c_X12_untell RX12 := hC
  obtain ⟨hx, hb, hml, hown, hts⟩ := id hC
  have hl : lv_has ls 2 [(0, .ref (ad 0)), (1, .int n)] := hl
  have i_X12 : ∀ w ∈ wsX120, w ∈ wq_c_X12_untell := fun w h => List.mem_cons_of_mem _ (List.mem_append_right _ h)
  refine lv_iload_n hx hb dX12_untell_0 rfl (lv_at hl 1 rfl) ?_
  refine lv_iconst (v := 0) hx hb dX12_untell_1 (by decide) ?_
  refine lv_aload_n hx hb dX12_untell_2 rfl (lv_at hl 0 rfl) ?_
  refine cg_get hC hO 0 (by decide) o0 rfl i_X12 70 (by decide) (List.mem_of_getElem? (i := 1) rfl) f0_70 dX12_untell_3 ?_
  refine lv_iconst (v := 1) hx hb dX12_untell_6 (by decide) ?_
  refine lv_isub hx hb dX12_untell_7 ?_
  refine cg_ev (v := (-1)) (by decide) ?_
  refine cg_Si (As := [.int n, .int 0, .int (-1)]) (rest := []) (mc := 0) (ms := 0) (rm := { frames := 0, cells := 0, slots := 0, locals := 0 }) hC hl.1 hO [] rfl (c_X12_isIn l D cy _ _ (x := n) (y := 0) (z := (-1)) ) gq_c_X12_untell_c_X12_isIn_366 rfl rfl rfl 3 (by decide +kernel) ⟨Nat.le_of_ble_eq_true rfl, Nat.le_of_ble_eq_true rfl⟩ rfl rfl (Nat.le_of_ble_eq_true rfl) dX12_untell_8 ⟨Nat.le_of_ble_eq_true rfl, Nat.le_of_ble_eq_true rfl⟩ (fun r_8_3 nw_8_1 l_8_2 H locs hw hO => ?_)
  rcases hw with hw | hw
  · obtain ⟨hr_8_4, rfl, rfl⟩ := hw
    exact absurd (Int32.le_trans hr_8_4.1 hr_8_4.2) (by decide)
  · obtain ⟨hr_8_5, rfl, rfl⟩ := hw
    have hO : cO D cy A s.heap s 1 ad (cup [] g) _ _ := hO
    refine lv_if_eq (tgt := 23) hx hb dX12_untell_11 (by decide) (fun _ => ?_) (fun h => absurd h (by decide))
    refine lv_iconst (v := 0) hx hb dX12_untell_23 (by decide) ?_
    exact cg_iret (nw := fun _ => 0) hC hr hlk hO.same rfl (Nat.le_of_ble_eq_true rfl) (Nat.le_of_ble_eq_true rfl) rfl dX12_untell_24

theorem dX12_later_0 : decode cX12_later 0 = .ok (.iload_n 1, 1) := by decide +kernel
theorem dX12_later_1 : decode cX12_later 1 = .ok (.iconst 0, 1) := by decide +kernel
theorem dX12_later_2 : decode cX12_later 2 = .ok (.sipush 1000, 3) := by decide +kernel
theorem dX12_later_5 : decode cX12_later 5 = .ok (.invokestatic 366, 3) := by decide +kernel
theorem dX12_later_8 : decode cX12_later 8 = .ok (.ifCond .eq 15, 3) := by decide +kernel
theorem dX12_later_11 : decode cX12_later 11 = .ok (.aload_n 0, 1) := by decide +kernel
theorem dX12_later_12 : decode cX12_later 12 = .ok (.getfield 455, 3) := by decide +kernel
theorem dX12_later_15 : decode cX12_later 15 = .ok (.iload_n 1, 1) := by decide +kernel
theorem dX12_later_16 : decode cX12_later 16 = .ok (.iadd, 1) := by decide +kernel
theorem dX12_later_17 : decode cX12_later 17 = .ok (.ldc_w 458, 3) := by decide +kernel
theorem dX12_later_20 : decode cX12_later 20 = .ok (.if_icmp .le 5, 3) := by decide +kernel
theorem dX12_later_23 : decode cX12_later 23 = .ok (.iconst (-1), 1) := by decide +kernel
theorem dX12_later_24 : decode cX12_later 24 = .ok (.ireturn, 1) := by decide +kernel
theorem dX12_later_25 : decode cX12_later 25 = .ok (.aload_n 0, 1) := by decide +kernel
theorem dX12_later_26 : decode cX12_later 26 = .ok (.dup, 1) := by decide +kernel
theorem dX12_later_27 : decode cX12_later 27 = .ok (.getfield 455, 3) := by decide +kernel
theorem dX12_later_30 : decode cX12_later 30 = .ok (.iload_n 1, 1) := by decide +kernel
theorem dX12_later_31 : decode cX12_later 31 = .ok (.iadd, 1) := by decide +kernel
theorem dX12_later_32 : decode cX12_later 32 = .ok (.putfield 455, 3) := by decide +kernel
theorem dX12_later_35 : decode cX12_later 35 = .ok (.aload_n 0, 1) := by decide +kernel
theorem dX12_later_36 : decode cX12_later 36 = .ok (.getfield 455, 3) := by decide +kernel
theorem dX12_later_39 : decode cX12_later 39 = .ok (.ireturn, 1) := by decide +kernel
def wq_c_X12_later : List Cond := Cond.code yX12_later cX12_later 2 (some .int) :: (([Cond.methodLink RX12 366 yX12_isIn, Cond.static yX12_isIn, Cond.initialized RX12, Cond.code yX12_isIn cX12_isIn 3 (some .boolean), Cond.fieldLink RX12 455 "CrowTollModel" "time" "I", Cond.constant RX12 458 (100000)] : List Cond) ++ wsX120)
set_option maxRecDepth 20000 in
theorem gr_c_X12_later_c_X12_isIn : GoodIn wq_c_X12_later wq_c_X12_isIn := List.forall_mem_cons.mpr ⟨⟨(List.mem_of_getElem? (i := 4) rfl), good_of_word rfl⟩, (fun _ h => absurd h List.not_mem_nil)⟩
set_option maxRecDepth 20000 in
theorem gq_c_X12_later_c_X12_isIn_366 : GoodIn wq_c_X12_later (va_wsS RX12 366 yX12_isIn wq_c_X12_isIn) := goodIn_app (List.forall_mem_cons.mpr ⟨⟨(List.mem_of_getElem? (i := 1) rfl), good_of_word rfl⟩, List.forall_mem_cons.mpr ⟨⟨(List.mem_of_getElem? (i := 2) rfl), good_of_word rfl⟩, List.forall_mem_cons.mpr ⟨⟨(List.mem_of_getElem? (i := 3) rfl), good_of_word rfl⟩, (fun _ h => absurd h List.not_mem_nil)⟩⟩⟩) gr_c_X12_later_c_X12_isIn
set_option maxHeartbeats 8000000 in
set_option maxRecDepth 100000 in
theorem c_X12_later (l : Launch) (D : va_G) (cy : Nat → ClassId) (ad : Nat → Nat) (g : Nat → va_E) {f0 : List Value} {n : Int32} (o0 : g 0 = .inr (12, f0)) (f0_71 : f0[71]? = some (.int 0)) : cMi l yX12_later wq_c_X12_later { frames := 1, cells := 0, slots := 0, locals := 22 } 1 0 0 0 D cy ad g [.ref (ad 0), .int n] (fun r nw lu => r = ans_later n) := by
  refine cM_of (Qc := fun A => cQi (fun r nw lu => r = ans_later n) D 1 0 ad g A) (cc := cX12_later) (maxL := 2) (ret := (some .int)) (by decide) rfl (Nat.le_of_ble_eq_true rfl) ?_
  intro p e s m below meth c A hC hr hlk hnm hO ls hl
  have hC : CallFix p m c cX12_later 2 s [.ref (ad 0), .int n].toArray wq_c_X12_later RX12 := hC
  obtain ⟨hx, hb, hml, hown, hts⟩ := id hC
  have hl : lv_has ls 2 [(0, .ref (ad 0)), (1, .int n)] := hl
  have i_X12 : ∀ w ∈ wsX120, w ∈ wq_c_X12_later := fun w h => List.mem_cons_of_mem _ (List.mem_append_right _ h)
  refine lv_iload_n hx hb dX12_later_0 rfl (lv_at hl 1 rfl) ?_
  refine lv_iconst (v := 0) hx hb dX12_later_1 (by decide) ?_
  refine lv_sipush (v := 1000) hx hb dX12_later_2 (by decide) ?_
  refine cg_Si (As := [.int n, .int 0, .int 1000]) (rest := []) (mc := 0) (ms := 0) (rm := { frames := 0, cells := 0, slots := 0, locals := 0 }) hC hl.1 hO [] rfl (c_X12_isIn l D cy _ _ (x := n) (y := 0) (z := 1000) ) gq_c_X12_later_c_X12_isIn_366 rfl rfl rfl 3 (by decide +kernel) ⟨Nat.le_of_ble_eq_true rfl, Nat.le_of_ble_eq_true rfl⟩ rfl rfl (Nat.le_of_ble_eq_true rfl) dX12_later_5 ⟨Nat.le_of_ble_eq_true rfl, Nat.le_of_ble_eq_true rfl⟩ (fun r_5_3 nw_5_1 l_5_2 H locs hw hO => ?_)
  rcases hw with hw | hw
  · obtain ⟨hr_5_4, rfl, rfl⟩ := hw
    have hO : cO D cy A s.heap s 1 ad (cup [] g) _ _ := hO
    refine lv_if_eq (tgt := 23) hx hb dX12_later_8 (by decide) (fun h => absurd h (by decide)) (fun _ => ?_)
    refine lv_aload_n hx hb dX12_later_11 rfl (lv_at hl 0 rfl) ?_
    refine cg_get hC hO 0 (by decide) o0 rfl i_X12 71 (by decide) (List.mem_of_getElem? (i := 5) rfl) f0_71 dX12_later_12 ?_
    refine lv_iload_n hx hb dX12_later_15 rfl (lv_at hl 1 rfl) ?_
    refine lv_iadd hx hb dX12_later_16 ?_
    refine lv_ldcw (v := 100000) hx hb hown (hts _ (List.mem_of_getElem? (i := 6) rfl)) dX12_later_17 ?_
    refine lv_icmp_le (tgt := 25) hx hb dX12_later_20 (by decide) (fun _ => ?_) (fun h => (show False from h (by rw [Int32.zero_add]; exact Int32.le_trans hr_5_4.2 (by decide))).elim)
    refine lv_aload_n hx hb dX12_later_25 rfl (lv_at hl 0 rfl) ?_
    refine lv_dup hx hb dX12_later_26 rfl ?_
    refine cg_get hC hO 0 (by decide) o0 rfl i_X12 71 (by decide) (List.mem_of_getElem? (i := 5) rfl) f0_71 dX12_later_27 ?_
    refine lv_iload_n hx hb dX12_later_30 rfl (lv_at hl 1 rfl) ?_
    refine lv_iadd hx hb dX12_later_31 ?_
    refine cg_put hC hO 0 (by decide) o0 rfl i_X12 tyX12_ok nmX12 71 (by decide) (List.mem_of_getElem? (i := 5) rfl) rfl rfl rfl (fs_lt f0_71) dX12_later_32 (fun H locs hO => ?_)
    have hO : cO D cy A s.heap s 1 ad (cup [(0, .inr (12, (f0.set 71 (.int (0 + n)))))] g) _ _ := hO
    refine lv_aload_n hx hb dX12_later_35 rfl (lv_at hl 0 rfl) ?_
    refine cg_get hC hO 0 (by decide) rfl rfl i_X12 71 (by decide) (List.mem_of_getElem? (i := 5) rfl) (fs_eq f0_71) dX12_later_36 ?_
    exact cg_iret (nw := fun _ => 0) hC hr hlk hO.same rfl (Nat.le_of_ble_eq_true rfl) (Nat.le_of_ble_eq_true rfl) (by rw [Int32.zero_add]; exact (if_pos hr_5_4).symm) dX12_later_39
  · obtain ⟨hr_5_5, rfl, rfl⟩ := hw
    have hO : cO D cy A s.heap s 1 ad (cup [] g) _ _ := hO
    refine lv_if_eq (tgt := 23) hx hb dX12_later_8 (by decide) (fun _ => ?_) (fun h => absurd h (by decide))
    refine lv_iconst (v := (-1)) hx hb dX12_later_23 (by decide) ?_
    exact cg_iret (nw := fun _ => 0) hC hr hlk hO.same rfl (Nat.le_of_ble_eq_true rfl) (Nat.le_of_ble_eq_true rfl) ((if_neg hr_5_5).symm) dX12_later_24

theorem dX12_isSo_0 : decode cX12_isSo 0 = .ok (.aload_n 0, 1) := by decide +kernel
theorem dX12_isSo_1 : decode cX12_isSo 1 = .ok (.aload_n 0, 1) := by decide +kernel
theorem dX12_isSo_2 : decode cX12_isSo 2 = .ok (.getfield 27, 3) := by decide +kernel
theorem dX12_isSo_5 : decode cX12_isSo 5 = .ok (.aload_n 0, 1) := by decide +kernel
theorem dX12_isSo_6 : decode cX12_isSo 6 = .ok (.getfield 286, 3) := by decide +kernel
theorem dX12_isSo_9 : decode cX12_isSo 9 = .ok (.iaload, 1) := by decide +kernel
theorem dX12_isSo_10 : decode cX12_isSo 10 = .ok (.putfield 379, 3) := by decide +kernel
theorem dX12_isSo_13 : decode cX12_isSo 13 = .ok (.iconst 0, 1) := by decide +kernel
theorem dX12_isSo_14 : decode cX12_isSo 14 = .ok (.istore_n 3, 1) := by decide +kernel
theorem dX12_isSo_15 : decode cX12_isSo 15 = .ok (.iload_n 3, 1) := by decide +kernel
theorem dX12_isSo_16 : decode cX12_isSo 16 = .ok (.aload_n 0, 1) := by decide +kernel
theorem dX12_isSo_17 : decode cX12_isSo 17 = .ok (.getfield 379, 3) := by decide +kernel
theorem dX12_isSo_20 : decode cX12_isSo 20 = .ok (.if_icmp .ge 86, 3) := by decide +kernel
theorem dX12_isSo_106 : decode cX12_isSo 106 = .ok (.iconst 0, 1) := by decide +kernel
theorem dX12_isSo_107 : decode cX12_isSo 107 = .ok (.istore_n 3, 1) := by decide +kernel
theorem dX12_isSo_108 : decode cX12_isSo 108 = .ok (.iload_n 3, 1) := by decide +kernel
theorem dX12_isSo_109 : decode cX12_isSo 109 = .ok (.aload_n 0, 1) := by decide +kernel
theorem dX12_isSo_110 : decode cX12_isSo 110 = .ok (.invokevirtual 363, 3) := by decide +kernel
theorem dX12_isSo_113 : decode cX12_isSo 113 = .ok (.if_icmp .ge 28, 3) := by decide +kernel
theorem dX12_isSo_141 : decode cX12_isSo 141 = .ok (.aload_n 0, 1) := by decide +kernel
theorem dX12_isSo_142 : decode cX12_isSo 142 = .ok (.invokevirtual 385, 3) := by decide +kernel
theorem dX12_isSo_145 : decode cX12_isSo 145 = .ok (.iconst 0, 1) := by decide +kernel
theorem dX12_isSo_146 : decode cX12_isSo 146 = .ok (.istore_n 3, 1) := by decide +kernel
theorem dX12_isSo_147 : decode cX12_isSo 147 = .ok (.iload_n 3, 1) := by decide +kernel
theorem dX12_isSo_148 : decode cX12_isSo 148 = .ok (.aload_n 0, 1) := by decide +kernel
theorem dX12_isSo_149 : decode cX12_isSo 149 = .ok (.getfield 292, 3) := by decide +kernel
theorem dX12_isSo_152 : decode cX12_isSo 152 = .ok (.if_icmp .ge 57, 3) := by decide +kernel
theorem dX12_isSo_209 : decode cX12_isSo 209 = .ok (.iconst 1, 1) := by decide +kernel
theorem dX12_isSo_210 : decode cX12_isSo 210 = .ok (.ireturn, 1) := by decide +kernel
def wq_c_X12_isSo : List Cond := Cond.code yX12_isSo cX12_isSo 4 (some .boolean) :: (([Cond.fieldLink RX12 27 "CrowTollModel" "carts" "[I", Cond.fieldLink RX12 286 "CrowTollModel" "bank" "I", Cond.fieldLink RX12 379 "CrowTollModel" "dMany" "I", Cond.methodLink RX12 363 yX12_birdMany, Cond.instanceMethod yX12_birdMany, Cond.selects RX12 yX12_birdMany yX12_birdMany, Cond.initialized RX12, Cond.code yX12_birdMany cX12_birdMany 1 (some .int), Cond.fieldLink RX12 20 "CrowTollModel" "birds" "[I", Cond.methodLink RX12 385 yX12_laySeats, Cond.instanceMethod yX12_laySeats, Cond.selects RX12 yX12_laySeats yX12_laySeats, Cond.code yX12_laySeats cX12_laySeats 3 none, Cond.methodLink RX12 370 yX12_postMany, Cond.instanceMethod yX12_postMany, Cond.selects RX12 yX12_postMany yX12_postMany, Cond.code yX12_postMany cX12_postMany 1 (some .int), Cond.fieldLink RX12 24 "CrowTollModel" "posts" "[I", Cond.fieldLink RX12 292 "CrowTollModel" "sights" "I"] : List Cond) ++ wsX120)
set_option maxRecDepth 20000 in
theorem gr_c_X12_isSo_c_birdMany0 : GoodIn wq_c_X12_isSo wq_c_birdMany0 := List.forall_mem_cons.mpr ⟨⟨(List.mem_of_getElem? (i := 8) rfl), good_of_word rfl⟩, List.forall_mem_append.mpr ⟨List.forall_mem_cons.mpr ⟨⟨(List.mem_of_getElem? (i := 9) rfl), good_of_word rfl⟩, List.forall_mem_cons.mpr ⟨⟨(List.mem_of_getElem? (i := 2) rfl), good_of_word rfl⟩, (fun _ h => absurd h List.not_mem_nil)⟩⟩, fun w h => ⟨(fun w h => List.mem_cons_of_mem _ (List.mem_append_right _ h)) w h, good_of_word (List.all_eq_true.mp gw_X12 w h)⟩⟩⟩
set_option maxRecDepth 20000 in
theorem gq_c_X12_isSo_c_birdMany0_363 : GoodIn wq_c_X12_isSo (wsV RX12 363 RX12 yX12_birdMany wq_c_birdMany0) := goodIn_app (List.forall_mem_cons.mpr ⟨⟨(List.mem_of_getElem? (i := 4) rfl), good_of_word rfl⟩, List.forall_mem_cons.mpr ⟨⟨(List.mem_of_getElem? (i := 5) rfl), good_of_word rfl⟩, List.forall_mem_cons.mpr ⟨⟨(List.mem_of_getElem? (i := 6) rfl), good_of_word rfl⟩, List.forall_mem_cons.mpr ⟨⟨(List.mem_of_getElem? (i := 7) rfl), good_of_word rfl⟩, (fun _ h => absurd h List.not_mem_nil)⟩⟩⟩⟩) gr_c_X12_isSo_c_birdMany0
set_option maxRecDepth 20000 in
theorem gr_c_X12_isSo_c_X12_laySeats : GoodIn wq_c_X12_isSo wq_c_X12_laySeats := List.forall_mem_cons.mpr ⟨⟨(List.mem_of_getElem? (i := 13) rfl), good_of_word rfl⟩, List.forall_mem_append.mpr ⟨List.forall_mem_cons.mpr ⟨⟨(List.mem_of_getElem? (i := 14) rfl), good_of_word rfl⟩, List.forall_mem_cons.mpr ⟨⟨(List.mem_of_getElem? (i := 15) rfl), good_of_word rfl⟩, List.forall_mem_cons.mpr ⟨⟨(List.mem_of_getElem? (i := 16) rfl), good_of_word rfl⟩, List.forall_mem_cons.mpr ⟨⟨(List.mem_of_getElem? (i := 7) rfl), good_of_word rfl⟩, List.forall_mem_cons.mpr ⟨⟨(List.mem_of_getElem? (i := 17) rfl), good_of_word rfl⟩, List.forall_mem_cons.mpr ⟨⟨(List.mem_of_getElem? (i := 18) rfl), good_of_word rfl⟩, List.forall_mem_cons.mpr ⟨⟨(List.mem_of_getElem? (i := 2) rfl), good_of_word rfl⟩, (fun _ h => absurd h List.not_mem_nil)⟩⟩⟩⟩⟩⟩⟩, fun w h => ⟨(fun w h => List.mem_cons_of_mem _ (List.mem_append_right _ h)) w h, good_of_word (List.all_eq_true.mp gw_X12 w h)⟩⟩⟩
set_option maxRecDepth 20000 in
theorem gq_c_X12_isSo_c_X12_laySeats_385 : GoodIn wq_c_X12_isSo (wsV RX12 385 RX12 yX12_laySeats wq_c_X12_laySeats) := goodIn_app (List.forall_mem_cons.mpr ⟨⟨(List.mem_of_getElem? (i := 10) rfl), good_of_word rfl⟩, List.forall_mem_cons.mpr ⟨⟨(List.mem_of_getElem? (i := 11) rfl), good_of_word rfl⟩, List.forall_mem_cons.mpr ⟨⟨(List.mem_of_getElem? (i := 12) rfl), good_of_word rfl⟩, List.forall_mem_cons.mpr ⟨⟨(List.mem_of_getElem? (i := 7) rfl), good_of_word rfl⟩, (fun _ h => absurd h List.not_mem_nil)⟩⟩⟩⟩) gr_c_X12_isSo_c_X12_laySeats
set_option maxHeartbeats 8000000 in
set_option maxRecDepth 100000 in
theorem c_X12_isSo (l : Launch) (D : va_G) (cy : Nat → ClassId) (ad : Nat → Nat) (g : Nat → va_E) {f0 : List Value} {k1 : Int32} (o0 : g 0 = .inr (12, f0)) (f0_11 : f0[11]? = some (.ref (ad 2))) (f0_12 : f0[12]? = some (.ref (ad 3))) (f0_13 : f0[13]? = some (.ref (ad 1))) (f0_36 : f0[36]? = some (.int 0)) (f0_56 : f0[56]? = some (.int 0)) (f0_70 : f0[70]? = some (.int 0)) (a1 : g 1 = .inl (cy 0, 2, .inl (fun _ => 0))) (a2 : g 2 = .inl (cy 0, 2, .inl (fun _ => 0))) (a3 : g 3 = .inl (cy 0, 2, .inl (fun _ => 0))) : cMi l yX12_isSo wq_c_X12_isSo { frames := 2, cells := 0, slots := 0, locals := 42 } 4 0 0 0 D cy ad g [.ref (ad 0), .int 0, .int k1] (fun r nw lu => (r = 1) ∧ (lu = [(0, .inr (12, (f0.set 56 (.int 0))))])) := by
  refine cM_of (Qc := fun A => cQi (fun r nw lu => (r = 1) ∧ (lu = [(0, .inr (12, (f0.set 56 (.int 0))))])) D 4 0 ad g A) (cc := cX12_isSo) (maxL := 4) (ret := (some .boolean)) (by decide) rfl (Nat.le_of_ble_eq_true rfl) ?_
  intro p e s m below meth c A hC hr hlk hnm hO ls hl
  have hC : CallFix p m c cX12_isSo 4 s [.ref (ad 0), .int 0, .int k1].toArray wq_c_X12_isSo RX12 := hC
  obtain ⟨hx, hb, hml, hown, hts⟩ := id hC
  have hl : lv_has ls 4 [(0, .ref (ad 0)), (1, .int 0), (2, .int k1)] := hl
  have i_X12 : ∀ w ∈ wsX120, w ∈ wq_c_X12_isSo := fun w h => List.mem_cons_of_mem _ (List.mem_append_right _ h)
  refine lv_aload_n hx hb dX12_isSo_0 rfl (lv_at hl 0 rfl) ?_
  refine lv_aload_n hx hb dX12_isSo_1 rfl (lv_at hl 0 rfl) ?_
  refine cg_get hC hO 0 (by decide) o0 rfl i_X12 13 (by decide) (List.mem_of_getElem? (i := 1) rfl) f0_13 dX12_isSo_2 ?_
  refine lv_aload_n hx hb dX12_isSo_5 rfl (lv_at hl 0 rfl) ?_
  refine cg_get hC hO 0 (by decide) o0 rfl i_X12 36 (by decide) (List.mem_of_getElem? (i := 2) rfl) f0_36 dX12_isSo_6 ?_
  refine cg_iald hC hO 1 (by decide) a1 (cin (by decide)) dX12_isSo_9 ?_
  refine cg_ev (v := 0) (rfl) ?_
  refine cg_put hC hO 0 (by decide) o0 rfl i_X12 tyX12_ok nmX12 56 (by decide) (List.mem_of_getElem? (i := 3) rfl) rfl rfl rfl (fs_lt f0_56) dX12_isSo_10 (fun H locs hO => ?_)
  have hO : cO D cy A s.heap s 4 ad (cup [(0, .inr (12, (f0.set 56 (.int 0))))] g) _ _ := hO
  refine lv_iconst (v := 0) hx hb dX12_isSo_13 (by decide) ?_
  refine lv_istore_n (lv' := [(3, .int 0), (0, .ref (ad 0)), (1, .int 0), (2, .int k1)]) hx hb dX12_isSo_14 rfl hl (by decide) rfl (fun ls hl => ?_)
  refine lv_iload_n hx hb dX12_isSo_15 rfl (lv_at hl 0 rfl) ?_
  refine lv_aload_n hx hb dX12_isSo_16 rfl (lv_at hl 1 rfl) ?_
  refine cg_get hC hO 0 (by decide) rfl rfl i_X12 56 (by decide) (List.mem_of_getElem? (i := 3) rfl) (fs_eq f0_56) dX12_isSo_17 ?_
  refine lv_icmp_ge (tgt := 106) hx hb dX12_isSo_20 (by decide) (fun _ => ?_) (fun h => absurd h (by decide))
  refine lv_iconst (v := 0) hx hb dX12_isSo_106 (by decide) ?_
  refine lv_istore_n (lv' := [(3, .int 0), (0, .ref (ad 0)), (1, .int 0), (2, .int k1)]) hx hb dX12_isSo_107 rfl hl (by decide) rfl (fun ls hl => ?_)
  refine lv_iload_n hx hb dX12_isSo_108 rfl (lv_at hl 0 rfl) ?_
  refine lv_aload_n hx hb dX12_isSo_109 rfl (lv_at hl 1 rfl) ?_
  refine cg_Vi (As := []) (rest := [.int 0]) (mc := 0) (ms := 0) (rm := { frames := 0, cells := 0, slots := 0, locals := 0 }) hC hl.1 hO [0, 2] rfl (c_birdMany0 l D cy _ _ (f0 := (f0.set 56 (.int 0))) rfl (fs_ne (by decide) f0_11) (fs_ne (by decide) f0_36) a2) gq_c_X12_isSo_c_birdMany0_363 rfl rfl rfl 0 (by decide +kernel) ⟨Nat.le_of_ble_eq_true rfl, Nat.le_of_ble_eq_true rfl⟩ rfl (by decide) rfl rfl rfl (Nat.le_of_ble_eq_true rfl) dX12_isSo_110 ⟨Nat.le_of_ble_eq_true rfl, Nat.le_of_ble_eq_true rfl⟩ (fun r_110_3 nw_110_1 l_110_2 H locs hw hO => ?_)
  obtain ⟨rfl, rfl⟩ := hw
  have hO : cO D cy A s.heap s 4 ad (cup [(0, .inr (12, (f0.set 56 (.int 0))))] g) _ _ := hO
  refine lv_icmp_ge (tgt := 141) hx hb dX12_isSo_113 (by decide) (fun _ => ?_) (fun h => absurd h (by decide))
  refine lv_aload_n hx hb dX12_isSo_141 rfl (lv_at hl 1 rfl) ?_
  refine cg_Vv (As := []) (rest := []) (mc := 0) (ms := 0) (rm := { frames := 1, cells := 0, slots := 0, locals := 20 }) hC hl.1 hO [0, 3] rfl (c_X12_laySeats l D cy _ _ (f0 := (f0.set 56 (.int 0))) rfl (fs_ne (by decide) f0_12) (fs_ne (by decide) f0_36) a3) gq_c_X12_isSo_c_X12_laySeats_385 rfl rfl rfl 0 (by decide +kernel) ⟨Nat.le_of_ble_eq_true rfl, Nat.le_of_ble_eq_true rfl⟩ rfl (by decide) rfl rfl rfl (Nat.le_of_ble_eq_true rfl) dX12_isSo_142 ⟨Nat.le_of_ble_eq_true rfl, Nat.le_of_ble_eq_true rfl⟩ (fun nw_142_4 l_142_5 H locs hw hO => ?_)
  obtain rfl := hw
  have hO : cO D cy A s.heap s 4 ad (cup [(0, .inr (12, (f0.set 56 (.int 0))))] g) _ _ := hO
  refine lv_iconst (v := 0) hx hb dX12_isSo_145 (by decide) ?_
  refine lv_istore_n (lv' := [(3, .int 0), (0, .ref (ad 0)), (1, .int 0), (2, .int k1)]) hx hb dX12_isSo_146 rfl hl (by decide) rfl (fun ls hl => ?_)
  refine lv_iload_n hx hb dX12_isSo_147 rfl (lv_at hl 0 rfl) ?_
  refine lv_aload_n hx hb dX12_isSo_148 rfl (lv_at hl 1 rfl) ?_
  refine cg_get hC hO 0 (by decide) rfl rfl i_X12 70 (by decide) (List.mem_of_getElem? (i := 19) rfl) (fs_ne (by decide) f0_70) dX12_isSo_149 ?_
  refine lv_icmp_ge (tgt := 209) hx hb dX12_isSo_152 (by decide) (fun _ => ?_) (fun h => absurd h (by decide))
  refine lv_iconst (v := 1) hx hb dX12_isSo_209 (by decide) ?_
  exact cg_iret (nw := fun _ => 0) hC hr hlk hO.same rfl (Nat.le_of_ble_eq_true rfl) (Nat.le_of_ble_eq_true rfl) (⟨rfl, rfl⟩) dX12_isSo_210

theorem dX12_came_0 : decode cX12_came 0 = .ok (.iload_n 1, 1) := by decide +kernel
theorem dX12_came_1 : decode cX12_came 1 = .ok (.iconst 0, 1) := by decide +kernel
theorem dX12_came_2 : decode cX12_came 2 = .ok (.iconst 2, 1) := by decide +kernel
theorem dX12_came_3 : decode cX12_came 3 = .ok (.invokestatic 366, 3) := by decide +kernel
theorem dX12_came_6 : decode cX12_came 6 = .ok (.ifCond .ne 5, 3) := by decide +kernel
theorem dX12_came_9 : decode cX12_came 9 = .ok (.iconst (-1), 1) := by decide +kernel
theorem dX12_came_10 : decode cX12_came 10 = .ok (.ireturn, 1) := by decide +kernel
theorem dX12_came_11 : decode cX12_came 11 = .ok (.iconst 0, 1) := by decide +kernel
theorem dX12_came_12 : decode cX12_came 12 = .ok (.istore_n 3, 1) := by decide +kernel
theorem dX12_came_13 : decode cX12_came 13 = .ok (.iconst 0, 1) := by decide +kernel
theorem dX12_came_14 : decode cX12_came 14 = .ok (.istore 4, 2) := by decide +kernel
theorem dX12_came_16 : decode cX12_came 16 = .ok (.iload 4, 2) := by decide +kernel
theorem dX12_came_18 : decode cX12_came 18 = .ok (.aload_n 0, 1) := by decide +kernel
theorem dX12_came_19 : decode cX12_came 19 = .ok (.getfield 27, 3) := by decide +kernel
theorem dX12_came_22 : decode cX12_came 22 = .ok (.aload_n 0, 1) := by decide +kernel
theorem dX12_came_23 : decode cX12_came 23 = .ok (.getfield 286, 3) := by decide +kernel
theorem dX12_came_26 : decode cX12_came 26 = .ok (.iaload, 1) := by decide +kernel
theorem dX12_came_27 : decode cX12_came 27 = .ok (.if_icmp .ge 38, 3) := by decide +kernel
theorem dX12_came_65 : decode cX12_came 65 = .ok (.iconst 0, 1) := by decide +kernel
theorem dX12_came_66 : decode cX12_came 66 = .ok (.istore 4, 2) := by decide +kernel
theorem dX12_came_68 : decode cX12_came 68 = .ok (.iload_n 3, 1) := by decide +kernel
theorem dX12_came_69 : decode cX12_came 69 = .ok (.istore 5, 2) := by decide +kernel
theorem dX12_came_71 : decode cX12_came 71 = .ok (.iconst 0, 1) := by decide +kernel
theorem dX12_came_72 : decode cX12_came 72 = .ok (.istore 6, 2) := by decide +kernel
theorem dX12_came_74 : decode cX12_came 74 = .ok (.iconst 0, 1) := by decide +kernel
theorem dX12_came_75 : decode cX12_came 75 = .ok (.istore 7, 2) := by decide +kernel
theorem dX12_came_77 : decode cX12_came 77 = .ok (.iload 7, 2) := by decide +kernel
theorem dX12_came_79 : decode cX12_came 79 = .ok (.iload_n 3, 1) := by decide +kernel
theorem dX12_came_80 : decode cX12_came 80 = .ok (.if_icmp .gt 48, 3) := by decide +kernel
theorem dX12_came_83 : decode cX12_came 83 = .ok (.iload 7, 2) := by decide +kernel
theorem dX12_came_85 : decode cX12_came 85 = .ok (.iload_n 3, 1) := by decide +kernel
theorem dX12_came_86 : decode cX12_came 86 = .ok (.iconst (-1), 1) := by decide +kernel
theorem dX12_came_87 : decode cX12_came 87 = .ok (.ixor, 1) := by decide +kernel
theorem dX12_came_88 : decode cX12_came 88 = .ok (.iand, 1) := by decide +kernel
theorem dX12_came_89 : decode cX12_came 89 = .ok (.ifCond .ne 33, 3) := by decide +kernel
theorem dX12_came_92 : decode cX12_came 92 = .ok (.aload_n 0, 1) := by decide +kernel
theorem dX12_came_93 : decode cX12_came 93 = .ok (.iload 7, 2) := by decide +kernel
theorem dX12_came_95 : decode cX12_came 95 = .ok (.iload_n 2, 1) := by decide +kernel
theorem dX12_came_96 : decode cX12_came 96 = .ok (.invokevirtual 463, 3) := by decide +kernel
theorem dX12_came_99 : decode cX12_came 99 = .ok (.ifCond .ne 6, 3) := by decide +kernel
theorem dX12_came_105 : decode cX12_came 105 = .ok (.iinc 4 1, 3) := by decide +kernel
theorem dX12_came_108 : decode cX12_came 108 = .ok (.iload 5, 2) := by decide +kernel
theorem dX12_came_110 : decode cX12_came 110 = .ok (.iload 7, 2) := by decide +kernel
theorem dX12_came_112 : decode cX12_came 112 = .ok (.iand, 1) := by decide +kernel
theorem dX12_came_113 : decode cX12_came 113 = .ok (.istore 5, 2) := by decide +kernel
theorem dX12_came_115 : decode cX12_came 115 = .ok (.iload 6, 2) := by decide +kernel
theorem dX12_came_117 : decode cX12_came 117 = .ok (.iload 7, 2) := by decide +kernel
theorem dX12_came_119 : decode cX12_came 119 = .ok (.ior, 1) := by decide +kernel
theorem dX12_came_120 : decode cX12_came 120 = .ok (.istore 6, 2) := by decide +kernel
theorem dX12_came_122 : decode cX12_came 122 = .ok (.iinc 7 1, 3) := by decide +kernel
theorem dX12_came_125 : decode cX12_came 125 = .ok (.goto (-48), 3) := by decide +kernel
theorem dX12_came_128 : decode cX12_came 128 = .ok (.iload_n 1, 1) := by decide +kernel
theorem dX12_came_129 : decode cX12_came 129 = .ok (.ifCond .ne 8, 3) := by decide +kernel
theorem dX12_came_132 : decode cX12_came 132 = .ok (.iload 4, 2) := by decide +kernel
theorem dX12_came_134 : decode cX12_came 134 = .ok (.goto 28, 3) := by decide +kernel
theorem dX12_came_137 : decode cX12_came 137 = .ok (.iload 4, 2) := by decide +kernel
theorem dX12_came_139 : decode cX12_came 139 = .ok (.ifCond .ne 7, 3) := by decide +kernel
theorem dX12_came_146 : decode cX12_came 146 = .ok (.iload_n 1, 1) := by decide +kernel
theorem dX12_came_147 : decode cX12_came 147 = .ok (.iconst 1, 1) := by decide +kernel
theorem dX12_came_148 : decode cX12_came 148 = .ok (.if_icmp .ne 8, 3) := by decide +kernel
theorem dX12_came_151 : decode cX12_came 151 = .ok (.iload 5, 2) := by decide +kernel
theorem dX12_came_153 : decode cX12_came 153 = .ok (.goto 9, 3) := by decide +kernel
theorem dX12_came_156 : decode cX12_came 156 = .ok (.iload_n 3, 1) := by decide +kernel
theorem dX12_came_157 : decode cX12_came 157 = .ok (.iload 6, 2) := by decide +kernel
theorem dX12_came_159 : decode cX12_came 159 = .ok (.iconst (-1), 1) := by decide +kernel
theorem dX12_came_160 : decode cX12_came 160 = .ok (.ixor, 1) := by decide +kernel
theorem dX12_came_161 : decode cX12_came 161 = .ok (.iand, 1) := by decide +kernel
theorem dX12_came_162 : decode cX12_came 162 = .ok (.ireturn, 1) := by decide +kernel
def wq_c_X12_came : List Cond := Cond.code yX12_came cX12_came 8 (some .int) :: (([Cond.methodLink RX12 366 yX12_isIn, Cond.static yX12_isIn, Cond.initialized RX12, Cond.code yX12_isIn cX12_isIn 3 (some .boolean), Cond.fieldLink RX12 27 "CrowTollModel" "carts" "[I", Cond.fieldLink RX12 286 "CrowTollModel" "bank" "I", Cond.methodLink RX12 463 yX12_isSo, Cond.instanceMethod yX12_isSo, Cond.selects RX12 yX12_isSo yX12_isSo, Cond.code yX12_isSo cX12_isSo 4 (some .boolean), Cond.fieldLink RX12 379 "CrowTollModel" "dMany" "I", Cond.methodLink RX12 363 yX12_birdMany, Cond.instanceMethod yX12_birdMany, Cond.selects RX12 yX12_birdMany yX12_birdMany, Cond.code yX12_birdMany cX12_birdMany 1 (some .int), Cond.fieldLink RX12 20 "CrowTollModel" "birds" "[I", Cond.methodLink RX12 385 yX12_laySeats, Cond.instanceMethod yX12_laySeats, Cond.selects RX12 yX12_laySeats yX12_laySeats, Cond.code yX12_laySeats cX12_laySeats 3 none, Cond.methodLink RX12 370 yX12_postMany, Cond.instanceMethod yX12_postMany, Cond.selects RX12 yX12_postMany yX12_postMany, Cond.code yX12_postMany cX12_postMany 1 (some .int), Cond.fieldLink RX12 24 "CrowTollModel" "posts" "[I", Cond.fieldLink RX12 292 "CrowTollModel" "sights" "I"] : List Cond) ++ wsX120)
set_option maxRecDepth 20000 in
theorem gr_c_X12_came_c_X12_isIn : GoodIn wq_c_X12_came wq_c_X12_isIn := List.forall_mem_cons.mpr ⟨⟨(List.mem_of_getElem? (i := 4) rfl), good_of_word rfl⟩, (fun _ h => absurd h List.not_mem_nil)⟩
set_option maxRecDepth 20000 in
theorem gq_c_X12_came_c_X12_isIn_366 : GoodIn wq_c_X12_came (va_wsS RX12 366 yX12_isIn wq_c_X12_isIn) := goodIn_app (List.forall_mem_cons.mpr ⟨⟨(List.mem_of_getElem? (i := 1) rfl), good_of_word rfl⟩, List.forall_mem_cons.mpr ⟨⟨(List.mem_of_getElem? (i := 2) rfl), good_of_word rfl⟩, List.forall_mem_cons.mpr ⟨⟨(List.mem_of_getElem? (i := 3) rfl), good_of_word rfl⟩, (fun _ h => absurd h List.not_mem_nil)⟩⟩⟩) gr_c_X12_came_c_X12_isIn
set_option maxRecDepth 20000 in
theorem gr_c_X12_came_c_X12_isSo : GoodIn wq_c_X12_came wq_c_X12_isSo := List.forall_mem_cons.mpr ⟨⟨(List.mem_of_getElem? (i := 10) rfl), good_of_word rfl⟩, List.forall_mem_append.mpr ⟨List.forall_mem_cons.mpr ⟨⟨(List.mem_of_getElem? (i := 5) rfl), good_of_word rfl⟩, List.forall_mem_cons.mpr ⟨⟨(List.mem_of_getElem? (i := 6) rfl), good_of_word rfl⟩, List.forall_mem_cons.mpr ⟨⟨(List.mem_of_getElem? (i := 11) rfl), good_of_word rfl⟩, List.forall_mem_cons.mpr ⟨⟨(List.mem_of_getElem? (i := 12) rfl), good_of_word rfl⟩, List.forall_mem_cons.mpr ⟨⟨(List.mem_of_getElem? (i := 13) rfl), good_of_word rfl⟩, List.forall_mem_cons.mpr ⟨⟨(List.mem_of_getElem? (i := 14) rfl), good_of_word rfl⟩, List.forall_mem_cons.mpr ⟨⟨(List.mem_of_getElem? (i := 3) rfl), good_of_word rfl⟩, List.forall_mem_cons.mpr ⟨⟨(List.mem_of_getElem? (i := 15) rfl), good_of_word rfl⟩, List.forall_mem_cons.mpr ⟨⟨(List.mem_of_getElem? (i := 16) rfl), good_of_word rfl⟩, List.forall_mem_cons.mpr ⟨⟨(List.mem_of_getElem? (i := 17) rfl), good_of_word rfl⟩, List.forall_mem_cons.mpr ⟨⟨(List.mem_of_getElem? (i := 18) rfl), good_of_word rfl⟩, List.forall_mem_cons.mpr ⟨⟨(List.mem_of_getElem? (i := 19) rfl), good_of_word rfl⟩, List.forall_mem_cons.mpr ⟨⟨(List.mem_of_getElem? (i := 20) rfl), good_of_word rfl⟩, List.forall_mem_cons.mpr ⟨⟨(List.mem_of_getElem? (i := 21) rfl), good_of_word rfl⟩, List.forall_mem_cons.mpr ⟨⟨(List.mem_of_getElem? (i := 22) rfl), good_of_word rfl⟩, List.forall_mem_cons.mpr ⟨⟨(List.mem_of_getElem? (i := 23) rfl), good_of_word rfl⟩, List.forall_mem_cons.mpr ⟨⟨(List.mem_of_getElem? (i := 24) rfl), good_of_word rfl⟩, List.forall_mem_cons.mpr ⟨⟨(List.mem_of_getElem? (i := 25) rfl), good_of_word rfl⟩, List.forall_mem_cons.mpr ⟨⟨(List.mem_of_getElem? (i := 26) rfl), good_of_word rfl⟩, (fun _ h => absurd h List.not_mem_nil)⟩⟩⟩⟩⟩⟩⟩⟩⟩⟩⟩⟩⟩⟩⟩⟩⟩⟩⟩, fun w h => ⟨(fun w h => List.mem_cons_of_mem _ (List.mem_append_right _ h)) w h, good_of_word (List.all_eq_true.mp gw_X12 w h)⟩⟩⟩
set_option maxRecDepth 20000 in
theorem gq_c_X12_came_c_X12_isSo_463 : GoodIn wq_c_X12_came (wsV RX12 463 RX12 yX12_isSo wq_c_X12_isSo) := goodIn_app (List.forall_mem_cons.mpr ⟨⟨(List.mem_of_getElem? (i := 7) rfl), good_of_word rfl⟩, List.forall_mem_cons.mpr ⟨⟨(List.mem_of_getElem? (i := 8) rfl), good_of_word rfl⟩, List.forall_mem_cons.mpr ⟨⟨(List.mem_of_getElem? (i := 9) rfl), good_of_word rfl⟩, List.forall_mem_cons.mpr ⟨⟨(List.mem_of_getElem? (i := 3) rfl), good_of_word rfl⟩, (fun _ h => absurd h List.not_mem_nil)⟩⟩⟩⟩) gr_c_X12_came_c_X12_isSo
set_option maxHeartbeats 8000000 in
set_option maxRecDepth 100000 in
theorem c_X12_came (l : Launch) (D : va_G) (cy : Nat → ClassId) (ad : Nat → Nat) (g : Nat → va_E) {f0 : List Value} {n : Int32} {k1 : Int32} (o0 : g 0 = .inr (12, f0)) (f0_11 : f0[11]? = some (.ref (ad 2))) (f0_12 : f0[12]? = some (.ref (ad 3))) (f0_13 : f0[13]? = some (.ref (ad 1))) (f0_36 : f0[36]? = some (.int 0)) (f0_56 : f0[56]? = some (.int 0)) (f0_70 : f0[70]? = some (.int 0)) (a1 : g 1 = .inl (cy 0, 2, .inl (fun _ => 0))) (a2 : g 2 = .inl (cy 0, 2, .inl (fun _ => 0))) (a3 : g 3 = .inl (cy 0, 2, .inl (fun _ => 0))) : cMi l yX12_came wq_c_X12_came { frames := 3, cells := 0, slots := 0, locals := 65 } 4 0 0 0 D cy ad g [.ref (ad 0), .int n, .int k1] (fun r nw lu => r = ans_came n) := by
  refine cM_of (Qc := fun A => cQi (fun r nw lu => r = ans_came n) D 4 0 ad g A) (cc := cX12_came) (maxL := 8) (ret := (some .int)) (by decide) rfl (Nat.le_of_ble_eq_true rfl) ?_
  intro p e s m below meth c A hC hr hlk hnm hO ls hl
  have hC : CallFix p m c cX12_came 8 s [.ref (ad 0), .int n, .int k1].toArray wq_c_X12_came RX12 := hC
  obtain ⟨hx, hb, hml, hown, hts⟩ := id hC
  have hl : lv_has ls 8 [(0, .ref (ad 0)), (1, .int n), (2, .int k1)] := hl
  have i_X12 : ∀ w ∈ wsX120, w ∈ wq_c_X12_came := fun w h => List.mem_cons_of_mem _ (List.mem_append_right _ h)
  refine lv_iload_n hx hb dX12_came_0 rfl (lv_at hl 1 rfl) ?_
  refine lv_iconst (v := 0) hx hb dX12_came_1 (by decide) ?_
  refine lv_iconst (v := 2) hx hb dX12_came_2 (by decide) ?_
  refine cg_Si (As := [.int n, .int 0, .int 2]) (rest := []) (mc := 0) (ms := 0) (rm := { frames := 0, cells := 0, slots := 0, locals := 0 }) hC hl.1 hO [] rfl (c_X12_isIn l D cy _ _ (x := n) (y := 0) (z := 2) ) gq_c_X12_came_c_X12_isIn_366 rfl rfl rfl 3 (by decide +kernel) ⟨Nat.le_of_ble_eq_true rfl, Nat.le_of_ble_eq_true rfl⟩ rfl rfl (Nat.le_of_ble_eq_true rfl) dX12_came_3 ⟨Nat.le_of_ble_eq_true rfl, Nat.le_of_ble_eq_true rfl⟩ (fun r_3_3 nw_3_1 l_3_2 H locs hw hO => ?_)
  rcases hw with hw | hw
  · obtain ⟨hr_3_4, rfl, rfl⟩ := hw
    have hO : cO D cy A s.heap s 4 ad (cup [] g) _ _ := hO
    refine lv_if_ne (tgt := 11) hx hb dX12_came_6 (by decide) (fun _ => ?_) (fun h => absurd h (by decide))
    refine lv_iconst (v := 0) hx hb dX12_came_11 (by decide) ?_
    refine lv_istore_n (lv' := [(3, .int 0), (0, .ref (ad 0)), (1, .int n), (2, .int k1)]) hx hb dX12_came_12 rfl hl (by decide) rfl (fun ls hl => ?_)
    refine lv_iconst (v := 0) hx hb dX12_came_13 (by decide) ?_
    refine lv_istore (lv' := [(4, .int 0), (3, .int 0), (0, .ref (ad 0)), (1, .int n), (2, .int k1)]) hx hb dX12_came_14 hl (by decide) rfl (fun ls hl => ?_)
    refine lv_iload hx hb dX12_came_16 (lv_at hl 0 rfl) ?_
    refine lv_aload_n hx hb dX12_came_18 rfl (lv_at hl 2 rfl) ?_
    refine cg_get hC hO 0 (by decide) o0 rfl i_X12 13 (by decide) (List.mem_of_getElem? (i := 5) rfl) f0_13 dX12_came_19 ?_
    refine lv_aload_n hx hb dX12_came_22 rfl (lv_at hl 2 rfl) ?_
    refine cg_get hC hO 0 (by decide) o0 rfl i_X12 36 (by decide) (List.mem_of_getElem? (i := 6) rfl) f0_36 dX12_came_23 ?_
    refine cg_iald hC hO 1 (by decide) a1 (cin (by decide)) dX12_came_26 ?_
    refine cg_ev (v := 0) (rfl) ?_
    refine lv_icmp_ge (tgt := 65) hx hb dX12_came_27 (by decide) (fun _ => ?_) (fun h => absurd h (by decide))
    refine lv_iconst (v := 0) hx hb dX12_came_65 (by decide) ?_
    refine lv_istore (lv' := [(4, .int 0), (3, .int 0), (0, .ref (ad 0)), (1, .int n), (2, .int k1)]) hx hb dX12_came_66 hl (by decide) rfl (fun ls hl => ?_)
    refine lv_iload_n hx hb dX12_came_68 rfl (lv_at hl 1 rfl) ?_
    refine lv_istore (lv' := [(5, .int 0), (4, .int 0), (3, .int 0), (0, .ref (ad 0)), (1, .int n), (2, .int k1)]) hx hb dX12_came_69 hl (by decide) rfl (fun ls hl => ?_)
    refine lv_iconst (v := 0) hx hb dX12_came_71 (by decide) ?_
    refine lv_istore (lv' := [(6, .int 0), (5, .int 0), (4, .int 0), (3, .int 0), (0, .ref (ad 0)), (1, .int n), (2, .int k1)]) hx hb dX12_came_72 hl (by decide) rfl (fun ls hl => ?_)
    refine lv_iconst (v := 0) hx hb dX12_came_74 (by decide) ?_
    refine lv_istore (lv' := [(7, .int 0), (6, .int 0), (5, .int 0), (4, .int 0), (3, .int 0), (0, .ref (ad 0)), (1, .int n), (2, .int k1)]) hx hb dX12_came_75 hl (by decide) rfl (fun ls hl => ?_)
    refine lv_iload hx hb dX12_came_77 (lv_at hl 0 rfl) ?_
    refine lv_iload_n hx hb dX12_came_79 rfl (lv_at hl 4 rfl) ?_
    refine lv_icmp_gt (tgt := 128) hx hb dX12_came_80 (by decide) (fun h => absurd h (by decide)) (fun _ => ?_)
    refine lv_iload hx hb dX12_came_83 (lv_at hl 0 rfl) ?_
    refine lv_iload_n hx hb dX12_came_85 rfl (lv_at hl 4 rfl) ?_
    refine lv_iconst (v := (-1)) hx hb dX12_came_86 (by decide) ?_
    refine lv_ixor hx hb dX12_came_87 ?_
    refine cg_ev (v := (-1)) (by decide) ?_
    refine lv_iand hx hb dX12_came_88 ?_
    refine cg_ev (v := 0) (by decide) ?_
    refine lv_if_ne (tgt := 122) hx hb dX12_came_89 (by decide) (fun h => absurd h (by decide)) (fun _ => ?_)
    refine lv_aload_n hx hb dX12_came_92 rfl (lv_at hl 5 rfl) ?_
    refine lv_iload hx hb dX12_came_93 (lv_at hl 0 rfl) ?_
    refine lv_iload_n hx hb dX12_came_95 rfl (lv_at hl 7 rfl) ?_
    refine cg_Vi (As := [.int 0, .int k1]) (rest := []) (mc := 0) (ms := 0) (rm := { frames := 2, cells := 0, slots := 0, locals := 42 }) hC hl.1 hO [0, 1, 2, 3] rfl (c_X12_isSo l D cy _ _ (f0 := f0) (k1 := k1) o0 f0_11 f0_12 f0_13 f0_36 f0_56 f0_70 a1 a2 a3) gq_c_X12_came_c_X12_isSo_463 rfl rfl rfl 2 (by decide +kernel) ⟨Nat.le_of_ble_eq_true rfl, Nat.le_of_ble_eq_true rfl⟩ rfl (by decide) o0 rfl rfl (Nat.le_of_ble_eq_true rfl) dX12_came_96 ⟨Nat.le_of_ble_eq_true rfl, Nat.le_of_ble_eq_true rfl⟩ (fun r_96_7 nw_96_5 l_96_6 H locs hw hO => ?_)
    obtain ⟨rfl, rfl⟩ := hw
    have hO : cO D cy A s.heap s 4 ad (cup [(0, .inr (12, (f0.set 56 (.int 0))))] g) _ _ := hO
    refine lv_if_ne (tgt := 105) hx hb dX12_came_99 (by decide) (fun _ => ?_) (fun h => absurd h (by decide))
    refine lv_iinc (v := 1) (lv' := [(4, .int 1), (7, .int 0), (6, .int 0), (5, .int 0), (3, .int 0), (0, .ref (ad 0)), (1, .int n), (2, .int k1)]) hx hb dX12_came_105 hl (k := 3) rfl (by decide) (by decide) rfl (fun ls hl => ?_)
    refine lv_iload hx hb dX12_came_108 (lv_at hl 3 rfl) ?_
    refine lv_iload hx hb dX12_came_110 (lv_at hl 1 rfl) ?_
    refine lv_iand hx hb dX12_came_112 ?_
    refine cg_ev (v := 0) (by decide) ?_
    refine lv_istore (lv' := [(5, .int 0), (4, .int 1), (7, .int 0), (6, .int 0), (3, .int 0), (0, .ref (ad 0)), (1, .int n), (2, .int k1)]) hx hb dX12_came_113 hl (by decide) rfl (fun ls hl => ?_)
    refine lv_iload hx hb dX12_came_115 (lv_at hl 3 rfl) ?_
    refine lv_iload hx hb dX12_came_117 (lv_at hl 2 rfl) ?_
    refine lv_ior hx hb dX12_came_119 ?_
    refine cg_ev (v := 0) (by decide) ?_
    refine lv_istore (lv' := [(6, .int 0), (5, .int 0), (4, .int 1), (7, .int 0), (3, .int 0), (0, .ref (ad 0)), (1, .int n), (2, .int k1)]) hx hb dX12_came_120 hl (by decide) rfl (fun ls hl => ?_)
    refine lv_iinc (v := 1) (lv' := [(7, .int 1), (6, .int 0), (5, .int 0), (4, .int 1), (3, .int 0), (0, .ref (ad 0)), (1, .int n), (2, .int k1)]) hx hb dX12_came_122 hl (k := 3) rfl (by decide) (by decide) rfl (fun ls hl => ?_)
    refine lv_goto (tgt := 77) hx hb dX12_came_125 (by decide) ?_
    refine lv_iload hx hb dX12_came_77 (lv_at hl 0 rfl) ?_
    refine lv_iload_n hx hb dX12_came_79 rfl (lv_at hl 4 rfl) ?_
    refine lv_icmp_gt (tgt := 128) hx hb dX12_came_80 (by decide) (fun _ => ?_) (fun h => absurd h (by decide))
    refine lv_iload_n hx hb dX12_came_128 rfl (lv_at hl 6 rfl) ?_
    refine lv_if_ne (tgt := 137) hx hb dX12_came_129 (by decide) (fun h_129_8 => ?_) (fun h_129_8 => ?_)
    · refine lv_iload hx hb dX12_came_137 (lv_at hl 3 rfl) ?_
      refine lv_if_ne (tgt := 146) hx hb dX12_came_139 (by decide) (fun _ => ?_) (fun h => absurd h (by decide))
      refine lv_iload_n hx hb dX12_came_146 rfl (lv_at hl 6 rfl) ?_
      refine lv_iconst (v := 1) hx hb dX12_came_147 (by decide) ?_
      refine lv_icmp_ne (tgt := 156) hx hb dX12_came_148 (by decide) (fun h_148_9 => ?_) (fun h_148_9 => ?_)
      · refine lv_iload_n hx hb dX12_came_156 rfl (lv_at hl 4 rfl) ?_
        refine lv_iload hx hb dX12_came_157 (lv_at hl 1 rfl) ?_
        refine lv_iconst (v := (-1)) hx hb dX12_came_159 (by decide) ?_
        refine lv_ixor hx hb dX12_came_160 ?_
        refine cg_ev (v := (-1)) (by decide) ?_
        refine lv_iand hx hb dX12_came_161 ?_
        refine cg_ev (v := 0) (by decide) ?_
        exact cg_iret (nw := fun _ => 0) hC hr hlk hO.same rfl (Nat.le_of_ble_eq_true rfl) (Nat.le_of_ble_eq_true rfl) (by rw [ans_came, if_pos hr_3_4]; simp [h_129_8, h_148_9]) dX12_came_162
      · refine lv_iload hx hb dX12_came_151 (lv_at hl 2 rfl) ?_
        refine lv_goto (tgt := 162) hx hb dX12_came_153 (by decide) ?_
        exact cg_iret (nw := fun _ => 0) hC hr hlk hO.same rfl (Nat.le_of_ble_eq_true rfl) (Nat.le_of_ble_eq_true rfl) (by rw [ans_came, if_pos hr_3_4]; simp [h_129_8, h_148_9]) dX12_came_162
    · refine lv_iload hx hb dX12_came_132 (lv_at hl 3 rfl) ?_
      refine lv_goto (tgt := 162) hx hb dX12_came_134 (by decide) ?_
      exact cg_iret (nw := fun _ => 0) hC hr hlk hO.same rfl (Nat.le_of_ble_eq_true rfl) (Nat.le_of_ble_eq_true rfl) (by rw [ans_came, if_pos hr_3_4]; simp [h_129_8]) dX12_came_162
  · obtain ⟨hr_3_10, rfl, rfl⟩ := hw
    have hO : cO D cy A s.heap s 4 ad (cup [] g) _ _ := hO
    refine lv_if_ne (tgt := 11) hx hb dX12_came_6 (by decide) (fun h => absurd h (by decide)) (fun _ => ?_)
    refine lv_iconst (v := (-1)) hx hb dX12_came_9 (by decide) ?_
    exact cg_iret (nw := fun _ => 0) hC hr hlk hO.same rfl (Nat.le_of_ble_eq_true rfl) (Nat.le_of_ble_eq_true rfl) ((if_neg (fun z => hr_3_10 z)).symm) dX12_came_10

theorem dX12_image_0 : decode cX12_image 0 = .ok (.iload_n 1, 1) := by decide +kernel
theorem dX12_image_1 : decode cX12_image 1 = .ok (.iconst 0, 1) := by decide +kernel
theorem dX12_image_2 : decode cX12_image 2 = .ok (.iconst 2, 1) := by decide +kernel
theorem dX12_image_3 : decode cX12_image 3 = .ok (.invokestatic 366, 3) := by decide +kernel
theorem dX12_image_6 : decode cX12_image 6 = .ok (.ifCond .ne 5, 3) := by decide +kernel
theorem dX12_image_9 : decode cX12_image 9 = .ok (.iconst (-1), 1) := by decide +kernel
theorem dX12_image_10 : decode cX12_image 10 = .ok (.ireturn, 1) := by decide +kernel
theorem dX12_image_11 : decode cX12_image 11 = .ok (.iconst 0, 1) := by decide +kernel
theorem dX12_image_12 : decode cX12_image 12 = .ok (.istore_n 2, 1) := by decide +kernel
theorem dX12_image_13 : decode cX12_image 13 = .ok (.iload_n 2, 1) := by decide +kernel
theorem dX12_image_14 : decode cX12_image 14 = .ok (.bipush 80, 2) := by decide +kernel
theorem dX12_image_16 : decode cX12_image 16 = .ok (.if_icmp .ge 26, 3) := by decide +kernel
theorem dX12_image_19 : decode cX12_image 19 = .ok (.aload_n 0, 1) := by decide +kernel
theorem dX12_image_20 : decode cX12_image 20 = .ok (.getfield 170, 3) := by decide +kernel
theorem dX12_image_23 : decode cX12_image 23 = .ok (.bipush 80, 2) := by decide +kernel
theorem dX12_image_25 : decode cX12_image 25 = .ok (.iload_n 1, 1) := by decide +kernel
theorem dX12_image_26 : decode cX12_image 26 = .ok (.imul, 1) := by decide +kernel
theorem dX12_image_27 : decode cX12_image 27 = .ok (.iload_n 2, 1) := by decide +kernel
theorem dX12_image_28 : decode cX12_image 28 = .ok (.iadd, 1) := by decide +kernel
theorem dX12_image_29 : decode cX12_image 29 = .ok (.aload_n 0, 1) := by decide +kernel
theorem dX12_image_30 : decode cX12_image 30 = .ok (.getfield 98, 3) := by decide +kernel
theorem dX12_image_33 : decode cX12_image 33 = .ok (.iload_n 2, 1) := by decide +kernel
theorem dX12_image_34 : decode cX12_image 34 = .ok (.iaload, 1) := by decide +kernel
theorem dX12_image_35 : decode cX12_image 35 = .ok (.iastore, 1) := by decide +kernel
theorem dX12_image_36 : decode cX12_image 36 = .ok (.iinc 2 1, 3) := by decide +kernel
theorem dX12_image_39 : decode cX12_image 39 = .ok (.goto (-26), 3) := by decide +kernel
theorem dX12_image_42 : decode cX12_image 42 = .ok (.aload_n 0, 1) := by decide +kernel
theorem dX12_image_43 : decode cX12_image 43 = .ok (.getfield 173, 3) := by decide +kernel
theorem dX12_image_46 : decode cX12_image 46 = .ok (.iload_n 1, 1) := by decide +kernel
theorem dX12_image_47 : decode cX12_image 47 = .ok (.iconst 1, 1) := by decide +kernel
theorem dX12_image_48 : decode cX12_image 48 = .ok (.bastore, 1) := by decide +kernel
theorem dX12_image_49 : decode cX12_image 49 = .ok (.aload_n 0, 1) := by decide +kernel
theorem dX12_image_50 : decode cX12_image 50 = .ok (.getfield 98, 3) := by decide +kernel
theorem dX12_image_53 : decode cX12_image 53 = .ok (.iconst 0, 1) := by decide +kernel
theorem dX12_image_54 : decode cX12_image 54 = .ok (.iaload, 1) := by decide +kernel
theorem dX12_image_55 : decode cX12_image 55 = .ok (.ireturn, 1) := by decide +kernel
def wq_c_X12_image : List Cond := Cond.code yX12_image cX12_image 3 (some .int) :: (([Cond.methodLink RX12 366 yX12_isIn, Cond.static yX12_isIn, Cond.initialized RX12, Cond.code yX12_isIn cX12_isIn 3 (some .boolean), Cond.fieldLink RX12 173 "CrowTollModel" "isBoxed" "[Z", Cond.fieldLink RX12 98 "CrowTollModel" "state" "[I", Cond.fieldLink RX12 170 "CrowTollModel" "boxState" "[I"] : List Cond) ++ wsX120)
set_option maxRecDepth 20000 in
theorem gr_c_X12_image_c_X12_isIn : GoodIn wq_c_X12_image wq_c_X12_isIn := List.forall_mem_cons.mpr ⟨⟨(List.mem_of_getElem? (i := 4) rfl), good_of_word rfl⟩, (fun _ h => absurd h List.not_mem_nil)⟩
set_option maxRecDepth 20000 in
theorem gq_c_X12_image_c_X12_isIn_366 : GoodIn wq_c_X12_image (va_wsS RX12 366 yX12_isIn wq_c_X12_isIn) := goodIn_app (List.forall_mem_cons.mpr ⟨⟨(List.mem_of_getElem? (i := 1) rfl), good_of_word rfl⟩, List.forall_mem_cons.mpr ⟨⟨(List.mem_of_getElem? (i := 2) rfl), good_of_word rfl⟩, List.forall_mem_cons.mpr ⟨⟨(List.mem_of_getElem? (i := 3) rfl), good_of_word rfl⟩, (fun _ h => absurd h List.not_mem_nil)⟩⟩⟩) gr_c_X12_image_c_X12_isIn
set_option maxHeartbeats 8000000 in
set_option maxRecDepth 100000 in
theorem c_X12_image (l : Launch) (D : va_G) (cy : Nat → ClassId) (ad : Nat → Nat) (g : Nat → va_E) {f0 : List Value} {c1 : Nat → Int32} {c2 : Nat → Int32} {n : Int32} (o0 : g 0 = .inr (12, f0)) (f0_41 : f0[41]? = some (.ref (ad 3))) (f0_72 : f0[72]? = some (.ref (ad 1))) (f0_73 : f0[73]? = some (.ref (ad 2))) (a1 : g 1 = .inl (cy 0, 240, .inl c1)) (a2 : g 2 = .inl (cy 2, 3, .inl c2)) (a3 : g 3 = .inl (cy 0, 80, .inl (fun _ => 0))) : cMi l yX12_image wq_c_X12_image { frames := 1, cells := 0, slots := 0, locals := 22 } 4 0 0 0 D cy ad g [.ref (ad 0), .int n] (fun r nw lu => r = ans_image n) := by
  refine cM_of (Qc := fun A => cQi (fun r nw lu => r = ans_image n) D 4 0 ad g A) (cc := cX12_image) (maxL := 3) (ret := (some .int)) (by decide) rfl (Nat.le_of_ble_eq_true rfl) ?_
  intro p e s m below meth c A hC hr hlk hnm hO ls hl
  have hC : CallFix p m c cX12_image 3 s [.ref (ad 0), .int n].toArray wq_c_X12_image RX12 := hC
  obtain ⟨hx, hb, hml, hown, hts⟩ := id hC
  have hl : lv_has ls 3 [(0, .ref (ad 0)), (1, .int n)] := hl
  have i_X12 : ∀ w ∈ wsX120, w ∈ wq_c_X12_image := fun w h => List.mem_cons_of_mem _ (List.mem_append_right _ h)
  refine lv_iload_n hx hb dX12_image_0 rfl (lv_at hl 1 rfl) ?_
  refine lv_iconst (v := 0) hx hb dX12_image_1 (by decide) ?_
  refine lv_iconst (v := 2) hx hb dX12_image_2 (by decide) ?_
  refine cg_Si (As := [.int n, .int 0, .int 2]) (rest := []) (mc := 0) (ms := 0) (rm := { frames := 0, cells := 0, slots := 0, locals := 0 }) hC hl.1 hO [] rfl (c_X12_isIn l D cy _ _ (x := n) (y := 0) (z := 2) ) gq_c_X12_image_c_X12_isIn_366 rfl rfl rfl 3 (by decide +kernel) ⟨Nat.le_of_ble_eq_true rfl, Nat.le_of_ble_eq_true rfl⟩ rfl rfl (Nat.le_of_ble_eq_true rfl) dX12_image_3 ⟨Nat.le_of_ble_eq_true rfl, Nat.le_of_ble_eq_true rfl⟩ (fun r_3_3 nw_3_1 l_3_2 H locs hw hO => ?_)
  rcases hw with hw | hw
  · obtain ⟨hr_3_4, rfl, rfl⟩ := hw
    have hO : cO D cy A s.heap s 4 ad (cup [] g) _ _ := hO
    refine lv_if_ne (tgt := 11) hx hb dX12_image_6 (by decide) (fun _ => ?_) (fun h => absurd h (by decide))
    obtain ⟨n_n, hn_n, en_n⟩ := rng_nat (n := 2) hr_3_4 (by decide) rfl
    rw [en_n] at hl
    rcases (show n_n = 0 ∨ n_n = 1 ∨ n_n = 2 by omega) with rfl | rfl | rfl
    · have hl : lv_has ls 3 [(0, .ref (ad 0)), (1, .int 0)] := hl
      refine lv_iconst (v := 0) hx hb dX12_image_11 (by decide) ?_
      refine lv_istore_n (lv' := [(2, .int 0), (0, .ref (ad 0)), (1, .int 0)]) hx hb dX12_image_12 rfl hl (by decide) rfl (fun ls hl => ?_)
      have hO := hO.note 1 (e := .inl (cy 0, 240, .inl c1)) a1
      have hO : cO D cy A s.heap s 4 ad (cup [(1, .inl (cy 0, 240, .inl c1))] g) _ _ := hO
      have loop_13_5 : ∀ (d_13_6 : Nat) (i : Nat) (cd : Nat → Int32), (i ≤ 80) → 80 - i < d_13_6 → ∀ (H : Heap) (locs : List Loc), cO D cy A s.heap s 4 ad (cup [(1, .inl (cy 0, 240, .inl cd))] g) H locs → ∀ ls : Array Slot, lv_has ls 3 [(2, .int (nI i)), (0, .ref (ad 0)), (1, .int 0)] → W p l e { frames := 1, cells := 0, slots := 0, locals := 22 } s m [.ref (ad 0), .int n].toArray below meth c H locs 0 0 (MQ below (cQi (fun r nw lu => r = ans_image n) D 4 0 ad g A) [.ref (ad 0), .int n].toArray s 0 0 A) (F0 m 13 ls []) := by
        intro d_13_6
        induction d_13_6 with
        | zero => intro i cd hi mu_13_7; exact absurd mu_13_7 (Nat.not_lt_zero _)
        | succ d_13_6 ih_13_8 =>
          intro i cd hi mu_13_7 H locs hO ls hl
          refine lv_iload_n hx hb dX12_image_13 rfl (lv_at hl 0 rfl) ?_
          refine lv_bipush (v := 80) hx hb dX12_image_14 (by decide) ?_
          refine lv_icmp_ge (tgt := 42) hx hb dX12_image_16 (by decide) (fun h_16_9 => ?_) (fun h_16_9 => ?_)
          · have nh_16_9 : 80 ≤ i := (nI_leI (a := 80) (b := i) (by omega) (by omega)).mp h_16_9
            refine lv_aload_n hx hb dX12_image_42 rfl (lv_at hl 1 rfl) ?_
            refine cg_get hC hO 0 (by decide) o0 rfl i_X12 73 (by decide) (List.mem_of_getElem? (i := 5) rfl) f0_73 dX12_image_43 ?_
            refine lv_iload_n hx hb dX12_image_46 rfl (lv_at hl 2 rfl) ?_
            refine lv_iconst (v := 1) hx hb dX12_image_47 (by decide) ?_
            refine cg_zast hC hO 2 (by decide) a2 (cin (by decide)) dX12_image_48 (fun H locs hO => ?_)
            have hO : cO D cy A s.heap s 4 ad (cup [(1, .inl (cy 0, 240, .inl cd)), (2, .inl (cy 2, 3, .inl (upd c2 (0 : Int32).toNatClampNeg (vp_nar .boolean 1))))] g) _ _ := hO
            obtain ⟨c2_48_10, ec2_48_10⟩ : ∃ z, z = (upd c2 (0 : Int32).toNatClampNeg (vp_nar .boolean 1)) := ⟨_, rfl⟩
            rw [← ec2_48_10] at hO
            have hO : cO D cy A s.heap s 4 ad (cup [(1, .inl (cy 0, 240, .inl cd)), (2, .inl (cy 2, 3, .inl c2_48_10))] g) _ _ := hO
            refine lv_aload_n hx hb dX12_image_49 rfl (lv_at hl 1 rfl) ?_
            refine cg_get hC hO 0 (by decide) o0 rfl i_X12 41 (by decide) (List.mem_of_getElem? (i := 6) rfl) f0_41 dX12_image_50 ?_
            refine lv_iconst (v := 0) hx hb dX12_image_53 (by decide) ?_
            refine cg_iald hC hO 3 (by decide) a3 (cin (by decide)) dX12_image_54 ?_
            refine cg_ev (v := 0) (rfl) ?_
            exact cg_iret (nw := fun _ => 0) hC hr hlk hO.same rfl (Nat.le_of_ble_eq_true rfl) (Nat.le_of_ble_eq_true rfl) ((if_pos hr_3_4).symm) dX12_image_55
          · have nh_16_9 : ¬ 80 ≤ i := fun z => h_16_9 ((nI_leI (a := 80) (b := i) (by omega) (by omega)).mpr z)
            refine lv_aload_n hx hb dX12_image_19 rfl (lv_at hl 1 rfl) ?_
            refine cg_get hC hO 0 (by decide) o0 rfl i_X12 72 (by decide) (List.mem_of_getElem? (i := 7) rfl) f0_72 dX12_image_20 ?_
            refine lv_bipush (v := 80) hx hb dX12_image_23 (by decide) ?_
            refine lv_iload_n hx hb dX12_image_25 rfl (lv_at hl 2 rfl) ?_
            refine lv_imul hx hb dX12_image_26 ?_
            refine cg_ev (v := 0) (by decide) ?_
            refine lv_iload_n hx hb dX12_image_27 rfl (lv_at hl 0 rfl) ?_
            refine lv_iadd hx hb dX12_image_28 ?_
            refine cg_ev (v := (nI (0 + i))) (nI_add 0 i) ?_
            refine lv_aload_n hx hb dX12_image_29 rfl (lv_at hl 1 rfl) ?_
            refine cg_get hC hO 0 (by decide) o0 rfl i_X12 41 (by decide) (List.mem_of_getElem? (i := 6) rfl) f0_41 dX12_image_30 ?_
            refine lv_iload_n hx hb dX12_image_33 rfl (lv_at hl 0 rfl) ?_
            refine cg_iald hC hO 3 (by decide) a3 (vp_in_nI (by omega) (by omega)) dX12_image_34 ?_
            refine cg_ev (v := 0) (rfl) ?_
            refine cg_iast hC hO 1 (by decide) rfl (vp_in_nI (by omega) (by omega)) dX12_image_35 (fun H locs hO => ?_)
            have hO : cO D cy A s.heap s 4 ad (cup [(1, .inl (cy 0, 240, .inl (upd cd (nI (0 + i)).toNatClampNeg 0)))] g) _ _ := hO
            obtain ⟨c1_35_11, ec1_35_11⟩ : ∃ z, z = (upd cd (nI (0 + i)).toNatClampNeg 0) := ⟨_, rfl⟩
            rw [← ec1_35_11] at hO
            have hO : cO D cy A s.heap s 4 ad (cup [(1, .inl (cy 0, 240, .inl c1_35_11))] g) _ _ := hO
            refine lv_iinc (v := (nI (i + 1))) (lv' := [(2, .int (nI (i + 1))), (0, .ref (ad 0)), (1, .int 0)]) hx hb dX12_image_36 hl (k := 0) rfl (nI_add i 1) (by decide) rfl (fun ls hl => ?_)
            refine lv_goto (tgt := 13) hx hb dX12_image_39 (by decide) ?_
            exact ih_13_8 (i + 1) c1_35_11 (by omega) (by omega) _ _ hO ls (lv_sub hl [0, 1, 2] rfl)
      exact loop_13_5 (80 + 1) 0 c1 (by omega) (by omega) _ _ hO ls hl
    · have hl : lv_has ls 3 [(0, .ref (ad 0)), (1, .int 1)] := hl
      refine lv_iconst (v := 0) hx hb dX12_image_11 (by decide) ?_
      refine lv_istore_n (lv' := [(2, .int 0), (0, .ref (ad 0)), (1, .int 1)]) hx hb dX12_image_12 rfl hl (by decide) rfl (fun ls hl => ?_)
      have hO := hO.note 1 (e := .inl (cy 0, 240, .inl c1)) a1
      have hO : cO D cy A s.heap s 4 ad (cup [(1, .inl (cy 0, 240, .inl c1))] g) _ _ := hO
      have loop_13_12 : ∀ (d_13_13 : Nat) (i : Nat) (cd : Nat → Int32), (i ≤ 80) → 80 - i < d_13_13 → ∀ (H : Heap) (locs : List Loc), cO D cy A s.heap s 4 ad (cup [(1, .inl (cy 0, 240, .inl cd))] g) H locs → ∀ ls : Array Slot, lv_has ls 3 [(2, .int (nI i)), (0, .ref (ad 0)), (1, .int 1)] → W p l e { frames := 1, cells := 0, slots := 0, locals := 22 } s m [.ref (ad 0), .int n].toArray below meth c H locs 0 0 (MQ below (cQi (fun r nw lu => r = ans_image n) D 4 0 ad g A) [.ref (ad 0), .int n].toArray s 0 0 A) (F0 m 13 ls []) := by
        intro d_13_13
        induction d_13_13 with
        | zero => intro i cd hi mu_13_14; exact absurd mu_13_14 (Nat.not_lt_zero _)
        | succ d_13_13 ih_13_15 =>
          intro i cd hi mu_13_14 H locs hO ls hl
          refine lv_iload_n hx hb dX12_image_13 rfl (lv_at hl 0 rfl) ?_
          refine lv_bipush (v := 80) hx hb dX12_image_14 (by decide) ?_
          refine lv_icmp_ge (tgt := 42) hx hb dX12_image_16 (by decide) (fun h_16_16 => ?_) (fun h_16_16 => ?_)
          · have nh_16_16 : 80 ≤ i := (nI_leI (a := 80) (b := i) (by omega) (by omega)).mp h_16_16
            refine lv_aload_n hx hb dX12_image_42 rfl (lv_at hl 1 rfl) ?_
            refine cg_get hC hO 0 (by decide) o0 rfl i_X12 73 (by decide) (List.mem_of_getElem? (i := 5) rfl) f0_73 dX12_image_43 ?_
            refine lv_iload_n hx hb dX12_image_46 rfl (lv_at hl 2 rfl) ?_
            refine lv_iconst (v := 1) hx hb dX12_image_47 (by decide) ?_
            refine cg_zast hC hO 2 (by decide) a2 (cin (by decide)) dX12_image_48 (fun H locs hO => ?_)
            have hO : cO D cy A s.heap s 4 ad (cup [(1, .inl (cy 0, 240, .inl cd)), (2, .inl (cy 2, 3, .inl (upd c2 (1 : Int32).toNatClampNeg (vp_nar .boolean 1))))] g) _ _ := hO
            obtain ⟨c2_48_17, ec2_48_17⟩ : ∃ z, z = (upd c2 (1 : Int32).toNatClampNeg (vp_nar .boolean 1)) := ⟨_, rfl⟩
            rw [← ec2_48_17] at hO
            have hO : cO D cy A s.heap s 4 ad (cup [(1, .inl (cy 0, 240, .inl cd)), (2, .inl (cy 2, 3, .inl c2_48_17))] g) _ _ := hO
            refine lv_aload_n hx hb dX12_image_49 rfl (lv_at hl 1 rfl) ?_
            refine cg_get hC hO 0 (by decide) o0 rfl i_X12 41 (by decide) (List.mem_of_getElem? (i := 6) rfl) f0_41 dX12_image_50 ?_
            refine lv_iconst (v := 0) hx hb dX12_image_53 (by decide) ?_
            refine cg_iald hC hO 3 (by decide) a3 (cin (by decide)) dX12_image_54 ?_
            refine cg_ev (v := 0) (rfl) ?_
            exact cg_iret (nw := fun _ => 0) hC hr hlk hO.same rfl (Nat.le_of_ble_eq_true rfl) (Nat.le_of_ble_eq_true rfl) ((if_pos hr_3_4).symm) dX12_image_55
          · have nh_16_16 : ¬ 80 ≤ i := fun z => h_16_16 ((nI_leI (a := 80) (b := i) (by omega) (by omega)).mpr z)
            refine lv_aload_n hx hb dX12_image_19 rfl (lv_at hl 1 rfl) ?_
            refine cg_get hC hO 0 (by decide) o0 rfl i_X12 72 (by decide) (List.mem_of_getElem? (i := 7) rfl) f0_72 dX12_image_20 ?_
            refine lv_bipush (v := 80) hx hb dX12_image_23 (by decide) ?_
            refine lv_iload_n hx hb dX12_image_25 rfl (lv_at hl 2 rfl) ?_
            refine lv_imul hx hb dX12_image_26 ?_
            refine cg_ev (v := 80) (by decide) ?_
            refine lv_iload_n hx hb dX12_image_27 rfl (lv_at hl 0 rfl) ?_
            refine lv_iadd hx hb dX12_image_28 ?_
            refine cg_ev (v := (nI (80 + i))) (nI_add 80 i) ?_
            refine lv_aload_n hx hb dX12_image_29 rfl (lv_at hl 1 rfl) ?_
            refine cg_get hC hO 0 (by decide) o0 rfl i_X12 41 (by decide) (List.mem_of_getElem? (i := 6) rfl) f0_41 dX12_image_30 ?_
            refine lv_iload_n hx hb dX12_image_33 rfl (lv_at hl 0 rfl) ?_
            refine cg_iald hC hO 3 (by decide) a3 (vp_in_nI (by omega) (by omega)) dX12_image_34 ?_
            refine cg_ev (v := 0) (rfl) ?_
            refine cg_iast hC hO 1 (by decide) rfl (vp_in_nI (by omega) (by omega)) dX12_image_35 (fun H locs hO => ?_)
            have hO : cO D cy A s.heap s 4 ad (cup [(1, .inl (cy 0, 240, .inl (upd cd (nI (80 + i)).toNatClampNeg 0)))] g) _ _ := hO
            obtain ⟨c1_35_18, ec1_35_18⟩ : ∃ z, z = (upd cd (nI (80 + i)).toNatClampNeg 0) := ⟨_, rfl⟩
            rw [← ec1_35_18] at hO
            have hO : cO D cy A s.heap s 4 ad (cup [(1, .inl (cy 0, 240, .inl c1_35_18))] g) _ _ := hO
            refine lv_iinc (v := (nI (i + 1))) (lv' := [(2, .int (nI (i + 1))), (0, .ref (ad 0)), (1, .int 1)]) hx hb dX12_image_36 hl (k := 0) rfl (nI_add i 1) (by decide) rfl (fun ls hl => ?_)
            refine lv_goto (tgt := 13) hx hb dX12_image_39 (by decide) ?_
            exact ih_13_15 (i + 1) c1_35_18 (by omega) (by omega) _ _ hO ls (lv_sub hl [0, 1, 2] rfl)
      exact loop_13_12 (80 + 1) 0 c1 (by omega) (by omega) _ _ hO ls hl
    · have hl : lv_has ls 3 [(0, .ref (ad 0)), (1, .int 2)] := hl
      refine lv_iconst (v := 0) hx hb dX12_image_11 (by decide) ?_
      refine lv_istore_n (lv' := [(2, .int 0), (0, .ref (ad 0)), (1, .int 2)]) hx hb dX12_image_12 rfl hl (by decide) rfl (fun ls hl => ?_)
      have hO := hO.note 1 (e := .inl (cy 0, 240, .inl c1)) a1
      have hO : cO D cy A s.heap s 4 ad (cup [(1, .inl (cy 0, 240, .inl c1))] g) _ _ := hO
      have loop_13_19 : ∀ (d_13_20 : Nat) (i : Nat) (cd : Nat → Int32), (i ≤ 80) → 80 - i < d_13_20 → ∀ (H : Heap) (locs : List Loc), cO D cy A s.heap s 4 ad (cup [(1, .inl (cy 0, 240, .inl cd))] g) H locs → ∀ ls : Array Slot, lv_has ls 3 [(2, .int (nI i)), (0, .ref (ad 0)), (1, .int 2)] → W p l e { frames := 1, cells := 0, slots := 0, locals := 22 } s m [.ref (ad 0), .int n].toArray below meth c H locs 0 0 (MQ below (cQi (fun r nw lu => r = ans_image n) D 4 0 ad g A) [.ref (ad 0), .int n].toArray s 0 0 A) (F0 m 13 ls []) := by
        intro d_13_20
        induction d_13_20 with
        | zero => intro i cd hi mu_13_21; exact absurd mu_13_21 (Nat.not_lt_zero _)
        | succ d_13_20 ih_13_22 =>
          intro i cd hi mu_13_21 H locs hO ls hl
          refine lv_iload_n hx hb dX12_image_13 rfl (lv_at hl 0 rfl) ?_
          refine lv_bipush (v := 80) hx hb dX12_image_14 (by decide) ?_
          refine lv_icmp_ge (tgt := 42) hx hb dX12_image_16 (by decide) (fun h_16_23 => ?_) (fun h_16_23 => ?_)
          · have nh_16_23 : 80 ≤ i := (nI_leI (a := 80) (b := i) (by omega) (by omega)).mp h_16_23
            refine lv_aload_n hx hb dX12_image_42 rfl (lv_at hl 1 rfl) ?_
            refine cg_get hC hO 0 (by decide) o0 rfl i_X12 73 (by decide) (List.mem_of_getElem? (i := 5) rfl) f0_73 dX12_image_43 ?_
            refine lv_iload_n hx hb dX12_image_46 rfl (lv_at hl 2 rfl) ?_
            refine lv_iconst (v := 1) hx hb dX12_image_47 (by decide) ?_
            refine cg_zast hC hO 2 (by decide) a2 (cin (by decide)) dX12_image_48 (fun H locs hO => ?_)
            have hO : cO D cy A s.heap s 4 ad (cup [(1, .inl (cy 0, 240, .inl cd)), (2, .inl (cy 2, 3, .inl (upd c2 (2 : Int32).toNatClampNeg (vp_nar .boolean 1))))] g) _ _ := hO
            obtain ⟨c2_48_24, ec2_48_24⟩ : ∃ z, z = (upd c2 (2 : Int32).toNatClampNeg (vp_nar .boolean 1)) := ⟨_, rfl⟩
            rw [← ec2_48_24] at hO
            have hO : cO D cy A s.heap s 4 ad (cup [(1, .inl (cy 0, 240, .inl cd)), (2, .inl (cy 2, 3, .inl c2_48_24))] g) _ _ := hO
            refine lv_aload_n hx hb dX12_image_49 rfl (lv_at hl 1 rfl) ?_
            refine cg_get hC hO 0 (by decide) o0 rfl i_X12 41 (by decide) (List.mem_of_getElem? (i := 6) rfl) f0_41 dX12_image_50 ?_
            refine lv_iconst (v := 0) hx hb dX12_image_53 (by decide) ?_
            refine cg_iald hC hO 3 (by decide) a3 (cin (by decide)) dX12_image_54 ?_
            refine cg_ev (v := 0) (rfl) ?_
            exact cg_iret (nw := fun _ => 0) hC hr hlk hO.same rfl (Nat.le_of_ble_eq_true rfl) (Nat.le_of_ble_eq_true rfl) ((if_pos hr_3_4).symm) dX12_image_55
          · have nh_16_23 : ¬ 80 ≤ i := fun z => h_16_23 ((nI_leI (a := 80) (b := i) (by omega) (by omega)).mpr z)
            refine lv_aload_n hx hb dX12_image_19 rfl (lv_at hl 1 rfl) ?_
            refine cg_get hC hO 0 (by decide) o0 rfl i_X12 72 (by decide) (List.mem_of_getElem? (i := 7) rfl) f0_72 dX12_image_20 ?_
            refine lv_bipush (v := 80) hx hb dX12_image_23 (by decide) ?_
            refine lv_iload_n hx hb dX12_image_25 rfl (lv_at hl 2 rfl) ?_
            refine lv_imul hx hb dX12_image_26 ?_
            refine cg_ev (v := 160) (by decide) ?_
            refine lv_iload_n hx hb dX12_image_27 rfl (lv_at hl 0 rfl) ?_
            refine lv_iadd hx hb dX12_image_28 ?_
            refine cg_ev (v := (nI (160 + i))) (nI_add 160 i) ?_
            refine lv_aload_n hx hb dX12_image_29 rfl (lv_at hl 1 rfl) ?_
            refine cg_get hC hO 0 (by decide) o0 rfl i_X12 41 (by decide) (List.mem_of_getElem? (i := 6) rfl) f0_41 dX12_image_30 ?_
            refine lv_iload_n hx hb dX12_image_33 rfl (lv_at hl 0 rfl) ?_
            refine cg_iald hC hO 3 (by decide) a3 (vp_in_nI (by omega) (by omega)) dX12_image_34 ?_
            refine cg_ev (v := 0) (rfl) ?_
            refine cg_iast hC hO 1 (by decide) rfl (vp_in_nI (by omega) (by omega)) dX12_image_35 (fun H locs hO => ?_)
            have hO : cO D cy A s.heap s 4 ad (cup [(1, .inl (cy 0, 240, .inl (upd cd (nI (160 + i)).toNatClampNeg 0)))] g) _ _ := hO
            obtain ⟨c1_35_25, ec1_35_25⟩ : ∃ z, z = (upd cd (nI (160 + i)).toNatClampNeg 0) := ⟨_, rfl⟩
            rw [← ec1_35_25] at hO
            have hO : cO D cy A s.heap s 4 ad (cup [(1, .inl (cy 0, 240, .inl c1_35_25))] g) _ _ := hO
            refine lv_iinc (v := (nI (i + 1))) (lv' := [(2, .int (nI (i + 1))), (0, .ref (ad 0)), (1, .int 2)]) hx hb dX12_image_36 hl (k := 0) rfl (nI_add i 1) (by decide) rfl (fun ls hl => ?_)
            refine lv_goto (tgt := 13) hx hb dX12_image_39 (by decide) ?_
            exact ih_13_22 (i + 1) c1_35_25 (by omega) (by omega) _ _ hO ls (lv_sub hl [0, 1, 2] rfl)
      exact loop_13_19 (80 + 1) 0 c1 (by omega) (by omega) _ _ hO ls hl
  · obtain ⟨hr_3_26, rfl, rfl⟩ := hw
    have hO : cO D cy A s.heap s 4 ad (cup [] g) _ _ := hO
    refine lv_if_ne (tgt := 11) hx hb dX12_image_6 (by decide) (fun h => absurd h (by decide)) (fun _ => ?_)
    refine lv_iconst (v := (-1)) hx hb dX12_image_9 (by decide) ?_
    exact cg_iret (nw := fun _ => 0) hC hr hlk hO.same rfl (Nat.le_of_ble_eq_true rfl) (Nat.le_of_ble_eq_true rfl) ((if_neg hr_3_26).symm) dX12_image_10

theorem dX12_back_0 : decode cX12_back 0 = .ok (.iload_n 1, 1) := by decide +kernel
theorem dX12_back_1 : decode cX12_back 1 = .ok (.iconst 0, 1) := by decide +kernel
theorem dX12_back_2 : decode cX12_back 2 = .ok (.iconst 2, 1) := by decide +kernel
theorem dX12_back_3 : decode cX12_back 3 = .ok (.invokestatic 366, 3) := by decide +kernel
theorem dX12_back_6 : decode cX12_back 6 = .ok (.ifCond .eq 12, 3) := by decide +kernel
theorem dX12_back_9 : decode cX12_back 9 = .ok (.aload_n 0, 1) := by decide +kernel
theorem dX12_back_10 : decode cX12_back 10 = .ok (.getfield 173, 3) := by decide +kernel
theorem dX12_back_13 : decode cX12_back 13 = .ok (.iload_n 1, 1) := by decide +kernel
theorem dX12_back_14 : decode cX12_back 14 = .ok (.baload, 1) := by decide +kernel
theorem dX12_back_15 : decode cX12_back 15 = .ok (.ifCond .ne 5, 3) := by decide +kernel
theorem dX12_back_18 : decode cX12_back 18 = .ok (.iconst (-1), 1) := by decide +kernel
theorem dX12_back_19 : decode cX12_back 19 = .ok (.ireturn, 1) := by decide +kernel
def wq_c_X12_back : List Cond := Cond.code yX12_back cX12_back 3 (some .int) :: (([Cond.methodLink RX12 366 yX12_isIn, Cond.static yX12_isIn, Cond.initialized RX12, Cond.code yX12_isIn cX12_isIn 3 (some .boolean), Cond.fieldLink RX12 173 "CrowTollModel" "isBoxed" "[Z"] : List Cond) ++ wsX120)
set_option maxRecDepth 20000 in
theorem gr_c_X12_back_c_X12_isIn : GoodIn wq_c_X12_back wq_c_X12_isIn := List.forall_mem_cons.mpr ⟨⟨(List.mem_of_getElem? (i := 4) rfl), good_of_word rfl⟩, (fun _ h => absurd h List.not_mem_nil)⟩
set_option maxRecDepth 20000 in
theorem gq_c_X12_back_c_X12_isIn_366 : GoodIn wq_c_X12_back (va_wsS RX12 366 yX12_isIn wq_c_X12_isIn) := goodIn_app (List.forall_mem_cons.mpr ⟨⟨(List.mem_of_getElem? (i := 1) rfl), good_of_word rfl⟩, List.forall_mem_cons.mpr ⟨⟨(List.mem_of_getElem? (i := 2) rfl), good_of_word rfl⟩, List.forall_mem_cons.mpr ⟨⟨(List.mem_of_getElem? (i := 3) rfl), good_of_word rfl⟩, (fun _ h => absurd h List.not_mem_nil)⟩⟩⟩) gr_c_X12_back_c_X12_isIn
set_option maxHeartbeats 8000000 in
set_option maxRecDepth 100000 in
theorem c_X12_back (l : Launch) (D : va_G) (cy : Nat → ClassId) (ad : Nat → Nat) (g : Nat → va_E) {f0 : List Value} {n : Int32} (o0 : g 0 = .inr (12, f0)) (f0_73 : f0[73]? = some (.ref (ad 1))) (a1 : g 1 = .inl (cy 2, 3, .inl (fun _ => 0))) : cMi l yX12_back wq_c_X12_back { frames := 1, cells := 0, slots := 0, locals := 22 } 2 0 0 0 D cy ad g [.ref (ad 0), .int n] (fun r nw lu => r = -1) := by
  refine cM_of (Qc := fun A => cQi (fun r nw lu => r = -1) D 2 0 ad g A) (cc := cX12_back) (maxL := 3) (ret := (some .int)) (by decide) rfl (Nat.le_of_ble_eq_true rfl) ?_
  intro p e s m below meth c A hC hr hlk hnm hO ls hl
  have hC : CallFix p m c cX12_back 3 s [.ref (ad 0), .int n].toArray wq_c_X12_back RX12 := hC
  obtain ⟨hx, hb, hml, hown, hts⟩ := id hC
  have hl : lv_has ls 3 [(0, .ref (ad 0)), (1, .int n)] := hl
  have i_X12 : ∀ w ∈ wsX120, w ∈ wq_c_X12_back := fun w h => List.mem_cons_of_mem _ (List.mem_append_right _ h)
  refine lv_iload_n hx hb dX12_back_0 rfl (lv_at hl 1 rfl) ?_
  refine lv_iconst (v := 0) hx hb dX12_back_1 (by decide) ?_
  refine lv_iconst (v := 2) hx hb dX12_back_2 (by decide) ?_
  refine cg_Si (As := [.int n, .int 0, .int 2]) (rest := []) (mc := 0) (ms := 0) (rm := { frames := 0, cells := 0, slots := 0, locals := 0 }) hC hl.1 hO [] rfl (c_X12_isIn l D cy _ _ (x := n) (y := 0) (z := 2) ) gq_c_X12_back_c_X12_isIn_366 rfl rfl rfl 3 (by decide +kernel) ⟨Nat.le_of_ble_eq_true rfl, Nat.le_of_ble_eq_true rfl⟩ rfl rfl (Nat.le_of_ble_eq_true rfl) dX12_back_3 ⟨Nat.le_of_ble_eq_true rfl, Nat.le_of_ble_eq_true rfl⟩ (fun r_3_3 nw_3_1 l_3_2 H locs hw hO => ?_)
  rcases hw with hw | hw
  · obtain ⟨hr_3_4, rfl, rfl⟩ := hw
    have hO : cO D cy A s.heap s 2 ad (cup [] g) _ _ := hO
    refine lv_if_eq (tgt := 18) hx hb dX12_back_6 (by decide) (fun h => absurd h (by decide)) (fun _ => ?_)
    obtain ⟨n_n, hn_n, rfl⟩ := rng_nat (n := 2) hr_3_4 (by decide) rfl
    rcases (show n_n = 0 ∨ n_n = 1 ∨ n_n = 2 by omega) with rfl | rfl | rfl
    · have hl : lv_has ls 3 [(0, .ref (ad 0)), (1, .int 0)] := hl
      refine lv_aload_n hx hb dX12_back_9 rfl (lv_at hl 0 rfl) ?_
      refine cg_get hC hO 0 (by decide) o0 rfl i_X12 73 (by decide) (List.mem_of_getElem? (i := 5) rfl) f0_73 dX12_back_10 ?_
      refine lv_iload_n hx hb dX12_back_13 rfl (lv_at hl 1 rfl) ?_
      refine cg_zald hC hO 1 (by decide) a1 (cin (by decide)) dX12_back_14 ?_
      refine cg_ev (v := 0) (rfl) ?_
      refine lv_if_ne (tgt := 20) hx hb dX12_back_15 (by decide) (fun h => absurd h (by decide)) (fun _ => ?_)
      refine lv_iconst (v := (-1)) hx hb dX12_back_18 (by decide) ?_
      exact cg_iret (nw := fun _ => 0) hC hr hlk hO.same rfl (Nat.le_of_ble_eq_true rfl) (Nat.le_of_ble_eq_true rfl) rfl dX12_back_19
    · have hl : lv_has ls 3 [(0, .ref (ad 0)), (1, .int 1)] := hl
      refine lv_aload_n hx hb dX12_back_9 rfl (lv_at hl 0 rfl) ?_
      refine cg_get hC hO 0 (by decide) o0 rfl i_X12 73 (by decide) (List.mem_of_getElem? (i := 5) rfl) f0_73 dX12_back_10 ?_
      refine lv_iload_n hx hb dX12_back_13 rfl (lv_at hl 1 rfl) ?_
      refine cg_zald hC hO 1 (by decide) a1 (cin (by decide)) dX12_back_14 ?_
      refine cg_ev (v := 0) (rfl) ?_
      refine lv_if_ne (tgt := 20) hx hb dX12_back_15 (by decide) (fun h => absurd h (by decide)) (fun _ => ?_)
      refine lv_iconst (v := (-1)) hx hb dX12_back_18 (by decide) ?_
      exact cg_iret (nw := fun _ => 0) hC hr hlk hO.same rfl (Nat.le_of_ble_eq_true rfl) (Nat.le_of_ble_eq_true rfl) rfl dX12_back_19
    · have hl : lv_has ls 3 [(0, .ref (ad 0)), (1, .int 2)] := hl
      refine lv_aload_n hx hb dX12_back_9 rfl (lv_at hl 0 rfl) ?_
      refine cg_get hC hO 0 (by decide) o0 rfl i_X12 73 (by decide) (List.mem_of_getElem? (i := 5) rfl) f0_73 dX12_back_10 ?_
      refine lv_iload_n hx hb dX12_back_13 rfl (lv_at hl 1 rfl) ?_
      refine cg_zald hC hO 1 (by decide) a1 (cin (by decide)) dX12_back_14 ?_
      refine cg_ev (v := 0) (rfl) ?_
      refine lv_if_ne (tgt := 20) hx hb dX12_back_15 (by decide) (fun h => absurd h (by decide)) (fun _ => ?_)
      refine lv_iconst (v := (-1)) hx hb dX12_back_18 (by decide) ?_
      exact cg_iret (nw := fun _ => 0) hC hr hlk hO.same rfl (Nat.le_of_ble_eq_true rfl) (Nat.le_of_ble_eq_true rfl) rfl dX12_back_19
  · obtain ⟨hr_3_5, rfl, rfl⟩ := hw
    have hO : cO D cy A s.heap s 2 ad (cup [] g) _ _ := hO
    refine lv_if_eq (tgt := 18) hx hb dX12_back_6 (by decide) (fun _ => ?_) (fun h => absurd h (by decide))
    refine lv_iconst (v := (-1)) hx hb dX12_back_18 (by decide) ?_
    exact cg_iret (nw := fun _ => 0) hC hr hlk hO.same rfl (Nat.le_of_ble_eq_true rfl) (Nat.le_of_ble_eq_true rfl) rfl dX12_back_19

theorem dX12_about_0 : decode cX12_about 0 = .ok (.iload_n 1, 1) := by decide +kernel
theorem dX12_about_1 : decode cX12_about 1 = .ok (.tableswitch 112 0 9 #[55, 60, 65, 72, 77, 82, 87, 92, 97, 107], 55) := by decide +kernel
theorem dX12_about_56 : decode cX12_about 56 = .ok (.aload_n 0, 1) := by decide +kernel
theorem dX12_about_57 : decode cX12_about 57 = .ok (.invokevirtual 363, 3) := by decide +kernel
theorem dX12_about_60 : decode cX12_about 60 = .ok (.ireturn, 1) := by decide +kernel
theorem dX12_about_61 : decode cX12_about 61 = .ok (.aload_n 0, 1) := by decide +kernel
theorem dX12_about_62 : decode cX12_about 62 = .ok (.invokevirtual 370, 3) := by decide +kernel
theorem dX12_about_65 : decode cX12_about 65 = .ok (.ireturn, 1) := by decide +kernel
theorem dX12_about_66 : decode cX12_about 66 = .ok (.aload_n 0, 1) := by decide +kernel
theorem dX12_about_67 : decode cX12_about 67 = .ok (.getfield 98, 3) := by decide +kernel
theorem dX12_about_70 : decode cX12_about 70 = .ok (.iconst 0, 1) := by decide +kernel
theorem dX12_about_71 : decode cX12_about 71 = .ok (.iaload, 1) := by decide +kernel
theorem dX12_about_72 : decode cX12_about 72 = .ok (.ireturn, 1) := by decide +kernel
theorem dX12_about_73 : decode cX12_about 73 = .ok (.aload_n 0, 1) := by decide +kernel
theorem dX12_about_74 : decode cX12_about 74 = .ok (.getfield 373, 3) := by decide +kernel
theorem dX12_about_77 : decode cX12_about 77 = .ok (.ireturn, 1) := by decide +kernel
theorem dX12_about_78 : decode cX12_about 78 = .ok (.aload_n 0, 1) := by decide +kernel
theorem dX12_about_79 : decode cX12_about 79 = .ok (.getfield 376, 3) := by decide +kernel
theorem dX12_about_82 : decode cX12_about 82 = .ok (.ireturn, 1) := by decide +kernel
theorem dX12_about_83 : decode cX12_about 83 = .ok (.aload_n 0, 1) := by decide +kernel
theorem dX12_about_84 : decode cX12_about 84 = .ok (.getfield 292, 3) := by decide +kernel
theorem dX12_about_87 : decode cX12_about 87 = .ok (.ireturn, 1) := by decide +kernel
theorem dX12_about_88 : decode cX12_about 88 = .ok (.aload_n 0, 1) := by decide +kernel
theorem dX12_about_89 : decode cX12_about 89 = .ok (.getfield 455, 3) := by decide +kernel
theorem dX12_about_92 : decode cX12_about 92 = .ok (.ireturn, 1) := by decide +kernel
theorem dX12_about_93 : decode cX12_about 93 = .ok (.aload_n 0, 1) := by decide +kernel
theorem dX12_about_94 : decode cX12_about 94 = .ok (.getfield 283, 3) := by decide +kernel
theorem dX12_about_97 : decode cX12_about 97 = .ok (.ireturn, 1) := by decide +kernel
theorem dX12_about_98 : decode cX12_about 98 = .ok (.aload_n 0, 1) := by decide +kernel
theorem dX12_about_99 : decode cX12_about 99 = .ok (.getfield 30, 3) := by decide +kernel
theorem dX12_about_102 : decode cX12_about 102 = .ok (.aload_n 0, 1) := by decide +kernel
theorem dX12_about_103 : decode cX12_about 103 = .ok (.getfield 286, 3) := by decide +kernel
theorem dX12_about_106 : decode cX12_about 106 = .ok (.iaload, 1) := by decide +kernel
theorem dX12_about_107 : decode cX12_about 107 = .ok (.ireturn, 1) := by decide +kernel
theorem dX12_about_108 : decode cX12_about 108 = .ok (.aload_n 0, 1) := by decide +kernel
theorem dX12_about_109 : decode cX12_about 109 = .ok (.getfield 295, 3) := by decide +kernel
theorem dX12_about_112 : decode cX12_about 112 = .ok (.ireturn, 1) := by decide +kernel
theorem dX12_about_113 : decode cX12_about 113 = .ok (.iconst (-1), 1) := by decide +kernel
theorem dX12_about_114 : decode cX12_about 114 = .ok (.ireturn, 1) := by decide +kernel
def wq_c_X12_about : List Cond := Cond.code yX12_about cX12_about 2 (some .int) :: (([Cond.methodLink RX12 363 yX12_birdMany, Cond.instanceMethod yX12_birdMany, Cond.selects RX12 yX12_birdMany yX12_birdMany, Cond.initialized RX12, Cond.code yX12_birdMany cX12_birdMany 1 (some .int), Cond.fieldLink RX12 20 "CrowTollModel" "birds" "[I", Cond.fieldLink RX12 286 "CrowTollModel" "bank" "I", Cond.methodLink RX12 370 yX12_postMany, Cond.instanceMethod yX12_postMany, Cond.selects RX12 yX12_postMany yX12_postMany, Cond.code yX12_postMany cX12_postMany 1 (some .int), Cond.fieldLink RX12 24 "CrowTollModel" "posts" "[I", Cond.fieldLink RX12 98 "CrowTollModel" "state" "[I", Cond.fieldLink RX12 373 "CrowTollModel" "acts" "I", Cond.fieldLink RX12 376 "CrowTollModel" "undone" "I", Cond.fieldLink RX12 292 "CrowTollModel" "sights" "I", Cond.fieldLink RX12 455 "CrowTollModel" "time" "I", Cond.fieldLink RX12 283 "CrowTollModel" "taped" "I", Cond.fieldLink RX12 30 "CrowTollModel" "units" "[I", Cond.fieldLink RX12 295 "CrowTollModel" "laid" "I"] : List Cond) ++ wsX120)
set_option maxRecDepth 20000 in
theorem gr_c_X12_about_c_birdMany0 : GoodIn wq_c_X12_about wq_c_birdMany0 := List.forall_mem_cons.mpr ⟨⟨(List.mem_of_getElem? (i := 5) rfl), good_of_word rfl⟩, List.forall_mem_append.mpr ⟨List.forall_mem_cons.mpr ⟨⟨(List.mem_of_getElem? (i := 6) rfl), good_of_word rfl⟩, List.forall_mem_cons.mpr ⟨⟨(List.mem_of_getElem? (i := 7) rfl), good_of_word rfl⟩, (fun _ h => absurd h List.not_mem_nil)⟩⟩, fun w h => ⟨(fun w h => List.mem_cons_of_mem _ (List.mem_append_right _ h)) w h, good_of_word (List.all_eq_true.mp gw_X12 w h)⟩⟩⟩
set_option maxRecDepth 20000 in
theorem gq_c_X12_about_c_birdMany0_363 : GoodIn wq_c_X12_about (wsV RX12 363 RX12 yX12_birdMany wq_c_birdMany0) := goodIn_app (List.forall_mem_cons.mpr ⟨⟨(List.mem_of_getElem? (i := 1) rfl), good_of_word rfl⟩, List.forall_mem_cons.mpr ⟨⟨(List.mem_of_getElem? (i := 2) rfl), good_of_word rfl⟩, List.forall_mem_cons.mpr ⟨⟨(List.mem_of_getElem? (i := 3) rfl), good_of_word rfl⟩, List.forall_mem_cons.mpr ⟨⟨(List.mem_of_getElem? (i := 4) rfl), good_of_word rfl⟩, (fun _ h => absurd h List.not_mem_nil)⟩⟩⟩⟩) gr_c_X12_about_c_birdMany0
set_option maxRecDepth 20000 in
theorem gr_c_X12_about_c_X12_postMany : GoodIn wq_c_X12_about wq_c_X12_postMany := List.forall_mem_cons.mpr ⟨⟨(List.mem_of_getElem? (i := 11) rfl), good_of_word rfl⟩, List.forall_mem_append.mpr ⟨List.forall_mem_cons.mpr ⟨⟨(List.mem_of_getElem? (i := 12) rfl), good_of_word rfl⟩, List.forall_mem_cons.mpr ⟨⟨(List.mem_of_getElem? (i := 7) rfl), good_of_word rfl⟩, (fun _ h => absurd h List.not_mem_nil)⟩⟩, fun w h => ⟨(fun w h => List.mem_cons_of_mem _ (List.mem_append_right _ h)) w h, good_of_word (List.all_eq_true.mp gw_X12 w h)⟩⟩⟩
set_option maxRecDepth 20000 in
theorem gq_c_X12_about_c_X12_postMany_370 : GoodIn wq_c_X12_about (wsV RX12 370 RX12 yX12_postMany wq_c_X12_postMany) := goodIn_app (List.forall_mem_cons.mpr ⟨⟨(List.mem_of_getElem? (i := 8) rfl), good_of_word rfl⟩, List.forall_mem_cons.mpr ⟨⟨(List.mem_of_getElem? (i := 9) rfl), good_of_word rfl⟩, List.forall_mem_cons.mpr ⟨⟨(List.mem_of_getElem? (i := 10) rfl), good_of_word rfl⟩, List.forall_mem_cons.mpr ⟨⟨(List.mem_of_getElem? (i := 4) rfl), good_of_word rfl⟩, (fun _ h => absurd h List.not_mem_nil)⟩⟩⟩⟩) gr_c_X12_about_c_X12_postMany
set_option maxHeartbeats 8000000 in
set_option maxRecDepth 100000 in
theorem c_X12_about (l : Launch) (D : va_G) (cy : Nat → ClassId) (ad : Nat → Nat) (g : Nat → va_E) {f0 : List Value} {n : Int32} (o0 : g 0 = .inr (12, f0)) (f0_2 : f0[2]? = some (.int 0)) (f0_11 : f0[11]? = some (.ref (ad 1))) (f0_12 : f0[12]? = some (.ref (ad 2))) (f0_14 : f0[14]? = some (.ref (ad 4))) (f0_36 : f0[36]? = some (.int 0)) (f0_41 : f0[41]? = some (.ref (ad 3))) (f0_59 : f0[59]? = some (.int 0)) (f0_60 : f0[60]? = some (.int 0)) (f0_62 : f0[62]? = some (.int 0)) (f0_70 : f0[70]? = some (.int 0)) (f0_71 : f0[71]? = some (.int 0)) (a1 : g 1 = .inl (cy 0, 2, .inl (fun _ => 0))) (a2 : g 2 = .inl (cy 0, 2, .inl (fun _ => 0))) (a3 : g 3 = .inl (cy 0, 80, .inl (fun _ => 0))) (a4 : g 4 = .inl (cy 0, 2, .inl (fun _ => 0))) : cMi l yX12_about wq_c_X12_about { frames := 1, cells := 0, slots := 0, locals := 20 } 5 0 0 0 D cy ad g [.ref (ad 0), .int n] (fun r nw lu => r = ans_about n) := by
  refine cM_of (Qc := fun A => cQi (fun r nw lu => r = ans_about n) D 5 0 ad g A) (cc := cX12_about) (maxL := 2) (ret := (some .int)) (by decide) rfl (Nat.le_of_ble_eq_true rfl) ?_
  intro p e s m below meth c A hC hr hlk hnm hO ls hl
  have hC : CallFix p m c cX12_about 2 s [.ref (ad 0), .int n].toArray wq_c_X12_about RX12 := hC
  obtain ⟨hx, hb, hml, hown, hts⟩ := id hC
  have hl : lv_has ls 2 [(0, .ref (ad 0)), (1, .int n)] := hl
  have i_X12 : ∀ w ∈ wsX120, w ∈ wq_c_X12_about := fun w h => List.mem_cons_of_mem _ (List.mem_append_right _ h)
  refine lv_iload_n hx hb dX12_about_0 rfl (lv_at hl 1 rfl) ?_
  by_cases hs_1_1_0 : n = 0
  · refine lv_tableIn (tgt := 56) hx hb dX12_about_1 (by rw [hs_1_1_0]; decide) (by rw [hs_1_1_0]; decide) (by rw [hs_1_1_0]; rfl) (by decide) ?_
    refine lv_aload_n hx hb dX12_about_56 rfl (lv_at hl 0 rfl) ?_
    refine cg_Vi (As := []) (rest := []) (mc := 0) (ms := 0) (rm := { frames := 0, cells := 0, slots := 0, locals := 0 }) hC hl.1 hO [0, 1] rfl (c_birdMany0 l D cy _ _ (f0 := f0) o0 f0_11 f0_36 a1) gq_c_X12_about_c_birdMany0_363 rfl rfl rfl 0 (by decide +kernel) ⟨Nat.le_of_ble_eq_true rfl, Nat.le_of_ble_eq_true rfl⟩ rfl (by decide) o0 rfl rfl (Nat.le_of_ble_eq_true rfl) dX12_about_57 ⟨Nat.le_of_ble_eq_true rfl, Nat.le_of_ble_eq_true rfl⟩ (fun r_57_4 nw_57_2 l_57_3 H locs hw hO => ?_)
    obtain ⟨rfl, rfl⟩ := hw
    have hO : cO D cy A s.heap s 5 ad (cup [] g) _ _ := hO
    exact cg_iret (nw := fun _ => 0) hC hr hlk hO.same rfl (Nat.le_of_ble_eq_true rfl) (Nat.le_of_ble_eq_true rfl) (by rw [hs_1_1_0]; rfl) dX12_about_60
  by_cases hs_1_1_1 : n = 1
  · refine lv_tableIn (tgt := 61) hx hb dX12_about_1 (by rw [hs_1_1_1]; decide) (by rw [hs_1_1_1]; decide) (by rw [hs_1_1_1]; rfl) (by decide) ?_
    refine lv_aload_n hx hb dX12_about_61 rfl (lv_at hl 0 rfl) ?_
    refine cg_Vi (As := []) (rest := []) (mc := 0) (ms := 0) (rm := { frames := 0, cells := 0, slots := 0, locals := 0 }) hC hl.1 hO [0, 2] rfl (c_X12_postMany l D cy _ _ (f0 := f0) o0 f0_12 f0_36 a2) gq_c_X12_about_c_X12_postMany_370 rfl rfl rfl 0 (by decide +kernel) ⟨Nat.le_of_ble_eq_true rfl, Nat.le_of_ble_eq_true rfl⟩ rfl (by decide) o0 rfl rfl (Nat.le_of_ble_eq_true rfl) dX12_about_62 ⟨Nat.le_of_ble_eq_true rfl, Nat.le_of_ble_eq_true rfl⟩ (fun r_62_7 nw_62_5 l_62_6 H locs hw hO => ?_)
    obtain ⟨rfl, rfl⟩ := hw
    have hO : cO D cy A s.heap s 5 ad (cup [] g) _ _ := hO
    exact cg_iret (nw := fun _ => 0) hC hr hlk hO.same rfl (Nat.le_of_ble_eq_true rfl) (Nat.le_of_ble_eq_true rfl) (by rw [hs_1_1_1]; rfl) dX12_about_65
  by_cases hs_1_1_2 : n = 2
  · refine lv_tableIn (tgt := 66) hx hb dX12_about_1 (by rw [hs_1_1_2]; decide) (by rw [hs_1_1_2]; decide) (by rw [hs_1_1_2]; rfl) (by decide) ?_
    refine lv_aload_n hx hb dX12_about_66 rfl (lv_at hl 0 rfl) ?_
    refine cg_get hC hO 0 (by decide) o0 rfl i_X12 41 (by decide) (List.mem_of_getElem? (i := 13) rfl) f0_41 dX12_about_67 ?_
    refine lv_iconst (v := 0) hx hb dX12_about_70 (by decide) ?_
    refine cg_iald hC hO 3 (by decide) a3 (cin (by decide)) dX12_about_71 ?_
    refine cg_ev (v := 0) (rfl) ?_
    exact cg_iret (nw := fun _ => 0) hC hr hlk hO.same rfl (Nat.le_of_ble_eq_true rfl) (Nat.le_of_ble_eq_true rfl) (by rw [hs_1_1_2]; rfl) dX12_about_72
  by_cases hs_1_1_3 : n = 3
  · refine lv_tableIn (tgt := 73) hx hb dX12_about_1 (by rw [hs_1_1_3]; decide) (by rw [hs_1_1_3]; decide) (by rw [hs_1_1_3]; rfl) (by decide) ?_
    refine lv_aload_n hx hb dX12_about_73 rfl (lv_at hl 0 rfl) ?_
    refine cg_get hC hO 0 (by decide) o0 rfl i_X12 59 (by decide) (List.mem_of_getElem? (i := 14) rfl) f0_59 dX12_about_74 ?_
    exact cg_iret (nw := fun _ => 0) hC hr hlk hO.same rfl (Nat.le_of_ble_eq_true rfl) (Nat.le_of_ble_eq_true rfl) (by rw [hs_1_1_3]; rfl) dX12_about_77
  by_cases hs_1_1_4 : n = 4
  · refine lv_tableIn (tgt := 78) hx hb dX12_about_1 (by rw [hs_1_1_4]; decide) (by rw [hs_1_1_4]; decide) (by rw [hs_1_1_4]; rfl) (by decide) ?_
    refine lv_aload_n hx hb dX12_about_78 rfl (lv_at hl 0 rfl) ?_
    refine cg_get hC hO 0 (by decide) o0 rfl i_X12 60 (by decide) (List.mem_of_getElem? (i := 15) rfl) f0_60 dX12_about_79 ?_
    exact cg_iret (nw := fun _ => 0) hC hr hlk hO.same rfl (Nat.le_of_ble_eq_true rfl) (Nat.le_of_ble_eq_true rfl) (by rw [hs_1_1_4]; rfl) dX12_about_82
  by_cases hs_1_1_5 : n = 5
  · refine lv_tableIn (tgt := 83) hx hb dX12_about_1 (by rw [hs_1_1_5]; decide) (by rw [hs_1_1_5]; decide) (by rw [hs_1_1_5]; rfl) (by decide) ?_
    refine lv_aload_n hx hb dX12_about_83 rfl (lv_at hl 0 rfl) ?_
    refine cg_get hC hO 0 (by decide) o0 rfl i_X12 70 (by decide) (List.mem_of_getElem? (i := 16) rfl) f0_70 dX12_about_84 ?_
    exact cg_iret (nw := fun _ => 0) hC hr hlk hO.same rfl (Nat.le_of_ble_eq_true rfl) (Nat.le_of_ble_eq_true rfl) (by rw [hs_1_1_5]; rfl) dX12_about_87
  by_cases hs_1_1_6 : n = 6
  · refine lv_tableIn (tgt := 88) hx hb dX12_about_1 (by rw [hs_1_1_6]; decide) (by rw [hs_1_1_6]; decide) (by rw [hs_1_1_6]; rfl) (by decide) ?_
    refine lv_aload_n hx hb dX12_about_88 rfl (lv_at hl 0 rfl) ?_
    refine cg_get hC hO 0 (by decide) o0 rfl i_X12 71 (by decide) (List.mem_of_getElem? (i := 17) rfl) f0_71 dX12_about_89 ?_
    exact cg_iret (nw := fun _ => 0) hC hr hlk hO.same rfl (Nat.le_of_ble_eq_true rfl) (Nat.le_of_ble_eq_true rfl) (by rw [hs_1_1_6]; rfl) dX12_about_92
  by_cases hs_1_1_7 : n = 7
  · refine lv_tableIn (tgt := 93) hx hb dX12_about_1 (by rw [hs_1_1_7]; decide) (by rw [hs_1_1_7]; decide) (by rw [hs_1_1_7]; rfl) (by decide) ?_
    refine lv_aload_n hx hb dX12_about_93 rfl (lv_at hl 0 rfl) ?_
    refine cg_get hC hO 0 (by decide) o0 rfl i_X12 2 (by decide) (List.mem_of_getElem? (i := 18) rfl) f0_2 dX12_about_94 ?_
    exact cg_iret (nw := fun _ => 0) hC hr hlk hO.same rfl (Nat.le_of_ble_eq_true rfl) (Nat.le_of_ble_eq_true rfl) (by rw [hs_1_1_7]; rfl) dX12_about_97
  by_cases hs_1_1_8 : n = 8
  · refine lv_tableIn (tgt := 98) hx hb dX12_about_1 (by rw [hs_1_1_8]; decide) (by rw [hs_1_1_8]; decide) (by rw [hs_1_1_8]; rfl) (by decide) ?_
    refine lv_aload_n hx hb dX12_about_98 rfl (lv_at hl 0 rfl) ?_
    refine cg_get hC hO 0 (by decide) o0 rfl i_X12 14 (by decide) (List.mem_of_getElem? (i := 19) rfl) f0_14 dX12_about_99 ?_
    refine lv_aload_n hx hb dX12_about_102 rfl (lv_at hl 0 rfl) ?_
    refine cg_get hC hO 0 (by decide) o0 rfl i_X12 36 (by decide) (List.mem_of_getElem? (i := 7) rfl) f0_36 dX12_about_103 ?_
    refine cg_iald hC hO 4 (by decide) a4 (cin (by decide)) dX12_about_106 ?_
    refine cg_ev (v := 0) (rfl) ?_
    exact cg_iret (nw := fun _ => 0) hC hr hlk hO.same rfl (Nat.le_of_ble_eq_true rfl) (Nat.le_of_ble_eq_true rfl) (by rw [hs_1_1_8]; rfl) dX12_about_107
  by_cases hs_1_1_9 : n = 9
  · refine lv_tableIn (tgt := 108) hx hb dX12_about_1 (by rw [hs_1_1_9]; decide) (by rw [hs_1_1_9]; decide) (by rw [hs_1_1_9]; rfl) (by decide) ?_
    refine lv_aload_n hx hb dX12_about_108 rfl (lv_at hl 0 rfl) ?_
    refine cg_get hC hO 0 (by decide) o0 rfl i_X12 62 (by decide) (List.mem_of_getElem? (i := 20) rfl) f0_62 dX12_about_109 ?_
    exact cg_iret (nw := fun _ => 0) hC hr hlk hO.same rfl (Nat.le_of_ble_eq_true rfl) (Nat.le_of_ble_eq_true rfl) (by rw [hs_1_1_9]; rfl) dX12_about_112
  refine lv_tableOut (tgt := 113) hx hb dX12_about_1 (tsw_out_0_9 n hs_1_1_0 hs_1_1_1 hs_1_1_2 hs_1_1_3 hs_1_1_4 hs_1_1_5 hs_1_1_6 hs_1_1_7 hs_1_1_8 hs_1_1_9) (by decide) ?_
  refine lv_iconst (v := (-1)) hx hb dX12_about_113 (by decide) ?_
  exact cg_iret (nw := fun _ => 0) hC hr hlk hO.same rfl (Nat.le_of_ble_eq_true rfl) (Nat.le_of_ble_eq_true rfl) ((if_neg (fun z => absurd (rng_cases9 z) (by simp [hs_1_1_0, hs_1_1_1, hs_1_1_2, hs_1_1_3, hs_1_1_4, hs_1_1_5, hs_1_1_6, hs_1_1_7, hs_1_1_8, hs_1_1_9]))).symm) dX12_about_114
