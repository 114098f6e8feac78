set_option maxHeartbeats 8000000 in
set_option maxRecDepth 100000 in
theorem sm_X11_later {D : va_G} {cy : Nat → ClassId} {ad : Nat → Nat} {g : Nat → va_E} (l : Launch) (byx : Int32) (hI : INV cy ad g) : ∃ pst_ : Int32 → (Nat → Nat) → List (Nat × va_E) → Prop, cMi l yX11_later wq_k_X11_later2 { frames := 1, cells := 0, slots := 0, locals := 22 } 2 0 0 0 D cy (fun i => ad ([0, 101].getD i 0)) (fun i => cup [] g ([0, 101].getD i 0)) [.ref (ad ([0, 101].getD 0 0)), .int byx] pst_ ∧ ∀ (r : Int32) (nw : Nat → Nat) (l' : List (Nat × va_E)), pst_ r nw l' → INV cy ad (cup (cmrg 173 2 [0, 101] l' []) g) ∧ fo (cup (cmrg 173 2 [0, 101] l' []) g 119) 71 = fo (g 119) 71 ∧ ∀ t : Int32, fo (g 101) 8 = some (.int t) → ∃ t' : Int32, fo (cup (cmrg 173 2 [0, 101] l' []) g 101) 8 = some (.int t') ∧ LTm t byx r t' := by
  have c0 := cp_0 hI
  obtain ⟨x0_1, x0_13, e0, b0_1, b0_13⟩ := c0
  have c101 := cp_101 hI
  obtain ⟨x101_7, x101_8, x101_11, x101_13, x101_14, x101_15, e101, b101_7, b101_8⟩ := c101
  refine ⟨_, k_X11_later2 l D cy _ _ (u0_0 := .ref (ad 1)) (u0_1 := .int x0_1) (u0_2 := .ref (ad 2)) (u0_3 := .ref (ad 21)) (u0_4 := .ref (ad 38)) (u0_5 := .ref (ad 42)) (u0_6 := .ref (ad 55)) (u0_7 := .ref (ad 59)) (u0_8 := .ref (ad 62)) (u0_9 := .ref (ad 74)) (u0_10 := .ref (ad 88)) (u1_0 := .ref (ad 21)) (u1_1 := .ref (ad 110)) (u1_2 := .ref (ad 102)) (u1_3 := .ref (ad 103)) (u1_4 := .ref (ad 104)) (u1_5 := .ref (ad 105)) (u1_6 := .ref (ad 106)) (u1_7 := .int x101_7) (x1_8 := x101_8) (u1_9 := .ref (ad 107)) (u1_10 := .ref (ad 108)) (u1_11 := .int x101_11) (u1_12 := .ref (ad 109)) (u1_13 := .int x101_13) (u1_14 := .int x101_14) (u1_15 := .int x101_15) (u0_12 := .ref (ad 118)) (u0_13 := .int x0_13) e0 e101 b101_8, fun r nw l' hw => ?_⟩
  obtain ⟨n_y1_8, z0, z1, gp_lt, rfl⟩ := hw
  refine mrg_case (P := fun g1 => INV cy ad g1 ∧ fo (g1 119) 71 = fo (g 119) 71 ∧ ∀ t : Int32, fo (g 101) 8 = some (.int t) → ∃ t1 : Int32, fo (g1 101) 8 = some (.int t1) ∧ LTm t byx r t1) (lk := [(101, .inr (8, [.ref (ad 21), .ref (ad 110), .ref (ad 102), .ref (ad 103), .ref (ad 104), .ref (ad 105), .ref (ad 106), .int x101_7, .int n_y1_8, .ref (ad 107), .ref (ad 108), .int x101_11, .ref (ad 109), .int x101_13, .int x101_14, .int x101_15]))]) ?_ ?_
  · rfl
  refine ⟨INV_up hI ?_ ?_ ?_, (by rw [cup_far rfl]), fun t ht => ⟨n_y1_8, rfl, ?_⟩⟩
  · exact (List.forall_mem_cons.mpr ⟨(cs_101 ⟨x101_7, n_y1_8, x101_11, x101_13, x101_14, x101_15, rfl, b101_7, z0⟩), (fun _ h => absurd h List.not_mem_nil)⟩)
  · exact (by rw [cup_far (S := 56) rfl, cup_far (S := 57) rfl]; exact hI.2.1)
  · exact (by have z := hI.2.2; rw [cup_far (S := 138) rfl, cup_far (S := 142) rfl, cup_far (S := 136) rfl, cup_far (S := 119) rfl]; exact z)
  rw [e101] at ht
  cases ht
  exact gp_lt

set_option maxHeartbeats 8000000 in
set_option maxRecDepth 100000 in
theorem sm_X12_later {D : va_G} {cy : Nat → ClassId} {ad : Nat → Nat} {g : Nat → va_E} (l : Launch) (byx : Int32) (hI : INV cy ad g) : ∃ pst_ : Int32 → (Nat → Nat) → List (Nat × va_E) → Prop, cMi l yX12_later wq_k_X12_later2 { frames := 1, cells := 0, slots := 0, locals := 22 } 1 0 0 0 D cy (fun i => ad ([119].getD i 0)) (fun i => cup [] g ([119].getD i 0)) [.ref (ad ([119].getD 0 0)), .int byx] pst_ ∧ ∀ (r : Int32) (nw : Nat → Nat) (l' : List (Nat × va_E)), pst_ r nw l' → INV cy ad (cup (cmrg 173 1 [119] l' []) g) ∧ fo (cup (cmrg 173 1 [119] l' []) g 101) 8 = fo (g 101) 8 ∧ ∀ t : Int32, fo (g 119) 71 = some (.int t) → ∃ t' : Int32, fo (cup (cmrg 173 1 [119] l' []) g 119) 71 = some (.int t') ∧ LTm t byx r t' := by
  have c119 := cp_119 hI
  obtain ⟨x119_2, x119_3, x119_4, x119_5, x119_6, x119_7, x119_8, x119_9, w119_10, x119_36, x119_37, x119_38, x119_39, x119_40, x119_56, x119_57, x119_59, x119_60, x119_62, x119_70, x119_71, e119, b119_2, b119_3, b119_4, b119_6, b119_7, b119_8, b119_36, b119_37, b119_38, b119_39, b119_40, b119_56, b119_59, b119_60, b119_62, b119_70, b119_71, hU119⟩ := c119
  refine ⟨_, k_X12_later2 l D cy _ _ (u0_0 := .ref (ad 120)) (u0_1 := .ref (ad 121)) (u0_2 := .int x119_2) (u0_3 := .int x119_3) (u0_4 := .int x119_4) (u0_5 := .int x119_5) (u0_6 := .int x119_6) (u0_7 := .int x119_7) (u0_8 := .int x119_8) (u0_9 := .int x119_9) (u0_10 := .long w119_10) (u0_11 := .ref (ad 122)) (u0_12 := .ref (ad 123)) (u0_13 := .ref (ad 124)) (u0_14 := .ref (ad 125)) (u0_15 := .ref (ad 126)) (u0_16 := .ref (ad 127)) (u0_17 := .ref (ad 128)) (u0_18 := .ref (ad 129)) (u0_19 := .ref (ad 130)) (u0_20 := .ref (ad 131)) (u0_21 := .ref (ad 132)) (u0_22 := .ref (ad 133)) (u0_23 := .ref (ad 134)) (u0_24 := .ref (ad 135)) (u0_25 := .ref (ad 136)) (u0_26 := .ref (ad 137)) (u0_27 := .ref (ad 138)) (u0_28 := .ref (ad 139)) (u0_29 := .ref (ad 140)) (u0_30 := .ref (ad 141)) (u0_31 := .ref (ad 142)) (u0_32 := .ref (ad 143)) (u0_33 := .ref (ad 144)) (u0_34 := .ref (ad 145)) (u0_35 := .ref (ad 146)) (u0_36 := .int x119_36) (u0_37 := .int x119_37) (u0_38 := .int x119_38) (u0_39 := .int x119_39) (u0_40 := .int x119_40) (u0_41 := .ref (ad 147)) (u0_42 := .ref (ad 148)) (u0_43 := .ref (ad 149)) (u0_44 := .ref (ad 150)) (u0_45 := .ref (ad 151)) (u0_46 := .ref (ad 152)) (u0_47 := .ref (ad 153)) (u0_48 := .ref (ad 154)) (u0_49 := .ref (ad 155)) (u0_50 := .ref (ad 156)) (u0_51 := .ref (ad 157)) (u0_52 := .ref (ad 158)) (u0_53 := .ref (ad 159)) (u0_54 := .ref (ad 160)) (u0_55 := .ref (ad 161)) (u0_56 := .int x119_56) (u0_57 := .int x119_57) (u0_58 := .ref (ad 162)) (u0_59 := .int x119_59) (u0_60 := .int x119_60) (u0_61 := .ref (ad 163)) (u0_62 := .int x119_62) (u0_63 := .ref (ad 164)) (u0_64 := .ref (ad 165)) (u0_65 := .ref (ad 166)) (u0_66 := .ref (ad 167)) (u0_67 := .ref (ad 168)) (u0_68 := .ref (ad 169)) (u0_69 := .ref (ad 170)) (u0_70 := .int x119_70) (x0_71 := x119_71) (u0_72 := .ref (ad 171)) (u0_73 := .ref (ad 172)) e119 b119_71, fun r nw l' hw => ?_⟩
  obtain ⟨n_y0_71, z0, z1, gp_lt, rfl⟩ := hw
  refine mrg_case (P := fun g1 => INV cy ad g1 ∧ fo (g1 101) 8 = fo (g 101) 8 ∧ ∀ t : Int32, fo (g 119) 71 = some (.int t) → ∃ t1 : Int32, fo (g1 119) 71 = some (.int t1) ∧ LTm t byx r t1) (lk := [(119, .inr (12, [.ref (ad 120), .ref (ad 121), .int x119_2, .int x119_3, .int x119_4, .int x119_5, .int x119_6, .int x119_7, .int x119_8, .int x119_9, .long w119_10, .ref (ad 122), .ref (ad 123), .ref (ad 124), .ref (ad 125), .ref (ad 126), .ref (ad 127), .ref (ad 128), .ref (ad 129), .ref (ad 130), .ref (ad 131), .ref (ad 132), .ref (ad 133), .ref (ad 134), .ref (ad 135), .ref (ad 136), .ref (ad 137), .ref (ad 138), .ref (ad 139), .ref (ad 140), .ref (ad 141), .ref (ad 142), .ref (ad 143), .ref (ad 144), .ref (ad 145), .ref (ad 146), .int x119_36, .int x119_37, .int x119_38, .int x119_39, .int x119_40, .ref (ad 147), .ref (ad 148), .ref (ad 149), .ref (ad 150), .ref (ad 151), .ref (ad 152), .ref (ad 153), .ref (ad 154), .ref (ad 155), .ref (ad 156), .ref (ad 157), .ref (ad 158), .ref (ad 159), .ref (ad 160), .ref (ad 161), .int x119_56, .int x119_57, .ref (ad 162), .int x119_59, .int x119_60, .ref (ad 163), .int x119_62, .ref (ad 164), .ref (ad 165), .ref (ad 166), .ref (ad 167), .ref (ad 168), .ref (ad 169), .ref (ad 170), .int x119_70, .int n_y0_71, .ref (ad 171), .ref (ad 172)]))]) ?_ ?_
  · rfl
  refine ⟨INV_up hI ?_ ?_ ?_, (by rw [cup_far rfl]), fun t ht => ⟨n_y0_71, rfl, ?_⟩⟩
  · exact (List.forall_mem_cons.mpr ⟨(cs_119 ⟨x119_2, x119_3, x119_4, x119_5, x119_6, x119_7, x119_8, x119_9, w119_10, x119_36, x119_37, x119_38, x119_39, x119_40, x119_56, x119_57, x119_59, x119_60, x119_62, x119_70, n_y0_71, rfl, b119_2, b119_3, b119_4, b119_6, b119_7, b119_8, b119_36, b119_37, b119_38, b119_39, b119_40, b119_56, b119_59, b119_60, b119_62, b119_70, z0, hU119⟩), (fun _ h => absurd h List.not_mem_nil)⟩)
  · exact (by rw [cup_far (S := 56) rfl, cup_far (S := 57) rfl]; exact hI.2.1)
  · exact (by have z := hI.2.2; rw [e119] at z; rw [cup_far (S := 138) rfl, cup_far (S := 142) rfl, cup_far (S := 136) rfl]; exact z)
  rw [e119] at ht
  cases ht
  exact gp_lt

set_option maxHeartbeats 8000000 in
set_option maxRecDepth 100000 in
theorem sm_X11_came {D : va_G} {cy : Nat → ClassId} {ad : Nat → Nat} {g : Nat → va_E} (l : Launch) (what k : Int32) (hI : INV cy ad g) : ∃ pst_ : Int32 → (Nat → Nat) → List (Nat × va_E) → Prop, cMi l yX11_came wq_k_X11_came { frames := 15, cells := 0, slots := 0, locals := 382 } 27 0 0 0 D cy (fun i => ad ([0, 101, 21, 110, 23, 24, 25, 26, 28, 30, 31, 33, 111, 112, 113, 114, 115, 116, 117, 102, 103, 104, 105, 106, 107, 108, 109].getD i 0)) (fun i => cup [] g ([0, 101, 21, 110, 23, 24, 25, 26, 28, 30, 31, 33, 111, 112, 113, 114, 115, 116, 117, 102, 103, 104, 105, 106, 107, 108, 109].getD i 0)) [.ref (ad ([0, 101, 21, 110, 23, 24, 25, 26, 28, 30, 31, 33, 111, 112, 113, 114, 115, 116, 117, 102, 103, 104, 105, 106, 107, 108, 109].getD 0 0)), .int what, .int k] pst_ ∧ ∀ (r : Int32) (nw : Nat → Nat) (l' : List (Nat × va_E)), pst_ r nw l' → INV cy ad (cup (cmrg 173 27 [0, 101, 21, 110, 23, 24, 25, 26, 28, 30, 31, 33, 111, 112, 113, 114, 115, 116, 117, 102, 103, 104, 105, 106, 107, 108, 109] l' []) g) ∧ TK g (cup (cmrg 173 27 [0, 101, 21, 110, 23, 24, 25, 26, 28, 30, 31, 33, 111, 112, 113, 114, 115, 116, 117, 102, 103, 104, 105, 106, 107, 108, 109] l' []) g) := by
  have c0 := cp_0 hI
  obtain ⟨x0_1, x0_13, e0, b0_1, b0_13⟩ := c0
  have c21 := cp_21 hI
  obtain ⟨x21_5, x21_11, x21_15, x21_16, e21, b21_5, b21_11, b21_16⟩ := c21
  have c23 := cp_23 hI
  obtain ⟨f23, e23⟩ := c23
  have c24 := cp_24 hI
  obtain ⟨f24, e24⟩ := c24
  have c25 := cp_25 hI
  obtain ⟨f25, e25⟩ := c25
  have c26 := cp_26 hI
  obtain ⟨f26, e26, h26⟩ := c26
  have c28 := cp_28 hI
  obtain ⟨f28, e28⟩ := c28
  have c30 := cp_30 hI
  obtain ⟨f30, e30, h30⟩ := c30
  have c31 := cp_31 hI
  obtain ⟨f31, e31, h31⟩ := c31
  have c33 := cp_33 hI
  obtain ⟨f33, e33⟩ := c33
  have c101 := cp_101 hI
  obtain ⟨x101_7, x101_8, x101_11, x101_13, x101_14, x101_15, e101, b101_7, b101_8⟩ := c101
  have c102 := cp_102 hI
  obtain ⟨f102, e102⟩ := c102
  have c103 := cp_103 hI
  obtain ⟨f103, e103, h103⟩ := c103
  have c104 := cp_104 hI
  obtain ⟨f104, e104⟩ := c104
  have c105 := cp_105 hI
  obtain ⟨f105, e105⟩ := c105
  have c106 := cp_106 hI
  obtain ⟨f106, e106⟩ := c106
  have c107 := cp_107 hI
  obtain ⟨f107, e107, h107⟩ := c107
  have c108 := cp_108 hI
  obtain ⟨f108, e108⟩ := c108
  have c109 := cp_109 hI
  obtain ⟨f109, e109⟩ := c109
  have c110 := cp_110 hI
  have e110 := c110
  have c111 := cp_111 hI
  obtain ⟨f111, e111⟩ := c111
  have c112 := cp_112 hI
  obtain ⟨f112, e112, h112⟩ := c112
  have c113 := cp_113 hI
  obtain ⟨f113, e113, h113⟩ := c113
  have c114 := cp_114 hI
  obtain ⟨f114, e114⟩ := c114
  have c115 := cp_115 hI
  obtain ⟨f115, e115⟩ := c115
  have c116 := cp_116 hI
  obtain ⟨f116, e116⟩ := c116
  have c117 := cp_117 hI
  obtain ⟨f117, e117⟩ := c117
  refine ⟨_, k_X11_came l D cy _ _ (u0_0 := .ref (ad 1)) (u0_1 := .int x0_1) (u0_2 := .ref (ad 2)) (u0_3 := .ref (ad 21)) (u0_4 := .ref (ad 38)) (u0_5 := .ref (ad 42)) (u0_6 := .ref (ad 55)) (u0_7 := .ref (ad 59)) (u0_8 := .ref (ad 62)) (u0_9 := .ref (ad 74)) (u0_10 := .ref (ad 88)) (u2_0 := .ref (ad 22)) (c4 := f23) (c5 := f24) (c6 := f25) (c7 := f26) (u2_5 := .int x21_5) (u2_6 := .ref (ad 27)) (c8 := f28) (u2_8 := .ref (ad 29)) (c9 := f30) (c10 := f31) (x2_11 := x21_11) (u2_12 := .ref (ad 32)) (c11 := f33) (u2_14 := .ref (ad 34)) (x2_15 := x21_15) (x2_16 := x21_16) (u2_17 := .ref (ad 35)) (c12 := f111) (c13 := f112) (c14 := f113) (c15 := f114) (c16 := f115) (c17 := f116) (c18 := f117) (c19 := f102) (c20 := f103) (c21 := f104) (c22 := f105) (c23 := f106) (x1_7 := x101_7) (u1_8 := .int x101_8) (c24 := f107) (c25 := f108) (x1_11 := x101_11) (c26 := f109) (x1_13 := x101_13) (x1_14 := x101_14) (x1_15 := x101_15) (u0_12 := .ref (ad 118)) (u0_13 := .int x0_13) e0 e101 e21 e110 e23 e24 e25 e26 e28 e30 e31 e33 e111 e112 e113 e114 e115 e116 e117 e102 e103 e104 e105 e106 e107 e108 e109 b101_7 b21_11 b21_16 h26 h30 h31 h112 h113 h103 h107, fun r nw l' hw => ?_⟩
  obtain ⟨n_y1_11, n_y1_13, n_y1_14, n_y1_15, n_d12, n_d13, n_d14, n_d15, n_d16, n_d17, n_d18, n_d24, n_d25, n_d26, z0, z1, z2, rfl⟩ := hw
  refine mrg_case (P := fun g1 => INV cy ad g1 ∧ TK g g1) (lk := [(101, .inr (8, [.ref (ad 21), .ref (ad 110), .ref (ad 102), .ref (ad 103), .ref (ad 104), .ref (ad 105), .ref (ad 106), .int x101_7, .int x101_8, .ref (ad 107), .ref (ad 108), .int n_y1_11, .ref (ad 109), .int n_y1_13, .int n_y1_14, .int n_y1_15])), (111, .inl (cy 0, 5, .inl n_d12)), (112, .inl (cy 0, 20, .inl n_d13)), (113, .inl (cy 0, 4, .inl n_d14)), (114, .inl (cy 0, 5, .inl n_d15)), (115, .inl (cy 0, 5, .inl n_d16)), (116, .inl (cy 0, 5, .inl n_d17)), (117, .inl (cy 0, 5, .inl n_d18)), (107, .inl (cy 0, 12, .inl n_d24)), (108, .inl (cy 0, 180, .inl n_d25)), (109, .inl (cy 0, 30, .inl n_d26))]) ?_ ?_
  · rfl
  refine ⟨INV_up hI ?_ ?_ ?_, (by rw [e101]; rfl), (by rw [cup_far rfl])⟩
  · exact (List.forall_mem_cons.mpr ⟨(cs_101 ⟨x101_7, x101_8, n_y1_11, n_y1_13, n_y1_14, n_y1_15, rfl, b101_7, b101_8⟩), (List.forall_mem_cons.mpr ⟨(cs_111 ⟨n_d12, rfl⟩), (List.forall_mem_cons.mpr ⟨(cs_112 ⟨n_d13, rfl, z0⟩), (List.forall_mem_cons.mpr ⟨(cs_113 ⟨n_d14, rfl, z1⟩), (List.forall_mem_cons.mpr ⟨(cs_114 ⟨n_d15, rfl⟩), (List.forall_mem_cons.mpr ⟨(cs_115 ⟨n_d16, rfl⟩), (List.forall_mem_cons.mpr ⟨(cs_116 ⟨n_d17, rfl⟩), (List.forall_mem_cons.mpr ⟨(cs_117 ⟨n_d18, rfl⟩), (List.forall_mem_cons.mpr ⟨(cs_107 ⟨n_d24, rfl, z2⟩), (List.forall_mem_cons.mpr ⟨(cs_108 ⟨n_d25, rfl⟩), (List.forall_mem_cons.mpr ⟨(cs_109 ⟨n_d26, rfl⟩), (fun _ h => absurd h List.not_mem_nil)⟩)⟩)⟩)⟩)⟩)⟩)⟩)⟩)⟩)⟩)⟩)
  · exact (by rw [cup_far (S := 56) rfl, cup_far (S := 57) rfl]; exact hI.2.1)
  · exact (by have z := hI.2.2; rw [cup_far (S := 138) rfl, cup_far (S := 142) rfl, cup_far (S := 136) rfl, cup_far (S := 119) rfl]; exact z)

set_option maxHeartbeats 8000000 in
set_option maxRecDepth 100000 in
theorem sm_X12_came {D : va_G} {cy : Nat → ClassId} {ad : Nat → Nat} {g : Nat → va_E} (l : Launch) (what k : Int32) (hI : INV cy ad g) : ∃ pst_ : Int32 → (Nat → Nat) → List (Nat × va_E) → Prop, cMi l yX12_came wq_k_X12_came { frames := 5, cells := 0, slots := 0, locals := 120 } 38 0 0 0 D cy (fun i => ad ([119, 124, 137, 122, 123, 126, 127, 128, 130, 131, 132, 133, 134, 135, 136, 138, 142, 143, 146, 148, 149, 150, 151, 152, 153, 154, 155, 156, 157, 158, 159, 160, 161, 166, 167, 168, 169, 170].getD i 0)) (fun i => cup [] g ([119, 124, 137, 122, 123, 126, 127, 128, 130, 131, 132, 133, 134, 135, 136, 138, 142, 143, 146, 148, 149, 150, 151, 152, 153, 154, 155, 156, 157, 158, 159, 160, 161, 166, 167, 168, 169, 170].getD i 0)) [.ref (ad ([119, 124, 137, 122, 123, 126, 127, 128, 130, 131, 132, 133, 134, 135, 136, 138, 142, 143, 146, 148, 149, 150, 151, 152, 153, 154, 155, 156, 157, 158, 159, 160, 161, 166, 167, 168, 169, 170].getD 0 0)), .int what, .int k] pst_ ∧ ∀ (r : Int32) (nw : Nat → Nat) (l' : List (Nat × va_E)), pst_ r nw l' → INV cy ad (cup (cmrg 173 38 [119, 124, 137, 122, 123, 126, 127, 128, 130, 131, 132, 133, 134, 135, 136, 138, 142, 143, 146, 148, 149, 150, 151, 152, 153, 154, 155, 156, 157, 158, 159, 160, 161, 166, 167, 168, 169, 170] l' []) g) ∧ TK g (cup (cmrg 173 38 [119, 124, 137, 122, 123, 126, 127, 128, 130, 131, 132, 133, 134, 135, 136, 138, 142, 143, 146, 148, 149, 150, 151, 152, 153, 154, 155, 156, 157, 158, 159, 160, 161, 166, 167, 168, 169, 170] l' []) g) := by
  have c119 := cp_119 hI
  obtain ⟨x119_2, x119_3, x119_4, x119_5, x119_6, x119_7, x119_8, x119_9, w119_10, x119_36, x119_37, x119_38, x119_39, x119_40, x119_56, x119_57, x119_59, x119_60, x119_62, x119_70, x119_71, e119, b119_2, b119_3, b119_4, b119_6, b119_7, b119_8, b119_36, b119_37, b119_38, b119_39, b119_40, b119_56, b119_59, b119_60, b119_62, b119_70, b119_71, hU119⟩ := c119
  have c122 := cp_122 hI
  obtain ⟨f122, e122, h122⟩ := c122
  have c123 := cp_123 hI
  obtain ⟨f123, e123, h123⟩ := c123
  have c124 := cp_124 hI
  obtain ⟨f124, e124, h124⟩ := c124
  have c126 := cp_126 hI
  obtain ⟨f126, e126⟩ := c126
  have c127 := cp_127 hI
  obtain ⟨f127, e127⟩ := c127
  have c128 := cp_128 hI
  obtain ⟨f128, e128⟩ := c128
  have c130 := cp_130 hI
  obtain ⟨f130, e130⟩ := c130
  have c131 := cp_131 hI
  obtain ⟨f131, e131⟩ := c131
  have c132 := cp_132 hI
  obtain ⟨f132, e132, h132⟩ := c132
  have c133 := cp_133 hI
  obtain ⟨f133, e133, h133⟩ := c133
  have c134 := cp_134 hI
  obtain ⟨f134, e134⟩ := c134
  have c135 := cp_135 hI
  obtain ⟨f135, e135⟩ := c135
  have c136 := cp_136 hI
  obtain ⟨f136, e136, h136⟩ := c136
  have c137 := cp_137 hI
  obtain ⟨f137, e137, h137⟩ := c137
  have c138 := cp_138 hI
  obtain ⟨f138, e138, h138⟩ := c138
  have c142 := cp_142 hI
  obtain ⟨f142, e142⟩ := c142
  have c143 := cp_143 hI
  obtain ⟨f143, e143⟩ := c143
  have c146 := cp_146 hI
  obtain ⟨f146, e146⟩ := c146
  have c148 := cp_148 hI
  obtain ⟨f148, e148⟩ := c148
  have c149 := cp_149 hI
  obtain ⟨f149, e149⟩ := c149
  have c150 := cp_150 hI
  obtain ⟨f150, e150⟩ := c150
  have c151 := cp_151 hI
  obtain ⟨f151, e151, h151⟩ := c151
  have c152 := cp_152 hI
  obtain ⟨f152, e152, h152⟩ := c152
  have c153 := cp_153 hI
  obtain ⟨f153, e153, h153⟩ := c153
  have c154 := cp_154 hI
  obtain ⟨f154, e154⟩ := c154
  have c155 := cp_155 hI
  obtain ⟨f155, e155⟩ := c155
  have c156 := cp_156 hI
  obtain ⟨f156, e156⟩ := c156
  have c157 := cp_157 hI
  obtain ⟨f157, e157⟩ := c157
  have c158 := cp_158 hI
  obtain ⟨f158, e158⟩ := c158
  have c159 := cp_159 hI
  obtain ⟨f159, e159⟩ := c159
  have c160 := cp_160 hI
  obtain ⟨f160, e160, h160⟩ := c160
  have c161 := cp_161 hI
  obtain ⟨f161, e161, h161⟩ := c161
  have c166 := cp_166 hI
  obtain ⟨f166, e166⟩ := c166
  have c167 := cp_167 hI
  obtain ⟨f167, e167, h167⟩ := c167
  have c168 := cp_168 hI
  obtain ⟨f168, e168⟩ := c168
  have c169 := cp_169 hI
  obtain ⟨f169, e169⟩ := c169
  have c170 := cp_170 hI
  obtain ⟨f170, e170⟩ := c170
  have zfh := hI.2.2
  rw [e138, e142, e136, e119] at zfh
  refine ⟨_, k_X12_came l D cy _ _ (u0_0 := .ref (ad 120)) (u0_1 := .ref (ad 121)) (u0_2 := .int x119_2) (u0_3 := .int x119_3) (u0_4 := .int x119_4) (u0_5 := .int x119_5) (u0_6 := .int x119_6) (u0_7 := .int x119_7) (u0_8 := .int x119_8) (u0_9 := .int x119_9) (u0_10 := .long w119_10) (c3 := f122) (c4 := f123) (c1 := f124) (u0_14 := .ref (ad 125)) (c5 := f126) (c6 := f127) (c7 := f128) (u0_18 := .ref (ad 129)) (c8 := f130) (c9 := f131) (c10 := f132) (c11 := f133) (c12 := f134) (c13 := f135) (c14 := f136) (c2 := f137) (c15 := f138) (u0_28 := .ref (ad 139)) (u0_29 := .ref (ad 140)) (u0_30 := .ref (ad 141)) (c16 := f142) (c17 := f143) (u0_33 := .ref (ad 144)) (u0_34 := .ref (ad 145)) (c18 := f146) (x0_36 := x119_36) (u0_37 := .int x119_37) (u0_38 := .int x119_38) (u0_39 := .int x119_39) (u0_40 := .int x119_40) (u0_41 := .ref (ad 147)) (c19 := f148) (c20 := f149) (c21 := f150) (c22 := f151) (c23 := f152) (c24 := f153) (c25 := f154) (c26 := f155) (c27 := f156) (c28 := f157) (c29 := f158) (c30 := f159) (c31 := f160) (c32 := f161) (x0_56 := x119_56) (x0_57 := x119_57) (u0_58 := .ref (ad 162)) (u0_59 := .int x119_59) (u0_60 := .int x119_60) (u0_61 := .ref (ad 163)) (u0_62 := .int x119_62) (u0_63 := .ref (ad 164)) (u0_64 := .ref (ad 165)) (c33 := f166) (c34 := f167) (c35 := f168) (c36 := f169) (c37 := f170) (x0_70 := x119_70) (u0_71 := .int x119_71) (u0_72 := .ref (ad 171)) (u0_73 := .ref (ad 172)) e119 e124 e137 e122 e123 e126 e127 e128 e130 e131 e132 e133 e134 e135 e136 e138 e142 e143 e146 e148 e149 e150 e151 e152 e153 e154 e155 e156 e157 e158 e159 e160 e161 e166 e167 e168 e169 e170 b119_36 b119_56 b119_70 h124 h137 h122 h123 h132 h133 h136 h138 h151 h152 h153 h160 h161 h167 zfh, fun r nw l' hw => ?_⟩
  obtain ⟨n_y0_56, n_y0_57, n_d18, n_d19, n_d20, n_d21, n_d22, n_d23, n_d24, n_d25, n_d26, n_d27, n_d28, n_d29, n_d30, n_d31, n_d32, z0, z1, z2, z3, z4, z5, rfl⟩ := hw
  refine mrg_case (P := fun g1 => INV cy ad g1 ∧ TK g g1) (lk := [(119, .inr (12, [.ref (ad 120), .ref (ad 121), .int x119_2, .int x119_3, .int x119_4, .int x119_5, .int x119_6, .int x119_7, .int x119_8, .int x119_9, .long w119_10, .ref (ad 122), .ref (ad 123), .ref (ad 124), .ref (ad 125), .ref (ad 126), .ref (ad 127), .ref (ad 128), .ref (ad 129), .ref (ad 130), .ref (ad 131), .ref (ad 132), .ref (ad 133), .ref (ad 134), .ref (ad 135), .ref (ad 136), .ref (ad 137), .ref (ad 138), .ref (ad 139), .ref (ad 140), .ref (ad 141), .ref (ad 142), .ref (ad 143), .ref (ad 144), .ref (ad 145), .ref (ad 146), .int x119_36, .int x119_37, .int x119_38, .int x119_39, .int x119_40, .ref (ad 147), .ref (ad 148), .ref (ad 149), .ref (ad 150), .ref (ad 151), .ref (ad 152), .ref (ad 153), .ref (ad 154), .ref (ad 155), .ref (ad 156), .ref (ad 157), .ref (ad 158), .ref (ad 159), .ref (ad 160), .ref (ad 161), .int n_y0_56, .int n_y0_57, .ref (ad 162), .int x119_59, .int x119_60, .ref (ad 163), .int x119_62, .ref (ad 164), .ref (ad 165), .ref (ad 166), .ref (ad 167), .ref (ad 168), .ref (ad 169), .ref (ad 170), .int x119_70, .int x119_71, .ref (ad 171), .ref (ad 172)])), (146, .inl (cy 0, 60, .inl n_d18)), (148, .inl (cy 0, 30, .inl n_d19)), (149, .inl (cy 0, 30, .inl n_d20)), (150, .inl (cy 0, 5, .inl n_d21)), (151, .inl (cy 0, 4, .inl n_d22)), (152, .inl (cy 0, 20, .inl n_d23)), (153, .inl (cy 0, 30, .inl n_d24)), (154, .inl (cy 0, 120, .inl n_d25)), (155, .inl (cy 0, 120, .inl n_d26)), (156, .inl (cy 0, 5, .inl n_d27)), (157, .inl (cy 0, 5, .inl n_d28)), (158, .inl (cy 0, 5, .inl n_d29)), (159, .inl (cy 0, 5, .inl n_d30)), (160, .inl (cy 2, 30, .inl n_d31)), (161, .inl (cy 2, 5, .inl n_d32))]) ?_ ?_
  · rfl
  refine ⟨INV_up hI ?_ ?_ ?_, (by rw [cup_far rfl]), (by rw [e119]; rfl)⟩
  · exact (List.forall_mem_cons.mpr ⟨(cs_119 ⟨x119_2, x119_3, x119_4, x119_5, x119_6, x119_7, x119_8, x119_9, w119_10, x119_36, x119_37, x119_38, x119_39, x119_40, n_y0_56, n_y0_57, x119_59, x119_60, x119_62, x119_70, x119_71, rfl, b119_2, b119_3, b119_4, b119_6, b119_7, b119_8, b119_36, b119_37, b119_38, b119_39, b119_40, z0, b119_59, b119_60, b119_62, b119_70, b119_71, hU119⟩), (List.forall_mem_cons.mpr ⟨(cs_146 ⟨n_d18, rfl⟩), (List.forall_mem_cons.mpr ⟨(cs_148 ⟨n_d19, rfl⟩), (List.forall_mem_cons.mpr ⟨(cs_149 ⟨n_d20, rfl⟩), (List.forall_mem_cons.mpr ⟨(cs_150 ⟨n_d21, rfl⟩), (List.forall_mem_cons.mpr ⟨(cs_151 ⟨n_d22, rfl, z1⟩), (List.forall_mem_cons.mpr ⟨(cs_152 ⟨n_d23, rfl, z2⟩), (List.forall_mem_cons.mpr ⟨(cs_153 ⟨n_d24, rfl, z3⟩), (List.forall_mem_cons.mpr ⟨(cs_154 ⟨n_d25, rfl⟩), (List.forall_mem_cons.mpr ⟨(cs_155 ⟨n_d26, rfl⟩), (List.forall_mem_cons.mpr ⟨(cs_156 ⟨n_d27, rfl⟩), (List.forall_mem_cons.mpr ⟨(cs_157 ⟨n_d28, rfl⟩), (List.forall_mem_cons.mpr ⟨(cs_158 ⟨n_d29, rfl⟩), (List.forall_mem_cons.mpr ⟨(cs_159 ⟨n_d30, rfl⟩), (List.forall_mem_cons.mpr ⟨(cs_160 ⟨n_d31, rfl, z4⟩), (List.forall_mem_cons.mpr ⟨(cs_161 ⟨n_d32, rfl, z5⟩), (fun _ h => absurd h List.not_mem_nil)⟩)⟩)⟩)⟩)⟩)⟩)⟩)⟩)⟩)⟩)⟩)⟩)⟩)⟩)⟩)⟩)
  · exact (by rw [cup_far (S := 56) rfl, cup_far (S := 57) rfl]; exact hI.2.1)
  · exact (by have z := hI.2.2; rw [e119] at z; rw [cup_far (S := 138) rfl, cup_far (S := 142) rfl, cup_far (S := 136) rfl]; exact z)

set_option maxHeartbeats 8000000 in
set_option maxRecDepth 100000 in
theorem sm_X11_image {D : va_G} {cy : Nat → ClassId} {ad : Nat → Nat} {g : Nat → va_E} (l : Launch) (box : Int32) (hI : INV cy ad g) : ∃ pst_ : Int32 → (Nat → Nat) → List (Nat × va_E) → Prop, cMi l yX11_image wq_k_X11_image { frames := 2, cells := 0, slots := 0, locals := 81 } 18 0 0 0 D cy (fun i => ad ([0, 42, 43, 38, 44, 45, 46, 39, 40, 41, 47, 48, 49, 50, 51, 52, 53, 54].getD i 0)) (fun i => cup [] g ([0, 42, 43, 38, 44, 45, 46, 39, 40, 41, 47, 48, 49, 50, 51, 52, 53, 54].getD i 0)) [.ref (ad ([0, 42, 43, 38, 44, 45, 46, 39, 40, 41, 47, 48, 49, 50, 51, 52, 53, 54].getD 0 0)), .int box] pst_ ∧ ∀ (r : Int32) (nw : Nat → Nat) (l' : List (Nat × va_E)), pst_ r nw l' → INV cy ad (cup (cmrg 173 18 [0, 42, 43, 38, 44, 45, 46, 39, 40, 41, 47, 48, 49, 50, 51, 52, 53, 54] l' []) g) ∧ TK g (cup (cmrg 173 18 [0, 42, 43, 38, 44, 45, 46, 39, 40, 41, 47, 48, 49, 50, 51, 52, 53, 54] l' []) g) := by
  have c0 := cp_0 hI
  obtain ⟨x0_1, x0_13, e0, b0_1, b0_13⟩ := c0
  have c38 := cp_38 hI
  obtain ⟨x38_2, x38_4, e38, b38_4⟩ := c38
  have c39 := cp_39 hI
  obtain ⟨f39, e39⟩ := c39
  have c40 := cp_40 hI
  obtain ⟨f40, e40⟩ := c40
  have c41 := cp_41 hI
  obtain ⟨f41, e41⟩ := c41
  have c42 := cp_42 hI
  have e42 := c42
  have c43 := cp_43 hI
  obtain ⟨x43_2, x43_4, e43, b43_4⟩ := c43
  have c44 := cp_44 hI
  obtain ⟨f44, e44⟩ := c44
  have c45 := cp_45 hI
  obtain ⟨f45, e45⟩ := c45
  have c46 := cp_46 hI
  obtain ⟨f46, e46⟩ := c46
  have c47 := cp_47 hI
  obtain ⟨x47_2, x47_4, e47, b47_4⟩ := c47
  have c48 := cp_48 hI
  obtain ⟨f48, e48⟩ := c48
  have c49 := cp_49 hI
  obtain ⟨f49, e49⟩ := c49
  have c50 := cp_50 hI
  obtain ⟨f50, e50⟩ := c50
  have c51 := cp_51 hI
  obtain ⟨x51_2, x51_4, e51, b51_4⟩ := c51
  have c52 := cp_52 hI
  obtain ⟨f52, e52⟩ := c52
  have c53 := cp_53 hI
  obtain ⟨f53, e53⟩ := c53
  have c54 := cp_54 hI
  obtain ⟨f54, e54⟩ := c54
  refine ⟨_, k_X11_image l D cy _ _ (u0_0 := .ref (ad 1)) (u0_1 := .int x0_1) (u0_2 := .ref (ad 2)) (u0_3 := .ref (ad 21)) (c7 := f39) (c8 := f40) (x3_2 := x38_2) (c9 := f41) (x3_4 := x38_4) (c4 := f44) (c5 := f45) (x2_2 := x43_2) (c6 := f46) (x2_4 := x43_4) (c11 := f48) (c12 := f49) (x10_2 := x47_2) (c13 := f50) (x10_4 := x47_4) (c15 := f52) (c16 := f53) (x14_2 := x51_2) (c17 := f54) (x14_4 := x51_4) (u0_6 := .ref (ad 55)) (u0_7 := .ref (ad 59)) (u0_8 := .ref (ad 62)) (u0_9 := .ref (ad 74)) (u0_10 := .ref (ad 88)) (u0_11 := .ref (ad 101)) (u0_12 := .ref (ad 118)) (u0_13 := .int x0_13) e0 e42 e43 e38 e44 e45 e46 e39 e40 e41 e47 e48 e49 e50 e51 e52 e53 e54 b43_4 b38_4 b47_4 b51_4, fun r nw l' hw => ?_⟩
  obtain ⟨n_y2_2, n_y2_4, n_d4, n_d5, n_d6, n_y10_2, n_y10_4, n_d11, n_d12, n_d13, n_y14_2, n_y14_4, n_d15, n_d16, n_d17, z0, z1, z2, z3, rfl⟩ := hw
  refine mrg_case (P := fun g1 => INV cy ad g1 ∧ TK g g1) (lk := [(43, .inr (9, [.ref (ad 44), .ref (ad 45), .int n_y2_2, .ref (ad 46), .int n_y2_4])), (44, .inl (cy 0, 24, .inl n_d4)), (45, .inl (cy 0, 24, .inl n_d5)), (46, .inl (cy 0, 5, .inl n_d6)), (47, .inr (9, [.ref (ad 48), .ref (ad 49), .int n_y10_2, .ref (ad 50), .int n_y10_4])), (48, .inl (cy 0, 24, .inl n_d11)), (49, .inl (cy 0, 24, .inl n_d12)), (50, .inl (cy 0, 5, .inl n_d13)), (51, .inr (9, [.ref (ad 52), .ref (ad 53), .int n_y14_2, .ref (ad 54), .int n_y14_4])), (52, .inl (cy 0, 24, .inl n_d15)), (53, .inl (cy 0, 24, .inl n_d16)), (54, .inl (cy 0, 5, .inl n_d17))]) ?_ ?_
  · rfl
  refine ⟨INV_up hI ?_ ?_ ?_, (by rw [cup_far rfl]), (by rw [cup_far rfl])⟩
  · exact (List.forall_mem_cons.mpr ⟨(cs_43 ⟨n_y2_2, n_y2_4, rfl, z0⟩), (List.forall_mem_cons.mpr ⟨(cs_44 ⟨n_d4, rfl⟩), (List.forall_mem_cons.mpr ⟨(cs_45 ⟨n_d5, rfl⟩), (List.forall_mem_cons.mpr ⟨(cs_46 ⟨n_d6, rfl⟩), (List.forall_mem_cons.mpr ⟨(cs_47 ⟨n_y10_2, n_y10_4, rfl, z1⟩), (List.forall_mem_cons.mpr ⟨(cs_48 ⟨n_d11, rfl⟩), (List.forall_mem_cons.mpr ⟨(cs_49 ⟨n_d12, rfl⟩), (List.forall_mem_cons.mpr ⟨(cs_50 ⟨n_d13, rfl⟩), (List.forall_mem_cons.mpr ⟨(cs_51 ⟨n_y14_2, n_y14_4, rfl, z2⟩), (List.forall_mem_cons.mpr ⟨(cs_52 ⟨n_d15, rfl⟩), (List.forall_mem_cons.mpr ⟨(cs_53 ⟨n_d16, rfl⟩), (List.forall_mem_cons.mpr ⟨(cs_54 ⟨n_d17, rfl⟩), (fun _ h => absurd h List.not_mem_nil)⟩)⟩)⟩)⟩)⟩)⟩)⟩)⟩)⟩)⟩)⟩)⟩)
  · exact (by rw [cup_far (S := 56) rfl, cup_far (S := 57) rfl]; exact hI.2.1)
  · exact (by have z := hI.2.2; rw [cup_far (S := 138) rfl, cup_far (S := 142) rfl, cup_far (S := 136) rfl, cup_far (S := 119) rfl]; exact z)

set_option maxHeartbeats 8000000 in
set_option maxRecDepth 100000 in
theorem sm_X12_image {D : va_G} {cy : Nat → ClassId} {ad : Nat → Nat} {g : Nat → va_E} (l : Launch) (box : Int32) (hI : INV cy ad g) : ∃ pst_ : Int32 → (Nat → Nat) → List (Nat × va_E) → Prop, cMi l yX12_image wq_k_X12_image { frames := 1, cells := 0, slots := 0, locals := 22 } 4 0 0 0 D cy (fun i => ad ([119, 147, 171, 172].getD i 0)) (fun i => cup [] g ([119, 147, 171, 172].getD i 0)) [.ref (ad ([119, 147, 171, 172].getD 0 0)), .int box] pst_ ∧ ∀ (r : Int32) (nw : Nat → Nat) (l' : List (Nat × va_E)), pst_ r nw l' → INV cy ad (cup (cmrg 173 4 [119, 147, 171, 172] l' []) g) ∧ TK g (cup (cmrg 173 4 [119, 147, 171, 172] l' []) g) := by
  have c119 := cp_119 hI
  obtain ⟨x119_2, x119_3, x119_4, x119_5, x119_6, x119_7, x119_8, x119_9, w119_10, x119_36, x119_37, x119_38, x119_39, x119_40, x119_56, x119_57, x119_59, x119_60, x119_62, x119_70, x119_71, e119, b119_2, b119_3, b119_4, b119_6, b119_7, b119_8, b119_36, b119_37, b119_38, b119_39, b119_40, b119_56, b119_59, b119_60, b119_62, b119_70, b119_71, hU119⟩ := c119
  have c147 := cp_147 hI
  obtain ⟨f147, e147, h147⟩ := c147
  have c171 := cp_171 hI
  obtain ⟨f171, e171, h171⟩ := c171
  have c172 := cp_172 hI
  obtain ⟨f172, e172, h172⟩ := c172
  refine ⟨_, k_X12_image l D cy _ _ (u0_0 := .ref (ad 120)) (u0_1 := .ref (ad 121)) (u0_2 := .int x119_2) (u0_3 := .int x119_3) (u0_4 := .int x119_4) (u0_5 := .int x119_5) (u0_6 := .int x119_6) (u0_7 := .int x119_7) (u0_8 := .int x119_8) (u0_9 := .int x119_9) (u0_10 := .long w119_10) (u0_11 := .ref (ad 122)) (u0_12 := .ref (ad 123)) (u0_13 := .ref (ad 124)) (u0_14 := .ref (ad 125)) (u0_15 := .ref (ad 126)) (u0_16 := .ref (ad 127)) (u0_17 := .ref (ad 128)) (u0_18 := .ref (ad 129)) (u0_19 := .ref (ad 130)) (u0_20 := .ref (ad 131)) (u0_21 := .ref (ad 132)) (u0_22 := .ref (ad 133)) (u0_23 := .ref (ad 134)) (u0_24 := .ref (ad 135)) (u0_25 := .ref (ad 136)) (u0_26 := .ref (ad 137)) (u0_27 := .ref (ad 138)) (u0_28 := .ref (ad 139)) (u0_29 := .ref (ad 140)) (u0_30 := .ref (ad 141)) (u0_31 := .ref (ad 142)) (u0_32 := .ref (ad 143)) (u0_33 := .ref (ad 144)) (u0_34 := .ref (ad 145)) (u0_35 := .ref (ad 146)) (u0_36 := .int x119_36) (u0_37 := .int x119_37) (u0_38 := .int x119_38) (u0_39 := .int x119_39) (u0_40 := .int x119_40) (c1 := f147) (u0_42 := .ref (ad 148)) (u0_43 := .ref (ad 149)) (u0_44 := .ref (ad 150)) (u0_45 := .ref (ad 151)) (u0_46 := .ref (ad 152)) (u0_47 := .ref (ad 153)) (u0_48 := .ref (ad 154)) (u0_49 := .ref (ad 155)) (u0_50 := .ref (ad 156)) (u0_51 := .ref (ad 157)) (u0_52 := .ref (ad 158)) (u0_53 := .ref (ad 159)) (u0_54 := .ref (ad 160)) (u0_55 := .ref (ad 161)) (u0_56 := .int x119_56) (u0_57 := .int x119_57) (u0_58 := .ref (ad 162)) (u0_59 := .int x119_59) (u0_60 := .int x119_60) (u0_61 := .ref (ad 163)) (u0_62 := .int x119_62) (u0_63 := .ref (ad 164)) (u0_64 := .ref (ad 165)) (u0_65 := .ref (ad 166)) (u0_66 := .ref (ad 167)) (u0_67 := .ref (ad 168)) (u0_68 := .ref (ad 169)) (u0_69 := .ref (ad 170)) (u0_70 := .int x119_70) (u0_71 := .int x119_71) (c2 := f171) (c3 := f172) e119 e147 e171 e172 h147 h171 h172, fun r nw l' hw => ?_⟩
  obtain ⟨n_d2, n_d3, z0, z1, z2, rfl⟩ := hw
  refine mrg_case (P := fun g1 => INV cy ad g1 ∧ TK g g1) (lk := [(171, .inl (cy 0, 240, .inl n_d2)), (172, .inl (cy 2, 3, .inl n_d3))]) ?_ ?_
  · rfl
  refine ⟨INV_up hI ?_ ?_ ?_, (by rw [cup_far rfl]), (by rw [cup_far rfl])⟩
  · exact (List.forall_mem_cons.mpr ⟨(cs_171 ⟨n_d2, rfl, z0⟩), (List.forall_mem_cons.mpr ⟨(cs_172 ⟨n_d3, rfl, z1⟩), (fun _ h => absurd h List.not_mem_nil)⟩)⟩)
  · exact (by rw [cup_far (S := 56) rfl, cup_far (S := 57) rfl]; exact hI.2.1)
  · exact (by have z := hI.2.2; rw [cup_far (S := 138) rfl, cup_far (S := 142) rfl, cup_far (S := 136) rfl, cup_far (S := 119) rfl]; exact z)

set_option maxHeartbeats 8000000 in
set_option maxRecDepth 100000 in
theorem sm_X11_back {D : va_G} {cy : Nat → ClassId} {ad : Nat → Nat} {g : Nat → va_E} (l : Launch) (box : Int32) (hI : INV cy ad g) : ∃ pst_ : Int32 → (Nat → Nat) → List (Nat × va_E) → Prop, cMi l yX11_back wq_k_X11_back { frames := 4, cells := 0, slots := 0, locals := 106 } 44 0 0 0 D cy (fun i => ad ([0, 42, 43, 38, 39, 40, 41, 44, 45, 46, 55, 62, 21, 35, 59, 66, 24, 25, 28, 29, 30, 31, 36, 37, 60, 61, 67, 68, 69, 70, 71, 72, 73, 63, 64, 65, 47, 48, 49, 50, 51, 52, 53, 54].getD i 0)) (fun i => cup [] g ([0, 42, 43, 38, 39, 40, 41, 44, 45, 46, 55, 62, 21, 35, 59, 66, 24, 25, 28, 29, 30, 31, 36, 37, 60, 61, 67, 68, 69, 70, 71, 72, 73, 63, 64, 65, 47, 48, 49, 50, 51, 52, 53, 54].getD i 0)) [.ref (ad ([0, 42, 43, 38, 39, 40, 41, 44, 45, 46, 55, 62, 21, 35, 59, 66, 24, 25, 28, 29, 30, 31, 36, 37, 60, 61, 67, 68, 69, 70, 71, 72, 73, 63, 64, 65, 47, 48, 49, 50, 51, 52, 53, 54].getD 0 0)), .int box] pst_ ∧ ∀ (r : Int32) (nw : Nat → Nat) (l' : List (Nat × va_E)), pst_ r nw l' → INV cy ad (cup (cmrg 173 44 [0, 42, 43, 38, 39, 40, 41, 44, 45, 46, 55, 62, 21, 35, 59, 66, 24, 25, 28, 29, 30, 31, 36, 37, 60, 61, 67, 68, 69, 70, 71, 72, 73, 63, 64, 65, 47, 48, 49, 50, 51, 52, 53, 54] l' []) g) ∧ TK g (cup (cmrg 173 44 [0, 42, 43, 38, 39, 40, 41, 44, 45, 46, 55, 62, 21, 35, 59, 66, 24, 25, 28, 29, 30, 31, 36, 37, 60, 61, 67, 68, 69, 70, 71, 72, 73, 63, 64, 65, 47, 48, 49, 50, 51, 52, 53, 54] l' []) g) := by
  have c0 := cp_0 hI
  obtain ⟨x0_1, x0_13, e0, b0_1, b0_13⟩ := c0
  have c21 := cp_21 hI
  obtain ⟨x21_5, x21_11, x21_15, x21_16, e21, b21_5, b21_11, b21_16⟩ := c21
  have c24 := cp_24 hI
  obtain ⟨f24, e24⟩ := c24
  have c25 := cp_25 hI
  obtain ⟨f25, e25⟩ := c25
  have c28 := cp_28 hI
  obtain ⟨f28, e28⟩ := c28
  have c29 := cp_29 hI
  obtain ⟨f29, e29⟩ := c29
  have c30 := cp_30 hI
  obtain ⟨f30, e30, h30⟩ := c30
  have c31 := cp_31 hI
  obtain ⟨f31, e31, h31⟩ := c31
  have c35 := cp_35 hI
  obtain ⟨x35_1, x35_2, x35_3, e35, b35_1, b35_3⟩ := c35
  have c36 := cp_36 hI
  obtain ⟨f36, e36⟩ := c36
  have c37 := cp_37 hI
  obtain ⟨f37, e37⟩ := c37
  have c38 := cp_38 hI
  obtain ⟨x38_2, x38_4, e38, b38_4⟩ := c38
  have c39 := cp_39 hI
  obtain ⟨f39, e39⟩ := c39
  have c40 := cp_40 hI
  obtain ⟨f40, e40⟩ := c40
  have c41 := cp_41 hI
  obtain ⟨f41, e41⟩ := c41
  have c42 := cp_42 hI
  have e42 := c42
  have c43 := cp_43 hI
  obtain ⟨x43_2, x43_4, e43, b43_4⟩ := c43
  have c44 := cp_44 hI
  obtain ⟨f44, e44⟩ := c44
  have c45 := cp_45 hI
  obtain ⟨f45, e45⟩ := c45
  have c46 := cp_46 hI
  obtain ⟨f46, e46⟩ := c46
  have c47 := cp_47 hI
  obtain ⟨x47_2, x47_4, e47, b47_4⟩ := c47
  have c48 := cp_48 hI
  obtain ⟨f48, e48⟩ := c48
  have c49 := cp_49 hI
  obtain ⟨f49, e49⟩ := c49
  have c50 := cp_50 hI
  obtain ⟨f50, e50⟩ := c50
  have c51 := cp_51 hI
  obtain ⟨x51_2, x51_4, e51, b51_4⟩ := c51
  have c52 := cp_52 hI
  obtain ⟨f52, e52⟩ := c52
  have c53 := cp_53 hI
  obtain ⟨f53, e53⟩ := c53
  have c54 := cp_54 hI
  obtain ⟨f54, e54⟩ := c54
  have c55 := cp_55 hI
  obtain ⟨x55_3, x55_4, e55, b55_3, b55_4⟩ := c55
  have c59 := cp_59 hI
  have e59 := c59
  have c60 := cp_60 hI
  obtain ⟨f60, e60⟩ := c60
  have c61 := cp_61 hI
  obtain ⟨f61, e61⟩ := c61
  have c62 := cp_62 hI
  have e62 := c62
  have c63 := cp_63 hI
  obtain ⟨f63, e63⟩ := c63
  have c64 := cp_64 hI
  obtain ⟨f64, e64⟩ := c64
  have c65 := cp_65 hI
  obtain ⟨f65, e65, h65⟩ := c65
  have c66 := cp_66 hI
  have e66 := c66
  have c67 := cp_67 hI
  obtain ⟨f67, e67⟩ := c67
  have c68 := cp_68 hI
  obtain ⟨f68, e68, h68⟩ := c68
  have c69 := cp_69 hI
  obtain ⟨f69, e69, h69⟩ := c69
  have c70 := cp_70 hI
  obtain ⟨f70, e70⟩ := c70
  have c71 := cp_71 hI
  obtain ⟨f71, e71⟩ := c71
  have c72 := cp_72 hI
  obtain ⟨f72, e72⟩ := c72
  have c73 := cp_73 hI
  obtain ⟨f73, e73⟩ := c73
  refine ⟨_, k_X11_back l D cy _ _ (u0_0 := .ref (ad 1)) (u0_1 := .int x0_1) (u0_2 := .ref (ad 2)) (u0_3 := .ref (ad 21)) (c4 := f39) (c5 := f40) (x3_2 := x38_2) (c6 := f41) (x3_4 := x38_4) (c7 := f44) (c8 := f45) (x2_2 := x43_2) (c9 := f46) (x2_4 := x43_4) (c37 := f48) (c38 := f49) (x36_2 := x47_2) (c39 := f50) (x36_4 := x47_4) (c41 := f52) (c42 := f53) (x40_2 := x51_2) (c43 := f54) (x40_4 := x51_4) (u10_0 := .ref (ad 56)) (u10_1 := .ref (ad 57)) (u10_2 := .ref (ad 58)) (x10_3 := x55_3) (x10_4 := x55_4) (u0_7 := .ref (ad 59)) (u12_0 := .ref (ad 22)) (u12_1 := .ref (ad 23)) (c16 := f24) (c17 := f25) (u12_4 := .ref (ad 26)) (u12_5 := .int x21_5) (u12_6 := .ref (ad 27)) (c18 := f28) (c19 := f29) (c20 := f30) (c21 := f31) (x12_11 := x21_11) (u12_12 := .ref (ad 32)) (u12_13 := .ref (ad 33)) (u12_14 := .ref (ad 34)) (u12_15 := .int x21_15) (u12_16 := .int x21_16) (c22 := f36) (x13_1 := x35_1) (u13_2 := .int x35_2) (x13_3 := x35_3) (c23 := f37) (c24 := f60) (c25 := f61) (c26 := f67) (c27 := f68) (c28 := f69) (c29 := f70) (c30 := f71) (c31 := f72) (c32 := f73) (c33 := f63) (c34 := f64) (c35 := f65) (u0_9 := .ref (ad 74)) (u0_10 := .ref (ad 88)) (u0_11 := .ref (ad 101)) (u0_12 := .ref (ad 118)) (u0_13 := .int x0_13) e0 e42 e43 e38 e39 e40 e41 e44 e45 e46 e55 e62 e21 e35 e59 e66 e24 e25 e28 e29 e30 e31 e36 e37 e60 e61 e67 e68 e69 e70 e71 e72 e73 e63 e64 e65 e47 e48 e49 e50 e51 e52 e53 e54 b43_4 b38_4 b55_3 b55_4 b21_11 b35_1 b35_3 h30 h31 h68 h69 h65 b47_4 b51_4, fun r nw l' hw => ?_⟩
  obtain ⟨n_y3_2, n_y3_4, n_d4, n_d5, n_d6, n_y10_3, n_y10_4, n_d23, n_d24, n_d25, n_d26, n_d27, n_d28, n_d29, n_d30, n_d31, n_d32, n_d33, n_d34, n_d35, z0, z1, z2, z3, z4, z5, z6, rfl⟩ := hw
  refine mrg_case (P := fun g1 => INV cy ad g1 ∧ TK g g1) (lk := [(38, .inr (9, [.ref (ad 39), .ref (ad 40), .int n_y3_2, .ref (ad 41), .int n_y3_4])), (39, .inl (cy 0, 24, .inl n_d4)), (40, .inl (cy 0, 24, .inl n_d5)), (41, .inl (cy 0, 5, .inl n_d6)), (55, .inr (0, [.ref (ad 56), .ref (ad 57), .ref (ad 58), .int n_y10_3, .int n_y10_4])), (37, .inl (cy 0, 30, .inl n_d23)), (60, .inl (cy 0, 80, .inl n_d24)), (61, .inl (cy 0, 80, .inl n_d25)), (67, .inl (cy 0, 5, .inl n_d26)), (68, .inl (cy 0, 20, .inl n_d27)), (69, .inl (cy 0, 4, .inl n_d28)), (70, .inl (cy 0, 5, .inl n_d29)), (71, .inl (cy 0, 5, .inl n_d30)), (72, .inl (cy 0, 5, .inl n_d31)), (73, .inl (cy 0, 5, .inl n_d32)), (63, .inl (cy 0, 96, .inl n_d33)), (64, .inl (cy 0, 96, .inl n_d34)), (65, .inl (cy 0, 24, .inl n_d35))]) ?_ ?_
  · rfl
  refine ⟨INV_up hI ?_ ?_ ?_, (by rw [cup_far rfl]), (by rw [cup_far rfl])⟩
  · exact (List.forall_mem_cons.mpr ⟨(cs_38 ⟨n_y3_2, n_y3_4, rfl, z0⟩), (List.forall_mem_cons.mpr ⟨(cs_39 ⟨n_d4, rfl⟩), (List.forall_mem_cons.mpr ⟨(cs_40 ⟨n_d5, rfl⟩), (List.forall_mem_cons.mpr ⟨(cs_41 ⟨n_d6, rfl⟩), (List.forall_mem_cons.mpr ⟨(cs_55 ⟨n_y10_3, n_y10_4, rfl, z1, z2⟩), (List.forall_mem_cons.mpr ⟨(cs_37 ⟨n_d23, rfl⟩), (List.forall_mem_cons.mpr ⟨(cs_60 ⟨n_d24, rfl⟩), (List.forall_mem_cons.mpr ⟨(cs_61 ⟨n_d25, rfl⟩), (List.forall_mem_cons.mpr ⟨(cs_67 ⟨n_d26, rfl⟩), (List.forall_mem_cons.mpr ⟨(cs_68 ⟨n_d27, rfl, z3⟩), (List.forall_mem_cons.mpr ⟨(cs_69 ⟨n_d28, rfl, z4⟩), (List.forall_mem_cons.mpr ⟨(cs_70 ⟨n_d29, rfl⟩), (List.forall_mem_cons.mpr ⟨(cs_71 ⟨n_d30, rfl⟩), (List.forall_mem_cons.mpr ⟨(cs_72 ⟨n_d31, rfl⟩), (List.forall_mem_cons.mpr ⟨(cs_73 ⟨n_d32, rfl⟩), (List.forall_mem_cons.mpr ⟨(cs_63 ⟨n_d33, rfl⟩), (List.forall_mem_cons.mpr ⟨(cs_64 ⟨n_d34, rfl⟩), (List.forall_mem_cons.mpr ⟨(cs_65 ⟨n_d35, rfl, z5⟩), (fun _ h => absurd h List.not_mem_nil)⟩)⟩)⟩)⟩)⟩)⟩)⟩)⟩)⟩)⟩)⟩)⟩)⟩)⟩)⟩)⟩)⟩)⟩)
  · exact (by rw [cup_far (S := 56) rfl, cup_far (S := 57) rfl]; exact hI.2.1)
  · exact (by have z := hI.2.2; rw [cup_far (S := 138) rfl, cup_far (S := 142) rfl, cup_far (S := 136) rfl, cup_far (S := 119) rfl]; exact z)

set_option maxHeartbeats 8000000 in
set_option maxRecDepth 100000 in
theorem sm_X12_back {D : va_G} {cy : Nat → ClassId} {ad : Nat → Nat} {g : Nat → va_E} (l : Launch) (box : Int32) (hI : INV cy ad g) : ∃ pst_ : Int32 → (Nat → Nat) → List (Nat × va_E) → Prop, cMi l yX12_back wq_k_X12_back { frames := 1, cells := 0, slots := 0, locals := 22 } 4 0 0 0 D cy (fun i => ad ([119, 172, 171, 147].getD i 0)) (fun i => cup [] g ([119, 172, 171, 147].getD i 0)) [.ref (ad ([119, 172, 171, 147].getD 0 0)), .int box] pst_ ∧ ∀ (r : Int32) (nw : Nat → Nat) (l' : List (Nat × va_E)), pst_ r nw l' → INV cy ad (cup (cmrg 173 4 [119, 172, 171, 147] l' []) g) ∧ TK g (cup (cmrg 173 4 [119, 172, 171, 147] l' []) g) := by
  have c119 := cp_119 hI
  obtain ⟨x119_2, x119_3, x119_4, x119_5, x119_6, x119_7, x119_8, x119_9, w119_10, x119_36, x119_37, x119_38, x119_39, x119_40, x119_56, x119_57, x119_59, x119_60, x119_62, x119_70, x119_71, e119, b119_2, b119_3, b119_4, b119_6, b119_7, b119_8, b119_36, b119_37, b119_38, b119_39, b119_40, b119_56, b119_59, b119_60, b119_62, b119_70, b119_71, hU119⟩ := c119
  have c147 := cp_147 hI
  obtain ⟨f147, e147, h147⟩ := c147
  have c171 := cp_171 hI
  obtain ⟨f171, e171, h171⟩ := c171
  have c172 := cp_172 hI
  obtain ⟨f172, e172, h172⟩ := c172
  refine ⟨_, k_X12_back l D cy _ _ (u0_0 := .ref (ad 120)) (u0_1 := .ref (ad 121)) (u0_2 := .int x119_2) (u0_3 := .int x119_3) (u0_4 := .int x119_4) (u0_5 := .int x119_5) (u0_6 := .int x119_6) (u0_7 := .int x119_7) (u0_8 := .int x119_8) (u0_9 := .int x119_9) (u0_10 := .long w119_10) (u0_11 := .ref (ad 122)) (u0_12 := .ref (ad 123)) (u0_13 := .ref (ad 124)) (u0_14 := .ref (ad 125)) (u0_15 := .ref (ad 126)) (u0_16 := .ref (ad 127)) (u0_17 := .ref (ad 128)) (u0_18 := .ref (ad 129)) (u0_19 := .ref (ad 130)) (u0_20 := .ref (ad 131)) (u0_21 := .ref (ad 132)) (u0_22 := .ref (ad 133)) (u0_23 := .ref (ad 134)) (u0_24 := .ref (ad 135)) (u0_25 := .ref (ad 136)) (u0_26 := .ref (ad 137)) (u0_27 := .ref (ad 138)) (u0_28 := .ref (ad 139)) (u0_29 := .ref (ad 140)) (u0_30 := .ref (ad 141)) (u0_31 := .ref (ad 142)) (u0_32 := .ref (ad 143)) (u0_33 := .ref (ad 144)) (u0_34 := .ref (ad 145)) (u0_35 := .ref (ad 146)) (u0_36 := .int x119_36) (u0_37 := .int x119_37) (u0_38 := .int x119_38) (u0_39 := .int x119_39) (u0_40 := .int x119_40) (c3 := f147) (u0_42 := .ref (ad 148)) (u0_43 := .ref (ad 149)) (u0_44 := .ref (ad 150)) (u0_45 := .ref (ad 151)) (u0_46 := .ref (ad 152)) (u0_47 := .ref (ad 153)) (u0_48 := .ref (ad 154)) (u0_49 := .ref (ad 155)) (u0_50 := .ref (ad 156)) (u0_51 := .ref (ad 157)) (u0_52 := .ref (ad 158)) (u0_53 := .ref (ad 159)) (u0_54 := .ref (ad 160)) (u0_55 := .ref (ad 161)) (u0_56 := .int x119_56) (u0_57 := .int x119_57) (u0_58 := .ref (ad 162)) (x0_59 := x119_59) (x0_60 := x119_60) (u0_61 := .ref (ad 163)) (u0_62 := .int x119_62) (u0_63 := .ref (ad 164)) (u0_64 := .ref (ad 165)) (u0_65 := .ref (ad 166)) (u0_66 := .ref (ad 167)) (u0_67 := .ref (ad 168)) (u0_68 := .ref (ad 169)) (u0_69 := .ref (ad 170)) (u0_70 := .int x119_70) (u0_71 := .int x119_71) (c2 := f171) (c1 := f172) e119 e172 e171 e147 b119_59 b119_60 h172 h171 h147 hU119, fun r nw l' hw => ?_⟩
  obtain ⟨n_y0_59, n_y0_60, n_d3, z0, z1, z2, z3, wr0, rfl⟩ := hw
  refine mrg_case (P := fun g1 => INV cy ad g1 ∧ TK g g1) (lk := [(119, .inr (12, [.ref (ad 120), .ref (ad 121), .int x119_2, .int x119_3, .int x119_4, .int x119_5, .int x119_6, .int x119_7, .int x119_8, .int x119_9, .long w119_10, .ref (ad 122), .ref (ad 123), .ref (ad 124), .ref (ad 125), .ref (ad 126), .ref (ad 127), .ref (ad 128), .ref (ad 129), .ref (ad 130), .ref (ad 131), .ref (ad 132), .ref (ad 133), .ref (ad 134), .ref (ad 135), .ref (ad 136), .ref (ad 137), .ref (ad 138), .ref (ad 139), .ref (ad 140), .ref (ad 141), .ref (ad 142), .ref (ad 143), .ref (ad 144), .ref (ad 145), .ref (ad 146), .int x119_36, .int x119_37, .int x119_38, .int x119_39, .int x119_40, .ref (ad 147), .ref (ad 148), .ref (ad 149), .ref (ad 150), .ref (ad 151), .ref (ad 152), .ref (ad 153), .ref (ad 154), .ref (ad 155), .ref (ad 156), .ref (ad 157), .ref (ad 158), .ref (ad 159), .ref (ad 160), .ref (ad 161), .int x119_56, .int x119_57, .ref (ad 162), .int n_y0_59, .int n_y0_60, .ref (ad 163), .int x119_62, .ref (ad 164), .ref (ad 165), .ref (ad 166), .ref (ad 167), .ref (ad 168), .ref (ad 169), .ref (ad 170), .int x119_70, .int x119_71, .ref (ad 171), .ref (ad 172)])), (147, .inl (cy 0, 80, .inl n_d3))]) ?_ ?_
  · rfl
  refine ⟨INV_up hI ?_ ?_ ?_, (by rw [cup_far rfl]), (by rw [e119]; rfl)⟩
  · exact (List.forall_mem_cons.mpr ⟨(cs_119 ⟨x119_2, x119_3, x119_4, x119_5, x119_6, x119_7, x119_8, x119_9, w119_10, x119_36, x119_37, x119_38, x119_39, x119_40, x119_56, x119_57, n_y0_59, n_y0_60, x119_62, x119_70, x119_71, rfl, b119_2, b119_3, b119_4, b119_6, b119_7, b119_8, b119_36, b119_37, b119_38, b119_39, b119_40, b119_56, z0, z1, b119_62, b119_70, b119_71, wr0⟩), (List.forall_mem_cons.mpr ⟨(cs_147 ⟨n_d3, rfl, z2⟩), (fun _ h => absurd h List.not_mem_nil)⟩)⟩)
  · exact (by rw [cup_far (S := 56) rfl, cup_far (S := 57) rfl]; exact hI.2.1)
  · exact (by have z := hI.2.2; rw [e119] at z; rw [cup_far (S := 138) rfl, cup_far (S := 142) rfl, cup_far (S := 136) rfl]; exact z)

set_option maxHeartbeats 8000000 in
set_option maxRecDepth 100000 in
theorem sm_X11_about {D : va_G} {cy : Nat → ClassId} {ad : Nat → Nat} {g : Nat → va_E} (l : Launch) (what : Int32) (hI : INV cy ad g) : ∃ pst_ : Int32 → (Nat → Nat) → List (Nat × va_E) → Prop, cMi l yX11_about wq_k_X11_about { frames := 0, cells := 0, slots := 0, locals := 0 } 6 0 0 0 D cy (fun i => ad ([0, 21, 38, 55, 101, 35].getD i 0)) (fun i => cup [] g ([0, 21, 38, 55, 101, 35].getD i 0)) [.ref (ad ([0, 21, 38, 55, 101, 35].getD 0 0)), .int what] pst_ ∧ ∀ (r : Int32) (nw : Nat → Nat) (l' : List (Nat × va_E)), pst_ r nw l' → INV cy ad (cup (cmrg 173 6 [0, 21, 38, 55, 101, 35] l' []) g) ∧ TK g (cup (cmrg 173 6 [0, 21, 38, 55, 101, 35] l' []) g) := by
  have c0 := cp_0 hI
  obtain ⟨x0_1, x0_13, e0, b0_1, b0_13⟩ := c0
  have c21 := cp_21 hI
  obtain ⟨x21_5, x21_11, x21_15, x21_16, e21, b21_5, b21_11, b21_16⟩ := c21
  have c35 := cp_35 hI
  obtain ⟨x35_1, x35_2, x35_3, e35, b35_1, b35_3⟩ := c35
  have c38 := cp_38 hI
  obtain ⟨x38_2, x38_4, e38, b38_4⟩ := c38
  have c55 := cp_55 hI
  obtain ⟨x55_3, x55_4, e55, b55_3, b55_4⟩ := c55
  have c101 := cp_101 hI
  obtain ⟨x101_7, x101_8, x101_11, x101_13, x101_14, x101_15, e101, b101_7, b101_8⟩ := c101
  refine ⟨_, k_X11_about l D cy _ _ (u0_0 := .ref (ad 1)) (x0_1 := x0_1) (u0_2 := .ref (ad 2)) (u1_0 := .ref (ad 22)) (u1_1 := .ref (ad 23)) (u1_2 := .ref (ad 24)) (u1_3 := .ref (ad 25)) (u1_4 := .ref (ad 26)) (x1_5 := x21_5) (u1_6 := .ref (ad 27)) (u1_7 := .ref (ad 28)) (u1_8 := .ref (ad 29)) (u1_9 := .ref (ad 30)) (u1_10 := .ref (ad 31)) (x1_11 := x21_11) (u1_12 := .ref (ad 32)) (u1_13 := .ref (ad 33)) (u1_14 := .ref (ad 34)) (u1_15 := .int x21_15) (u1_16 := .int x21_16) (u5_0 := .ref (ad 36)) (u5_1 := .int x35_1) (x5_2 := x35_2) (u5_3 := .int x35_3) (u5_4 := .ref (ad 37)) (u2_0 := .ref (ad 39)) (u2_1 := .ref (ad 40)) (u2_2 := .int x38_2) (u2_3 := .ref (ad 41)) (x2_4 := x38_4) (u0_5 := .ref (ad 42)) (u3_0 := .ref (ad 56)) (u3_1 := .ref (ad 57)) (u3_2 := .ref (ad 58)) (x3_3 := x55_3) (x3_4 := x55_4) (u0_7 := .ref (ad 59)) (u0_8 := .ref (ad 62)) (u0_9 := .ref (ad 74)) (u0_10 := .ref (ad 88)) (u4_0 := .ref (ad 21)) (u4_1 := .ref (ad 110)) (u4_2 := .ref (ad 102)) (u4_3 := .ref (ad 103)) (u4_4 := .ref (ad 104)) (u4_5 := .ref (ad 105)) (u4_6 := .ref (ad 106)) (x4_7 := x101_7) (x4_8 := x101_8) (u4_9 := .ref (ad 107)) (u4_10 := .ref (ad 108)) (u4_11 := .int x101_11) (u4_12 := .ref (ad 109)) (u4_13 := .int x101_13) (u4_14 := .int x101_14) (u4_15 := .int x101_15) (u0_12 := .ref (ad 118)) (x0_13 := x0_13) e0 e21 e38 e55 e101 e35 b0_1 b0_13 b21_5 b21_11 b38_4 b55_3 b55_4 b101_7 b101_8, fun r nw l' hw => ?_⟩
  obtain rfl := hw
  refine mrg_case (P := fun g1 => INV cy ad g1 ∧ TK g g1) (lk := []) ?_ ?_
  · rfl
  refine ⟨INV_up hI ?_ ?_ ?_, (by rw [cup_far rfl]), (by rw [cup_far rfl])⟩
  · exact (fun _ h => absurd h List.not_mem_nil)
  · exact (by rw [cup_far (S := 56) rfl, cup_far (S := 57) rfl]; exact hI.2.1)
  · exact (by have z := hI.2.2; rw [cup_far (S := 138) rfl, cup_far (S := 142) rfl, cup_far (S := 136) rfl, cup_far (S := 119) rfl]; exact z)

set_option maxHeartbeats 8000000 in
set_option maxRecDepth 100000 in
theorem sm_X12_about {D : va_G} {cy : Nat → ClassId} {ad : Nat → Nat} {g : Nat → va_E} (l : Launch) (what : Int32) (hI : INV cy ad g) : ∃ pst_ : Int32 → (Nat → Nat) → List (Nat × va_E) → Prop, cMi l yX12_about wq_k_X12_about { frames := 1, cells := 0, slots := 0, locals := 20 } 5 0 0 0 D cy (fun i => ad ([119, 122, 123, 147, 125].getD i 0)) (fun i => cup [] g ([119, 122, 123, 147, 125].getD i 0)) [.ref (ad ([119, 122, 123, 147, 125].getD 0 0)), .int what] pst_ ∧ ∀ (r : Int32) (nw : Nat → Nat) (l' : List (Nat × va_E)), pst_ r nw l' → INV cy ad (cup (cmrg 173 5 [119, 122, 123, 147, 125] l' []) g) ∧ TK g (cup (cmrg 173 5 [119, 122, 123, 147, 125] l' []) g) := by
  have c119 := cp_119 hI
  obtain ⟨x119_2, x119_3, x119_4, x119_5, x119_6, x119_7, x119_8, x119_9, w119_10, x119_36, x119_37, x119_38, x119_39, x119_40, x119_56, x119_57, x119_59, x119_60, x119_62, x119_70, x119_71, e119, b119_2, b119_3, b119_4, b119_6, b119_7, b119_8, b119_36, b119_37, b119_38, b119_39, b119_40, b119_56, b119_59, b119_60, b119_62, b119_70, b119_71, hU119⟩ := c119
  have c122 := cp_122 hI
  obtain ⟨f122, e122, h122⟩ := c122
  have c123 := cp_123 hI
  obtain ⟨f123, e123, h123⟩ := c123
  have c125 := cp_125 hI
  obtain ⟨f125, e125, h125⟩ := c125
  have c147 := cp_147 hI
  obtain ⟨f147, e147, h147⟩ := c147
  refine ⟨_, k_X12_about l D cy _ _ (u0_0 := .ref (ad 120)) (u0_1 := .ref (ad 121)) (x0_2 := x119_2) (u0_3 := .int x119_3) (u0_4 := .int x119_4) (u0_5 := .int x119_5) (u0_6 := .int x119_6) (u0_7 := .int x119_7) (u0_8 := .int x119_8) (u0_9 := .int x119_9) (u0_10 := .long w119_10) (c1 := f122) (c2 := f123) (u0_13 := .ref (ad 124)) (c4 := f125) (u0_15 := .ref (ad 126)) (u0_16 := .ref (ad 127)) (u0_17 := .ref (ad 128)) (u0_18 := .ref (ad 129)) (u0_19 := .ref (ad 130)) (u0_20 := .ref (ad 131)) (u0_21 := .ref (ad 132)) (u0_22 := .ref (ad 133)) (u0_23 := .ref (ad 134)) (u0_24 := .ref (ad 135)) (u0_25 := .ref (ad 136)) (u0_26 := .ref (ad 137)) (u0_27 := .ref (ad 138)) (u0_28 := .ref (ad 139)) (u0_29 := .ref (ad 140)) (u0_30 := .ref (ad 141)) (u0_31 := .ref (ad 142)) (u0_32 := .ref (ad 143)) (u0_33 := .ref (ad 144)) (u0_34 := .ref (ad 145)) (u0_35 := .ref (ad 146)) (x0_36 := x119_36) (u0_37 := .int x119_37) (u0_38 := .int x119_38) (u0_39 := .int x119_39) (u0_40 := .int x119_40) (c3 := f147) (u0_42 := .ref (ad 148)) (u0_43 := .ref (ad 149)) (u0_44 := .ref (ad 150)) (u0_45 := .ref (ad 151)) (u0_46 := .ref (ad 152)) (u0_47 := .ref (ad 153)) (u0_48 := .ref (ad 154)) (u0_49 := .ref (ad 155)) (u0_50 := .ref (ad 156)) (u0_51 := .ref (ad 157)) (u0_52 := .ref (ad 158)) (u0_53 := .ref (ad 159)) (u0_54 := .ref (ad 160)) (u0_55 := .ref (ad 161)) (u0_56 := .int x119_56) (u0_57 := .int x119_57) (u0_58 := .ref (ad 162)) (x0_59 := x119_59) (x0_60 := x119_60) (u0_61 := .ref (ad 163)) (x0_62 := x119_62) (u0_63 := .ref (ad 164)) (u0_64 := .ref (ad 165)) (u0_65 := .ref (ad 166)) (u0_66 := .ref (ad 167)) (u0_67 := .ref (ad 168)) (u0_68 := .ref (ad 169)) (u0_69 := .ref (ad 170)) (x0_70 := x119_70) (x0_71 := x119_71) (u0_72 := .ref (ad 171)) (u0_73 := .ref (ad 172)) e119 e122 e123 e147 e125 b119_2 b119_36 b119_59 b119_60 b119_62 b119_70 b119_71 h122 h123 h147 h125 hU119, fun r nw l' hw => ?_⟩
  obtain ⟨z0, rfl⟩ := hw
  refine mrg_case (P := fun g1 => INV cy ad g1 ∧ TK g g1) (lk := []) ?_ ?_
  · rfl
  refine ⟨INV_up hI ?_ ?_ ?_, (by rw [cup_far rfl]), (by rw [cup_far rfl])⟩
  · exact (fun _ h => absurd h List.not_mem_nil)
  · exact (by rw [cup_far (S := 56) rfl, cup_far (S := 57) rfl]; exact hI.2.1)
  · exact (by have z := hI.2.2; rw [cup_far (S := 138) rfl, cup_far (S := 142) rfl, cup_far (S := 136) rfl, cup_far (S := 119) rfl]; exact z)

