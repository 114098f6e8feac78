set_option maxHeartbeats 8000000 in
set_option maxRecDepth 100000 in
theorem sm_X12_rest {D : va_G} {cy : Nat → ClassId} {ad : Nat → Nat} {g : Nat → va_E} (l : Launch)  (hI : INV cy ad g) : ∃ pst_ : Int32 → (Nat → Nat) → List (Nat × va_E) → Prop, cMi l yX12_rest wq_k_X12_rest { frames := 6, cells := 0, slots := 0, locals := 145 } 30 0 0 0 D cy (fun i => ad ([119, 147, 164, 123, 127, 128, 130, 131, 132, 133, 136, 138, 142, 143, 146, 148, 149, 150, 151, 152, 153, 154, 155, 156, 157, 158, 159, 160, 161, 163].getD i 0)) (fun i => cup [] g ([119, 147, 164, 123, 127, 128, 130, 131, 132, 133, 136, 138, 142, 143, 146, 148, 149, 150, 151, 152, 153, 154, 155, 156, 157, 158, 159, 160, 161, 163].getD i 0)) [.ref (ad ([119, 147, 164, 123, 127, 128, 130, 131, 132, 133, 136, 138, 142, 143, 146, 148, 149, 150, 151, 152, 153, 154, 155, 156, 157, 158, 159, 160, 161, 163].getD 0 0))] pst_ ∧ ∀ (r : Int32) (nw : Nat → Nat) (l' : List (Nat × va_E)), pst_ r nw l' → INV cy ad (cup (cmrg 173 30 [119, 147, 164, 123, 127, 128, 130, 131, 132, 133, 136, 138, 142, 143, 146, 148, 149, 150, 151, 152, 153, 154, 155, 156, 157, 158, 159, 160, 161, 163] l' []) g) ∧ TK g (cup (cmrg 173 30 [119, 147, 164, 123, 127, 128, 130, 131, 132, 133, 136, 138, 142, 143, 146, 148, 149, 150, 151, 152, 153, 154, 155, 156, 157, 158, 159, 160, 161, 163] l' []) g) := by
  have c119 := cp_119 hI
  obtain ⟨x119_2, x119_3, x119_4, x119_5, x119_6, x119_7, x119_8, x119_9, w119_10, x119_36, x119_37, x119_38, x119_39, x119_40, x119_56, x119_57, x119_59, x119_60, x119_62, x119_70, x119_71, e119, b119_2, b119_3, b119_4, b119_6, b119_7, b119_8, b119_36, b119_37, b119_38, b119_39, b119_40, b119_56, b119_59, b119_60, b119_62, b119_70, b119_71, hU119⟩ := c119
  have c123 := cp_123 hI
  obtain ⟨f123, e123, h123⟩ := c123
  have c127 := cp_127 hI
  obtain ⟨f127, e127⟩ := c127
  have c128 := cp_128 hI
  obtain ⟨f128, e128⟩ := c128
  have c130 := cp_130 hI
  obtain ⟨f130, e130⟩ := c130
  have c131 := cp_131 hI
  obtain ⟨f131, e131⟩ := c131
  have c132 := cp_132 hI
  obtain ⟨f132, e132, h132⟩ := c132
  have c133 := cp_133 hI
  obtain ⟨f133, e133, h133⟩ := c133
  have c136 := cp_136 hI
  obtain ⟨f136, e136, h136⟩ := c136
  have c138 := cp_138 hI
  obtain ⟨f138, e138, h138⟩ := c138
  have c142 := cp_142 hI
  obtain ⟨f142, e142⟩ := c142
  have c143 := cp_143 hI
  obtain ⟨f143, e143⟩ := c143
  have c146 := cp_146 hI
  obtain ⟨f146, e146⟩ := c146
  have c147 := cp_147 hI
  obtain ⟨f147, e147, h147⟩ := c147
  have c148 := cp_148 hI
  obtain ⟨f148, e148⟩ := c148
  have c149 := cp_149 hI
  obtain ⟨f149, e149⟩ := c149
  have c150 := cp_150 hI
  obtain ⟨f150, e150⟩ := c150
  have c151 := cp_151 hI
  obtain ⟨f151, e151, h151⟩ := c151
  have c152 := cp_152 hI
  obtain ⟨f152, e152, h152⟩ := c152
  have c153 := cp_153 hI
  obtain ⟨f153, e153, h153⟩ := c153
  have c154 := cp_154 hI
  obtain ⟨f154, e154⟩ := c154
  have c155 := cp_155 hI
  obtain ⟨f155, e155⟩ := c155
  have c156 := cp_156 hI
  obtain ⟨f156, e156⟩ := c156
  have c157 := cp_157 hI
  obtain ⟨f157, e157⟩ := c157
  have c158 := cp_158 hI
  obtain ⟨f158, e158⟩ := c158
  have c159 := cp_159 hI
  obtain ⟨f159, e159⟩ := c159
  have c160 := cp_160 hI
  obtain ⟨f160, e160, h160⟩ := c160
  have c161 := cp_161 hI
  obtain ⟨f161, e161, h161⟩ := c161
  have c163 := cp_163 hI
  obtain ⟨f163, e163⟩ := c163
  have c164 := cp_164 hI
  obtain ⟨f164, e164⟩ := c164
  have zfh := hI.2.2
  rw [e138, e142, e136, e119] at zfh
  refine ⟨_, k_X12_rest l D cy _ _ (u0_0 := .ref (ad 120)) (u0_1 := .ref (ad 121)) (u0_2 := .int x119_2) (u0_3 := .int x119_3) (u0_4 := .int x119_4) (u0_5 := .int x119_5) (u0_6 := .int x119_6) (u0_7 := .int x119_7) (u0_8 := .int x119_8) (u0_9 := .int x119_9) (u0_10 := .long w119_10) (u0_11 := .ref (ad 122)) (c3 := f123) (u0_13 := .ref (ad 124)) (u0_14 := .ref (ad 125)) (u0_15 := .ref (ad 126)) (c4 := f127) (c5 := f128) (u0_18 := .ref (ad 129)) (c6 := f130) (c7 := f131) (c8 := f132) (c9 := f133) (u0_23 := .ref (ad 134)) (u0_24 := .ref (ad 135)) (c10 := f136) (u0_26 := .ref (ad 137)) (c11 := f138) (u0_28 := .ref (ad 139)) (u0_29 := .ref (ad 140)) (u0_30 := .ref (ad 141)) (c12 := f142) (c13 := f143) (u0_33 := .ref (ad 144)) (u0_34 := .ref (ad 145)) (c14 := f146) (x0_36 := x119_36) (u0_37 := .int x119_37) (u0_38 := .int x119_38) (u0_39 := .int x119_39) (u0_40 := .int x119_40) (c1 := f147) (c15 := f148) (c16 := f149) (c17 := f150) (c18 := f151) (c19 := f152) (c20 := f153) (c21 := f154) (c22 := f155) (c23 := f156) (c24 := f157) (c25 := f158) (c26 := f159) (c27 := f160) (c28 := f161) (x0_56 := x119_56) (x0_57 := x119_57) (u0_58 := .ref (ad 162)) (u0_59 := .int x119_59) (u0_60 := .int x119_60) (c29 := f163) (x0_62 := x119_62) (c2 := f164) (u0_64 := .ref (ad 165)) (u0_65 := .ref (ad 166)) (u0_66 := .ref (ad 167)) (u0_67 := .ref (ad 168)) (u0_68 := .ref (ad 169)) (u0_69 := .ref (ad 170)) (u0_70 := .int x119_70) (u0_71 := .int x119_71) (u0_72 := .ref (ad 171)) (u0_73 := .ref (ad 172)) e119 e147 e164 e123 e127 e128 e130 e131 e132 e133 e136 e138 e142 e143 e146 e148 e149 e150 e151 e152 e153 e154 e155 e156 e157 e158 e159 e160 e161 e163 b119_36 b119_56 b119_62 h147 h123 h132 h133 h136 h138 h151 h152 h153 h160 h161 zfh, fun r nw l' hw => ?_⟩
  obtain ⟨n_y0_56, n_y0_57, n_y0_62, n_d2, n_d14, n_d15, n_d16, n_d17, n_d18, n_d19, n_d20, n_d21, n_d22, n_d23, n_d24, n_d25, n_d26, n_d27, n_d28, n_d29, z0, z1, z2, z3, z4, z5, z6, z7, rfl⟩ := hw
  refine mrg_case (P := fun g1 => INV cy ad g1 ∧ TK g g1) (lk := [(119, .inr (12, [.ref (ad 120), .ref (ad 121), .int x119_2, .int x119_3, .int x119_4, .int x119_5, .int x119_6, .int x119_7, .int x119_8, .int x119_9, .long w119_10, .ref (ad 122), .ref (ad 123), .ref (ad 124), .ref (ad 125), .ref (ad 126), .ref (ad 127), .ref (ad 128), .ref (ad 129), .ref (ad 130), .ref (ad 131), .ref (ad 132), .ref (ad 133), .ref (ad 134), .ref (ad 135), .ref (ad 136), .ref (ad 137), .ref (ad 138), .ref (ad 139), .ref (ad 140), .ref (ad 141), .ref (ad 142), .ref (ad 143), .ref (ad 144), .ref (ad 145), .ref (ad 146), .int x119_36, .int x119_37, .int x119_38, .int x119_39, .int x119_40, .ref (ad 147), .ref (ad 148), .ref (ad 149), .ref (ad 150), .ref (ad 151), .ref (ad 152), .ref (ad 153), .ref (ad 154), .ref (ad 155), .ref (ad 156), .ref (ad 157), .ref (ad 158), .ref (ad 159), .ref (ad 160), .ref (ad 161), .int n_y0_56, .int n_y0_57, .ref (ad 162), .int x119_59, .int x119_60, .ref (ad 163), .int n_y0_62, .ref (ad 164), .ref (ad 165), .ref (ad 166), .ref (ad 167), .ref (ad 168), .ref (ad 169), .ref (ad 170), .int x119_70, .int x119_71, .ref (ad 171), .ref (ad 172)])), (164, .inl (cy 0, 24, .inl n_d2)), (146, .inl (cy 0, 60, .inl n_d14)), (148, .inl (cy 0, 30, .inl n_d15)), (149, .inl (cy 0, 30, .inl n_d16)), (150, .inl (cy 0, 5, .inl n_d17)), (151, .inl (cy 0, 4, .inl n_d18)), (152, .inl (cy 0, 20, .inl n_d19)), (153, .inl (cy 0, 30, .inl n_d20)), (154, .inl (cy 0, 120, .inl n_d21)), (155, .inl (cy 0, 120, .inl n_d22)), (156, .inl (cy 0, 5, .inl n_d23)), (157, .inl (cy 0, 5, .inl n_d24)), (158, .inl (cy 0, 5, .inl n_d25)), (159, .inl (cy 0, 5, .inl n_d26)), (160, .inl (cy 2, 30, .inl n_d27)), (161, .inl (cy 2, 5, .inl n_d28)), (163, .inl (cy 0, 24, .inl n_d29))]) ?_ ?_
  · rfl
  refine ⟨INV_up hI ?_ ?_ ?_, (by rw [cup_far rfl]), (by rw [e119]; rfl)⟩
  · exact (List.forall_mem_cons.mpr ⟨(cs_119 ⟨x119_2, x119_3, x119_4, x119_5, x119_6, x119_7, x119_8, x119_9, w119_10, x119_36, x119_37, x119_38, x119_39, x119_40, n_y0_56, n_y0_57, x119_59, x119_60, n_y0_62, x119_70, x119_71, rfl, b119_2, b119_3, b119_4, b119_6, b119_7, b119_8, b119_36, b119_37, b119_38, b119_39, b119_40, z0, b119_59, b119_60, z1, b119_70, b119_71, hU119⟩), (List.forall_mem_cons.mpr ⟨(cs_164 ⟨n_d2, rfl⟩), (List.forall_mem_cons.mpr ⟨(cs_146 ⟨n_d14, rfl⟩), (List.forall_mem_cons.mpr ⟨(cs_148 ⟨n_d15, rfl⟩), (List.forall_mem_cons.mpr ⟨(cs_149 ⟨n_d16, rfl⟩), (List.forall_mem_cons.mpr ⟨(cs_150 ⟨n_d17, rfl⟩), (List.forall_mem_cons.mpr ⟨(cs_151 ⟨n_d18, rfl, z2⟩), (List.forall_mem_cons.mpr ⟨(cs_152 ⟨n_d19, rfl, z3⟩), (List.forall_mem_cons.mpr ⟨(cs_153 ⟨n_d20, rfl, z4⟩), (List.forall_mem_cons.mpr ⟨(cs_154 ⟨n_d21, rfl⟩), (List.forall_mem_cons.mpr ⟨(cs_155 ⟨n_d22, rfl⟩), (List.forall_mem_cons.mpr ⟨(cs_156 ⟨n_d23, rfl⟩), (List.forall_mem_cons.mpr ⟨(cs_157 ⟨n_d24, rfl⟩), (List.forall_mem_cons.mpr ⟨(cs_158 ⟨n_d25, rfl⟩), (List.forall_mem_cons.mpr ⟨(cs_159 ⟨n_d26, rfl⟩), (List.forall_mem_cons.mpr ⟨(cs_160 ⟨n_d27, rfl, z5⟩), (List.forall_mem_cons.mpr ⟨(cs_161 ⟨n_d28, rfl, z6⟩), (List.forall_mem_cons.mpr ⟨(cs_163 ⟨n_d29, rfl⟩), (fun _ h => absurd h List.not_mem_nil)⟩)⟩)⟩)⟩)⟩)⟩)⟩)⟩)⟩)⟩)⟩)⟩)⟩)⟩)⟩)⟩)⟩)⟩)
  · exact (by rw [cup_far (S := 56) rfl, cup_far (S := 57) rfl]; exact hI.2.1)
  · exact (by have z := hI.2.2; rw [e119] at z; rw [cup_far (S := 138) rfl, cup_far (S := 142) rfl, cup_far (S := 136) rfl]; exact z)

set_option maxHeartbeats 8000000 in
set_option maxRecDepth 100000 in
theorem sm_X11_teach {D : va_G} {cy : Nat → ClassId} {ad : Nat → Nat} {g : Nat → va_E} (l : Launch) (so : Int32) (hI : INV cy ad g) : ∃ pst_ : Int32 → (Nat → Nat) → List (Nat × va_E) → Prop, cMi l yX11_teach wq_k_X11_teach { frames := 6, cells := 0, slots := 0, locals := 143 } 31 0 0 0 D cy (fun i => ad ([0, 88, 21, 35, 38, 59, 93, 24, 25, 28, 29, 30, 31, 36, 37, 39, 40, 41, 60, 61, 94, 95, 96, 97, 98, 99, 100, 89, 90, 92, 118].getD i 0)) (fun i => cup [] g ([0, 88, 21, 35, 38, 59, 93, 24, 25, 28, 29, 30, 31, 36, 37, 39, 40, 41, 60, 61, 94, 95, 96, 97, 98, 99, 100, 89, 90, 92, 118].getD i 0)) [.ref (ad ([0, 88, 21, 35, 38, 59, 93, 24, 25, 28, 29, 30, 31, 36, 37, 39, 40, 41, 60, 61, 94, 95, 96, 97, 98, 99, 100, 89, 90, 92, 118].getD 0 0)), .int so] pst_ ∧ ∀ (r : Int32) (nw : Nat → Nat) (l' : List (Nat × va_E)), pst_ r nw l' → INV cy ad (cup (cmrg 173 31 [0, 88, 21, 35, 38, 59, 93, 24, 25, 28, 29, 30, 31, 36, 37, 39, 40, 41, 60, 61, 94, 95, 96, 97, 98, 99, 100, 89, 90, 92, 118] l' []) g) ∧ TK g (cup (cmrg 173 31 [0, 88, 21, 35, 38, 59, 93, 24, 25, 28, 29, 30, 31, 36, 37, 39, 40, 41, 60, 61, 94, 95, 96, 97, 98, 99, 100, 89, 90, 92, 118] l' []) g) := by
  have c0 := cp_0 hI
  obtain ⟨x0_1, x0_13, e0, b0_1, b0_13⟩ := c0
  have c21 := cp_21 hI
  obtain ⟨x21_5, x21_11, x21_15, x21_16, e21, b21_5, b21_11, b21_16⟩ := c21
  have c24 := cp_24 hI
  obtain ⟨f24, e24⟩ := c24
  have c25 := cp_25 hI
  obtain ⟨f25, e25⟩ := c25
  have c28 := cp_28 hI
  obtain ⟨f28, e28⟩ := c28
  have c29 := cp_29 hI
  obtain ⟨f29, e29⟩ := c29
  have c30 := cp_30 hI
  obtain ⟨f30, e30, h30⟩ := c30
  have c31 := cp_31 hI
  obtain ⟨f31, e31, h31⟩ := c31
  have c35 := cp_35 hI
  obtain ⟨x35_1, x35_2, x35_3, e35, b35_1, b35_3⟩ := c35
  have c36 := cp_36 hI
  obtain ⟨f36, e36⟩ := c36
  have c37 := cp_37 hI
  obtain ⟨f37, e37⟩ := c37
  have c38 := cp_38 hI
  obtain ⟨x38_2, x38_4, e38, b38_4⟩ := c38
  have c39 := cp_39 hI
  obtain ⟨f39, e39⟩ := c39
  have c40 := cp_40 hI
  obtain ⟨f40, e40⟩ := c40
  have c41 := cp_41 hI
  obtain ⟨f41, e41⟩ := c41
  have c59 := cp_59 hI
  have e59 := c59
  have c60 := cp_60 hI
  obtain ⟨f60, e60⟩ := c60
  have c61 := cp_61 hI
  obtain ⟨f61, e61⟩ := c61
  have c88 := cp_88 hI
  obtain ⟨x88_5, e88, b88_5⟩ := c88
  have c89 := cp_89 hI
  obtain ⟨f89, e89, h89⟩ := c89
  have c90 := cp_90 hI
  obtain ⟨f90, e90⟩ := c90
  have c92 := cp_92 hI
  obtain ⟨f92, e92⟩ := c92
  have c93 := cp_93 hI
  have e93 := c93
  have c94 := cp_94 hI
  obtain ⟨f94, e94⟩ := c94
  have c95 := cp_95 hI
  obtain ⟨f95, e95, h95⟩ := c95
  have c96 := cp_96 hI
  obtain ⟨f96, e96, h96⟩ := c96
  have c97 := cp_97 hI
  obtain ⟨f97, e97⟩ := c97
  have c98 := cp_98 hI
  obtain ⟨f98, e98⟩ := c98
  have c99 := cp_99 hI
  obtain ⟨f99, e99⟩ := c99
  have c100 := cp_100 hI
  obtain ⟨f100, e100⟩ := c100
  have c118 := cp_118 hI
  obtain ⟨f118, e118⟩ := c118
  refine ⟨_, k_X11_teach l D cy _ _ (u0_0 := .ref (ad 1)) (u0_1 := .int x0_1) (u0_2 := .ref (ad 2)) (u2_0 := .ref (ad 22)) (u2_1 := .ref (ad 23)) (c7 := f24) (c8 := f25) (u2_4 := .ref (ad 26)) (x2_5 := x21_5) (u2_6 := .ref (ad 27)) (c9 := f28) (c10 := f29) (c11 := f30) (c12 := f31) (x2_11 := x21_11) (u2_12 := .ref (ad 32)) (u2_13 := .ref (ad 33)) (u2_14 := .ref (ad 34)) (u2_15 := .int x21_15) (u2_16 := .int x21_16) (c13 := f36) (x3_1 := x35_1) (u3_2 := .int x35_2) (x3_3 := x35_3) (c14 := f37) (u0_4 := .ref (ad 38)) (u0_5 := .ref (ad 42)) (u0_6 := .ref (ad 55)) (u0_7 := .ref (ad 59)) (u0_8 := .ref (ad 62)) (u0_9 := .ref (ad 74)) (c15 := f39) (c16 := f40) (x4_2 := x38_2) (c17 := f41) (x4_4 := x38_4) (c18 := f60) (c19 := f61) (c20 := f94) (c21 := f95) (c22 := f96) (c23 := f97) (c24 := f98) (c25 := f99) (c26 := f100) (c27 := f89) (x1_5 := x88_5) (c28 := f90) (u1_7 := .ref (ad 91)) (c29 := f92) (u0_11 := .ref (ad 101)) (c30 := f118) (x0_13 := x0_13) e0 e88 e21 e35 e38 e59 e93 e24 e25 e28 e29 e30 e31 e36 e37 e39 e40 e41 e60 e61 e94 e95 e96 e97 e98 e99 e100 e89 e90 e92 e118 b0_13 b88_5 b21_5 b21_11 b35_1 b35_3 b38_4 h30 h31 h95 h96 h89, fun r nw l' hw => ?_⟩
  obtain ⟨n_y0_13, n_y1_5, n_d14, n_d18, n_d19, n_d20, n_d21, n_d22, n_d23, n_d24, n_d25, n_d26, n_d27, n_d28, n_d29, n_d30, z0, z1, z2, z3, z4, rfl⟩ := hw
  refine mrg_case (P := fun g1 => INV cy ad g1 ∧ TK g g1) (lk := [(0, .inr (11, [.ref (ad 1), .int x0_1, .ref (ad 2), .ref (ad 21), .ref (ad 38), .ref (ad 42), .ref (ad 55), .ref (ad 59), .ref (ad 62), .ref (ad 74), .ref (ad 88), .ref (ad 101), .ref (ad 118), .int n_y0_13])), (88, .inr (3, [.ref (ad 21), .ref (ad 38), .ref (ad 59), .ref (ad 93), .ref (ad 89), .int n_y1_5, .ref (ad 90), .ref (ad 91), .ref (ad 92)])), (37, .inl (cy 0, 30, .inl n_d14)), (60, .inl (cy 0, 80, .inl n_d18)), (61, .inl (cy 0, 80, .inl n_d19)), (94, .inl (cy 0, 5, .inl n_d20)), (95, .inl (cy 0, 20, .inl n_d21)), (96, .inl (cy 0, 4, .inl n_d22)), (97, .inl (cy 0, 5, .inl n_d23)), (98, .inl (cy 0, 5, .inl n_d24)), (99, .inl (cy 0, 5, .inl n_d25)), (100, .inl (cy 0, 5, .inl n_d26)), (89, .inl (cy 0, 24, .inl n_d27)), (90, .inl (cy 0, 5, .inl n_d28)), (92, .inl (cy 0, 5, .inl n_d29)), (118, .inl (cy 0, 24, .inl n_d30))]) ?_ ?_
  · rfl
  refine ⟨INV_up hI ?_ ?_ ?_, (by rw [cup_far rfl]), (by rw [cup_far rfl])⟩
  · exact (List.forall_mem_cons.mpr ⟨(cs_0 ⟨x0_1, n_y0_13, rfl, b0_1, (zi_w z0 (by decide))⟩), (List.forall_mem_cons.mpr ⟨(cs_88 ⟨n_y1_5, rfl, z1⟩), (List.forall_mem_cons.mpr ⟨(cs_37 ⟨n_d14, rfl⟩), (List.forall_mem_cons.mpr ⟨(cs_60 ⟨n_d18, rfl⟩), (List.forall_mem_cons.mpr ⟨(cs_61 ⟨n_d19, rfl⟩), (List.forall_mem_cons.mpr ⟨(cs_94 ⟨n_d20, rfl⟩), (List.forall_mem_cons.mpr ⟨(cs_95 ⟨n_d21, rfl, z2⟩), (List.forall_mem_cons.mpr ⟨(cs_96 ⟨n_d22, rfl, z3⟩), (List.forall_mem_cons.mpr ⟨(cs_97 ⟨n_d23, rfl⟩), (List.forall_mem_cons.mpr ⟨(cs_98 ⟨n_d24, rfl⟩), (List.forall_mem_cons.mpr ⟨(cs_99 ⟨n_d25, rfl⟩), (List.forall_mem_cons.mpr ⟨(cs_100 ⟨n_d26, rfl⟩), (List.forall_mem_cons.mpr ⟨(cs_89 ⟨n_d27, rfl, z4⟩), (List.forall_mem_cons.mpr ⟨(cs_90 ⟨n_d28, rfl⟩), (List.forall_mem_cons.mpr ⟨(cs_92 ⟨n_d29, rfl⟩), (List.forall_mem_cons.mpr ⟨(cs_118 ⟨n_d30, rfl⟩), (fun _ h => absurd h List.not_mem_nil)⟩)⟩)⟩)⟩)⟩)⟩)⟩)⟩)⟩)⟩)⟩)⟩)⟩)⟩)⟩)⟩)
  · exact (by rw [cup_far (S := 56) rfl, cup_far (S := 57) rfl]; exact hI.2.1)
  · exact (by have z := hI.2.2; rw [cup_far (S := 138) rfl, cup_far (S := 142) rfl, cup_far (S := 136) rfl, cup_far (S := 119) rfl]; exact z)

set_option maxHeartbeats 8000000 in
set_option maxRecDepth 100000 in
theorem sm_X12_teach {D : va_G} {cy : Nat → ClassId} {ad : Nat → Nat} {g : Nat → va_E} (l : Launch) (so : Int32) (hI : INV cy ad g) : ∃ pst_ : Int32 → (Nat → Nat) → List (Nat × va_E) → Prop, cMi l yX12_teach wq_k_X12_teach { frames := 4, cells := 0, slots := 0, locals := 97 } 31 0 0 0 D cy (fun i => ad ([119, 122, 165, 147, 123, 132, 133, 148, 149, 150, 151, 152, 160, 127, 128, 130, 131, 136, 138, 142, 143, 146, 153, 154, 155, 156, 157, 158, 159, 161, 163].getD i 0)) (fun i => cup [] g ([119, 122, 165, 147, 123, 132, 133, 148, 149, 150, 151, 152, 160, 127, 128, 130, 131, 136, 138, 142, 143, 146, 153, 154, 155, 156, 157, 158, 159, 161, 163].getD i 0)) [.ref (ad ([119, 122, 165, 147, 123, 132, 133, 148, 149, 150, 151, 152, 160, 127, 128, 130, 131, 136, 138, 142, 143, 146, 153, 154, 155, 156, 157, 158, 159, 161, 163].getD 0 0)), .int so] pst_ ∧ ∀ (r : Int32) (nw : Nat → Nat) (l' : List (Nat × va_E)), pst_ r nw l' → INV cy ad (cup (cmrg 173 31 [119, 122, 165, 147, 123, 132, 133, 148, 149, 150, 151, 152, 160, 127, 128, 130, 131, 136, 138, 142, 143, 146, 153, 154, 155, 156, 157, 158, 159, 161, 163] l' []) g) ∧ TK g (cup (cmrg 173 31 [119, 122, 165, 147, 123, 132, 133, 148, 149, 150, 151, 152, 160, 127, 128, 130, 131, 136, 138, 142, 143, 146, 153, 154, 155, 156, 157, 158, 159, 161, 163] l' []) g) := by
  have c119 := cp_119 hI
  obtain ⟨x119_2, x119_3, x119_4, x119_5, x119_6, x119_7, x119_8, x119_9, w119_10, x119_36, x119_37, x119_38, x119_39, x119_40, x119_56, x119_57, x119_59, x119_60, x119_62, x119_70, x119_71, e119, b119_2, b119_3, b119_4, b119_6, b119_7, b119_8, b119_36, b119_37, b119_38, b119_39, b119_40, b119_56, b119_59, b119_60, b119_62, b119_70, b119_71, hU119⟩ := c119
  have c122 := cp_122 hI
  obtain ⟨f122, e122, h122⟩ := c122
  have c123 := cp_123 hI
  obtain ⟨f123, e123, h123⟩ := c123
  have c127 := cp_127 hI
  obtain ⟨f127, e127⟩ := c127
  have c128 := cp_128 hI
  obtain ⟨f128, e128⟩ := c128
  have c130 := cp_130 hI
  obtain ⟨f130, e130⟩ := c130
  have c131 := cp_131 hI
  obtain ⟨f131, e131⟩ := c131
  have c132 := cp_132 hI
  obtain ⟨f132, e132, h132⟩ := c132
  have c133 := cp_133 hI
  obtain ⟨f133, e133, h133⟩ := c133
  have c136 := cp_136 hI
  obtain ⟨f136, e136, h136⟩ := c136
  have c138 := cp_138 hI
  obtain ⟨f138, e138, h138⟩ := c138
  have c142 := cp_142 hI
  obtain ⟨f142, e142⟩ := c142
  have c143 := cp_143 hI
  obtain ⟨f143, e143⟩ := c143
  have c146 := cp_146 hI
  obtain ⟨f146, e146⟩ := c146
  have c147 := cp_147 hI
  obtain ⟨f147, e147, h147⟩ := c147
  have c148 := cp_148 hI
  obtain ⟨f148, e148⟩ := c148
  have c149 := cp_149 hI
  obtain ⟨f149, e149⟩ := c149
  have c150 := cp_150 hI
  obtain ⟨f150, e150⟩ := c150
  have c151 := cp_151 hI
  obtain ⟨f151, e151, h151⟩ := c151
  have c152 := cp_152 hI
  obtain ⟨f152, e152, h152⟩ := c152
  have c153 := cp_153 hI
  obtain ⟨f153, e153, h153⟩ := c153
  have c154 := cp_154 hI
  obtain ⟨f154, e154⟩ := c154
  have c155 := cp_155 hI
  obtain ⟨f155, e155⟩ := c155
  have c156 := cp_156 hI
  obtain ⟨f156, e156⟩ := c156
  have c157 := cp_157 hI
  obtain ⟨f157, e157⟩ := c157
  have c158 := cp_158 hI
  obtain ⟨f158, e158⟩ := c158
  have c159 := cp_159 hI
  obtain ⟨f159, e159⟩ := c159
  have c160 := cp_160 hI
  obtain ⟨f160, e160, h160⟩ := c160
  have c161 := cp_161 hI
  obtain ⟨f161, e161, h161⟩ := c161
  have c163 := cp_163 hI
  obtain ⟨f163, e163⟩ := c163
  have c165 := cp_165 hI
  obtain ⟨f165, e165, h165⟩ := c165
  have zfh := hI.2.2
  rw [e138, e142, e136, e119] at zfh
  refine ⟨_, k_X12_teach l D cy _ _ (u0_0 := .ref (ad 120)) (u0_1 := .ref (ad 121)) (u0_2 := .int x119_2) (u0_3 := .int x119_3) (u0_4 := .int x119_4) (u0_5 := .int x119_5) (u0_6 := .int x119_6) (u0_7 := .int x119_7) (u0_8 := .int x119_8) (u0_9 := .int x119_9) (u0_10 := .long w119_10) (c1 := f122) (c4 := f123) (u0_13 := .ref (ad 124)) (u0_14 := .ref (ad 125)) (u0_15 := .ref (ad 126)) (c13 := f127) (c14 := f128) (u0_18 := .ref (ad 129)) (c15 := f130) (c16 := f131) (c5 := f132) (c6 := f133) (u0_23 := .ref (ad 134)) (u0_24 := .ref (ad 135)) (c17 := f136) (u0_26 := .ref (ad 137)) (c18 := f138) (u0_28 := .ref (ad 139)) (u0_29 := .ref (ad 140)) (u0_30 := .ref (ad 141)) (c19 := f142) (c20 := f143) (u0_33 := .ref (ad 144)) (u0_34 := .ref (ad 145)) (c21 := f146) (x0_36 := x119_36) (u0_37 := .int x119_37) (u0_38 := .int x119_38) (u0_39 := .int x119_39) (u0_40 := .int x119_40) (c3 := f147) (c7 := f148) (c8 := f149) (c9 := f150) (c10 := f151) (c11 := f152) (c22 := f153) (c23 := f154) (c24 := f155) (c25 := f156) (c26 := f157) (c27 := f158) (c28 := f159) (c12 := f160) (c29 := f161) (x0_56 := x119_56) (x0_57 := x119_57) (u0_58 := .ref (ad 162)) (u0_59 := .int x119_59) (u0_60 := .int x119_60) (c30 := f163) (x0_62 := x119_62) (u0_63 := .ref (ad 164)) (c2 := f165) (u0_65 := .ref (ad 166)) (u0_66 := .ref (ad 167)) (u0_67 := .ref (ad 168)) (u0_68 := .ref (ad 169)) (u0_69 := .ref (ad 170)) (u0_70 := .int x119_70) (u0_71 := .int x119_71) (u0_72 := .ref (ad 171)) (u0_73 := .ref (ad 172)) e119 e122 e165 e147 e123 e132 e133 e148 e149 e150 e151 e152 e160 e127 e128 e130 e131 e136 e138 e142 e143 e146 e153 e154 e155 e156 e157 e158 e159 e161 e163 b119_36 b119_56 b119_62 h122 h165 h147 h123 h132 h133 h151 h152 h160 h136 h138 h153 h161 zfh, fun r nw l' hw => ?_⟩
  obtain ⟨n_y0_56, n_y0_57, n_y0_62, n_d2, n_d7, n_d8, n_d9, n_d10, n_d11, n_d12, n_d21, n_d22, n_d23, n_d24, n_d25, n_d26, n_d27, n_d28, n_d29, n_d30, z0, z1, z2, z3, z4, z5, z6, z7, rfl⟩ := hw
  refine mrg_case (P := fun g1 => INV cy ad g1 ∧ TK g g1) (lk := [(119, .inr (12, [.ref (ad 120), .ref (ad 121), .int x119_2, .int x119_3, .int x119_4, .int x119_5, .int x119_6, .int x119_7, .int x119_8, .int x119_9, .long w119_10, .ref (ad 122), .ref (ad 123), .ref (ad 124), .ref (ad 125), .ref (ad 126), .ref (ad 127), .ref (ad 128), .ref (ad 129), .ref (ad 130), .ref (ad 131), .ref (ad 132), .ref (ad 133), .ref (ad 134), .ref (ad 135), .ref (ad 136), .ref (ad 137), .ref (ad 138), .ref (ad 139), .ref (ad 140), .ref (ad 141), .ref (ad 142), .ref (ad 143), .ref (ad 144), .ref (ad 145), .ref (ad 146), .int x119_36, .int x119_37, .int x119_38, .int x119_39, .int x119_40, .ref (ad 147), .ref (ad 148), .ref (ad 149), .ref (ad 150), .ref (ad 151), .ref (ad 152), .ref (ad 153), .ref (ad 154), .ref (ad 155), .ref (ad 156), .ref (ad 157), .ref (ad 158), .ref (ad 159), .ref (ad 160), .ref (ad 161), .int n_y0_56, .int n_y0_57, .ref (ad 162), .int x119_59, .int x119_60, .ref (ad 163), .int n_y0_62, .ref (ad 164), .ref (ad 165), .ref (ad 166), .ref (ad 167), .ref (ad 168), .ref (ad 169), .ref (ad 170), .int x119_70, .int x119_71, .ref (ad 171), .ref (ad 172)])), (165, .inl (cy 0, 5, .inl n_d2)), (148, .inl (cy 0, 30, .inl n_d7)), (149, .inl (cy 0, 30, .inl n_d8)), (150, .inl (cy 0, 5, .inl n_d9)), (151, .inl (cy 0, 4, .inl n_d10)), (152, .inl (cy 0, 20, .inl n_d11)), (160, .inl (cy 2, 30, .inl n_d12)), (146, .inl (cy 0, 60, .inl n_d21)), (153, .inl (cy 0, 30, .inl n_d22)), (154, .inl (cy 0, 120, .inl n_d23)), (155, .inl (cy 0, 120, .inl n_d24)), (156, .inl (cy 0, 5, .inl n_d25)), (157, .inl (cy 0, 5, .inl n_d26)), (158, .inl (cy 0, 5, .inl n_d27)), (159, .inl (cy 0, 5, .inl n_d28)), (161, .inl (cy 2, 5, .inl n_d29)), (163, .inl (cy 0, 24, .inl n_d30))]) ?_ ?_
  · rfl
  refine ⟨INV_up hI ?_ ?_ ?_, (by rw [cup_far rfl]), (by rw [e119]; rfl)⟩
  · exact (List.forall_mem_cons.mpr ⟨(cs_119 ⟨x119_2, x119_3, x119_4, x119_5, x119_6, x119_7, x119_8, x119_9, w119_10, x119_36, x119_37, x119_38, x119_39, x119_40, n_y0_56, n_y0_57, x119_59, x119_60, n_y0_62, x119_70, x119_71, rfl, b119_2, b119_3, b119_4, b119_6, b119_7, b119_8, b119_36, b119_37, b119_38, b119_39, b119_40, z0, b119_59, b119_60, (zi_w z1 (by decide)), b119_70, b119_71, hU119⟩), (List.forall_mem_cons.mpr ⟨(cs_165 ⟨n_d2, rfl, z2⟩), (List.forall_mem_cons.mpr ⟨(cs_148 ⟨n_d7, rfl⟩), (List.forall_mem_cons.mpr ⟨(cs_149 ⟨n_d8, rfl⟩), (List.forall_mem_cons.mpr ⟨(cs_150 ⟨n_d9, rfl⟩), (List.forall_mem_cons.mpr ⟨(cs_151 ⟨n_d10, rfl, z3⟩), (List.forall_mem_cons.mpr ⟨(cs_152 ⟨n_d11, rfl, z4⟩), (List.forall_mem_cons.mpr ⟨(cs_160 ⟨n_d12, rfl, z5⟩), (List.forall_mem_cons.mpr ⟨(cs_146 ⟨n_d21, rfl⟩), (List.forall_mem_cons.mpr ⟨(cs_153 ⟨n_d22, rfl, z6⟩), (List.forall_mem_cons.mpr ⟨(cs_154 ⟨n_d23, rfl⟩), (List.forall_mem_cons.mpr ⟨(cs_155 ⟨n_d24, rfl⟩), (List.forall_mem_cons.mpr ⟨(cs_156 ⟨n_d25, rfl⟩), (List.forall_mem_cons.mpr ⟨(cs_157 ⟨n_d26, rfl⟩), (List.forall_mem_cons.mpr ⟨(cs_158 ⟨n_d27, rfl⟩), (List.forall_mem_cons.mpr ⟨(cs_159 ⟨n_d28, rfl⟩), (List.forall_mem_cons.mpr ⟨(cs_161 ⟨n_d29, rfl, z7⟩), (List.forall_mem_cons.mpr ⟨(cs_163 ⟨n_d30, rfl⟩), (fun _ h => absurd h List.not_mem_nil)⟩)⟩)⟩)⟩)⟩)⟩)⟩)⟩)⟩)⟩)⟩)⟩)⟩)⟩)⟩)⟩)⟩)⟩)
  · exact (by rw [cup_far (S := 56) rfl, cup_far (S := 57) rfl]; exact hI.2.1)
  · exact (by have z := hI.2.2; rw [e119] at z; rw [cup_far (S := 138) rfl, cup_far (S := 142) rfl, cup_far (S := 136) rfl]; exact z)

set_option maxHeartbeats 8000000 in
set_option maxRecDepth 100000 in
theorem sm_X11_seats {D : va_G} {cy : Nat → ClassId} {ad : Nat → Nat} {g : Nat → va_E} (l : Launch)  (hI : INV cy ad g) : ∃ pst_ : Int32 → (Nat → Nat) → List (Nat × va_E) → Prop, cMi l yX11_seats wq_k_X11_seats { frames := 5, cells := 0, slots := 0, locals := 125 } 32 0 0 0 D cy (fun i => ad ([0, 21, 88, 35, 38, 59, 93, 24, 25, 28, 29, 30, 31, 36, 37, 39, 40, 41, 60, 61, 94, 95, 96, 97, 98, 99, 100, 89, 90, 91, 92, 118].getD i 0)) (fun i => cup [] g ([0, 21, 88, 35, 38, 59, 93, 24, 25, 28, 29, 30, 31, 36, 37, 39, 40, 41, 60, 61, 94, 95, 96, 97, 98, 99, 100, 89, 90, 91, 92, 118].getD i 0)) [.ref (ad ([0, 21, 88, 35, 38, 59, 93, 24, 25, 28, 29, 30, 31, 36, 37, 39, 40, 41, 60, 61, 94, 95, 96, 97, 98, 99, 100, 89, 90, 91, 92, 118].getD 0 0))] pst_ ∧ ∀ (r : Int32) (nw : Nat → Nat) (l' : List (Nat × va_E)), pst_ r nw l' → INV cy ad (cup (cmrg 173 32 [0, 21, 88, 35, 38, 59, 93, 24, 25, 28, 29, 30, 31, 36, 37, 39, 40, 41, 60, 61, 94, 95, 96, 97, 98, 99, 100, 89, 90, 91, 92, 118] l' []) g) ∧ TK g (cup (cmrg 173 32 [0, 21, 88, 35, 38, 59, 93, 24, 25, 28, 29, 30, 31, 36, 37, 39, 40, 41, 60, 61, 94, 95, 96, 97, 98, 99, 100, 89, 90, 91, 92, 118] l' []) g) := by
  have c0 := cp_0 hI
  obtain ⟨x0_1, x0_13, e0, b0_1, b0_13⟩ := c0
  have c21 := cp_21 hI
  obtain ⟨x21_5, x21_11, x21_15, x21_16, e21, b21_5, b21_11, b21_16⟩ := c21
  have c24 := cp_24 hI
  obtain ⟨f24, e24⟩ := c24
  have c25 := cp_25 hI
  obtain ⟨f25, e25⟩ := c25
  have c28 := cp_28 hI
  obtain ⟨f28, e28⟩ := c28
  have c29 := cp_29 hI
  obtain ⟨f29, e29⟩ := c29
  have c30 := cp_30 hI
  obtain ⟨f30, e30, h30⟩ := c30
  have c31 := cp_31 hI
  obtain ⟨f31, e31, h31⟩ := c31
  have c35 := cp_35 hI
  obtain ⟨x35_1, x35_2, x35_3, e35, b35_1, b35_3⟩ := c35
  have c36 := cp_36 hI
  obtain ⟨f36, e36⟩ := c36
  have c37 := cp_37 hI
  obtain ⟨f37, e37⟩ := c37
  have c38 := cp_38 hI
  obtain ⟨x38_2, x38_4, e38, b38_4⟩ := c38
  have c39 := cp_39 hI
  obtain ⟨f39, e39⟩ := c39
  have c40 := cp_40 hI
  obtain ⟨f40, e40⟩ := c40
  have c41 := cp_41 hI
  obtain ⟨f41, e41⟩ := c41
  have c59 := cp_59 hI
  have e59 := c59
  have c60 := cp_60 hI
  obtain ⟨f60, e60⟩ := c60
  have c61 := cp_61 hI
  obtain ⟨f61, e61⟩ := c61
  have c88 := cp_88 hI
  obtain ⟨x88_5, e88, b88_5⟩ := c88
  have c89 := cp_89 hI
  obtain ⟨f89, e89, h89⟩ := c89
  have c90 := cp_90 hI
  obtain ⟨f90, e90⟩ := c90
  have c91 := cp_91 hI
  obtain ⟨f91, e91⟩ := c91
  have c92 := cp_92 hI
  obtain ⟨f92, e92⟩ := c92
  have c93 := cp_93 hI
  have e93 := c93
  have c94 := cp_94 hI
  obtain ⟨f94, e94⟩ := c94
  have c95 := cp_95 hI
  obtain ⟨f95, e95, h95⟩ := c95
  have c96 := cp_96 hI
  obtain ⟨f96, e96, h96⟩ := c96
  have c97 := cp_97 hI
  obtain ⟨f97, e97⟩ := c97
  have c98 := cp_98 hI
  obtain ⟨f98, e98⟩ := c98
  have c99 := cp_99 hI
  obtain ⟨f99, e99⟩ := c99
  have c100 := cp_100 hI
  obtain ⟨f100, e100⟩ := c100
  have c118 := cp_118 hI
  obtain ⟨f118, e118⟩ := c118
  refine ⟨_, k_X11_seats l D cy _ _ (u0_0 := .ref (ad 1)) (u0_1 := .int x0_1) (u0_2 := .ref (ad 2)) (u1_0 := .ref (ad 22)) (u1_1 := .ref (ad 23)) (c7 := f24) (c8 := f25) (u1_4 := .ref (ad 26)) (x1_5 := x21_5) (u1_6 := .ref (ad 27)) (c9 := f28) (c10 := f29) (c11 := f30) (c12 := f31) (x1_11 := x21_11) (u1_12 := .ref (ad 32)) (u1_13 := .ref (ad 33)) (u1_14 := .ref (ad 34)) (u1_15 := .int x21_15) (u1_16 := .int x21_16) (c13 := f36) (x3_1 := x35_1) (u3_2 := .int x35_2) (x3_3 := x35_3) (c14 := f37) (u0_4 := .ref (ad 38)) (u0_5 := .ref (ad 42)) (u0_6 := .ref (ad 55)) (u0_7 := .ref (ad 59)) (u0_8 := .ref (ad 62)) (u0_9 := .ref (ad 74)) (c15 := f39) (c16 := f40) (x4_2 := x38_2) (c17 := f41) (x4_4 := x38_4) (c18 := f60) (c19 := f61) (c20 := f94) (c21 := f95) (c22 := f96) (c23 := f97) (c24 := f98) (c25 := f99) (c26 := f100) (c27 := f89) (x2_5 := x88_5) (c28 := f90) (c29 := f91) (c30 := f92) (u0_11 := .ref (ad 101)) (c31 := f118) (x0_13 := x0_13) e0 e21 e88 e35 e38 e59 e93 e24 e25 e28 e29 e30 e31 e36 e37 e39 e40 e41 e60 e61 e94 e95 e96 e97 e98 e99 e100 e89 e90 e91 e92 e118 b0_13 b21_5 b21_11 b88_5 b35_1 b35_3 b38_4 h30 h31 h95 h96 h89, fun r nw l' hw => ?_⟩
  obtain ⟨n_y0_13, n_y2_5, n_d14, n_d18, n_d19, n_d20, n_d21, n_d22, n_d23, n_d24, n_d25, n_d26, n_d27, n_d28, n_d29, n_d30, n_d31, z0, z1, z2, z3, z4, rfl⟩ := hw
  refine mrg_case (P := fun g1 => INV cy ad g1 ∧ TK g g1) (lk := [(0, .inr (11, [.ref (ad 1), .int x0_1, .ref (ad 2), .ref (ad 21), .ref (ad 38), .ref (ad 42), .ref (ad 55), .ref (ad 59), .ref (ad 62), .ref (ad 74), .ref (ad 88), .ref (ad 101), .ref (ad 118), .int n_y0_13])), (88, .inr (3, [.ref (ad 21), .ref (ad 38), .ref (ad 59), .ref (ad 93), .ref (ad 89), .int n_y2_5, .ref (ad 90), .ref (ad 91), .ref (ad 92)])), (37, .inl (cy 0, 30, .inl n_d14)), (60, .inl (cy 0, 80, .inl n_d18)), (61, .inl (cy 0, 80, .inl n_d19)), (94, .inl (cy 0, 5, .inl n_d20)), (95, .inl (cy 0, 20, .inl n_d21)), (96, .inl (cy 0, 4, .inl n_d22)), (97, .inl (cy 0, 5, .inl n_d23)), (98, .inl (cy 0, 5, .inl n_d24)), (99, .inl (cy 0, 5, .inl n_d25)), (100, .inl (cy 0, 5, .inl n_d26)), (89, .inl (cy 0, 24, .inl n_d27)), (90, .inl (cy 0, 5, .inl n_d28)), (91, .inl (cy 0, 128, .inl n_d29)), (92, .inl (cy 0, 5, .inl n_d30)), (118, .inl (cy 0, 24, .inl n_d31))]) ?_ ?_
  · rfl
  refine ⟨INV_up hI ?_ ?_ ?_, (by rw [cup_far rfl]), (by rw [cup_far rfl])⟩
  · exact (List.forall_mem_cons.mpr ⟨(cs_0 ⟨x0_1, n_y0_13, rfl, b0_1, (zi_w z0 (by decide))⟩), (List.forall_mem_cons.mpr ⟨(cs_88 ⟨n_y2_5, rfl, z1⟩), (List.forall_mem_cons.mpr ⟨(cs_37 ⟨n_d14, rfl⟩), (List.forall_mem_cons.mpr ⟨(cs_60 ⟨n_d18, rfl⟩), (List.forall_mem_cons.mpr ⟨(cs_61 ⟨n_d19, rfl⟩), (List.forall_mem_cons.mpr ⟨(cs_94 ⟨n_d20, rfl⟩), (List.forall_mem_cons.mpr ⟨(cs_95 ⟨n_d21, rfl, z2⟩), (List.forall_mem_cons.mpr ⟨(cs_96 ⟨n_d22, rfl, z3⟩), (List.forall_mem_cons.mpr ⟨(cs_97 ⟨n_d23, rfl⟩), (List.forall_mem_cons.mpr ⟨(cs_98 ⟨n_d24, rfl⟩), (List.forall_mem_cons.mpr ⟨(cs_99 ⟨n_d25, rfl⟩), (List.forall_mem_cons.mpr ⟨(cs_100 ⟨n_d26, rfl⟩), (List.forall_mem_cons.mpr ⟨(cs_89 ⟨n_d27, rfl, z4⟩), (List.forall_mem_cons.mpr ⟨(cs_90 ⟨n_d28, rfl⟩), (List.forall_mem_cons.mpr ⟨(cs_91 ⟨n_d29, rfl⟩), (List.forall_mem_cons.mpr ⟨(cs_92 ⟨n_d30, rfl⟩), (List.forall_mem_cons.mpr ⟨(cs_118 ⟨n_d31, rfl⟩), (fun _ h => absurd h List.not_mem_nil)⟩)⟩)⟩)⟩)⟩)⟩)⟩)⟩)⟩)⟩)⟩)⟩)⟩)⟩)⟩)⟩)⟩)
  · exact (by rw [cup_far (S := 56) rfl, cup_far (S := 57) rfl]; exact hI.2.1)
  · exact (by have z := hI.2.2; rw [cup_far (S := 138) rfl, cup_far (S := 142) rfl, cup_far (S := 136) rfl, cup_far (S := 119) rfl]; exact z)

set_option maxHeartbeats 8000000 in
set_option maxRecDepth 100000 in
theorem sm_X12_seats {D : va_G} {cy : Nat → ClassId} {ad : Nat → Nat} {g : Nat → va_E} (l : Launch)  (hI : INV cy ad g) : ∃ pst_ : Int32 → (Nat → Nat) → List (Nat × va_E) → Prop, cMi l yX12_seats wq_k_X12_seats { frames := 4, cells := 0, slots := 0, locals := 97 } 31 0 0 0 D cy (fun i => ad ([119, 123, 122, 165, 132, 133, 147, 148, 149, 150, 151, 152, 160, 127, 128, 130, 131, 136, 138, 142, 143, 146, 153, 154, 155, 156, 157, 158, 159, 161, 163].getD i 0)) (fun i => cup [] g ([119, 123, 122, 165, 132, 133, 147, 148, 149, 150, 151, 152, 160, 127, 128, 130, 131, 136, 138, 142, 143, 146, 153, 154, 155, 156, 157, 158, 159, 161, 163].getD i 0)) [.ref (ad ([119, 123, 122, 165, 132, 133, 147, 148, 149, 150, 151, 152, 160, 127, 128, 130, 131, 136, 138, 142, 143, 146, 153, 154, 155, 156, 157, 158, 159, 161, 163].getD 0 0))] pst_ ∧ ∀ (r : Int32) (nw : Nat → Nat) (l' : List (Nat × va_E)), pst_ r nw l' → INV cy ad (cup (cmrg 173 31 [119, 123, 122, 165, 132, 133, 147, 148, 149, 150, 151, 152, 160, 127, 128, 130, 131, 136, 138, 142, 143, 146, 153, 154, 155, 156, 157, 158, 159, 161, 163] l' []) g) ∧ TK g (cup (cmrg 173 31 [119, 123, 122, 165, 132, 133, 147, 148, 149, 150, 151, 152, 160, 127, 128, 130, 131, 136, 138, 142, 143, 146, 153, 154, 155, 156, 157, 158, 159, 161, 163] l' []) g) := by
  have c119 := cp_119 hI
  obtain ⟨x119_2, x119_3, x119_4, x119_5, x119_6, x119_7, x119_8, x119_9, w119_10, x119_36, x119_37, x119_38, x119_39, x119_40, x119_56, x119_57, x119_59, x119_60, x119_62, x119_70, x119_71, e119, b119_2, b119_3, b119_4, b119_6, b119_7, b119_8, b119_36, b119_37, b119_38, b119_39, b119_40, b119_56, b119_59, b119_60, b119_62, b119_70, b119_71, hU119⟩ := c119
  have c122 := cp_122 hI
  obtain ⟨f122, e122, h122⟩ := c122
  have c123 := cp_123 hI
  obtain ⟨f123, e123, h123⟩ := c123
  have c127 := cp_127 hI
  obtain ⟨f127, e127⟩ := c127
  have c128 := cp_128 hI
  obtain ⟨f128, e128⟩ := c128
  have c130 := cp_130 hI
  obtain ⟨f130, e130⟩ := c130
  have c131 := cp_131 hI
  obtain ⟨f131, e131⟩ := c131
  have c132 := cp_132 hI
  obtain ⟨f132, e132, h132⟩ := c132
  have c133 := cp_133 hI
  obtain ⟨f133, e133, h133⟩ := c133
  have c136 := cp_136 hI
  obtain ⟨f136, e136, h136⟩ := c136
  have c138 := cp_138 hI
  obtain ⟨f138, e138, h138⟩ := c138
  have c142 := cp_142 hI
  obtain ⟨f142, e142⟩ := c142
  have c143 := cp_143 hI
  obtain ⟨f143, e143⟩ := c143
  have c146 := cp_146 hI
  obtain ⟨f146, e146⟩ := c146
  have c147 := cp_147 hI
  obtain ⟨f147, e147, h147⟩ := c147
  have c148 := cp_148 hI
  obtain ⟨f148, e148⟩ := c148
  have c149 := cp_149 hI
  obtain ⟨f149, e149⟩ := c149
  have c150 := cp_150 hI
  obtain ⟨f150, e150⟩ := c150
  have c151 := cp_151 hI
  obtain ⟨f151, e151, h151⟩ := c151
  have c152 := cp_152 hI
  obtain ⟨f152, e152, h152⟩ := c152
  have c153 := cp_153 hI
  obtain ⟨f153, e153, h153⟩ := c153
  have c154 := cp_154 hI
  obtain ⟨f154, e154⟩ := c154
  have c155 := cp_155 hI
  obtain ⟨f155, e155⟩ := c155
  have c156 := cp_156 hI
  obtain ⟨f156, e156⟩ := c156
  have c157 := cp_157 hI
  obtain ⟨f157, e157⟩ := c157
  have c158 := cp_158 hI
  obtain ⟨f158, e158⟩ := c158
  have c159 := cp_159 hI
  obtain ⟨f159, e159⟩ := c159
  have c160 := cp_160 hI
  obtain ⟨f160, e160, h160⟩ := c160
  have c161 := cp_161 hI
  obtain ⟨f161, e161, h161⟩ := c161
  have c163 := cp_163 hI
  obtain ⟨f163, e163⟩ := c163
  have c165 := cp_165 hI
  obtain ⟨f165, e165, h165⟩ := c165
  have zfh := hI.2.2
  rw [e138, e142, e136, e119] at zfh
  refine ⟨_, k_X12_seats l D cy _ _ (u0_0 := .ref (ad 120)) (u0_1 := .ref (ad 121)) (u0_2 := .int x119_2) (u0_3 := .int x119_3) (u0_4 := .int x119_4) (u0_5 := .int x119_5) (u0_6 := .int x119_6) (u0_7 := .int x119_7) (u0_8 := .int x119_8) (u0_9 := .int x119_9) (u0_10 := .long w119_10) (c2 := f122) (c1 := f123) (u0_13 := .ref (ad 124)) (u0_14 := .ref (ad 125)) (u0_15 := .ref (ad 126)) (c13 := f127) (c14 := f128) (u0_18 := .ref (ad 129)) (c15 := f130) (c16 := f131) (c4 := f132) (c5 := f133) (u0_23 := .ref (ad 134)) (u0_24 := .ref (ad 135)) (c17 := f136) (u0_26 := .ref (ad 137)) (c18 := f138) (u0_28 := .ref (ad 139)) (u0_29 := .ref (ad 140)) (u0_30 := .ref (ad 141)) (c19 := f142) (c20 := f143) (u0_33 := .ref (ad 144)) (u0_34 := .ref (ad 145)) (c21 := f146) (x0_36 := x119_36) (u0_37 := .int x119_37) (u0_38 := .int x119_38) (u0_39 := .int x119_39) (u0_40 := .int x119_40) (c6 := f147) (c7 := f148) (c8 := f149) (c9 := f150) (c10 := f151) (c11 := f152) (c22 := f153) (c23 := f154) (c24 := f155) (c25 := f156) (c26 := f157) (c27 := f158) (c28 := f159) (c12 := f160) (c29 := f161) (x0_56 := x119_56) (x0_57 := x119_57) (u0_58 := .ref (ad 162)) (u0_59 := .int x119_59) (u0_60 := .int x119_60) (c30 := f163) (x0_62 := x119_62) (u0_63 := .ref (ad 164)) (c3 := f165) (u0_65 := .ref (ad 166)) (u0_66 := .ref (ad 167)) (u0_67 := .ref (ad 168)) (u0_68 := .ref (ad 169)) (u0_69 := .ref (ad 170)) (u0_70 := .int x119_70) (u0_71 := .int x119_71) (u0_72 := .ref (ad 171)) (u0_73 := .ref (ad 172)) e119 e123 e122 e165 e132 e133 e147 e148 e149 e150 e151 e152 e160 e127 e128 e130 e131 e136 e138 e142 e143 e146 e153 e154 e155 e156 e157 e158 e159 e161 e163 b119_36 b119_56 b119_62 h123 h122 h165 h132 h133 h147 h151 h152 h160 h136 h138 h153 h161 zfh, fun r nw l' hw => ?_⟩
  obtain ⟨n_y0_56, n_y0_57, n_y0_62, n_d3, n_d7, n_d8, n_d9, n_d10, n_d11, n_d12, n_d21, n_d22, n_d23, n_d24, n_d25, n_d26, n_d27, n_d28, n_d29, n_d30, z0, z1, z2, z3, z4, z5, z6, z7, rfl⟩ := hw
  refine mrg_case (P := fun g1 => INV cy ad g1 ∧ TK g g1) (lk := [(119, .inr (12, [.ref (ad 120), .ref (ad 121), .int x119_2, .int x119_3, .int x119_4, .int x119_5, .int x119_6, .int x119_7, .int x119_8, .int x119_9, .long w119_10, .ref (ad 122), .ref (ad 123), .ref (ad 124), .ref (ad 125), .ref (ad 126), .ref (ad 127), .ref (ad 128), .ref (ad 129), .ref (ad 130), .ref (ad 131), .ref (ad 132), .ref (ad 133), .ref (ad 134), .ref (ad 135), .ref (ad 136), .ref (ad 137), .ref (ad 138), .ref (ad 139), .ref (ad 140), .ref (ad 141), .ref (ad 142), .ref (ad 143), .ref (ad 144), .ref (ad 145), .ref (ad 146), .int x119_36, .int x119_37, .int x119_38, .int x119_39, .int x119_40, .ref (ad 147), .ref (ad 148), .ref (ad 149), .ref (ad 150), .ref (ad 151), .ref (ad 152), .ref (ad 153), .ref (ad 154), .ref (ad 155), .ref (ad 156), .ref (ad 157), .ref (ad 158), .ref (ad 159), .ref (ad 160), .ref (ad 161), .int n_y0_56, .int n_y0_57, .ref (ad 162), .int x119_59, .int x119_60, .ref (ad 163), .int n_y0_62, .ref (ad 164), .ref (ad 165), .ref (ad 166), .ref (ad 167), .ref (ad 168), .ref (ad 169), .ref (ad 170), .int x119_70, .int x119_71, .ref (ad 171), .ref (ad 172)])), (165, .inl (cy 0, 5, .inl n_d3)), (148, .inl (cy 0, 30, .inl n_d7)), (149, .inl (cy 0, 30, .inl n_d8)), (150, .inl (cy 0, 5, .inl n_d9)), (151, .inl (cy 0, 4, .inl n_d10)), (152, .inl (cy 0, 20, .inl n_d11)), (160, .inl (cy 2, 30, .inl n_d12)), (146, .inl (cy 0, 60, .inl n_d21)), (153, .inl (cy 0, 30, .inl n_d22)), (154, .inl (cy 0, 120, .inl n_d23)), (155, .inl (cy 0, 120, .inl n_d24)), (156, .inl (cy 0, 5, .inl n_d25)), (157, .inl (cy 0, 5, .inl n_d26)), (158, .inl (cy 0, 5, .inl n_d27)), (159, .inl (cy 0, 5, .inl n_d28)), (161, .inl (cy 2, 5, .inl n_d29)), (163, .inl (cy 0, 24, .inl n_d30))]) ?_ ?_
  · rfl
  refine ⟨INV_up hI ?_ ?_ ?_, (by rw [cup_far rfl]), (by rw [e119]; rfl)⟩
  · exact (List.forall_mem_cons.mpr ⟨(cs_119 ⟨x119_2, x119_3, x119_4, x119_5, x119_6, x119_7, x119_8, x119_9, w119_10, x119_36, x119_37, x119_38, x119_39, x119_40, n_y0_56, n_y0_57, x119_59, x119_60, n_y0_62, x119_70, x119_71, rfl, b119_2, b119_3, b119_4, b119_6, b119_7, b119_8, b119_36, b119_37, b119_38, b119_39, b119_40, z0, b119_59, b119_60, (zi_w z1 (by decide)), b119_70, b119_71, hU119⟩), (List.forall_mem_cons.mpr ⟨(cs_165 ⟨n_d3, rfl, z2⟩), (List.forall_mem_cons.mpr ⟨(cs_148 ⟨n_d7, rfl⟩), (List.forall_mem_cons.mpr ⟨(cs_149 ⟨n_d8, rfl⟩), (List.forall_mem_cons.mpr ⟨(cs_150 ⟨n_d9, rfl⟩), (List.forall_mem_cons.mpr ⟨(cs_151 ⟨n_d10, rfl, z3⟩), (List.forall_mem_cons.mpr ⟨(cs_152 ⟨n_d11, rfl, z4⟩), (List.forall_mem_cons.mpr ⟨(cs_160 ⟨n_d12, rfl, z5⟩), (List.forall_mem_cons.mpr ⟨(cs_146 ⟨n_d21, rfl⟩), (List.forall_mem_cons.mpr ⟨(cs_153 ⟨n_d22, rfl, z6⟩), (List.forall_mem_cons.mpr ⟨(cs_154 ⟨n_d23, rfl⟩), (List.forall_mem_cons.mpr ⟨(cs_155 ⟨n_d24, rfl⟩), (List.forall_mem_cons.mpr ⟨(cs_156 ⟨n_d25, rfl⟩), (List.forall_mem_cons.mpr ⟨(cs_157 ⟨n_d26, rfl⟩), (List.forall_mem_cons.mpr ⟨(cs_158 ⟨n_d27, rfl⟩), (List.forall_mem_cons.mpr ⟨(cs_159 ⟨n_d28, rfl⟩), (List.forall_mem_cons.mpr ⟨(cs_161 ⟨n_d29, rfl, z7⟩), (List.forall_mem_cons.mpr ⟨(cs_163 ⟨n_d30, rfl⟩), (fun _ h => absurd h List.not_mem_nil)⟩)⟩)⟩)⟩)⟩)⟩)⟩)⟩)⟩)⟩)⟩)⟩)⟩)⟩)⟩)⟩)⟩)⟩)
  · exact (by rw [cup_far (S := 56) rfl, cup_far (S := 57) rfl]; exact hI.2.1)
  · exact (by have z := hI.2.2; rw [e119] at z; rw [cup_far (S := 138) rfl, cup_far (S := 142) rfl, cup_far (S := 136) rfl]; exact z)

set_option maxHeartbeats 8000000 in
set_option maxRecDepth 100000 in
theorem sm_X11_lies {D : va_G} {cy : Nat → ClassId} {ad : Nat → Nat} {g : Nat → va_E} (l : Launch) (n : Int32) (hI : INV cy ad g) : ∃ pst_ : Int32 → (Nat → Nat) → List (Nat × va_E) → Prop, cMi l yX11_lies wq_k_X11_lies { frames := 1, cells := 0, slots := 0, locals := 22 } 2 0 0 0 D cy (fun i => ad ([0, 118].getD i 0)) (fun i => cup [] g ([0, 118].getD i 0)) [.ref (ad ([0, 118].getD 0 0)), .int n] pst_ ∧ ∀ (r : Int32) (nw : Nat → Nat) (l' : List (Nat × va_E)), pst_ r nw l' → INV cy ad (cup (cmrg 173 2 [0, 118] l' []) g) ∧ TK g (cup (cmrg 173 2 [0, 118] l' []) g) := by
  have c0 := cp_0 hI
  obtain ⟨x0_1, x0_13, e0, b0_1, b0_13⟩ := c0
  have c118 := cp_118 hI
  obtain ⟨f118, e118⟩ := c118
  refine ⟨_, k_X11_lies l D cy _ _ (u0_0 := .ref (ad 1)) (u0_1 := .int x0_1) (u0_2 := .ref (ad 2)) (u0_3 := .ref (ad 21)) (u0_4 := .ref (ad 38)) (u0_5 := .ref (ad 42)) (u0_6 := .ref (ad 55)) (u0_7 := .ref (ad 59)) (u0_8 := .ref (ad 62)) (u0_9 := .ref (ad 74)) (u0_10 := .ref (ad 88)) (u0_11 := .ref (ad 101)) (c1 := f118) (x0_13 := x0_13) e0 e118 b0_13, fun r nw l' hw => ?_⟩
  obtain rfl := hw
  refine mrg_case (P := fun g1 => INV cy ad g1 ∧ TK g g1) (lk := []) ?_ ?_
  · rfl
  refine ⟨INV_up hI ?_ ?_ ?_, (by rw [cup_far rfl]), (by rw [cup_far rfl])⟩
  · exact (fun _ h => absurd h List.not_mem_nil)
  · exact (by rw [cup_far (S := 56) rfl, cup_far (S := 57) rfl]; exact hI.2.1)
  · exact (by have z := hI.2.2; rw [cup_far (S := 138) rfl, cup_far (S := 142) rfl, cup_far (S := 136) rfl, cup_far (S := 119) rfl]; exact z)

set_option maxHeartbeats 8000000 in
set_option maxRecDepth 100000 in
theorem sm_X12_lies {D : va_G} {cy : Nat → ClassId} {ad : Nat → Nat} {g : Nat → va_E} (l : Launch) (n : Int32) (hI : INV cy ad g) : ∃ pst_ : Int32 → (Nat → Nat) → List (Nat × va_E) → Prop, cMi l yX12_lies wq_k_X12_lies { frames := 1, cells := 0, slots := 0, locals := 22 } 2 0 0 0 D cy (fun i => ad ([119, 163].getD i 0)) (fun i => cup [] g ([119, 163].getD i 0)) [.ref (ad ([119, 163].getD 0 0)), .int n] pst_ ∧ ∀ (r : Int32) (nw : Nat → Nat) (l' : List (Nat × va_E)), pst_ r nw l' → INV cy ad (cup (cmrg 173 2 [119, 163] l' []) g) ∧ TK g (cup (cmrg 173 2 [119, 163] l' []) g) := by
  have c119 := cp_119 hI
  obtain ⟨x119_2, x119_3, x119_4, x119_5, x119_6, x119_7, x119_8, x119_9, w119_10, x119_36, x119_37, x119_38, x119_39, x119_40, x119_56, x119_57, x119_59, x119_60, x119_62, x119_70, x119_71, e119, b119_2, b119_3, b119_4, b119_6, b119_7, b119_8, b119_36, b119_37, b119_38, b119_39, b119_40, b119_56, b119_59, b119_60, b119_62, b119_70, b119_71, hU119⟩ := c119
  have c163 := cp_163 hI
  obtain ⟨f163, e163⟩ := c163
  refine ⟨_, k_X12_lies l D cy _ _ (u0_0 := .ref (ad 120)) (u0_1 := .ref (ad 121)) (u0_2 := .int x119_2) (u0_3 := .int x119_3) (u0_4 := .int x119_4) (u0_5 := .int x119_5) (u0_6 := .int x119_6) (u0_7 := .int x119_7) (u0_8 := .int x119_8) (u0_9 := .int x119_9) (u0_10 := .long w119_10) (u0_11 := .ref (ad 122)) (u0_12 := .ref (ad 123)) (u0_13 := .ref (ad 124)) (u0_14 := .ref (ad 125)) (u0_15 := .ref (ad 126)) (u0_16 := .ref (ad 127)) (u0_17 := .ref (ad 128)) (u0_18 := .ref (ad 129)) (u0_19 := .ref (ad 130)) (u0_20 := .ref (ad 131)) (u0_21 := .ref (ad 132)) (u0_22 := .ref (ad 133)) (u0_23 := .ref (ad 134)) (u0_24 := .ref (ad 135)) (u0_25 := .ref (ad 136)) (u0_26 := .ref (ad 137)) (u0_27 := .ref (ad 138)) (u0_28 := .ref (ad 139)) (u0_29 := .ref (ad 140)) (u0_30 := .ref (ad 141)) (u0_31 := .ref (ad 142)) (u0_32 := .ref (ad 143)) (u0_33 := .ref (ad 144)) (u0_34 := .ref (ad 145)) (u0_35 := .ref (ad 146)) (u0_36 := .int x119_36) (u0_37 := .int x119_37) (u0_38 := .int x119_38) (u0_39 := .int x119_39) (u0_40 := .int x119_40) (u0_41 := .ref (ad 147)) (u0_42 := .ref (ad 148)) (u0_43 := .ref (ad 149)) (u0_44 := .ref (ad 150)) (u0_45 := .ref (ad 151)) (u0_46 := .ref (ad 152)) (u0_47 := .ref (ad 153)) (u0_48 := .ref (ad 154)) (u0_49 := .ref (ad 155)) (u0_50 := .ref (ad 156)) (u0_51 := .ref (ad 157)) (u0_52 := .ref (ad 158)) (u0_53 := .ref (ad 159)) (u0_54 := .ref (ad 160)) (u0_55 := .ref (ad 161)) (u0_56 := .int x119_56) (u0_57 := .int x119_57) (u0_58 := .ref (ad 162)) (u0_59 := .int x119_59) (u0_60 := .int x119_60) (c1 := f163) (x0_62 := x119_62) (u0_63 := .ref (ad 164)) (u0_64 := .ref (ad 165)) (u0_65 := .ref (ad 166)) (u0_66 := .ref (ad 167)) (u0_67 := .ref (ad 168)) (u0_68 := .ref (ad 169)) (u0_69 := .ref (ad 170)) (u0_70 := .int x119_70) (u0_71 := .int x119_71) (u0_72 := .ref (ad 171)) (u0_73 := .ref (ad 172)) e119 e163 b119_62, fun r nw l' hw => ?_⟩
  obtain rfl := hw
  refine mrg_case (P := fun g1 => INV cy ad g1 ∧ TK g g1) (lk := []) ?_ ?_
  · rfl
  refine ⟨INV_up hI ?_ ?_ ?_, (by rw [cup_far rfl]), (by rw [cup_far rfl])⟩
  · exact (fun _ h => absurd h List.not_mem_nil)
  · exact (by rw [cup_far (S := 56) rfl, cup_far (S := 57) rfl]; exact hI.2.1)
  · exact (by have z := hI.2.2; rw [cup_far (S := 138) rfl, cup_far (S := 142) rfl, cup_far (S := 136) rfl, cup_far (S := 119) rfl]; exact z)

set_option maxHeartbeats 8000000 in
set_option maxRecDepth 100000 in
theorem sm_X11_sight {D : va_G} {cy : Nat → ClassId} {ad : Nat → Nat} {g : Nat → va_E} (l : Launch) (minute bird count : Int32) (hI : INV cy ad g) : ∃ pst_ : Int32 → (Nat → Nat) → List (Nat × va_E) → Prop, cMi l yX11_sight wq_k_X11_sight { frames := 2, cells := 0, slots := 0, locals := 43 } 8 0 0 0 D cy (fun i => ad ([0, 21, 101, 102, 103, 104, 105, 106].getD i 0)) (fun i => cup [] g ([0, 21, 101, 102, 103, 104, 105, 106].getD i 0)) [.ref (ad ([0, 21, 101, 102, 103, 104, 105, 106].getD 0 0)), .int minute, .int bird, .int count] pst_ ∧ ∀ (r : Int32) (nw : Nat → Nat) (l' : List (Nat × va_E)), pst_ r nw l' → INV cy ad (cup (cmrg 173 8 [0, 21, 101, 102, 103, 104, 105, 106] l' []) g) ∧ TK g (cup (cmrg 173 8 [0, 21, 101, 102, 103, 104, 105, 106] l' []) g) := by
  have c0 := cp_0 hI
  obtain ⟨x0_1, x0_13, e0, b0_1, b0_13⟩ := c0
  have c21 := cp_21 hI
  obtain ⟨x21_5, x21_11, x21_15, x21_16, e21, b21_5, b21_11, b21_16⟩ := c21
  have c101 := cp_101 hI
  obtain ⟨x101_7, x101_8, x101_11, x101_13, x101_14, x101_15, e101, b101_7, b101_8⟩ := c101
  have c102 := cp_102 hI
  obtain ⟨f102, e102⟩ := c102
  have c103 := cp_103 hI
  obtain ⟨f103, e103, h103⟩ := c103
  have c104 := cp_104 hI
  obtain ⟨f104, e104⟩ := c104
  have c105 := cp_105 hI
  obtain ⟨f105, e105⟩ := c105
  have c106 := cp_106 hI
  obtain ⟨f106, e106⟩ := c106
  refine ⟨_, k_X11_sight l D cy _ _ (u0_0 := .ref (ad 1)) (u0_1 := .int x0_1) (u0_2 := .ref (ad 2)) (u1_0 := .ref (ad 22)) (u1_1 := .ref (ad 23)) (u1_2 := .ref (ad 24)) (u1_3 := .ref (ad 25)) (u1_4 := .ref (ad 26)) (x1_5 := x21_5) (u1_6 := .ref (ad 27)) (u1_7 := .ref (ad 28)) (u1_8 := .ref (ad 29)) (u1_9 := .ref (ad 30)) (u1_10 := .ref (ad 31)) (u1_11 := .int x21_11) (u1_12 := .ref (ad 32)) (u1_13 := .ref (ad 33)) (u1_14 := .ref (ad 34)) (u1_15 := .int x21_15) (u1_16 := .int x21_16) (u1_17 := .ref (ad 35)) (u0_4 := .ref (ad 38)) (u0_5 := .ref (ad 42)) (u0_6 := .ref (ad 55)) (u0_7 := .ref (ad 59)) (u0_8 := .ref (ad 62)) (u0_9 := .ref (ad 74)) (u0_10 := .ref (ad 88)) (u2_0 := .ref (ad 21)) (u2_1 := .ref (ad 110)) (c3 := f102) (c4 := f103) (c5 := f104) (c6 := f105) (c7 := f106) (x2_7 := x101_7) (x2_8 := x101_8) (u2_9 := .ref (ad 107)) (u2_10 := .ref (ad 108)) (u2_11 := .int x101_11) (u2_12 := .ref (ad 109)) (u2_13 := .int x101_13) (u2_14 := .int x101_14) (u2_15 := .int x101_15) (u0_12 := .ref (ad 118)) (u0_13 := .int x0_13) e0 e21 e101 e102 e103 e104 e105 e106 b21_5 b101_7 b101_8 h103, fun r nw l' hw => ?_⟩
  obtain ⟨n_y2_7, n_d3, n_d4, n_d5, n_d6, n_d7, z0, z1, z2, rfl⟩ := hw
  refine mrg_case (P := fun g1 => INV cy ad g1 ∧ TK g g1) (lk := [(101, .inr (8, [.ref (ad 21), .ref (ad 110), .ref (ad 102), .ref (ad 103), .ref (ad 104), .ref (ad 105), .ref (ad 106), .int n_y2_7, .int x101_8, .ref (ad 107), .ref (ad 108), .int x101_11, .ref (ad 109), .int x101_13, .int x101_14, .int x101_15])), (102, .inl (cy 0, 30, .inl n_d3)), (103, .inl (cy 0, 30, .inl n_d4)), (104, .inl (cy 0, 30, .inl n_d5)), (105, .inl (cy 0, 30, .inl n_d6)), (106, .inl (cy 0, 30, .inl n_d7))]) ?_ ?_
  · rfl
  refine ⟨INV_up hI ?_ ?_ ?_, (by rw [e101]; rfl), (by rw [cup_far rfl])⟩
  · exact (List.forall_mem_cons.mpr ⟨(cs_101 ⟨n_y2_7, x101_8, x101_11, x101_13, x101_14, x101_15, rfl, z0, b101_8⟩), (List.forall_mem_cons.mpr ⟨(cs_102 ⟨n_d3, rfl⟩), (List.forall_mem_cons.mpr ⟨(cs_103 ⟨n_d4, rfl, z1⟩), (List.forall_mem_cons.mpr ⟨(cs_104 ⟨n_d5, rfl⟩), (List.forall_mem_cons.mpr ⟨(cs_105 ⟨n_d6, rfl⟩), (List.forall_mem_cons.mpr ⟨(cs_106 ⟨n_d7, rfl⟩), (fun _ h => absurd h List.not_mem_nil)⟩)⟩)⟩)⟩)⟩)⟩)
  · exact (by rw [cup_far (S := 56) rfl, cup_far (S := 57) rfl]; exact hI.2.1)
  · exact (by have z := hI.2.2; rw [cup_far (S := 138) rfl, cup_far (S := 142) rfl, cup_far (S := 136) rfl, cup_far (S := 119) rfl]; exact z)

set_option maxHeartbeats 8000000 in
set_option maxRecDepth 100000 in
theorem sm_X12_sight {D : va_G} {cy : Nat → ClassId} {ad : Nat → Nat} {g : Nat → va_E} (l : Launch) (minute bx its : Int32) (hI : INV cy ad g) : ∃ pst_ : Int32 → (Nat → Nat) → List (Nat × va_E) → Prop, cMi l yX12_sight wq_k_X12_sight { frames := 2, cells := 0, slots := 0, locals := 43 } 7 0 0 0 D cy (fun i => ad ([119, 122, 166, 167, 168, 169, 170].getD i 0)) (fun i => cup [] g ([119, 122, 166, 167, 168, 169, 170].getD i 0)) [.ref (ad ([119, 122, 166, 167, 168, 169, 170].getD 0 0)), .int minute, .int bx, .int its] pst_ ∧ ∀ (r : Int32) (nw : Nat → Nat) (l' : List (Nat × va_E)), pst_ r nw l' → INV cy ad (cup (cmrg 173 7 [119, 122, 166, 167, 168, 169, 170] l' []) g) ∧ TK g (cup (cmrg 173 7 [119, 122, 166, 167, 168, 169, 170] l' []) g) := by
  have c119 := cp_119 hI
  obtain ⟨x119_2, x119_3, x119_4, x119_5, x119_6, x119_7, x119_8, x119_9, w119_10, x119_36, x119_37, x119_38, x119_39, x119_40, x119_56, x119_57, x119_59, x119_60, x119_62, x119_70, x119_71, e119, b119_2, b119_3, b119_4, b119_6, b119_7, b119_8, b119_36, b119_37, b119_38, b119_39, b119_40, b119_56, b119_59, b119_60, b119_62, b119_70, b119_71, hU119⟩ := c119
  have c122 := cp_122 hI
  obtain ⟨f122, e122, h122⟩ := c122
  have c166 := cp_166 hI
  obtain ⟨f166, e166⟩ := c166
  have c167 := cp_167 hI
  obtain ⟨f167, e167, h167⟩ := c167
  have c168 := cp_168 hI
  obtain ⟨f168, e168⟩ := c168
  have c169 := cp_169 hI
  obtain ⟨f169, e169⟩ := c169
  have c170 := cp_170 hI
  obtain ⟨f170, e170⟩ := c170
  refine ⟨_, k_X12_sight l D cy _ _ (u0_0 := .ref (ad 120)) (u0_1 := .ref (ad 121)) (u0_2 := .int x119_2) (u0_3 := .int x119_3) (u0_4 := .int x119_4) (u0_5 := .int x119_5) (u0_6 := .int x119_6) (u0_7 := .int x119_7) (u0_8 := .int x119_8) (u0_9 := .int x119_9) (u0_10 := .long w119_10) (c1 := f122) (u0_12 := .ref (ad 123)) (u0_13 := .ref (ad 124)) (u0_14 := .ref (ad 125)) (u0_15 := .ref (ad 126)) (u0_16 := .ref (ad 127)) (u0_17 := .ref (ad 128)) (u0_18 := .ref (ad 129)) (u0_19 := .ref (ad 130)) (u0_20 := .ref (ad 131)) (u0_21 := .ref (ad 132)) (u0_22 := .ref (ad 133)) (u0_23 := .ref (ad 134)) (u0_24 := .ref (ad 135)) (u0_25 := .ref (ad 136)) (u0_26 := .ref (ad 137)) (u0_27 := .ref (ad 138)) (u0_28 := .ref (ad 139)) (u0_29 := .ref (ad 140)) (u0_30 := .ref (ad 141)) (u0_31 := .ref (ad 142)) (u0_32 := .ref (ad 143)) (u0_33 := .ref (ad 144)) (u0_34 := .ref (ad 145)) (u0_35 := .ref (ad 146)) (x0_36 := x119_36) (u0_37 := .int x119_37) (u0_38 := .int x119_38) (u0_39 := .int x119_39) (u0_40 := .int x119_40) (u0_41 := .ref (ad 147)) (u0_42 := .ref (ad 148)) (u0_43 := .ref (ad 149)) (u0_44 := .ref (ad 150)) (u0_45 := .ref (ad 151)) (u0_46 := .ref (ad 152)) (u0_47 := .ref (ad 153)) (u0_48 := .ref (ad 154)) (u0_49 := .ref (ad 155)) (u0_50 := .ref (ad 156)) (u0_51 := .ref (ad 157)) (u0_52 := .ref (ad 158)) (u0_53 := .ref (ad 159)) (u0_54 := .ref (ad 160)) (u0_55 := .ref (ad 161)) (u0_56 := .int x119_56) (u0_57 := .int x119_57) (u0_58 := .ref (ad 162)) (u0_59 := .int x119_59) (u0_60 := .int x119_60) (u0_61 := .ref (ad 163)) (u0_62 := .int x119_62) (u0_63 := .ref (ad 164)) (u0_64 := .ref (ad 165)) (c2 := f166) (c3 := f167) (c4 := f168) (c5 := f169) (c6 := f170) (x0_70 := x119_70) (x0_71 := x119_71) (u0_72 := .ref (ad 171)) (u0_73 := .ref (ad 172)) e119 e122 e166 e167 e168 e169 e170 b119_36 b119_70 b119_71 h122 h167, fun r nw l' hw => ?_⟩
  obtain ⟨n_y0_70, n_d2, n_d3, n_d4, n_d5, n_d6, z0, z1, z2, rfl⟩ := hw
  refine mrg_case (P := fun g1 => INV cy ad g1 ∧ TK g g1) (lk := [(119, .inr (12, [.ref (ad 120), .ref (ad 121), .int x119_2, .int x119_3, .int x119_4, .int x119_5, .int x119_6, .int x119_7, .int x119_8, .int x119_9, .long w119_10, .ref (ad 122), .ref (ad 123), .ref (ad 124), .ref (ad 125), .ref (ad 126), .ref (ad 127), .ref (ad 128), .ref (ad 129), .ref (ad 130), .ref (ad 131), .ref (ad 132), .ref (ad 133), .ref (ad 134), .ref (ad 135), .ref (ad 136), .ref (ad 137), .ref (ad 138), .ref (ad 139), .ref (ad 140), .ref (ad 141), .ref (ad 142), .ref (ad 143), .ref (ad 144), .ref (ad 145), .ref (ad 146), .int x119_36, .int x119_37, .int x119_38, .int x119_39, .int x119_40, .ref (ad 147), .ref (ad 148), .ref (ad 149), .ref (ad 150), .ref (ad 151), .ref (ad 152), .ref (ad 153), .ref (ad 154), .ref (ad 155), .ref (ad 156), .ref (ad 157), .ref (ad 158), .ref (ad 159), .ref (ad 160), .ref (ad 161), .int x119_56, .int x119_57, .ref (ad 162), .int x119_59, .int x119_60, .ref (ad 163), .int x119_62, .ref (ad 164), .ref (ad 165), .ref (ad 166), .ref (ad 167), .ref (ad 168), .ref (ad 169), .ref (ad 170), .int n_y0_70, .int x119_71, .ref (ad 171), .ref (ad 172)])), (166, .inl (cy 0, 30, .inl n_d2)), (167, .inl (cy 0, 30, .inl n_d3)), (168, .inl (cy 0, 30, .inl n_d4)), (169, .inl (cy 0, 30, .inl n_d5)), (170, .inl (cy 0, 30, .inl n_d6))]) ?_ ?_
  · rfl
  refine ⟨INV_up hI ?_ ?_ ?_, (by rw [cup_far rfl]), (by rw [e119]; rfl)⟩
  · exact (List.forall_mem_cons.mpr ⟨(cs_119 ⟨x119_2, x119_3, x119_4, x119_5, x119_6, x119_7, x119_8, x119_9, w119_10, x119_36, x119_37, x119_38, x119_39, x119_40, x119_56, x119_57, x119_59, x119_60, x119_62, n_y0_70, x119_71, rfl, b119_2, b119_3, b119_4, b119_6, b119_7, b119_8, b119_36, b119_37, b119_38, b119_39, b119_40, b119_56, b119_59, b119_60, b119_62, z0, b119_71, hU119⟩), (List.forall_mem_cons.mpr ⟨(cs_166 ⟨n_d2, rfl⟩), (List.forall_mem_cons.mpr ⟨(cs_167 ⟨n_d3, rfl, z1⟩), (List.forall_mem_cons.mpr ⟨(cs_168 ⟨n_d4, rfl⟩), (List.forall_mem_cons.mpr ⟨(cs_169 ⟨n_d5, rfl⟩), (List.forall_mem_cons.mpr ⟨(cs_170 ⟨n_d6, rfl⟩), (fun _ h => absurd h List.not_mem_nil)⟩)⟩)⟩)⟩)⟩)⟩)
  · exact (by rw [cup_far (S := 56) rfl, cup_far (S := 57) rfl]; exact hI.2.1)
  · exact (by have z := hI.2.2; rw [e119] at z; rw [cup_far (S := 138) rfl, cup_far (S := 142) rfl, cup_far (S := 136) rfl]; exact z)

set_option maxHeartbeats 8000000 in
set_option maxRecDepth 100000 in
theorem sm_X11_untell {D : va_G} {cy : Nat → ClassId} {ad : Nat → Nat} {g : Nat → va_E} (l : Launch) (sight : Int32) (hI : INV cy ad g) : ∃ pst_ : Int32 → (Nat → Nat) → List (Nat × va_E) → Prop, cMi l yX11_untell wq_k_X11_untell { frames := 2, cells := 0, slots := 0, locals := 43 } 3 0 0 0 D cy (fun i => ad ([0, 101, 106].getD i 0)) (fun i => cup [] g ([0, 101, 106].getD i 0)) [.ref (ad ([0, 101, 106].getD 0 0)), .int sight] pst_ ∧ ∀ (r : Int32) (nw : Nat → Nat) (l' : List (Nat × va_E)), pst_ r nw l' → INV cy ad (cup (cmrg 173 3 [0, 101, 106] l' []) g) ∧ TK g (cup (cmrg 173 3 [0, 101, 106] l' []) g) := by
  have c0 := cp_0 hI
  obtain ⟨x0_1, x0_13, e0, b0_1, b0_13⟩ := c0
  have c101 := cp_101 hI
  obtain ⟨x101_7, x101_8, x101_11, x101_13, x101_14, x101_15, e101, b101_7, b101_8⟩ := c101
  have c106 := cp_106 hI
  obtain ⟨f106, e106⟩ := c106
  refine ⟨_, k_X11_untell l D cy _ _ (u0_0 := .ref (ad 1)) (u0_1 := .int x0_1) (u0_2 := .ref (ad 2)) (u0_3 := .ref (ad 21)) (u0_4 := .ref (ad 38)) (u0_5 := .ref (ad 42)) (u0_6 := .ref (ad 55)) (u0_7 := .ref (ad 59)) (u0_8 := .ref (ad 62)) (u0_9 := .ref (ad 74)) (u0_10 := .ref (ad 88)) (u1_0 := .ref (ad 21)) (u1_1 := .ref (ad 110)) (u1_2 := .ref (ad 102)) (u1_3 := .ref (ad 103)) (u1_4 := .ref (ad 104)) (u1_5 := .ref (ad 105)) (c2 := f106) (x1_7 := x101_7) (x1_8 := x101_8) (u1_9 := .ref (ad 107)) (u1_10 := .ref (ad 108)) (u1_11 := .int x101_11) (u1_12 := .ref (ad 109)) (u1_13 := .int x101_13) (u1_14 := .int x101_14) (u1_15 := .int x101_15) (u0_12 := .ref (ad 118)) (u0_13 := .int x0_13) e0 e101 e106 b101_7 b101_8, fun r nw l' hw => ?_⟩
  obtain ⟨n_d2, z0, rfl⟩ := hw
  refine mrg_case (P := fun g1 => INV cy ad g1 ∧ TK g g1) (lk := [(106, .inl (cy 0, 30, .inl n_d2))]) ?_ ?_
  · rfl
  refine ⟨INV_up hI ?_ ?_ ?_, (by rw [cup_far rfl]), (by rw [cup_far rfl])⟩
  · exact (List.forall_mem_cons.mpr ⟨(cs_106 ⟨n_d2, rfl⟩), (fun _ h => absurd h List.not_mem_nil)⟩)
  · exact (by rw [cup_far (S := 56) rfl, cup_far (S := 57) rfl]; exact hI.2.1)
  · exact (by have z := hI.2.2; rw [cup_far (S := 138) rfl, cup_far (S := 142) rfl, cup_far (S := 136) rfl, cup_far (S := 119) rfl]; exact z)

set_option maxHeartbeats 8000000 in
set_option maxRecDepth 100000 in
theorem sm_X12_untell {D : va_G} {cy : Nat → ClassId} {ad : Nat → Nat} {g : Nat → va_E} (l : Launch) (n : Int32) (hI : INV cy ad g) : ∃ pst_ : Int32 → (Nat → Nat) → List (Nat × va_E) → Prop, cMi l yX12_untell wq_k_X12_untell { frames := 1, cells := 0, slots := 0, locals := 22 } 2 0 0 0 D cy (fun i => ad ([119, 170].getD i 0)) (fun i => cup [] g ([119, 170].getD i 0)) [.ref (ad ([119, 170].getD 0 0)), .int n] pst_ ∧ ∀ (r : Int32) (nw : Nat → Nat) (l' : List (Nat × va_E)), pst_ r nw l' → INV cy ad (cup (cmrg 173 2 [119, 170] l' []) g) ∧ TK g (cup (cmrg 173 2 [119, 170] l' []) g) := by
  have c119 := cp_119 hI
  obtain ⟨x119_2, x119_3, x119_4, x119_5, x119_6, x119_7, x119_8, x119_9, w119_10, x119_36, x119_37, x119_38, x119_39, x119_40, x119_56, x119_57, x119_59, x119_60, x119_62, x119_70, x119_71, e119, b119_2, b119_3, b119_4, b119_6, b119_7, b119_8, b119_36, b119_37, b119_38, b119_39, b119_40, b119_56, b119_59, b119_60, b119_62, b119_70, b119_71, hU119⟩ := c119
  have c170 := cp_170 hI
  obtain ⟨f170, e170⟩ := c170
  refine ⟨_, k_X12_untell l D cy _ _ (u0_0 := .ref (ad 120)) (u0_1 := .ref (ad 121)) (u0_2 := .int x119_2) (u0_3 := .int x119_3) (u0_4 := .int x119_4) (u0_5 := .int x119_5) (u0_6 := .int x119_6) (u0_7 := .int x119_7) (u0_8 := .int x119_8) (u0_9 := .int x119_9) (u0_10 := .long w119_10) (u0_11 := .ref (ad 122)) (u0_12 := .ref (ad 123)) (u0_13 := .ref (ad 124)) (u0_14 := .ref (ad 125)) (u0_15 := .ref (ad 126)) (u0_16 := .ref (ad 127)) (u0_17 := .ref (ad 128)) (u0_18 := .ref (ad 129)) (u0_19 := .ref (ad 130)) (u0_20 := .ref (ad 131)) (u0_21 := .ref (ad 132)) (u0_22 := .ref (ad 133)) (u0_23 := .ref (ad 134)) (u0_24 := .ref (ad 135)) (u0_25 := .ref (ad 136)) (u0_26 := .ref (ad 137)) (u0_27 := .ref (ad 138)) (u0_28 := .ref (ad 139)) (u0_29 := .ref (ad 140)) (u0_30 := .ref (ad 141)) (u0_31 := .ref (ad 142)) (u0_32 := .ref (ad 143)) (u0_33 := .ref (ad 144)) (u0_34 := .ref (ad 145)) (u0_35 := .ref (ad 146)) (u0_36 := .int x119_36) (u0_37 := .int x119_37) (u0_38 := .int x119_38) (u0_39 := .int x119_39) (u0_40 := .int x119_40) (u0_41 := .ref (ad 147)) (u0_42 := .ref (ad 148)) (u0_43 := .ref (ad 149)) (u0_44 := .ref (ad 150)) (u0_45 := .ref (ad 151)) (u0_46 := .ref (ad 152)) (u0_47 := .ref (ad 153)) (u0_48 := .ref (ad 154)) (u0_49 := .ref (ad 155)) (u0_50 := .ref (ad 156)) (u0_51 := .ref (ad 157)) (u0_52 := .ref (ad 158)) (u0_53 := .ref (ad 159)) (u0_54 := .ref (ad 160)) (u0_55 := .ref (ad 161)) (u0_56 := .int x119_56) (u0_57 := .int x119_57) (u0_58 := .ref (ad 162)) (u0_59 := .int x119_59) (u0_60 := .int x119_60) (u0_61 := .ref (ad 163)) (u0_62 := .int x119_62) (u0_63 := .ref (ad 164)) (u0_64 := .ref (ad 165)) (u0_65 := .ref (ad 166)) (u0_66 := .ref (ad 167)) (u0_67 := .ref (ad 168)) (u0_68 := .ref (ad 169)) (c1 := f170) (x0_70 := x119_70) (x0_71 := x119_71) (u0_72 := .ref (ad 171)) (u0_73 := .ref (ad 172)) e119 e170 b119_70 b119_71, fun r nw l' hw => ?_⟩
  obtain ⟨n_d1, z0, rfl⟩ := hw
  refine mrg_case (P := fun g1 => INV cy ad g1 ∧ TK g g1) (lk := [(170, .inl (cy 0, 30, .inl n_d1))]) ?_ ?_
  · rfl
  refine ⟨INV_up hI ?_ ?_ ?_, (by rw [cup_far rfl]), (by rw [cup_far rfl])⟩
  · exact (List.forall_mem_cons.mpr ⟨(cs_170 ⟨n_d1, rfl⟩), (fun _ h => absurd h List.not_mem_nil)⟩)
  · exact (by rw [cup_far (S := 56) rfl, cup_far (S := 57) rfl]; exact hI.2.1)
  · exact (by have z := hI.2.2; rw [cup_far (S := 138) rfl, cup_far (S := 142) rfl, cup_far (S := 136) rfl, cup_far (S := 119) rfl]; exact z)

