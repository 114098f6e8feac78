set_option maxHeartbeats 8000000 in
set_option maxRecDepth 100000 in
theorem sm_X12_teach {D : va_G} {cy : Nat → ClassId} {ad : Nat → Nat} {g : Nat → va_E} (l : Launch) (so : Int32) (hI : INV cy ad g) : ∃ post : Int32 → (Nat → Nat) → List (Nat × va_E) → Prop, cMi l yX12_teach wq_k_X12_teach { frames := 4, cells := 0, slots := 0, locals := 97 } 31 0 0 0 D cy (fun i => ad ([119, 122, 165, 147, 123, 132, 133, 148, 149, 150, 151, 152, 160, 127, 128, 130, 131, 136, 138, 142, 143, 146, 153, 154, 155, 156, 157, 158, 159, 161, 163].getD i 0)) (fun i => cup [] g ([119, 122, 165, 147, 123, 132, 133, 148, 149, 150, 151, 152, 160, 127, 128, 130, 131, 136, 138, 142, 143, 146, 153, 154, 155, 156, 157, 158, 159, 161, 163].getD i 0)) [.ref (ad ([119, 122, 165, 147, 123, 132, 133, 148, 149, 150, 151, 152, 160, 127, 128, 130, 131, 136, 138, 142, 143, 146, 153, 154, 155, 156, 157, 158, 159, 161, 163].getD 0 0)), .int so] post ∧ ∀ (r : Int32) (nw : Nat → Nat) (l' : List (Nat × va_E)), post r nw l' → INV cy ad (cup (cmrg 173 31 [119, 122, 165, 147, 123, 132, 133, 148, 149, 150, 151, 152, 160, 127, 128, 130, 131, 136, 138, 142, 143, 146, 153, 154, 155, 156, 157, 158, 159, 161, 163] l' []) g) ∧ TK g (cup (cmrg 173 31 [119, 122, 165, 147, 123, 132, 133, 148, 149, 150, 151, 152, 160, 127, 128, 130, 131, 136, 138, 142, 143, 146, 153, 154, 155, 156, 157, 158, 159, 161, 163] l' []) g) := by
  have c119 : CP_119 cy ad (g 119) := hI.1 119 (by decide)
  obtain ⟨x119_2, x119_3, x119_4, x119_5, x119_6, x119_7, x119_8, x119_9, w119_10, x119_36, x119_37, x119_38, x119_39, x119_40, x119_56, x119_57, x119_59, x119_60, x119_62, x119_70, x119_71, e119, b119_2, b119_3, b119_4, b119_6, b119_7, b119_8, b119_36, b119_37, b119_38, b119_39, b119_40, b119_56, b119_59, b119_60, b119_62, b119_70, b119_71, hU119⟩ := c119
  have c122 : CP_122 cy ad (g 122) := hI.1 122 (by decide)
  obtain ⟨f122, e122, h122⟩ := c122
  have c123 : CP_123 cy ad (g 123) := hI.1 123 (by decide)
  obtain ⟨f123, e123, h123⟩ := c123
  have c127 : CP_127 cy ad (g 127) := hI.1 127 (by decide)
  obtain ⟨f127, e127⟩ := c127
  have c128 : CP_128 cy ad (g 128) := hI.1 128 (by decide)
  obtain ⟨f128, e128⟩ := c128
  have c130 : CP_130 cy ad (g 130) := hI.1 130 (by decide)
  obtain ⟨f130, e130⟩ := c130
  have c131 : CP_131 cy ad (g 131) := hI.1 131 (by decide)
  obtain ⟨f131, e131⟩ := c131
  have c132 : CP_132 cy ad (g 132) := hI.1 132 (by decide)
  obtain ⟨f132, e132, h132⟩ := c132
  have c133 : CP_133 cy ad (g 133) := hI.1 133 (by decide)
  obtain ⟨f133, e133, h133⟩ := c133
  have c136 : CP_136 cy ad (g 136) := hI.1 136 (by decide)
  obtain ⟨f136, e136, h136⟩ := c136
  have c138 : CP_138 cy ad (g 138) := hI.1 138 (by decide)
  obtain ⟨f138, e138, h138⟩ := c138
  have c142 : CP_142 cy ad (g 142) := hI.1 142 (by decide)
  obtain ⟨f142, e142⟩ := c142
  have c143 : CP_143 cy ad (g 143) := hI.1 143 (by decide)
  obtain ⟨f143, e143⟩ := c143
  have c146 : CP_146 cy ad (g 146) := hI.1 146 (by decide)
  obtain ⟨f146, e146⟩ := c146
  have c147 : CP_147 cy ad (g 147) := hI.1 147 (by decide)
  obtain ⟨f147, e147, h147⟩ := c147
  have c148 : CP_148 cy ad (g 148) := hI.1 148 (by decide)
  obtain ⟨f148, e148⟩ := c148
  have c149 : CP_149 cy ad (g 149) := hI.1 149 (by decide)
  obtain ⟨f149, e149⟩ := c149
  have c150 : CP_150 cy ad (g 150) := hI.1 150 (by decide)
  obtain ⟨f150, e150⟩ := c150
  have c151 : CP_151 cy ad (g 151) := hI.1 151 (by decide)
  obtain ⟨f151, e151, h151⟩ := c151
  have c152 : CP_152 cy ad (g 152) := hI.1 152 (by decide)
  obtain ⟨f152, e152, h152⟩ := c152
  have c153 : CP_153 cy ad (g 153) := hI.1 153 (by decide)
  obtain ⟨f153, e153, h153⟩ := c153
  have c154 : CP_154 cy ad (g 154) := hI.1 154 (by decide)
  obtain ⟨f154, e154⟩ := c154
  have c155 : CP_155 cy ad (g 155) := hI.1 155 (by decide)
  obtain ⟨f155, e155⟩ := c155
  have c156 : CP_156 cy ad (g 156) := hI.1 156 (by decide)
  obtain ⟨f156, e156⟩ := c156
  have c157 : CP_157 cy ad (g 157) := hI.1 157 (by decide)
  obtain ⟨f157, e157⟩ := c157
  have c158 : CP_158 cy ad (g 158) := hI.1 158 (by decide)
  obtain ⟨f158, e158⟩ := c158
  have c159 : CP_159 cy ad (g 159) := hI.1 159 (by decide)
  obtain ⟨f159, e159⟩ := c159
  have c160 : CP_160 cy ad (g 160) := hI.1 160 (by decide)
  obtain ⟨f160, e160, h160⟩ := c160
  have c161 : CP_161 cy ad (g 161) := hI.1 161 (by decide)
  obtain ⟨f161, e161, h161⟩ := c161
  have c163 : CP_163 cy ad (g 163) := hI.1 163 (by decide)
  obtain ⟨f163, e163⟩ := c163
  have c165 : CP_165 cy ad (g 165) := hI.1 165 (by decide)
  obtain ⟨f165, e165, h165⟩ := c165
  have zfh := hI.2.2
  rw [e138, e142, e136, e119] at zfh
  have zkh := hI.2.1
  refine ⟨_, k_X12_teach l D cy _ _ (u0_0 := .ref (ad 120)) (u0_1 := .ref (ad 121)) (u0_2 := .int x119_2) (u0_3 := .int x119_3) (u0_4 := .int x119_4) (u0_5 := .int x119_5) (u0_6 := .int x119_6) (u0_7 := .int x119_7) (u0_8 := .int x119_8) (u0_9 := .int x119_9) (u0_10 := .long w119_10) (c1 := f122) (c4 := f123) (u0_13 := .ref (ad 124)) (u0_14 := .ref (ad 125)) (u0_15 := .ref (ad 126)) (c13 := f127) (c14 := f128) (u0_18 := .ref (ad 129)) (c15 := f130) (c16 := f131) (c5 := f132) (c6 := f133) (u0_23 := .ref (ad 134)) (u0_24 := .ref (ad 135)) (c17 := f136) (u0_26 := .ref (ad 137)) (c18 := f138) (u0_28 := .ref (ad 139)) (u0_29 := .ref (ad 140)) (u0_30 := .ref (ad 141)) (c19 := f142) (c20 := f143) (u0_33 := .ref (ad 144)) (u0_34 := .ref (ad 145)) (c21 := f146) (x0_36 := x119_36) (u0_37 := .int x119_37) (u0_38 := .int x119_38) (u0_39 := .int x119_39) (u0_40 := .int x119_40) (c3 := f147) (c7 := f148) (c8 := f149) (c9 := f150) (c10 := f151) (c11 := f152) (c22 := f153) (c23 := f154) (c24 := f155) (c25 := f156) (c26 := f157) (c27 := f158) (c28 := f159) (c12 := f160) (c29 := f161) (x0_56 := x119_56) (x0_57 := x119_57) (u0_58 := .ref (ad 162)) (u0_59 := .int x119_59) (u0_60 := .int x119_60) (c30 := f163) (x0_62 := x119_62) (u0_63 := .ref (ad 164)) (c2 := f165) (u0_65 := .ref (ad 166)) (u0_66 := .ref (ad 167)) (u0_67 := .ref (ad 168)) (u0_68 := .ref (ad 169)) (u0_69 := .ref (ad 170)) (u0_70 := .int x119_70) (u0_71 := .int x119_71) (u0_72 := .ref (ad 171)) (u0_73 := .ref (ad 172)) e119 e122 e165 e147 e123 e132 e133 e148 e149 e150 e151 e152 e160 e127 e128 e130 e131 e136 e138 e142 e143 e146 e153 e154 e155 e156 e157 e158 e159 e161 e163 b119_36 b119_56 b119_62 h122 h165 h147 h123 h132 h133 h151 h152 h160 h136 h138 h153 h161 zfh, fun r nw l' hw => ?_⟩
  obtain ⟨n_y0_56, n_y0_57, n_y0_62, n_d2, n_d7, n_d8, n_d9, n_d10, n_d11, n_d12, n_d21, n_d22, n_d23, n_d24, n_d25, n_d26, n_d27, n_d28, n_d29, n_d30, z0, z1, z2, z3, z4, z5, z6, z7, rfl⟩ := hw
  refine ⟨INV_mrg (lk := [(119, .inr (12, [.ref (ad 120), .ref (ad 121), .int x119_2, .int x119_3, .int x119_4, .int x119_5, .int x119_6, .int x119_7, .int x119_8, .int x119_9, .long w119_10, .ref (ad 122), .ref (ad 123), .ref (ad 124), .ref (ad 125), .ref (ad 126), .ref (ad 127), .ref (ad 128), .ref (ad 129), .ref (ad 130), .ref (ad 131), .ref (ad 132), .ref (ad 133), .ref (ad 134), .ref (ad 135), .ref (ad 136), .ref (ad 137), .ref (ad 138), .ref (ad 139), .ref (ad 140), .ref (ad 141), .ref (ad 142), .ref (ad 143), .ref (ad 144), .ref (ad 145), .ref (ad 146), .int x119_36, .int x119_37, .int x119_38, .int x119_39, .int x119_40, .ref (ad 147), .ref (ad 148), .ref (ad 149), .ref (ad 150), .ref (ad 151), .ref (ad 152), .ref (ad 153), .ref (ad 154), .ref (ad 155), .ref (ad 156), .ref (ad 157), .ref (ad 158), .ref (ad 159), .ref (ad 160), .ref (ad 161), .int n_y0_56, .int n_y0_57, .ref (ad 162), .int x119_59, .int x119_60, .ref (ad 163), .int n_y0_62, .ref (ad 164), .ref (ad 165), .ref (ad 166), .ref (ad 167), .ref (ad 168), .ref (ad 169), .ref (ad 170), .int x119_70, .int x119_71, .ref (ad 171), .ref (ad 172)])), (165, .inl (cy 0, 5, .inl n_d2)), (148, .inl (cy 0, 30, .inl n_d7)), (149, .inl (cy 0, 30, .inl n_d8)), (150, .inl (cy 0, 5, .inl n_d9)), (151, .inl (cy 0, 4, .inl n_d10)), (152, .inl (cy 0, 20, .inl n_d11)), (160, .inl (cy 2, 30, .inl n_d12)), (146, .inl (cy 0, 60, .inl n_d21)), (153, .inl (cy 0, 30, .inl n_d22)), (154, .inl (cy 0, 120, .inl n_d23)), (155, .inl (cy 0, 120, .inl n_d24)), (156, .inl (cy 0, 5, .inl n_d25)), (157, .inl (cy 0, 5, .inl n_d26)), (158, .inl (cy 0, 5, .inl n_d27)), (159, .inl (cy 0, 5, .inl n_d28)), (161, .inl (cy 2, 5, .inl n_d29)), (163, .inl (cy 0, 24, .inl n_d30))]) hI ?_ ?_ ?_ ?_, (fo_mrg rfl rfl), (fo_mrg rfl (by rw [e119]; rfl))⟩
  · rfl
  · exact (List.forall_mem_cons.mpr ⟨(show CP_119 cy ad _ from ⟨x119_2, x119_3, x119_4, x119_5, x119_6, x119_7, x119_8, x119_9, w119_10, x119_36, x119_37, x119_38, x119_39, x119_40, n_y0_56, n_y0_57, x119_59, x119_60, n_y0_62, x119_70, x119_71, rfl, b119_2, b119_3, b119_4, b119_6, b119_7, b119_8, b119_36, b119_37, b119_38, b119_39, b119_40, z0, b119_59, b119_60, (zi_w z1 (by decide)), b119_70, b119_71, hU119⟩), (List.forall_mem_cons.mpr ⟨(show CP_165 cy ad _ from ⟨n_d2, rfl, z2⟩), (List.forall_mem_cons.mpr ⟨(show CP_148 cy ad _ from ⟨n_d7, rfl⟩), (List.forall_mem_cons.mpr ⟨(show CP_149 cy ad _ from ⟨n_d8, rfl⟩), (List.forall_mem_cons.mpr ⟨(show CP_150 cy ad _ from ⟨n_d9, rfl⟩), (List.forall_mem_cons.mpr ⟨(show CP_151 cy ad _ from ⟨n_d10, rfl, z3⟩), (List.forall_mem_cons.mpr ⟨(show CP_152 cy ad _ from ⟨n_d11, rfl, z4⟩), (List.forall_mem_cons.mpr ⟨(show CP_160 cy ad _ from ⟨n_d12, rfl, z5⟩), (List.forall_mem_cons.mpr ⟨(show CP_146 cy ad _ from ⟨n_d21, rfl⟩), (List.forall_mem_cons.mpr ⟨(show CP_153 cy ad _ from ⟨n_d22, rfl, z6⟩), (List.forall_mem_cons.mpr ⟨(show CP_154 cy ad _ from ⟨n_d23, rfl⟩), (List.forall_mem_cons.mpr ⟨(show CP_155 cy ad _ from ⟨n_d24, rfl⟩), (List.forall_mem_cons.mpr ⟨(show CP_156 cy ad _ from ⟨n_d25, rfl⟩), (List.forall_mem_cons.mpr ⟨(show CP_157 cy ad _ from ⟨n_d26, rfl⟩), (List.forall_mem_cons.mpr ⟨(show CP_158 cy ad _ from ⟨n_d27, rfl⟩), (List.forall_mem_cons.mpr ⟨(show CP_159 cy ad _ from ⟨n_d28, rfl⟩), (List.forall_mem_cons.mpr ⟨(show CP_161 cy ad _ from ⟨n_d29, rfl, z7⟩), (List.forall_mem_cons.mpr ⟨(show CP_163 cy ad _ from ⟨n_d30, rfl⟩), (fun _ h => absurd h List.not_mem_nil)⟩)⟩)⟩)⟩)⟩)⟩)⟩)⟩)⟩)⟩)⟩)⟩)⟩)⟩)⟩)⟩)⟩)⟩)
  · exact zkh
  · exact zfh

set_option maxHeartbeats 8000000 in
set_option maxRecDepth 100000 in
theorem sm_X11_seats {D : va_G} {cy : Nat → ClassId} {ad : Nat → Nat} {g : Nat → va_E} (l : Launch)  (hI : INV cy ad g) : ∃ post : Int32 → (Nat → Nat) → List (Nat × va_E) → Prop, cMi l yX11_seats wq_k_X11_seats { frames := 5, cells := 0, slots := 0, locals := 125 } 32 0 0 0 D cy (fun i => ad ([0, 21, 88, 35, 38, 59, 93, 24, 25, 28, 29, 30, 31, 36, 37, 39, 40, 41, 60, 61, 94, 95, 96, 97, 98, 99, 100, 89, 90, 91, 92, 118].getD i 0)) (fun i => cup [] g ([0, 21, 88, 35, 38, 59, 93, 24, 25, 28, 29, 30, 31, 36, 37, 39, 40, 41, 60, 61, 94, 95, 96, 97, 98, 99, 100, 89, 90, 91, 92, 118].getD i 0)) [.ref (ad ([0, 21, 88, 35, 38, 59, 93, 24, 25, 28, 29, 30, 31, 36, 37, 39, 40, 41, 60, 61, 94, 95, 96, 97, 98, 99, 100, 89, 90, 91, 92, 118].getD 0 0))] post ∧ ∀ (r : Int32) (nw : Nat → Nat) (l' : List (Nat × va_E)), post r nw l' → INV cy ad (cup (cmrg 173 32 [0, 21, 88, 35, 38, 59, 93, 24, 25, 28, 29, 30, 31, 36, 37, 39, 40, 41, 60, 61, 94, 95, 96, 97, 98, 99, 100, 89, 90, 91, 92, 118] l' []) g) ∧ TK g (cup (cmrg 173 32 [0, 21, 88, 35, 38, 59, 93, 24, 25, 28, 29, 30, 31, 36, 37, 39, 40, 41, 60, 61, 94, 95, 96, 97, 98, 99, 100, 89, 90, 91, 92, 118] l' []) g) := by
  have c0 : CP_0 cy ad (g 0) := hI.1 0 (by decide)
  obtain ⟨x0_1, x0_13, e0, b0_1, b0_13⟩ := c0
  have c21 : CP_21 cy ad (g 21) := hI.1 21 (by decide)
  obtain ⟨x21_5, x21_11, x21_15, x21_16, e21, b21_5, b21_11, b21_16⟩ := c21
  have c24 : CP_24 cy ad (g 24) := hI.1 24 (by decide)
  obtain ⟨f24, e24⟩ := c24
  have c25 : CP_25 cy ad (g 25) := hI.1 25 (by decide)
  obtain ⟨f25, e25⟩ := c25
  have c28 : CP_28 cy ad (g 28) := hI.1 28 (by decide)
  obtain ⟨f28, e28⟩ := c28
  have c29 : CP_29 cy ad (g 29) := hI.1 29 (by decide)
  obtain ⟨f29, e29⟩ := c29
  have c30 : CP_30 cy ad (g 30) := hI.1 30 (by decide)
  obtain ⟨f30, e30, h30⟩ := c30
  have c31 : CP_31 cy ad (g 31) := hI.1 31 (by decide)
  obtain ⟨f31, e31, h31⟩ := c31
  have c35 : CP_35 cy ad (g 35) := hI.1 35 (by decide)
  obtain ⟨x35_1, x35_2, x35_3, e35, b35_1, b35_3⟩ := c35
  have c36 : CP_36 cy ad (g 36) := hI.1 36 (by decide)
  obtain ⟨f36, e36⟩ := c36
  have c37 : CP_37 cy ad (g 37) := hI.1 37 (by decide)
  obtain ⟨f37, e37⟩ := c37
  have c38 : CP_38 cy ad (g 38) := hI.1 38 (by decide)
  obtain ⟨x38_2, x38_4, e38, b38_4⟩ := c38
  have c39 : CP_39 cy ad (g 39) := hI.1 39 (by decide)
  obtain ⟨f39, e39⟩ := c39
  have c40 : CP_40 cy ad (g 40) := hI.1 40 (by decide)
  obtain ⟨f40, e40⟩ := c40
  have c41 : CP_41 cy ad (g 41) := hI.1 41 (by decide)
  obtain ⟨f41, e41⟩ := c41
  have c59 : CP_59 cy ad (g 59) := hI.1 59 (by decide)
  have e59 := c59
  have c60 : CP_60 cy ad (g 60) := hI.1 60 (by decide)
  obtain ⟨f60, e60⟩ := c60
  have c61 : CP_61 cy ad (g 61) := hI.1 61 (by decide)
  obtain ⟨f61, e61⟩ := c61
  have c88 : CP_88 cy ad (g 88) := hI.1 88 (by decide)
  obtain ⟨x88_5, e88, b88_5⟩ := c88
  have c89 : CP_89 cy ad (g 89) := hI.1 89 (by decide)
  obtain ⟨f89, e89, h89⟩ := c89
  have c90 : CP_90 cy ad (g 90) := hI.1 90 (by decide)
  obtain ⟨f90, e90⟩ := c90
  have c91 : CP_91 cy ad (g 91) := hI.1 91 (by decide)
  obtain ⟨f91, e91⟩ := c91
  have c92 : CP_92 cy ad (g 92) := hI.1 92 (by decide)
  obtain ⟨f92, e92⟩ := c92
  have c93 : CP_93 cy ad (g 93) := hI.1 93 (by decide)
  have e93 := c93
  have c94 : CP_94 cy ad (g 94) := hI.1 94 (by decide)
  obtain ⟨f94, e94⟩ := c94
  have c95 : CP_95 cy ad (g 95) := hI.1 95 (by decide)
  obtain ⟨f95, e95, h95⟩ := c95
  have c96 : CP_96 cy ad (g 96) := hI.1 96 (by decide)
  obtain ⟨f96, e96, h96⟩ := c96
  have c97 : CP_97 cy ad (g 97) := hI.1 97 (by decide)
  obtain ⟨f97, e97⟩ := c97
  have c98 : CP_98 cy ad (g 98) := hI.1 98 (by decide)
  obtain ⟨f98, e98⟩ := c98
  have c99 : CP_99 cy ad (g 99) := hI.1 99 (by decide)
  obtain ⟨f99, e99⟩ := c99
  have c100 : CP_100 cy ad (g 100) := hI.1 100 (by decide)
  obtain ⟨f100, e100⟩ := c100
  have c118 : CP_118 cy ad (g 118) := hI.1 118 (by decide)
  obtain ⟨f118, e118⟩ := c118
  have zfh := hI.2.2
  have zkh := hI.2.1
  refine ⟨_, k_X11_seats l D cy _ _ (u0_0 := .ref (ad 1)) (u0_1 := .int x0_1) (u0_2 := .ref (ad 2)) (u1_0 := .ref (ad 22)) (u1_1 := .ref (ad 23)) (c7 := f24) (c8 := f25) (u1_4 := .ref (ad 26)) (x1_5 := x21_5) (u1_6 := .ref (ad 27)) (c9 := f28) (c10 := f29) (c11 := f30) (c12 := f31) (x1_11 := x21_11) (u1_12 := .ref (ad 32)) (u1_13 := .ref (ad 33)) (u1_14 := .ref (ad 34)) (u1_15 := .int x21_15) (u1_16 := .int x21_16) (c13 := f36) (x3_1 := x35_1) (u3_2 := .int x35_2) (x3_3 := x35_3) (c14 := f37) (u0_4 := .ref (ad 38)) (u0_5 := .ref (ad 42)) (u0_6 := .ref (ad 55)) (u0_7 := .ref (ad 59)) (u0_8 := .ref (ad 62)) (u0_9 := .ref (ad 74)) (c15 := f39) (c16 := f40) (x4_2 := x38_2) (c17 := f41) (x4_4 := x38_4) (c18 := f60) (c19 := f61) (c20 := f94) (c21 := f95) (c22 := f96) (c23 := f97) (c24 := f98) (c25 := f99) (c26 := f100) (c27 := f89) (x2_5 := x88_5) (c28 := f90) (c29 := f91) (c30 := f92) (u0_11 := .ref (ad 101)) (c31 := f118) (x0_13 := x0_13) e0 e21 e88 e35 e38 e59 e93 e24 e25 e28 e29 e30 e31 e36 e37 e39 e40 e41 e60 e61 e94 e95 e96 e97 e98 e99 e100 e89 e90 e91 e92 e118 b0_13 b21_5 b21_11 b88_5 b35_1 b35_3 b38_4 h30 h31 h95 h96 h89, fun r nw l' hw => ?_⟩
  obtain ⟨n_y0_13, n_y2_5, n_d14, n_d18, n_d19, n_d20, n_d21, n_d22, n_d23, n_d24, n_d25, n_d26, n_d27, n_d28, n_d29, n_d30, n_d31, z0, z1, z2, z3, z4, rfl⟩ := hw
  refine ⟨INV_mrg (lk := [(0, .inr (11, [.ref (ad 1), .int x0_1, .ref (ad 2), .ref (ad 21), .ref (ad 38), .ref (ad 42), .ref (ad 55), .ref (ad 59), .ref (ad 62), .ref (ad 74), .ref (ad 88), .ref (ad 101), .ref (ad 118), .int n_y0_13])), (88, .inr (3, [.ref (ad 21), .ref (ad 38), .ref (ad 59), .ref (ad 93), .ref (ad 89), .int n_y2_5, .ref (ad 90), .ref (ad 91), .ref (ad 92)])), (37, .inl (cy 0, 30, .inl n_d14)), (60, .inl (cy 0, 80, .inl n_d18)), (61, .inl (cy 0, 80, .inl n_d19)), (94, .inl (cy 0, 5, .inl n_d20)), (95, .inl (cy 0, 20, .inl n_d21)), (96, .inl (cy 0, 4, .inl n_d22)), (97, .inl (cy 0, 5, .inl n_d23)), (98, .inl (cy 0, 5, .inl n_d24)), (99, .inl (cy 0, 5, .inl n_d25)), (100, .inl (cy 0, 5, .inl n_d26)), (89, .inl (cy 0, 24, .inl n_d27)), (90, .inl (cy 0, 5, .inl n_d28)), (91, .inl (cy 0, 128, .inl n_d29)), (92, .inl (cy 0, 5, .inl n_d30)), (118, .inl (cy 0, 24, .inl n_d31))]) hI ?_ ?_ ?_ ?_, (fo_mrg rfl rfl), (fo_mrg rfl rfl)⟩
  · rfl
  · exact (List.forall_mem_cons.mpr ⟨(show CP_0 cy ad _ from ⟨x0_1, n_y0_13, rfl, b0_1, (zi_w z0 (by decide))⟩), (List.forall_mem_cons.mpr ⟨(show CP_88 cy ad _ from ⟨n_y2_5, rfl, z1⟩), (List.forall_mem_cons.mpr ⟨(show CP_37 cy ad _ from ⟨n_d14, rfl⟩), (List.forall_mem_cons.mpr ⟨(show CP_60 cy ad _ from ⟨n_d18, rfl⟩), (List.forall_mem_cons.mpr ⟨(show CP_61 cy ad _ from ⟨n_d19, rfl⟩), (List.forall_mem_cons.mpr ⟨(show CP_94 cy ad _ from ⟨n_d20, rfl⟩), (List.forall_mem_cons.mpr ⟨(show CP_95 cy ad _ from ⟨n_d21, rfl, z2⟩), (List.forall_mem_cons.mpr ⟨(show CP_96 cy ad _ from ⟨n_d22, rfl, z3⟩), (List.forall_mem_cons.mpr ⟨(show CP_97 cy ad _ from ⟨n_d23, rfl⟩), (List.forall_mem_cons.mpr ⟨(show CP_98 cy ad _ from ⟨n_d24, rfl⟩), (List.forall_mem_cons.mpr ⟨(show CP_99 cy ad _ from ⟨n_d25, rfl⟩), (List.forall_mem_cons.mpr ⟨(show CP_100 cy ad _ from ⟨n_d26, rfl⟩), (List.forall_mem_cons.mpr ⟨(show CP_89 cy ad _ from ⟨n_d27, rfl, z4⟩), (List.forall_mem_cons.mpr ⟨(show CP_90 cy ad _ from ⟨n_d28, rfl⟩), (List.forall_mem_cons.mpr ⟨(show CP_91 cy ad _ from ⟨n_d29, rfl⟩), (List.forall_mem_cons.mpr ⟨(show CP_92 cy ad _ from ⟨n_d30, rfl⟩), (List.forall_mem_cons.mpr ⟨(show CP_118 cy ad _ from ⟨n_d31, rfl⟩), (fun _ h => absurd h List.not_mem_nil)⟩)⟩)⟩)⟩)⟩)⟩)⟩)⟩)⟩)⟩)⟩)⟩)⟩)⟩)⟩)⟩)⟩)
  · exact zkh
  · exact zfh

set_option maxHeartbeats 8000000 in
set_option maxRecDepth 100000 in
theorem sm_X12_seats {D : va_G} {cy : Nat → ClassId} {ad : Nat → Nat} {g : Nat → va_E} (l : Launch)  (hI : INV cy ad g) : ∃ post : Int32 → (Nat → Nat) → List (Nat × va_E) → Prop, cMi l yX12_seats wq_k_X12_seats { frames := 4, cells := 0, slots := 0, locals := 97 } 31 0 0 0 D cy (fun i => ad ([119, 123, 122, 165, 132, 133, 147, 148, 149, 150, 151, 152, 160, 127, 128, 130, 131, 136, 138, 142, 143, 146, 153, 154, 155, 156, 157, 158, 159, 161, 163].getD i 0)) (fun i => cup [] g ([119, 123, 122, 165, 132, 133, 147, 148, 149, 150, 151, 152, 160, 127, 128, 130, 131, 136, 138, 142, 143, 146, 153, 154, 155, 156, 157, 158, 159, 161, 163].getD i 0)) [.ref (ad ([119, 123, 122, 165, 132, 133, 147, 148, 149, 150, 151, 152, 160, 127, 128, 130, 131, 136, 138, 142, 143, 146, 153, 154, 155, 156, 157, 158, 159, 161, 163].getD 0 0))] post ∧ ∀ (r : Int32) (nw : Nat → Nat) (l' : List (Nat × va_E)), post r nw l' → INV cy ad (cup (cmrg 173 31 [119, 123, 122, 165, 132, 133, 147, 148, 149, 150, 151, 152, 160, 127, 128, 130, 131, 136, 138, 142, 143, 146, 153, 154, 155, 156, 157, 158, 159, 161, 163] l' []) g) ∧ TK g (cup (cmrg 173 31 [119, 123, 122, 165, 132, 133, 147, 148, 149, 150, 151, 152, 160, 127, 128, 130, 131, 136, 138, 142, 143, 146, 153, 154, 155, 156, 157, 158, 159, 161, 163] l' []) g) := by
  have c119 : CP_119 cy ad (g 119) := hI.1 119 (by decide)
  obtain ⟨x119_2, x119_3, x119_4, x119_5, x119_6, x119_7, x119_8, x119_9, w119_10, x119_36, x119_37, x119_38, x119_39, x119_40, x119_56, x119_57, x119_59, x119_60, x119_62, x119_70, x119_71, e119, b119_2, b119_3, b119_4, b119_6, b119_7, b119_8, b119_36, b119_37, b119_38, b119_39, b119_40, b119_56, b119_59, b119_60, b119_62, b119_70, b119_71, hU119⟩ := c119
  have c122 : CP_122 cy ad (g 122) := hI.1 122 (by decide)
  obtain ⟨f122, e122, h122⟩ := c122
  have c123 : CP_123 cy ad (g 123) := hI.1 123 (by decide)
  obtain ⟨f123, e123, h123⟩ := c123
  have c127 : CP_127 cy ad (g 127) := hI.1 127 (by decide)
  obtain ⟨f127, e127⟩ := c127
  have c128 : CP_128 cy ad (g 128) := hI.1 128 (by decide)
  obtain ⟨f128, e128⟩ := c128
  have c130 : CP_130 cy ad (g 130) := hI.1 130 (by decide)
  obtain ⟨f130, e130⟩ := c130
  have c131 : CP_131 cy ad (g 131) := hI.1 131 (by decide)
  obtain ⟨f131, e131⟩ := c131
  have c132 : CP_132 cy ad (g 132) := hI.1 132 (by decide)
  obtain ⟨f132, e132, h132⟩ := c132
  have c133 : CP_133 cy ad (g 133) := hI.1 133 (by decide)
  obtain ⟨f133, e133, h133⟩ := c133
  have c136 : CP_136 cy ad (g 136) := hI.1 136 (by decide)
  obtain ⟨f136, e136, h136⟩ := c136
  have c138 : CP_138 cy ad (g 138) := hI.1 138 (by decide)
  obtain ⟨f138, e138, h138⟩ := c138
  have c142 : CP_142 cy ad (g 142) := hI.1 142 (by decide)
  obtain ⟨f142, e142⟩ := c142
  have c143 : CP_143 cy ad (g 143) := hI.1 143 (by decide)
  obtain ⟨f143, e143⟩ := c143
  have c146 : CP_146 cy ad (g 146) := hI.1 146 (by decide)
  obtain ⟨f146, e146⟩ := c146
  have c147 : CP_147 cy ad (g 147) := hI.1 147 (by decide)
  obtain ⟨f147, e147, h147⟩ := c147
  have c148 : CP_148 cy ad (g 148) := hI.1 148 (by decide)
  obtain ⟨f148, e148⟩ := c148
  have c149 : CP_149 cy ad (g 149) := hI.1 149 (by decide)
  obtain ⟨f149, e149⟩ := c149
  have c150 : CP_150 cy ad (g 150) := hI.1 150 (by decide)
  obtain ⟨f150, e150⟩ := c150
  have c151 : CP_151 cy ad (g 151) := hI.1 151 (by decide)
  obtain ⟨f151, e151, h151⟩ := c151
  have c152 : CP_152 cy ad (g 152) := hI.1 152 (by decide)
  obtain ⟨f152, e152, h152⟩ := c152
  have c153 : CP_153 cy ad (g 153) := hI.1 153 (by decide)
  obtain ⟨f153, e153, h153⟩ := c153
  have c154 : CP_154 cy ad (g 154) := hI.1 154 (by decide)
  obtain ⟨f154, e154⟩ := c154
  have c155 : CP_155 cy ad (g 155) := hI.1 155 (by decide)
  obtain ⟨f155, e155⟩ := c155
  have c156 : CP_156 cy ad (g 156) := hI.1 156 (by decide)
  obtain ⟨f156, e156⟩ := c156
  have c157 : CP_157 cy ad (g 157) := hI.1 157 (by decide)
  obtain ⟨f157, e157⟩ := c157
  have c158 : CP_158 cy ad (g 158) := hI.1 158 (by decide)
  obtain ⟨f158, e158⟩ := c158
  have c159 : CP_159 cy ad (g 159) := hI.1 159 (by decide)
  obtain ⟨f159, e159⟩ := c159
  have c160 : CP_160 cy ad (g 160) := hI.1 160 (by decide)
  obtain ⟨f160, e160, h160⟩ := c160
  have c161 : CP_161 cy ad (g 161) := hI.1 161 (by decide)
  obtain ⟨f161, e161, h161⟩ := c161
  have c163 : CP_163 cy ad (g 163) := hI.1 163 (by decide)
  obtain ⟨f163, e163⟩ := c163
  have c165 : CP_165 cy ad (g 165) := hI.1 165 (by decide)
  obtain ⟨f165, e165, h165⟩ := c165
  have zfh := hI.2.2
  rw [e138, e142, e136, e119] at zfh
  have zkh := hI.2.1
  refine ⟨_, k_X12_seats l D cy _ _ (u0_0 := .ref (ad 120)) (u0_1 := .ref (ad 121)) (u0_2 := .int x119_2) (u0_3 := .int x119_3) (u0_4 := .int x119_4) (u0_5 := .int x119_5) (u0_6 := .int x119_6) (u0_7 := .int x119_7) (u0_8 := .int x119_8) (u0_9 := .int x119_9) (u0_10 := .long w119_10) (c2 := f122) (c1 := f123) (u0_13 := .ref (ad 124)) (u0_14 := .ref (ad 125)) (u0_15 := .ref (ad 126)) (c13 := f127) (c14 := f128) (u0_18 := .ref (ad 129)) (c15 := f130) (c16 := f131) (c4 := f132) (c5 := f133) (u0_23 := .ref (ad 134)) (u0_24 := .ref (ad 135)) (c17 := f136) (u0_26 := .ref (ad 137)) (c18 := f138) (u0_28 := .ref (ad 139)) (u0_29 := .ref (ad 140)) (u0_30 := .ref (ad 141)) (c19 := f142) (c20 := f143) (u0_33 := .ref (ad 144)) (u0_34 := .ref (ad 145)) (c21 := f146) (x0_36 := x119_36) (u0_37 := .int x119_37) (u0_38 := .int x119_38) (u0_39 := .int x119_39) (u0_40 := .int x119_40) (c6 := f147) (c7 := f148) (c8 := f149) (c9 := f150) (c10 := f151) (c11 := f152) (c22 := f153) (c23 := f154) (c24 := f155) (c25 := f156) (c26 := f157) (c27 := f158) (c28 := f159) (c12 := f160) (c29 := f161) (x0_56 := x119_56) (x0_57 := x119_57) (u0_58 := .ref (ad 162)) (u0_59 := .int x119_59) (u0_60 := .int x119_60) (c30 := f163) (x0_62 := x119_62) (u0_63 := .ref (ad 164)) (c3 := f165) (u0_65 := .ref (ad 166)) (u0_66 := .ref (ad 167)) (u0_67 := .ref (ad 168)) (u0_68 := .ref (ad 169)) (u0_69 := .ref (ad 170)) (u0_70 := .int x119_70) (u0_71 := .int x119_71) (u0_72 := .ref (ad 171)) (u0_73 := .ref (ad 172)) e119 e123 e122 e165 e132 e133 e147 e148 e149 e150 e151 e152 e160 e127 e128 e130 e131 e136 e138 e142 e143 e146 e153 e154 e155 e156 e157 e158 e159 e161 e163 b119_36 b119_56 b119_62 h123 h122 h165 h132 h133 h147 h151 h152 h160 h136 h138 h153 h161 zfh, fun r nw l' hw => ?_⟩
  obtain ⟨n_y0_56, n_y0_57, n_y0_62, n_d3, n_d7, n_d8, n_d9, n_d10, n_d11, n_d12, n_d21, n_d22, n_d23, n_d24, n_d25, n_d26, n_d27, n_d28, n_d29, n_d30, z0, z1, z2, z3, z4, z5, z6, z7, rfl⟩ := hw
  refine ⟨INV_mrg (lk := [(119, .inr (12, [.ref (ad 120), .ref (ad 121), .int x119_2, .int x119_3, .int x119_4, .int x119_5, .int x119_6, .int x119_7, .int x119_8, .int x119_9, .long w119_10, .ref (ad 122), .ref (ad 123), .ref (ad 124), .ref (ad 125), .ref (ad 126), .ref (ad 127), .ref (ad 128), .ref (ad 129), .ref (ad 130), .ref (ad 131), .ref (ad 132), .ref (ad 133), .ref (ad 134), .ref (ad 135), .ref (ad 136), .ref (ad 137), .ref (ad 138), .ref (ad 139), .ref (ad 140), .ref (ad 141), .ref (ad 142), .ref (ad 143), .ref (ad 144), .ref (ad 145), .ref (ad 146), .int x119_36, .int x119_37, .int x119_38, .int x119_39, .int x119_40, .ref (ad 147), .ref (ad 148), .ref (ad 149), .ref (ad 150), .ref (ad 151), .ref (ad 152), .ref (ad 153), .ref (ad 154), .ref (ad 155), .ref (ad 156), .ref (ad 157), .ref (ad 158), .ref (ad 159), .ref (ad 160), .ref (ad 161), .int n_y0_56, .int n_y0_57, .ref (ad 162), .int x119_59, .int x119_60, .ref (ad 163), .int n_y0_62, .ref (ad 164), .ref (ad 165), .ref (ad 166), .ref (ad 167), .ref (ad 168), .ref (ad 169), .ref (ad 170), .int x119_70, .int x119_71, .ref (ad 171), .ref (ad 172)])), (165, .inl (cy 0, 5, .inl n_d3)), (148, .inl (cy 0, 30, .inl n_d7)), (149, .inl (cy 0, 30, .inl n_d8)), (150, .inl (cy 0, 5, .inl n_d9)), (151, .inl (cy 0, 4, .inl n_d10)), (152, .inl (cy 0, 20, .inl n_d11)), (160, .inl (cy 2, 30, .inl n_d12)), (146, .inl (cy 0, 60, .inl n_d21)), (153, .inl (cy 0, 30, .inl n_d22)), (154, .inl (cy 0, 120, .inl n_d23)), (155, .inl (cy 0, 120, .inl n_d24)), (156, .inl (cy 0, 5, .inl n_d25)), (157, .inl (cy 0, 5, .inl n_d26)), (158, .inl (cy 0, 5, .inl n_d27)), (159, .inl (cy 0, 5, .inl n_d28)), (161, .inl (cy 2, 5, .inl n_d29)), (163, .inl (cy 0, 24, .inl n_d30))]) hI ?_ ?_ ?_ ?_, (fo_mrg rfl rfl), (fo_mrg rfl (by rw [e119]; rfl))⟩
  · rfl
  · exact (List.forall_mem_cons.mpr ⟨(show CP_119 cy ad _ from ⟨x119_2, x119_3, x119_4, x119_5, x119_6, x119_7, x119_8, x119_9, w119_10, x119_36, x119_37, x119_38, x119_39, x119_40, n_y0_56, n_y0_57, x119_59, x119_60, n_y0_62, x119_70, x119_71, rfl, b119_2, b119_3, b119_4, b119_6, b119_7, b119_8, b119_36, b119_37, b119_38, b119_39, b119_40, z0, b119_59, b119_60, (zi_w z1 (by decide)), b119_70, b119_71, hU119⟩), (List.forall_mem_cons.mpr ⟨(show CP_165 cy ad _ from ⟨n_d3, rfl, z2⟩), (List.forall_mem_cons.mpr ⟨(show CP_148 cy ad _ from ⟨n_d7, rfl⟩), (List.forall_mem_cons.mpr ⟨(show CP_149 cy ad _ from ⟨n_d8, rfl⟩), (List.forall_mem_cons.mpr ⟨(show CP_150 cy ad _ from ⟨n_d9, rfl⟩), (List.forall_mem_cons.mpr ⟨(show CP_151 cy ad _ from ⟨n_d10, rfl, z3⟩), (List.forall_mem_cons.mpr ⟨(show CP_152 cy ad _ from ⟨n_d11, rfl, z4⟩), (List.forall_mem_cons.mpr ⟨(show CP_160 cy ad _ from ⟨n_d12, rfl, z5⟩), (List.forall_mem_cons.mpr ⟨(show CP_146 cy ad _ from ⟨n_d21, rfl⟩), (List.forall_mem_cons.mpr ⟨(show CP_153 cy ad _ from ⟨n_d22, rfl, z6⟩), (List.forall_mem_cons.mpr ⟨(show CP_154 cy ad _ from ⟨n_d23, rfl⟩), (List.forall_mem_cons.mpr ⟨(show CP_155 cy ad _ from ⟨n_d24, rfl⟩), (List.forall_mem_cons.mpr ⟨(show CP_156 cy ad _ from ⟨n_d25, rfl⟩), (List.forall_mem_cons.mpr ⟨(show CP_157 cy ad _ from ⟨n_d26, rfl⟩), (List.forall_mem_cons.mpr ⟨(show CP_158 cy ad _ from ⟨n_d27, rfl⟩), (List.forall_mem_cons.mpr ⟨(show CP_159 cy ad _ from ⟨n_d28, rfl⟩), (List.forall_mem_cons.mpr ⟨(show CP_161 cy ad _ from ⟨n_d29, rfl, z7⟩), (List.forall_mem_cons.mpr ⟨(show CP_163 cy ad _ from ⟨n_d30, rfl⟩), (fun _ h => absurd h List.not_mem_nil)⟩)⟩)⟩)⟩)⟩)⟩)⟩)⟩)⟩)⟩)⟩)⟩)⟩)⟩)⟩)⟩)⟩)⟩)
  · exact zkh
  · exact zfh

set_option maxHeartbeats 8000000 in
set_option maxRecDepth 100000 in
theorem sm_X11_lies {D : va_G} {cy : Nat → ClassId} {ad : Nat → Nat} {g : Nat → va_E} (l : Launch) (n : Int32) (hI : INV cy ad g) : ∃ post : Int32 → (Nat → Nat) → List (Nat × va_E) → Prop, cMi l yX11_lies wq_k_X11_lies { frames := 1, cells := 0, slots := 0, locals := 22 } 2 0 0 0 D cy (fun i => ad ([0, 118].getD i 0)) (fun i => cup [] g ([0, 118].getD i 0)) [.ref (ad ([0, 118].getD 0 0)), .int n] post ∧ ∀ (r : Int32) (nw : Nat → Nat) (l' : List (Nat × va_E)), post r nw l' → INV cy ad (cup (cmrg 173 2 [0, 118] l' []) g) ∧ TK g (cup (cmrg 173 2 [0, 118] l' []) g) := by
  have c0 : CP_0 cy ad (g 0) := hI.1 0 (by decide)
  obtain ⟨x0_1, x0_13, e0, b0_1, b0_13⟩ := c0
  have c118 : CP_118 cy ad (g 118) := hI.1 118 (by decide)
  obtain ⟨f118, e118⟩ := c118
  have zfh := hI.2.2
  have zkh := hI.2.1
  refine ⟨_, k_X11_lies l D cy _ _ (u0_0 := .ref (ad 1)) (u0_1 := .int x0_1) (u0_2 := .ref (ad 2)) (u0_3 := .ref (ad 21)) (u0_4 := .ref (ad 38)) (u0_5 := .ref (ad 42)) (u0_6 := .ref (ad 55)) (u0_7 := .ref (ad 59)) (u0_8 := .ref (ad 62)) (u0_9 := .ref (ad 74)) (u0_10 := .ref (ad 88)) (u0_11 := .ref (ad 101)) (c1 := f118) (x0_13 := x0_13) e0 e118 b0_13, fun r nw l' hw => ?_⟩
  obtain rfl := hw
  refine ⟨INV_mrg (lk := []) hI ?_ ?_ ?_ ?_, (fo_mrg rfl rfl), (fo_mrg rfl rfl)⟩
  · rfl
  · exact (fun _ h => absurd h List.not_mem_nil)
  · exact zkh
  · exact zfh

set_option maxHeartbeats 8000000 in
set_option maxRecDepth 100000 in
theorem sm_X12_lies {D : va_G} {cy : Nat → ClassId} {ad : Nat → Nat} {g : Nat → va_E} (l : Launch) (n : Int32) (hI : INV cy ad g) : ∃ post : Int32 → (Nat → Nat) → List (Nat × va_E) → Prop, cMi l yX12_lies wq_k_X12_lies { frames := 1, cells := 0, slots := 0, locals := 22 } 2 0 0 0 D cy (fun i => ad ([119, 163].getD i 0)) (fun i => cup [] g ([119, 163].getD i 0)) [.ref (ad ([119, 163].getD 0 0)), .int n] post ∧ ∀ (r : Int32) (nw : Nat → Nat) (l' : List (Nat × va_E)), post r nw l' → INV cy ad (cup (cmrg 173 2 [119, 163] l' []) g) ∧ TK g (cup (cmrg 173 2 [119, 163] l' []) g) := by
  have c119 : CP_119 cy ad (g 119) := hI.1 119 (by decide)
  obtain ⟨x119_2, x119_3, x119_4, x119_5, x119_6, x119_7, x119_8, x119_9, w119_10, x119_36, x119_37, x119_38, x119_39, x119_40, x119_56, x119_57, x119_59, x119_60, x119_62, x119_70, x119_71, e119, b119_2, b119_3, b119_4, b119_6, b119_7, b119_8, b119_36, b119_37, b119_38, b119_39, b119_40, b119_56, b119_59, b119_60, b119_62, b119_70, b119_71, hU119⟩ := c119
  have c163 : CP_163 cy ad (g 163) := hI.1 163 (by decide)
  obtain ⟨f163, e163⟩ := c163
  have zfh := hI.2.2
  rw [e119] at zfh
  have zkh := hI.2.1
  refine ⟨_, k_X12_lies l D cy _ _ (u0_0 := .ref (ad 120)) (u0_1 := .ref (ad 121)) (u0_2 := .int x119_2) (u0_3 := .int x119_3) (u0_4 := .int x119_4) (u0_5 := .int x119_5) (u0_6 := .int x119_6) (u0_7 := .int x119_7) (u0_8 := .int x119_8) (u0_9 := .int x119_9) (u0_10 := .long w119_10) (u0_11 := .ref (ad 122)) (u0_12 := .ref (ad 123)) (u0_13 := .ref (ad 124)) (u0_14 := .ref (ad 125)) (u0_15 := .ref (ad 126)) (u0_16 := .ref (ad 127)) (u0_17 := .ref (ad 128)) (u0_18 := .ref (ad 129)) (u0_19 := .ref (ad 130)) (u0_20 := .ref (ad 131)) (u0_21 := .ref (ad 132)) (u0_22 := .ref (ad 133)) (u0_23 := .ref (ad 134)) (u0_24 := .ref (ad 135)) (u0_25 := .ref (ad 136)) (u0_26 := .ref (ad 137)) (u0_27 := .ref (ad 138)) (u0_28 := .ref (ad 139)) (u0_29 := .ref (ad 140)) (u0_30 := .ref (ad 141)) (u0_31 := .ref (ad 142)) (u0_32 := .ref (ad 143)) (u0_33 := .ref (ad 144)) (u0_34 := .ref (ad 145)) (u0_35 := .ref (ad 146)) (u0_36 := .int x119_36) (u0_37 := .int x119_37) (u0_38 := .int x119_38) (u0_39 := .int x119_39) (u0_40 := .int x119_40) (u0_41 := .ref (ad 147)) (u0_42 := .ref (ad 148)) (u0_43 := .ref (ad 149)) (u0_44 := .ref (ad 150)) (u0_45 := .ref (ad 151)) (u0_46 := .ref (ad 152)) (u0_47 := .ref (ad 153)) (u0_48 := .ref (ad 154)) (u0_49 := .ref (ad 155)) (u0_50 := .ref (ad 156)) (u0_51 := .ref (ad 157)) (u0_52 := .ref (ad 158)) (u0_53 := .ref (ad 159)) (u0_54 := .ref (ad 160)) (u0_55 := .ref (ad 161)) (u0_56 := .int x119_56) (u0_57 := .int x119_57) (u0_58 := .ref (ad 162)) (u0_59 := .int x119_59) (u0_60 := .int x119_60) (c1 := f163) (x0_62 := x119_62) (u0_63 := .ref (ad 164)) (u0_64 := .ref (ad 165)) (u0_65 := .ref (ad 166)) (u0_66 := .ref (ad 167)) (u0_67 := .ref (ad 168)) (u0_68 := .ref (ad 169)) (u0_69 := .ref (ad 170)) (u0_70 := .int x119_70) (u0_71 := .int x119_71) (u0_72 := .ref (ad 171)) (u0_73 := .ref (ad 172)) e119 e163 b119_62, fun r nw l' hw => ?_⟩
  obtain rfl := hw
  refine ⟨INV_mrg (lk := []) hI ?_ ?_ ?_ ?_, (fo_mrg rfl rfl), (fo_mrg rfl rfl)⟩
  · rfl
  · exact (fun _ h => absurd h List.not_mem_nil)
  · exact zkh
  · exact zfh

set_option maxHeartbeats 8000000 in
set_option maxRecDepth 100000 in
theorem sm_X11_sight {D : va_G} {cy : Nat → ClassId} {ad : Nat → Nat} {g : Nat → va_E} (l : Launch) (minute bird count : Int32) (hI : INV cy ad g) : ∃ post : Int32 → (Nat → Nat) → List (Nat × va_E) → Prop, cMi l yX11_sight wq_k_X11_sight { frames := 2, cells := 0, slots := 0, locals := 43 } 8 0 0 0 D cy (fun i => ad ([0, 21, 101, 102, 103, 104, 105, 106].getD i 0)) (fun i => cup [] g ([0, 21, 101, 102, 103, 104, 105, 106].getD i 0)) [.ref (ad ([0, 21, 101, 102, 103, 104, 105, 106].getD 0 0)), .int minute, .int bird, .int count] post ∧ ∀ (r : Int32) (nw : Nat → Nat) (l' : List (Nat × va_E)), post r nw l' → INV cy ad (cup (cmrg 173 8 [0, 21, 101, 102, 103, 104, 105, 106] l' []) g) ∧ TK g (cup (cmrg 173 8 [0, 21, 101, 102, 103, 104, 105, 106] l' []) g) := by
  have c0 : CP_0 cy ad (g 0) := hI.1 0 (by decide)
  obtain ⟨x0_1, x0_13, e0, b0_1, b0_13⟩ := c0
  have c21 : CP_21 cy ad (g 21) := hI.1 21 (by decide)
  obtain ⟨x21_5, x21_11, x21_15, x21_16, e21, b21_5, b21_11, b21_16⟩ := c21
  have c101 : CP_101 cy ad (g 101) := hI.1 101 (by decide)
  obtain ⟨x101_7, x101_8, x101_11, x101_13, x101_14, x101_15, e101, b101_7, b101_8⟩ := c101
  have c102 : CP_102 cy ad (g 102) := hI.1 102 (by decide)
  obtain ⟨f102, e102⟩ := c102
  have c103 : CP_103 cy ad (g 103) := hI.1 103 (by decide)
  obtain ⟨f103, e103, h103⟩ := c103
  have c104 : CP_104 cy ad (g 104) := hI.1 104 (by decide)
  obtain ⟨f104, e104⟩ := c104
  have c105 : CP_105 cy ad (g 105) := hI.1 105 (by decide)
  obtain ⟨f105, e105⟩ := c105
  have c106 : CP_106 cy ad (g 106) := hI.1 106 (by decide)
  obtain ⟨f106, e106⟩ := c106
  have zfh := hI.2.2
  have zkh := hI.2.1
  refine ⟨_, k_X11_sight l D cy _ _ (u0_0 := .ref (ad 1)) (u0_1 := .int x0_1) (u0_2 := .ref (ad 2)) (u1_0 := .ref (ad 22)) (u1_1 := .ref (ad 23)) (u1_2 := .ref (ad 24)) (u1_3 := .ref (ad 25)) (u1_4 := .ref (ad 26)) (x1_5 := x21_5) (u1_6 := .ref (ad 27)) (u1_7 := .ref (ad 28)) (u1_8 := .ref (ad 29)) (u1_9 := .ref (ad 30)) (u1_10 := .ref (ad 31)) (u1_11 := .int x21_11) (u1_12 := .ref (ad 32)) (u1_13 := .ref (ad 33)) (u1_14 := .ref (ad 34)) (u1_15 := .int x21_15) (u1_16 := .int x21_16) (u1_17 := .ref (ad 35)) (u0_4 := .ref (ad 38)) (u0_5 := .ref (ad 42)) (u0_6 := .ref (ad 55)) (u0_7 := .ref (ad 59)) (u0_8 := .ref (ad 62)) (u0_9 := .ref (ad 74)) (u0_10 := .ref (ad 88)) (u2_0 := .ref (ad 21)) (u2_1 := .ref (ad 110)) (c3 := f102) (c4 := f103) (c5 := f104) (c6 := f105) (c7 := f106) (x2_7 := x101_7) (x2_8 := x101_8) (u2_9 := .ref (ad 107)) (u2_10 := .ref (ad 108)) (u2_11 := .int x101_11) (u2_12 := .ref (ad 109)) (u2_13 := .int x101_13) (u2_14 := .int x101_14) (u2_15 := .int x101_15) (u0_12 := .ref (ad 118)) (u0_13 := .int x0_13) e0 e21 e101 e102 e103 e104 e105 e106 b21_5 b101_7 b101_8 h103, fun r nw l' hw => ?_⟩
  obtain ⟨n_y2_7, n_d3, n_d4, n_d5, n_d6, n_d7, z0, z1, z2, rfl⟩ := hw
  refine ⟨INV_mrg (lk := [(101, .inr (8, [.ref (ad 21), .ref (ad 110), .ref (ad 102), .ref (ad 103), .ref (ad 104), .ref (ad 105), .ref (ad 106), .int n_y2_7, .int x101_8, .ref (ad 107), .ref (ad 108), .int x101_11, .ref (ad 109), .int x101_13, .int x101_14, .int x101_15])), (102, .inl (cy 0, 30, .inl n_d3)), (103, .inl (cy 0, 30, .inl n_d4)), (104, .inl (cy 0, 30, .inl n_d5)), (105, .inl (cy 0, 30, .inl n_d6)), (106, .inl (cy 0, 30, .inl n_d7))]) hI ?_ ?_ ?_ ?_, (fo_mrg rfl (by rw [e101]; rfl)), (fo_mrg rfl rfl)⟩
  · rfl
  · exact (List.forall_mem_cons.mpr ⟨(show CP_101 cy ad _ from ⟨n_y2_7, x101_8, x101_11, x101_13, x101_14, x101_15, rfl, z0, b101_8⟩), (List.forall_mem_cons.mpr ⟨(show CP_102 cy ad _ from ⟨n_d3, rfl⟩), (List.forall_mem_cons.mpr ⟨(show CP_103 cy ad _ from ⟨n_d4, rfl, z1⟩), (List.forall_mem_cons.mpr ⟨(show CP_104 cy ad _ from ⟨n_d5, rfl⟩), (List.forall_mem_cons.mpr ⟨(show CP_105 cy ad _ from ⟨n_d6, rfl⟩), (List.forall_mem_cons.mpr ⟨(show CP_106 cy ad _ from ⟨n_d7, rfl⟩), (fun _ h => absurd h List.not_mem_nil)⟩)⟩)⟩)⟩)⟩)⟩)
  · exact zkh
  · exact zfh

set_option maxHeartbeats 8000000 in
set_option maxRecDepth 100000 in
theorem sm_X12_sight {D : va_G} {cy : Nat → ClassId} {ad : Nat → Nat} {g : Nat → va_E} (l : Launch) (minute bx its : Int32) (hI : INV cy ad g) : ∃ post : Int32 → (Nat → Nat) → List (Nat × va_E) → Prop, cMi l yX12_sight wq_k_X12_sight { frames := 2, cells := 0, slots := 0, locals := 43 } 7 0 0 0 D cy (fun i => ad ([119, 122, 166, 167, 168, 169, 170].getD i 0)) (fun i => cup [] g ([119, 122, 166, 167, 168, 169, 170].getD i 0)) [.ref (ad ([119, 122, 166, 167, 168, 169, 170].getD 0 0)), .int minute, .int bx, .int its] post ∧ ∀ (r : Int32) (nw : Nat → Nat) (l' : List (Nat × va_E)), post r nw l' → INV cy ad (cup (cmrg 173 7 [119, 122, 166, 167, 168, 169, 170] l' []) g) ∧ TK g (cup (cmrg 173 7 [119, 122, 166, 167, 168, 169, 170] l' []) g) := by
  have c119 : CP_119 cy ad (g 119) := hI.1 119 (by decide)
  obtain ⟨x119_2, x119_3, x119_4, x119_5, x119_6, x119_7, x119_8, x119_9, w119_10, x119_36, x119_37, x119_38, x119_39, x119_40, x119_56, x119_57, x119_59, x119_60, x119_62, x119_70, x119_71, e119, b119_2, b119_3, b119_4, b119_6, b119_7, b119_8, b119_36, b119_37, b119_38, b119_39, b119_40, b119_56, b119_59, b119_60, b119_62, b119_70, b119_71, hU119⟩ := c119
  have c122 : CP_122 cy ad (g 122) := hI.1 122 (by decide)
  obtain ⟨f122, e122, h122⟩ := c122
  have c166 : CP_166 cy ad (g 166) := hI.1 166 (by decide)
  obtain ⟨f166, e166⟩ := c166
  have c167 : CP_167 cy ad (g 167) := hI.1 167 (by decide)
  obtain ⟨f167, e167, h167⟩ := c167
  have c168 : CP_168 cy ad (g 168) := hI.1 168 (by decide)
  obtain ⟨f168, e168⟩ := c168
  have c169 : CP_169 cy ad (g 169) := hI.1 169 (by decide)
  obtain ⟨f169, e169⟩ := c169
  have c170 : CP_170 cy ad (g 170) := hI.1 170 (by decide)
  obtain ⟨f170, e170⟩ := c170
  have zfh := hI.2.2
  rw [e119] at zfh
  have zkh := hI.2.1
  refine ⟨_, k_X12_sight l D cy _ _ (u0_0 := .ref (ad 120)) (u0_1 := .ref (ad 121)) (u0_2 := .int x119_2) (u0_3 := .int x119_3) (u0_4 := .int x119_4) (u0_5 := .int x119_5) (u0_6 := .int x119_6) (u0_7 := .int x119_7) (u0_8 := .int x119_8) (u0_9 := .int x119_9) (u0_10 := .long w119_10) (c1 := f122) (u0_12 := .ref (ad 123)) (u0_13 := .ref (ad 124)) (u0_14 := .ref (ad 125)) (u0_15 := .ref (ad 126)) (u0_16 := .ref (ad 127)) (u0_17 := .ref (ad 128)) (u0_18 := .ref (ad 129)) (u0_19 := .ref (ad 130)) (u0_20 := .ref (ad 131)) (u0_21 := .ref (ad 132)) (u0_22 := .ref (ad 133)) (u0_23 := .ref (ad 134)) (u0_24 := .ref (ad 135)) (u0_25 := .ref (ad 136)) (u0_26 := .ref (ad 137)) (u0_27 := .ref (ad 138)) (u0_28 := .ref (ad 139)) (u0_29 := .ref (ad 140)) (u0_30 := .ref (ad 141)) (u0_31 := .ref (ad 142)) (u0_32 := .ref (ad 143)) (u0_33 := .ref (ad 144)) (u0_34 := .ref (ad 145)) (u0_35 := .ref (ad 146)) (x0_36 := x119_36) (u0_37 := .int x119_37) (u0_38 := .int x119_38) (u0_39 := .int x119_39) (u0_40 := .int x119_40) (u0_41 := .ref (ad 147)) (u0_42 := .ref (ad 148)) (u0_43 := .ref (ad 149)) (u0_44 := .ref (ad 150)) (u0_45 := .ref (ad 151)) (u0_46 := .ref (ad 152)) (u0_47 := .ref (ad 153)) (u0_48 := .ref (ad 154)) (u0_49 := .ref (ad 155)) (u0_50 := .ref (ad 156)) (u0_51 := .ref (ad 157)) (u0_52 := .ref (ad 158)) (u0_53 := .ref (ad 159)) (u0_54 := .ref (ad 160)) (u0_55 := .ref (ad 161)) (u0_56 := .int x119_56) (u0_57 := .int x119_57) (u0_58 := .ref (ad 162)) (u0_59 := .int x119_59) (u0_60 := .int x119_60) (u0_61 := .ref (ad 163)) (u0_62 := .int x119_62) (u0_63 := .ref (ad 164)) (u0_64 := .ref (ad 165)) (c2 := f166) (c3 := f167) (c4 := f168) (c5 := f169) (c6 := f170) (x0_70 := x119_70) (x0_71 := x119_71) (u0_72 := .ref (ad 171)) (u0_73 := .ref (ad 172)) e119 e122 e166 e167 e168 e169 e170 b119_36 b119_70 b119_71 h122 h167, fun r nw l' hw => ?_⟩
  obtain ⟨n_y0_70, n_d2, n_d3, n_d4, n_d5, n_d6, z0, z1, z2, rfl⟩ := hw
  refine ⟨INV_mrg (lk := [(119, .inr (12, [.ref (ad 120), .ref (ad 121), .int x119_2, .int x119_3, .int x119_4, .int x119_5, .int x119_6, .int x119_7, .int x119_8, .int x119_9, .long w119_10, .ref (ad 122), .ref (ad 123), .ref (ad 124), .ref (ad 125), .ref (ad 126), .ref (ad 127), .ref (ad 128), .ref (ad 129), .ref (ad 130), .ref (ad 131), .ref (ad 132), .ref (ad 133), .ref (ad 134), .ref (ad 135), .ref (ad 136), .ref (ad 137), .ref (ad 138), .ref (ad 139), .ref (ad 140), .ref (ad 141), .ref (ad 142), .ref (ad 143), .ref (ad 144), .ref (ad 145), .ref (ad 146), .int x119_36, .int x119_37, .int x119_38, .int x119_39, .int x119_40, .ref (ad 147), .ref (ad 148), .ref (ad 149), .ref (ad 150), .ref (ad 151), .ref (ad 152), .ref (ad 153), .ref (ad 154), .ref (ad 155), .ref (ad 156), .ref (ad 157), .ref (ad 158), .ref (ad 159), .ref (ad 160), .ref (ad 161), .int x119_56, .int x119_57, .ref (ad 162), .int x119_59, .int x119_60, .ref (ad 163), .int x119_62, .ref (ad 164), .ref (ad 165), .ref (ad 166), .ref (ad 167), .ref (ad 168), .ref (ad 169), .ref (ad 170), .int n_y0_70, .int x119_71, .ref (ad 171), .ref (ad 172)])), (166, .inl (cy 0, 30, .inl n_d2)), (167, .inl (cy 0, 30, .inl n_d3)), (168, .inl (cy 0, 30, .inl n_d4)), (169, .inl (cy 0, 30, .inl n_d5)), (170, .inl (cy 0, 30, .inl n_d6))]) hI ?_ ?_ ?_ ?_, (fo_mrg rfl rfl), (fo_mrg rfl (by rw [e119]; rfl))⟩
  · rfl
  · exact (List.forall_mem_cons.mpr ⟨(show CP_119 cy ad _ from ⟨x119_2, x119_3, x119_4, x119_5, x119_6, x119_7, x119_8, x119_9, w119_10, x119_36, x119_37, x119_38, x119_39, x119_40, x119_56, x119_57, x119_59, x119_60, x119_62, n_y0_70, x119_71, rfl, b119_2, b119_3, b119_4, b119_6, b119_7, b119_8, b119_36, b119_37, b119_38, b119_39, b119_40, b119_56, b119_59, b119_60, b119_62, z0, b119_71, hU119⟩), (List.forall_mem_cons.mpr ⟨(show CP_166 cy ad _ from ⟨n_d2, rfl⟩), (List.forall_mem_cons.mpr ⟨(show CP_167 cy ad _ from ⟨n_d3, rfl, z1⟩), (List.forall_mem_cons.mpr ⟨(show CP_168 cy ad _ from ⟨n_d4, rfl⟩), (List.forall_mem_cons.mpr ⟨(show CP_169 cy ad _ from ⟨n_d5, rfl⟩), (List.forall_mem_cons.mpr ⟨(show CP_170 cy ad _ from ⟨n_d6, rfl⟩), (fun _ h => absurd h List.not_mem_nil)⟩)⟩)⟩)⟩)⟩)⟩)
  · exact zkh
  · exact zfh

set_option maxHeartbeats 8000000 in
set_option maxRecDepth 100000 in
theorem sm_X11_untell {D : va_G} {cy : Nat → ClassId} {ad : Nat → Nat} {g : Nat → va_E} (l : Launch) (sight : Int32) (hI : INV cy ad g) : ∃ post : Int32 → (Nat → Nat) → List (Nat × va_E) → Prop, cMi l yX11_untell wq_k_X11_untell { frames := 2, cells := 0, slots := 0, locals := 43 } 3 0 0 0 D cy (fun i => ad ([0, 101, 106].getD i 0)) (fun i => cup [] g ([0, 101, 106].getD i 0)) [.ref (ad ([0, 101, 106].getD 0 0)), .int sight] post ∧ ∀ (r : Int32) (nw : Nat → Nat) (l' : List (Nat × va_E)), post r nw l' → INV cy ad (cup (cmrg 173 3 [0, 101, 106] l' []) g) ∧ TK g (cup (cmrg 173 3 [0, 101, 106] l' []) g) := by
  have c0 : CP_0 cy ad (g 0) := hI.1 0 (by decide)
  obtain ⟨x0_1, x0_13, e0, b0_1, b0_13⟩ := c0
  have c101 : CP_101 cy ad (g 101) := hI.1 101 (by decide)
  obtain ⟨x101_7, x101_8, x101_11, x101_13, x101_14, x101_15, e101, b101_7, b101_8⟩ := c101
  have c106 : CP_106 cy ad (g 106) := hI.1 106 (by decide)
  obtain ⟨f106, e106⟩ := c106
  have zfh := hI.2.2
  have zkh := hI.2.1
  refine ⟨_, k_X11_untell l D cy _ _ (u0_0 := .ref (ad 1)) (u0_1 := .int x0_1) (u0_2 := .ref (ad 2)) (u0_3 := .ref (ad 21)) (u0_4 := .ref (ad 38)) (u0_5 := .ref (ad 42)) (u0_6 := .ref (ad 55)) (u0_7 := .ref (ad 59)) (u0_8 := .ref (ad 62)) (u0_9 := .ref (ad 74)) (u0_10 := .ref (ad 88)) (u1_0 := .ref (ad 21)) (u1_1 := .ref (ad 110)) (u1_2 := .ref (ad 102)) (u1_3 := .ref (ad 103)) (u1_4 := .ref (ad 104)) (u1_5 := .ref (ad 105)) (c2 := f106) (x1_7 := x101_7) (x1_8 := x101_8) (u1_9 := .ref (ad 107)) (u1_10 := .ref (ad 108)) (u1_11 := .int x101_11) (u1_12 := .ref (ad 109)) (u1_13 := .int x101_13) (u1_14 := .int x101_14) (u1_15 := .int x101_15) (u0_12 := .ref (ad 118)) (u0_13 := .int x0_13) e0 e101 e106 b101_7 b101_8, fun r nw l' hw => ?_⟩
  obtain ⟨n_d2, z0, rfl⟩ := hw
  refine ⟨INV_mrg (lk := [(106, .inl (cy 0, 30, .inl n_d2))]) hI ?_ ?_ ?_ ?_, (fo_mrg rfl rfl), (fo_mrg rfl rfl)⟩
  · rfl
  · exact (List.forall_mem_cons.mpr ⟨(show CP_106 cy ad _ from ⟨n_d2, rfl⟩), (fun _ h => absurd h List.not_mem_nil)⟩)
  · exact zkh
  · exact zfh

set_option maxHeartbeats 8000000 in
set_option maxRecDepth 100000 in
theorem sm_X12_untell {D : va_G} {cy : Nat → ClassId} {ad : Nat → Nat} {g : Nat → va_E} (l : Launch) (n : Int32) (hI : INV cy ad g) : ∃ post : Int32 → (Nat → Nat) → List (Nat × va_E) → Prop, cMi l yX12_untell wq_k_X12_untell { frames := 1, cells := 0, slots := 0, locals := 22 } 2 0 0 0 D cy (fun i => ad ([119, 170].getD i 0)) (fun i => cup [] g ([119, 170].getD i 0)) [.ref (ad ([119, 170].getD 0 0)), .int n] post ∧ ∀ (r : Int32) (nw : Nat → Nat) (l' : List (Nat × va_E)), post r nw l' → INV cy ad (cup (cmrg 173 2 [119, 170] l' []) g) ∧ TK g (cup (cmrg 173 2 [119, 170] l' []) g) := by
  have c119 : CP_119 cy ad (g 119) := hI.1 119 (by decide)
  obtain ⟨x119_2, x119_3, x119_4, x119_5, x119_6, x119_7, x119_8, x119_9, w119_10, x119_36, x119_37, x119_38, x119_39, x119_40, x119_56, x119_57, x119_59, x119_60, x119_62, x119_70, x119_71, e119, b119_2, b119_3, b119_4, b119_6, b119_7, b119_8, b119_36, b119_37, b119_38, b119_39, b119_40, b119_56, b119_59, b119_60, b119_62, b119_70, b119_71, hU119⟩ := c119
  have c170 : CP_170 cy ad (g 170) := hI.1 170 (by decide)
  obtain ⟨f170, e170⟩ := c170
  have zfh := hI.2.2
  rw [e119] at zfh
  have zkh := hI.2.1
  refine ⟨_, k_X12_untell l D cy _ _ (u0_0 := .ref (ad 120)) (u0_1 := .ref (ad 121)) (u0_2 := .int x119_2) (u0_3 := .int x119_3) (u0_4 := .int x119_4) (u0_5 := .int x119_5) (u0_6 := .int x119_6) (u0_7 := .int x119_7) (u0_8 := .int x119_8) (u0_9 := .int x119_9) (u0_10 := .long w119_10) (u0_11 := .ref (ad 122)) (u0_12 := .ref (ad 123)) (u0_13 := .ref (ad 124)) (u0_14 := .ref (ad 125)) (u0_15 := .ref (ad 126)) (u0_16 := .ref (ad 127)) (u0_17 := .ref (ad 128)) (u0_18 := .ref (ad 129)) (u0_19 := .ref (ad 130)) (u0_20 := .ref (ad 131)) (u0_21 := .ref (ad 132)) (u0_22 := .ref (ad 133)) (u0_23 := .ref (ad 134)) (u0_24 := .ref (ad 135)) (u0_25 := .ref (ad 136)) (u0_26 := .ref (ad 137)) (u0_27 := .ref (ad 138)) (u0_28 := .ref (ad 139)) (u0_29 := .ref (ad 140)) (u0_30 := .ref (ad 141)) (u0_31 := .ref (ad 142)) (u0_32 := .ref (ad 143)) (u0_33 := .ref (ad 144)) (u0_34 := .ref (ad 145)) (u0_35 := .ref (ad 146)) (u0_36 := .int x119_36) (u0_37 := .int x119_37) (u0_38 := .int x119_38) (u0_39 := .int x119_39) (u0_40 := .int x119_40) (u0_41 := .ref (ad 147)) (u0_42 := .ref (ad 148)) (u0_43 := .ref (ad 149)) (u0_44 := .ref (ad 150)) (u0_45 := .ref (ad 151)) (u0_46 := .ref (ad 152)) (u0_47 := .ref (ad 153)) (u0_48 := .ref (ad 154)) (u0_49 := .ref (ad 155)) (u0_50 := .ref (ad 156)) (u0_51 := .ref (ad 157)) (u0_52 := .ref (ad 158)) (u0_53 := .ref (ad 159)) (u0_54 := .ref (ad 160)) (u0_55 := .ref (ad 161)) (u0_56 := .int x119_56) (u0_57 := .int x119_57) (u0_58 := .ref (ad 162)) (u0_59 := .int x119_59) (u0_60 := .int x119_60) (u0_61 := .ref (ad 163)) (u0_62 := .int x119_62) (u0_63 := .ref (ad 164)) (u0_64 := .ref (ad 165)) (u0_65 := .ref (ad 166)) (u0_66 := .ref (ad 167)) (u0_67 := .ref (ad 168)) (u0_68 := .ref (ad 169)) (c1 := f170) (x0_70 := x119_70) (x0_71 := x119_71) (u0_72 := .ref (ad 171)) (u0_73 := .ref (ad 172)) e119 e170 b119_70 b119_71, fun r nw l' hw => ?_⟩
  obtain ⟨n_d1, z0, rfl⟩ := hw
  refine ⟨INV_mrg (lk := [(170, .inl (cy 0, 30, .inl n_d1))]) hI ?_ ?_ ?_ ?_, (fo_mrg rfl rfl), (fo_mrg rfl rfl)⟩
  · rfl
  · exact (List.forall_mem_cons.mpr ⟨(show CP_170 cy ad _ from ⟨n_d1, rfl⟩), (fun _ h => absurd h List.not_mem_nil)⟩)
  · exact zkh
  · exact zfh

set_option maxHeartbeats 8000000 in
set_option maxRecDepth 100000 in
theorem sm_X11_later {D : va_G} {cy : Nat → ClassId} {ad : Nat → Nat} {g : Nat → va_E} (l : Launch) (byx : Int32) (hI : INV cy ad g) : ∃ post : Int32 → (Nat → Nat) → List (Nat × va_E) → Prop, cMi l yX11_later wq_k_X11_later2 { frames := 1, cells := 0, slots := 0, locals := 22 } 2 0 0 0 D cy (fun i => ad ([0, 101].getD i 0)) (fun i => cup [] g ([0, 101].getD i 0)) [.ref (ad ([0, 101].getD 0 0)), .int byx] post ∧ ∀ (r : Int32) (nw : Nat → Nat) (l' : List (Nat × va_E)), post r nw l' → INV cy ad (cup (cmrg 173 2 [0, 101] l' []) g) ∧ fo (cup (cmrg 173 2 [0, 101] l' []) g 119) 71 = fo (g 119) 71 ∧ ∀ t : Int32, fo (g 101) 8 = some (.int t) → ∃ t' : Int32, fo (cup (cmrg 173 2 [0, 101] l' []) g 101) 8 = some (.int t') ∧ LTm t byx r t' := by
  have c0 : CP_0 cy ad (g 0) := hI.1 0 (by decide)
  obtain ⟨x0_1, x0_13, e0, b0_1, b0_13⟩ := c0
  have c101 : CP_101 cy ad (g 101) := hI.1 101 (by decide)
  obtain ⟨x101_7, x101_8, x101_11, x101_13, x101_14, x101_15, e101, b101_7, b101_8⟩ := c101
  have zfh := hI.2.2
  have zkh := hI.2.1
  refine ⟨_, k_X11_later2 l D cy _ _ (u0_0 := .ref (ad 1)) (u0_1 := .int x0_1) (u0_2 := .ref (ad 2)) (u0_3 := .ref (ad 21)) (u0_4 := .ref (ad 38)) (u0_5 := .ref (ad 42)) (u0_6 := .ref (ad 55)) (u0_7 := .ref (ad 59)) (u0_8 := .ref (ad 62)) (u0_9 := .ref (ad 74)) (u0_10 := .ref (ad 88)) (u1_0 := .ref (ad 21)) (u1_1 := .ref (ad 110)) (u1_2 := .ref (ad 102)) (u1_3 := .ref (ad 103)) (u1_4 := .ref (ad 104)) (u1_5 := .ref (ad 105)) (u1_6 := .ref (ad 106)) (u1_7 := .int x101_7) (x1_8 := x101_8) (u1_9 := .ref (ad 107)) (u1_10 := .ref (ad 108)) (u1_11 := .int x101_11) (u1_12 := .ref (ad 109)) (u1_13 := .int x101_13) (u1_14 := .int x101_14) (u1_15 := .int x101_15) (u0_12 := .ref (ad 118)) (u0_13 := .int x0_13) e0 e101 b101_8, fun r nw l' hw => ?_⟩
  obtain ⟨n_y1_8, z0, z1, gp_lt, rfl⟩ := hw
  refine ⟨INV_mrg (lk := [(101, .inr (8, [.ref (ad 21), .ref (ad 110), .ref (ad 102), .ref (ad 103), .ref (ad 104), .ref (ad 105), .ref (ad 106), .int x101_7, .int n_y1_8, .ref (ad 107), .ref (ad 108), .int x101_11, .ref (ad 109), .int x101_13, .int x101_14, .int x101_15]))]) hI ?_ ?_ ?_ ?_, (fo_mrg rfl rfl), fun t ht => ⟨n_y1_8, (fo_mrg rfl rfl), ?_⟩⟩
  · rfl
  · exact (List.forall_mem_cons.mpr ⟨(show CP_101 cy ad _ from ⟨x101_7, n_y1_8, x101_11, x101_13, x101_14, x101_15, rfl, b101_7, z0⟩), (fun _ h => absurd h List.not_mem_nil)⟩)
  · exact zkh
  · exact zfh
  rw [e101] at ht
  cases ht
  exact gp_lt

set_option maxHeartbeats 8000000 in
set_option maxRecDepth 100000 in
theorem sm_X12_later {D : va_G} {cy : Nat → ClassId} {ad : Nat → Nat} {g : Nat → va_E} (l : Launch) (byx : Int32) (hI : INV cy ad g) : ∃ post : Int32 → (Nat → Nat) → List (Nat × va_E) → Prop, cMi l yX12_later wq_k_X12_later2 { frames := 1, cells := 0, slots := 0, locals := 22 } 1 0 0 0 D cy (fun i => ad ([119].getD i 0)) (fun i => cup [] g ([119].getD i 0)) [.ref (ad ([119].getD 0 0)), .int byx] post ∧ ∀ (r : Int32) (nw : Nat → Nat) (l' : List (Nat × va_E)), post r nw l' → INV cy ad (cup (cmrg 173 1 [119] l' []) g) ∧ fo (cup (cmrg 173 1 [119] l' []) g 101) 8 = fo (g 101) 8 ∧ ∀ t : Int32, fo (g 119) 71 = some (.int t) → ∃ t' : Int32, fo (cup (cmrg 173 1 [119] l' []) g 119) 71 = some (.int t') ∧ LTm t byx r t' := by
  have c119 : CP_119 cy ad (g 119) := hI.1 119 (by decide)
  obtain ⟨x119_2, x119_3, x119_4, x119_5, x119_6, x119_7, x119_8, x119_9, w119_10, x119_36, x119_37, x119_38, x119_39, x119_40, x119_56, x119_57, x119_59, x119_60, x119_62, x119_70, x119_71, e119, b119_2, b119_3, b119_4, b119_6, b119_7, b119_8, b119_36, b119_37, b119_38, b119_39, b119_40, b119_56, b119_59, b119_60, b119_62, b119_70, b119_71, hU119⟩ := c119
  have zfh := hI.2.2
  rw [e119] at zfh
  have zkh := hI.2.1
  refine ⟨_, k_X12_later2 l D cy _ _ (u0_0 := .ref (ad 120)) (u0_1 := .ref (ad 121)) (u0_2 := .int x119_2) (u0_3 := .int x119_3) (u0_4 := .int x119_4) (u0_5 := .int x119_5) (u0_6 := .int x119_6) (u0_7 := .int x119_7) (u0_8 := .int x119_8) (u0_9 := .int x119_9) (u0_10 := .long w119_10) (u0_11 := .ref (ad 122)) (u0_12 := .ref (ad 123)) (u0_13 := .ref (ad 124)) (u0_14 := .ref (ad 125)) (u0_15 := .ref (ad 126)) (u0_16 := .ref (ad 127)) (u0_17 := .ref (ad 128)) (u0_18 := .ref (ad 129)) (u0_19 := .ref (ad 130)) (u0_20 := .ref (ad 131)) (u0_21 := .ref (ad 132)) (u0_22 := .ref (ad 133)) (u0_23 := .ref (ad 134)) (u0_24 := .ref (ad 135)) (u0_25 := .ref (ad 136)) (u0_26 := .ref (ad 137)) (u0_27 := .ref (ad 138)) (u0_28 := .ref (ad 139)) (u0_29 := .ref (ad 140)) (u0_30 := .ref (ad 141)) (u0_31 := .ref (ad 142)) (u0_32 := .ref (ad 143)) (u0_33 := .ref (ad 144)) (u0_34 := .ref (ad 145)) (u0_35 := .ref (ad 146)) (u0_36 := .int x119_36) (u0_37 := .int x119_37) (u0_38 := .int x119_38) (u0_39 := .int x119_39) (u0_40 := .int x119_40) (u0_41 := .ref (ad 147)) (u0_42 := .ref (ad 148)) (u0_43 := .ref (ad 149)) (u0_44 := .ref (ad 150)) (u0_45 := .ref (ad 151)) (u0_46 := .ref (ad 152)) (u0_47 := .ref (ad 153)) (u0_48 := .ref (ad 154)) (u0_49 := .ref (ad 155)) (u0_50 := .ref (ad 156)) (u0_51 := .ref (ad 157)) (u0_52 := .ref (ad 158)) (u0_53 := .ref (ad 159)) (u0_54 := .ref (ad 160)) (u0_55 := .ref (ad 161)) (u0_56 := .int x119_56) (u0_57 := .int x119_57) (u0_58 := .ref (ad 162)) (u0_59 := .int x119_59) (u0_60 := .int x119_60) (u0_61 := .ref (ad 163)) (u0_62 := .int x119_62) (u0_63 := .ref (ad 164)) (u0_64 := .ref (ad 165)) (u0_65 := .ref (ad 166)) (u0_66 := .ref (ad 167)) (u0_67 := .ref (ad 168)) (u0_68 := .ref (ad 169)) (u0_69 := .ref (ad 170)) (u0_70 := .int x119_70) (x0_71 := x119_71) (u0_72 := .ref (ad 171)) (u0_73 := .ref (ad 172)) e119 b119_71, fun r nw l' hw => ?_⟩
  obtain ⟨n_y0_71, z0, z1, gp_lt, rfl⟩ := hw
  refine ⟨INV_mrg (lk := [(119, .inr (12, [.ref (ad 120), .ref (ad 121), .int x119_2, .int x119_3, .int x119_4, .int x119_5, .int x119_6, .int x119_7, .int x119_8, .int x119_9, .long w119_10, .ref (ad 122), .ref (ad 123), .ref (ad 124), .ref (ad 125), .ref (ad 126), .ref (ad 127), .ref (ad 128), .ref (ad 129), .ref (ad 130), .ref (ad 131), .ref (ad 132), .ref (ad 133), .ref (ad 134), .ref (ad 135), .ref (ad 136), .ref (ad 137), .ref (ad 138), .ref (ad 139), .ref (ad 140), .ref (ad 141), .ref (ad 142), .ref (ad 143), .ref (ad 144), .ref (ad 145), .ref (ad 146), .int x119_36, .int x119_37, .int x119_38, .int x119_39, .int x119_40, .ref (ad 147), .ref (ad 148), .ref (ad 149), .ref (ad 150), .ref (ad 151), .ref (ad 152), .ref (ad 153), .ref (ad 154), .ref (ad 155), .ref (ad 156), .ref (ad 157), .ref (ad 158), .ref (ad 159), .ref (ad 160), .ref (ad 161), .int x119_56, .int x119_57, .ref (ad 162), .int x119_59, .int x119_60, .ref (ad 163), .int x119_62, .ref (ad 164), .ref (ad 165), .ref (ad 166), .ref (ad 167), .ref (ad 168), .ref (ad 169), .ref (ad 170), .int x119_70, .int n_y0_71, .ref (ad 171), .ref (ad 172)]))]) hI ?_ ?_ ?_ ?_, (fo_mrg rfl rfl), fun t ht => ⟨n_y0_71, (fo_mrg rfl rfl), ?_⟩⟩
  · rfl
  · exact (List.forall_mem_cons.mpr ⟨(show CP_119 cy ad _ from ⟨x119_2, x119_3, x119_4, x119_5, x119_6, x119_7, x119_8, x119_9, w119_10, x119_36, x119_37, x119_38, x119_39, x119_40, x119_56, x119_57, x119_59, x119_60, x119_62, x119_70, n_y0_71, rfl, b119_2, b119_3, b119_4, b119_6, b119_7, b119_8, b119_36, b119_37, b119_38, b119_39, b119_40, b119_56, b119_59, b119_60, b119_62, b119_70, z0, hU119⟩), (fun _ h => absurd h List.not_mem_nil)⟩)
  · exact zkh
  · exact zfh
  rw [e119] at ht
  cases ht
  exact gp_lt

set_option maxHeartbeats 8000000 in
set_option maxRecDepth 100000 in
theorem sm_X11_came {D : va_G} {cy : Nat → ClassId} {ad : Nat → Nat} {g : Nat → va_E} (l : Launch) (what k : Int32) (hI : INV cy ad g) : ∃ post : Int32 → (Nat → Nat) → List (Nat × va_E) → Prop, cMi l yX11_came wq_k_X11_came { frames := 15, cells := 0, slots := 0, locals := 382 } 27 0 0 0 D cy (fun i => ad ([0, 101, 21, 110, 23, 24, 25, 26, 28, 30, 31, 33, 111, 112, 113, 114, 115, 116, 117, 102, 103, 104, 105, 106, 107, 108, 109].getD i 0)) (fun i => cup [] g ([0, 101, 21, 110, 23, 24, 25, 26, 28, 30, 31, 33, 111, 112, 113, 114, 115, 116, 117, 102, 103, 104, 105, 106, 107, 108, 109].getD i 0)) [.ref (ad ([0, 101, 21, 110, 23, 24, 25, 26, 28, 30, 31, 33, 111, 112, 113, 114, 115, 116, 117, 102, 103, 104, 105, 106, 107, 108, 109].getD 0 0)), .int what, .int k] post ∧ ∀ (r : Int32) (nw : Nat → Nat) (l' : List (Nat × va_E)), post r nw l' → INV cy ad (cup (cmrg 173 27 [0, 101, 21, 110, 23, 24, 25, 26, 28, 30, 31, 33, 111, 112, 113, 114, 115, 116, 117, 102, 103, 104, 105, 106, 107, 108, 109] l' []) g) ∧ TK g (cup (cmrg 173 27 [0, 101, 21, 110, 23, 24, 25, 26, 28, 30, 31, 33, 111, 112, 113, 114, 115, 116, 117, 102, 103, 104, 105, 106, 107, 108, 109] l' []) g) := by
  have c0 : CP_0 cy ad (g 0) := hI.1 0 (by decide)
  obtain ⟨x0_1, x0_13, e0, b0_1, b0_13⟩ := c0
  have c21 : CP_21 cy ad (g 21) := hI.1 21 (by decide)
  obtain ⟨x21_5, x21_11, x21_15, x21_16, e21, b21_5, b21_11, b21_16⟩ := c21
  have c23 : CP_23 cy ad (g 23) := hI.1 23 (by decide)
  obtain ⟨f23, e23⟩ := c23
  have c24 : CP_24 cy ad (g 24) := hI.1 24 (by decide)
  obtain ⟨f24, e24⟩ := c24
  have c25 : CP_25 cy ad (g 25) := hI.1 25 (by decide)
  obtain ⟨f25, e25⟩ := c25
  have c26 : CP_26 cy ad (g 26) := hI.1 26 (by decide)
  obtain ⟨f26, e26, h26⟩ := c26
  have c28 : CP_28 cy ad (g 28) := hI.1 28 (by decide)
  obtain ⟨f28, e28⟩ := c28
  have c30 : CP_30 cy ad (g 30) := hI.1 30 (by decide)
  obtain ⟨f30, e30, h30⟩ := c30
  have c31 : CP_31 cy ad (g 31) := hI.1 31 (by decide)
  obtain ⟨f31, e31, h31⟩ := c31
  have c33 : CP_33 cy ad (g 33) := hI.1 33 (by decide)
  obtain ⟨f33, e33⟩ := c33
  have c101 : CP_101 cy ad (g 101) := hI.1 101 (by decide)
  obtain ⟨x101_7, x101_8, x101_11, x101_13, x101_14, x101_15, e101, b101_7, b101_8⟩ := c101
  have c102 : CP_102 cy ad (g 102) := hI.1 102 (by decide)
  obtain ⟨f102, e102⟩ := c102
  have c103 : CP_103 cy ad (g 103) := hI.1 103 (by decide)
  obtain ⟨f103, e103, h103⟩ := c103
  have c104 : CP_104 cy ad (g 104) := hI.1 104 (by decide)
  obtain ⟨f104, e104⟩ := c104
  have c105 : CP_105 cy ad (g 105) := hI.1 105 (by decide)
  obtain ⟨f105, e105⟩ := c105
  have c106 : CP_106 cy ad (g 106) := hI.1 106 (by decide)
  obtain ⟨f106, e106⟩ := c106
  have c107 : CP_107 cy ad (g 107) := hI.1 107 (by decide)
  obtain ⟨f107, e107, h107⟩ := c107
  have c108 : CP_108 cy ad (g 108) := hI.1 108 (by decide)
  obtain ⟨f108, e108⟩ := c108
  have c109 : CP_109 cy ad (g 109) := hI.1 109 (by decide)
  obtain ⟨f109, e109⟩ := c109
  have c110 : CP_110 cy ad (g 110) := hI.1 110 (by decide)
  have e110 := c110
  have c111 : CP_111 cy ad (g 111) := hI.1 111 (by decide)
  obtain ⟨f111, e111⟩ := c111
  have c112 : CP_112 cy ad (g 112) := hI.1 112 (by decide)
  obtain ⟨f112, e112, h112⟩ := c112
  have c113 : CP_113 cy ad (g 113) := hI.1 113 (by decide)
  obtain ⟨f113, e113, h113⟩ := c113
  have c114 : CP_114 cy ad (g 114) := hI.1 114 (by decide)
  obtain ⟨f114, e114⟩ := c114
  have c115 : CP_115 cy ad (g 115) := hI.1 115 (by decide)
  obtain ⟨f115, e115⟩ := c115
  have c116 : CP_116 cy ad (g 116) := hI.1 116 (by decide)
  obtain ⟨f116, e116⟩ := c116
  have c117 : CP_117 cy ad (g 117) := hI.1 117 (by decide)
  obtain ⟨f117, e117⟩ := c117
  have zfh := hI.2.2
  have zkh := hI.2.1
  refine ⟨_, k_X11_came l D cy _ _ (u0_0 := .ref (ad 1)) (u0_1 := .int x0_1) (u0_2 := .ref (ad 2)) (u0_3 := .ref (ad 21)) (u0_4 := .ref (ad 38)) (u0_5 := .ref (ad 42)) (u0_6 := .ref (ad 55)) (u0_7 := .ref (ad 59)) (u0_8 := .ref (ad 62)) (u0_9 := .ref (ad 74)) (u0_10 := .ref (ad 88)) (u2_0 := .ref (ad 22)) (c4 := f23) (c5 := f24) (c6 := f25) (c7 := f26) (u2_5 := .int x21_5) (u2_6 := .ref (ad 27)) (c8 := f28) (u2_8 := .ref (ad 29)) (c9 := f30) (c10 := f31) (x2_11 := x21_11) (u2_12 := .ref (ad 32)) (c11 := f33) (u2_14 := .ref (ad 34)) (x2_15 := x21_15) (x2_16 := x21_16) (u2_17 := .ref (ad 35)) (c12 := f111) (c13 := f112) (c14 := f113) (c15 := f114) (c16 := f115) (c17 := f116) (c18 := f117) (c19 := f102) (c20 := f103) (c21 := f104) (c22 := f105) (c23 := f106) (x1_7 := x101_7) (u1_8 := .int x101_8) (c24 := f107) (c25 := f108) (x1_11 := x101_11) (c26 := f109) (x1_13 := x101_13) (x1_14 := x101_14) (x1_15 := x101_15) (u0_12 := .ref (ad 118)) (u0_13 := .int x0_13) e0 e101 e21 e110 e23 e24 e25 e26 e28 e30 e31 e33 e111 e112 e113 e114 e115 e116 e117 e102 e103 e104 e105 e106 e107 e108 e109 b101_7 b21_11 b21_16 h26 h30 h31 h112 h113 h103 h107, fun r nw l' hw => ?_⟩
  obtain ⟨n_y1_11, n_y1_13, n_y1_14, n_y1_15, n_d12, n_d13, n_d14, n_d15, n_d16, n_d17, n_d18, n_d24, n_d25, n_d26, z0, z1, z2, rfl⟩ := hw
  refine ⟨INV_mrg (lk := [(101, .inr (8, [.ref (ad 21), .ref (ad 110), .ref (ad 102), .ref (ad 103), .ref (ad 104), .ref (ad 105), .ref (ad 106), .int x101_7, .int x101_8, .ref (ad 107), .ref (ad 108), .int n_y1_11, .ref (ad 109), .int n_y1_13, .int n_y1_14, .int n_y1_15])), (111, .inl (cy 0, 5, .inl n_d12)), (112, .inl (cy 0, 20, .inl n_d13)), (113, .inl (cy 0, 4, .inl n_d14)), (114, .inl (cy 0, 5, .inl n_d15)), (115, .inl (cy 0, 5, .inl n_d16)), (116, .inl (cy 0, 5, .inl n_d17)), (117, .inl (cy 0, 5, .inl n_d18)), (107, .inl (cy 0, 12, .inl n_d24)), (108, .inl (cy 0, 180, .inl n_d25)), (109, .inl (cy 0, 30, .inl n_d26))]) hI ?_ ?_ ?_ ?_, (fo_mrg rfl (by rw [e101]; rfl)), (fo_mrg rfl rfl)⟩
  · rfl
  · exact (List.forall_mem_cons.mpr ⟨(show CP_101 cy ad _ from ⟨x101_7, x101_8, n_y1_11, n_y1_13, n_y1_14, n_y1_15, rfl, b101_7, b101_8⟩), (List.forall_mem_cons.mpr ⟨(show CP_111 cy ad _ from ⟨n_d12, rfl⟩), (List.forall_mem_cons.mpr ⟨(show CP_112 cy ad _ from ⟨n_d13, rfl, z0⟩), (List.forall_mem_cons.mpr ⟨(show CP_113 cy ad _ from ⟨n_d14, rfl, z1⟩), (List.forall_mem_cons.mpr ⟨(show CP_114 cy ad _ from ⟨n_d15, rfl⟩), (List.forall_mem_cons.mpr ⟨(show CP_115 cy ad _ from ⟨n_d16, rfl⟩), (List.forall_mem_cons.mpr ⟨(show CP_116 cy ad _ from ⟨n_d17, rfl⟩), (List.forall_mem_cons.mpr ⟨(show CP_117 cy ad _ from ⟨n_d18, rfl⟩), (List.forall_mem_cons.mpr ⟨(show CP_107 cy ad _ from ⟨n_d24, rfl, z2⟩), (List.forall_mem_cons.mpr ⟨(show CP_108 cy ad _ from ⟨n_d25, rfl⟩), (List.forall_mem_cons.mpr ⟨(show CP_109 cy ad _ from ⟨n_d26, rfl⟩), (fun _ h => absurd h List.not_mem_nil)⟩)⟩)⟩)⟩)⟩)⟩)⟩)⟩)⟩)⟩)⟩)
  · exact zkh
  · exact zfh

set_option maxHeartbeats 8000000 in
set_option maxRecDepth 100000 in
theorem sm_X12_came {D : va_G} {cy : Nat → ClassId} {ad : Nat → Nat} {g : Nat → va_E} (l : Launch) (what k : Int32) (hI : INV cy ad g) : ∃ post : Int32 → (Nat → Nat) → List (Nat × va_E) → Prop, cMi l yX12_came wq_k_X12_came { frames := 5, cells := 0, slots := 0, locals := 120 } 38 0 0 0 D cy (fun i => ad ([119, 124, 137, 122, 123, 126, 127, 128, 130, 131, 132, 133, 134, 135, 136, 138, 142, 143, 146, 148, 149, 150, 151, 152, 153, 154, 155, 156, 157, 158, 159, 160, 161, 166, 167, 168, 169, 170].getD i 0)) (fun i => cup [] g ([119, 124, 137, 122, 123, 126, 127, 128, 130, 131, 132, 133, 134, 135, 136, 138, 142, 143, 146, 148, 149, 150, 151, 152, 153, 154, 155, 156, 157, 158, 159, 160, 161, 166, 167, 168, 169, 170].getD i 0)) [.ref (ad ([119, 124, 137, 122, 123, 126, 127, 128, 130, 131, 132, 133, 134, 135, 136, 138, 142, 143, 146, 148, 149, 150, 151, 152, 153, 154, 155, 156, 157, 158, 159, 160, 161, 166, 167, 168, 169, 170].getD 0 0)), .int what, .int k] post ∧ ∀ (r : Int32) (nw : Nat → Nat) (l' : List (Nat × va_E)), post r nw l' → INV cy ad (cup (cmrg 173 38 [119, 124, 137, 122, 123, 126, 127, 128, 130, 131, 132, 133, 134, 135, 136, 138, 142, 143, 146, 148, 149, 150, 151, 152, 153, 154, 155, 156, 157, 158, 159, 160, 161, 166, 167, 168, 169, 170] l' []) g) ∧ TK g (cup (cmrg 173 38 [119, 124, 137, 122, 123, 126, 127, 128, 130, 131, 132, 133, 134, 135, 136, 138, 142, 143, 146, 148, 149, 150, 151, 152, 153, 154, 155, 156, 157, 158, 159, 160, 161, 166, 167, 168, 169, 170] l' []) g) := by
  have c119 : CP_119 cy ad (g 119) := hI.1 119 (by decide)
  obtain ⟨x119_2, x119_3, x119_4, x119_5, x119_6, x119_7, x119_8, x119_9, w119_10, x119_36, x119_37, x119_38, x119_39, x119_40, x119_56, x119_57, x119_59, x119_60, x119_62, x119_70, x119_71, e119, b119_2, b119_3, b119_4, b119_6, b119_7, b119_8, b119_36, b119_37, b119_38, b119_39, b119_40, b119_56, b119_59, b119_60, b119_62, b119_70, b119_71, hU119⟩ := c119
  have c122 : CP_122 cy ad (g 122) := hI.1 122 (by decide)
  obtain ⟨f122, e122, h122⟩ := c122
  have c123 : CP_123 cy ad (g 123) := hI.1 123 (by decide)
  obtain ⟨f123, e123, h123⟩ := c123
  have c124 : CP_124 cy ad (g 124) := hI.1 124 (by decide)
  obtain ⟨f124, e124, h124⟩ := c124
  have c126 : CP_126 cy ad (g 126) := hI.1 126 (by decide)
  obtain ⟨f126, e126⟩ := c126
  have c127 : CP_127 cy ad (g 127) := hI.1 127 (by decide)
  obtain ⟨f127, e127⟩ := c127
  have c128 : CP_128 cy ad (g 128) := hI.1 128 (by decide)
  obtain ⟨f128, e128⟩ := c128
  have c130 : CP_130 cy ad (g 130) := hI.1 130 (by decide)
  obtain ⟨f130, e130⟩ := c130
  have c131 : CP_131 cy ad (g 131) := hI.1 131 (by decide)
  obtain ⟨f131, e131⟩ := c131
  have c132 : CP_132 cy ad (g 132) := hI.1 132 (by decide)
  obtain ⟨f132, e132, h132⟩ := c132
  have c133 : CP_133 cy ad (g 133) := hI.1 133 (by decide)
  obtain ⟨f133, e133, h133⟩ := c133
  have c134 : CP_134 cy ad (g 134) := hI.1 134 (by decide)
  obtain ⟨f134, e134⟩ := c134
  have c135 : CP_135 cy ad (g 135) := hI.1 135 (by decide)
  obtain ⟨f135, e135⟩ := c135
  have c136 : CP_136 cy ad (g 136) := hI.1 136 (by decide)
  obtain ⟨f136, e136, h136⟩ := c136
  have c137 : CP_137 cy ad (g 137) := hI.1 137 (by decide)
  obtain ⟨f137, e137, h137⟩ := c137
  have c138 : CP_138 cy ad (g 138) := hI.1 138 (by decide)
  obtain ⟨f138, e138, h138⟩ := c138
  have c142 : CP_142 cy ad (g 142) := hI.1 142 (by decide)
  obtain ⟨f142, e142⟩ := c142
  have c143 : CP_143 cy ad (g 143) := hI.1 143 (by decide)
  obtain ⟨f143, e143⟩ := c143
  have c146 : CP_146 cy ad (g 146) := hI.1 146 (by decide)
  obtain ⟨f146, e146⟩ := c146
  have c148 : CP_148 cy ad (g 148) := hI.1 148 (by decide)
  obtain ⟨f148, e148⟩ := c148
  have c149 : CP_149 cy ad (g 149) := hI.1 149 (by decide)
  obtain ⟨f149, e149⟩ := c149
  have c150 : CP_150 cy ad (g 150) := hI.1 150 (by decide)
  obtain ⟨f150, e150⟩ := c150
  have c151 : CP_151 cy ad (g 151) := hI.1 151 (by decide)
  obtain ⟨f151, e151, h151⟩ := c151
  have c152 : CP_152 cy ad (g 152) := hI.1 152 (by decide)
  obtain ⟨f152, e152, h152⟩ := c152
  have c153 : CP_153 cy ad (g 153) := hI.1 153 (by decide)
  obtain ⟨f153, e153, h153⟩ := c153
  have c154 : CP_154 cy ad (g 154) := hI.1 154 (by decide)
  obtain ⟨f154, e154⟩ := c154
  have c155 : CP_155 cy ad (g 155) := hI.1 155 (by decide)
  obtain ⟨f155, e155⟩ := c155
  have c156 : CP_156 cy ad (g 156) := hI.1 156 (by decide)
  obtain ⟨f156, e156⟩ := c156
  have c157 : CP_157 cy ad (g 157) := hI.1 157 (by decide)
  obtain ⟨f157, e157⟩ := c157
  have c158 : CP_158 cy ad (g 158) := hI.1 158 (by decide)
  obtain ⟨f158, e158⟩ := c158
  have c159 : CP_159 cy ad (g 159) := hI.1 159 (by decide)
  obtain ⟨f159, e159⟩ := c159
  have c160 : CP_160 cy ad (g 160) := hI.1 160 (by decide)
  obtain ⟨f160, e160, h160⟩ := c160
  have c161 : CP_161 cy ad (g 161) := hI.1 161 (by decide)
  obtain ⟨f161, e161, h161⟩ := c161
  have c166 : CP_166 cy ad (g 166) := hI.1 166 (by decide)
  obtain ⟨f166, e166⟩ := c166
  have c167 : CP_167 cy ad (g 167) := hI.1 167 (by decide)
  obtain ⟨f167, e167, h167⟩ := c167
  have c168 : CP_168 cy ad (g 168) := hI.1 168 (by decide)
  obtain ⟨f168, e168⟩ := c168
  have c169 : CP_169 cy ad (g 169) := hI.1 169 (by decide)
  obtain ⟨f169, e169⟩ := c169
  have c170 : CP_170 cy ad (g 170) := hI.1 170 (by decide)
  obtain ⟨f170, e170⟩ := c170
  have zfh := hI.2.2
  rw [e138, e142, e136, e119] at zfh
  have zkh := hI.2.1
  refine ⟨_, k_X12_came l D cy _ _ (u0_0 := .ref (ad 120)) (u0_1 := .ref (ad 121)) (u0_2 := .int x119_2) (u0_3 := .int x119_3) (u0_4 := .int x119_4) (u0_5 := .int x119_5) (u0_6 := .int x119_6) (u0_7 := .int x119_7) (u0_8 := .int x119_8) (u0_9 := .int x119_9) (u0_10 := .long w119_10) (c3 := f122) (c4 := f123) (c1 := f124) (u0_14 := .ref (ad 125)) (c5 := f126) (c6 := f127) (c7 := f128) (u0_18 := .ref (ad 129)) (c8 := f130) (c9 := f131) (c10 := f132) (c11 := f133) (c12 := f134) (c13 := f135) (c14 := f136) (c2 := f137) (c15 := f138) (u0_28 := .ref (ad 139)) (u0_29 := .ref (ad 140)) (u0_30 := .ref (ad 141)) (c16 := f142) (c17 := f143) (u0_33 := .ref (ad 144)) (u0_34 := .ref (ad 145)) (c18 := f146) (x0_36 := x119_36) (u0_37 := .int x119_37) (u0_38 := .int x119_38) (u0_39 := .int x119_39) (u0_40 := .int x119_40) (u0_41 := .ref (ad 147)) (c19 := f148) (c20 := f149) (c21 := f150) (c22 := f151) (c23 := f152) (c24 := f153) (c25 := f154) (c26 := f155) (c27 := f156) (c28 := f157) (c29 := f158) (c30 := f159) (c31 := f160) (c32 := f161) (x0_56 := x119_56) (x0_57 := x119_57) (u0_58 := .ref (ad 162)) (u0_59 := .int x119_59) (u0_60 := .int x119_60) (u0_61 := .ref (ad 163)) (u0_62 := .int x119_62) (u0_63 := .ref (ad 164)) (u0_64 := .ref (ad 165)) (c33 := f166) (c34 := f167) (c35 := f168) (c36 := f169) (c37 := f170) (x0_70 := x119_70) (u0_71 := .int x119_71) (u0_72 := .ref (ad 171)) (u0_73 := .ref (ad 172)) e119 e124 e137 e122 e123 e126 e127 e128 e130 e131 e132 e133 e134 e135 e136 e138 e142 e143 e146 e148 e149 e150 e151 e152 e153 e154 e155 e156 e157 e158 e159 e160 e161 e166 e167 e168 e169 e170 b119_36 b119_56 b119_70 h124 h137 h122 h123 h132 h133 h136 h138 h151 h152 h153 h160 h161 h167 zfh, fun r nw l' hw => ?_⟩
  obtain ⟨n_y0_56, n_y0_57, n_d18, n_d19, n_d20, n_d21, n_d22, n_d23, n_d24, n_d25, n_d26, n_d27, n_d28, n_d29, n_d30, n_d31, n_d32, z0, z1, z2, z3, z4, z5, rfl⟩ := hw
  refine ⟨INV_mrg (lk := [(119, .inr (12, [.ref (ad 120), .ref (ad 121), .int x119_2, .int x119_3, .int x119_4, .int x119_5, .int x119_6, .int x119_7, .int x119_8, .int x119_9, .long w119_10, .ref (ad 122), .ref (ad 123), .ref (ad 124), .ref (ad 125), .ref (ad 126), .ref (ad 127), .ref (ad 128), .ref (ad 129), .ref (ad 130), .ref (ad 131), .ref (ad 132), .ref (ad 133), .ref (ad 134), .ref (ad 135), .ref (ad 136), .ref (ad 137), .ref (ad 138), .ref (ad 139), .ref (ad 140), .ref (ad 141), .ref (ad 142), .ref (ad 143), .ref (ad 144), .ref (ad 145), .ref (ad 146), .int x119_36, .int x119_37, .int x119_38, .int x119_39, .int x119_40, .ref (ad 147), .ref (ad 148), .ref (ad 149), .ref (ad 150), .ref (ad 151), .ref (ad 152), .ref (ad 153), .ref (ad 154), .ref (ad 155), .ref (ad 156), .ref (ad 157), .ref (ad 158), .ref (ad 159), .ref (ad 160), .ref (ad 161), .int n_y0_56, .int n_y0_57, .ref (ad 162), .int x119_59, .int x119_60, .ref (ad 163), .int x119_62, .ref (ad 164), .ref (ad 165), .ref (ad 166), .ref (ad 167), .ref (ad 168), .ref (ad 169), .ref (ad 170), .int x119_70, .int x119_71, .ref (ad 171), .ref (ad 172)])), (146, .inl (cy 0, 60, .inl n_d18)), (148, .inl (cy 0, 30, .inl n_d19)), (149, .inl (cy 0, 30, .inl n_d20)), (150, .inl (cy 0, 5, .inl n_d21)), (151, .inl (cy 0, 4, .inl n_d22)), (152, .inl (cy 0, 20, .inl n_d23)), (153, .inl (cy 0, 30, .inl n_d24)), (154, .inl (cy 0, 120, .inl n_d25)), (155, .inl (cy 0, 120, .inl n_d26)), (156, .inl (cy 0, 5, .inl n_d27)), (157, .inl (cy 0, 5, .inl n_d28)), (158, .inl (cy 0, 5, .inl n_d29)), (159, .inl (cy 0, 5, .inl n_d30)), (160, .inl (cy 2, 30, .inl n_d31)), (161, .inl (cy 2, 5, .inl n_d32))]) hI ?_ ?_ ?_ ?_, (fo_mrg rfl rfl), (fo_mrg rfl (by rw [e119]; rfl))⟩
  · rfl
  · exact (List.forall_mem_cons.mpr ⟨(show CP_119 cy ad _ from ⟨x119_2, x119_3, x119_4, x119_5, x119_6, x119_7, x119_8, x119_9, w119_10, x119_36, x119_37, x119_38, x119_39, x119_40, n_y0_56, n_y0_57, x119_59, x119_60, x119_62, x119_70, x119_71, rfl, b119_2, b119_3, b119_4, b119_6, b119_7, b119_8, b119_36, b119_37, b119_38, b119_39, b119_40, z0, b119_59, b119_60, b119_62, b119_70, b119_71, hU119⟩), (List.forall_mem_cons.mpr ⟨(show CP_146 cy ad _ from ⟨n_d18, rfl⟩), (List.forall_mem_cons.mpr ⟨(show CP_148 cy ad _ from ⟨n_d19, rfl⟩), (List.forall_mem_cons.mpr ⟨(show CP_149 cy ad _ from ⟨n_d20, rfl⟩), (List.forall_mem_cons.mpr ⟨(show CP_150 cy ad _ from ⟨n_d21, rfl⟩), (List.forall_mem_cons.mpr ⟨(show CP_151 cy ad _ from ⟨n_d22, rfl, z1⟩), (List.forall_mem_cons.mpr ⟨(show CP_152 cy ad _ from ⟨n_d23, rfl, z2⟩), (List.forall_mem_cons.mpr ⟨(show CP_153 cy ad _ from ⟨n_d24, rfl, z3⟩), (List.forall_mem_cons.mpr ⟨(show CP_154 cy ad _ from ⟨n_d25, rfl⟩), (List.forall_mem_cons.mpr ⟨(show CP_155 cy ad _ from ⟨n_d26, rfl⟩), (List.forall_mem_cons.mpr ⟨(show CP_156 cy ad _ from ⟨n_d27, rfl⟩), (List.forall_mem_cons.mpr ⟨(show CP_157 cy ad _ from ⟨n_d28, rfl⟩), (List.forall_mem_cons.mpr ⟨(show CP_158 cy ad _ from ⟨n_d29, rfl⟩), (List.forall_mem_cons.mpr ⟨(show CP_159 cy ad _ from ⟨n_d30, rfl⟩), (List.forall_mem_cons.mpr ⟨(show CP_160 cy ad _ from ⟨n_d31, rfl, z4⟩), (List.forall_mem_cons.mpr ⟨(show CP_161 cy ad _ from ⟨n_d32, rfl, z5⟩), (fun _ h => absurd h List.not_mem_nil)⟩)⟩)⟩)⟩)⟩)⟩)⟩)⟩)⟩)⟩)⟩)⟩)⟩)⟩)⟩)⟩)
  · exact zkh
  · exact zfh

set_option maxHeartbeats 8000000 in
set_option maxRecDepth 100000 in
theorem sm_X11_image {D : va_G} {cy : Nat → ClassId} {ad : Nat → Nat} {g : Nat → va_E} (l : Launch) (box : Int32) (hI : INV cy ad g) : ∃ post : Int32 → (Nat → Nat) → List (Nat × va_E) → Prop, cMi l yX11_image wq_k_X11_image { frames := 2, cells := 0, slots := 0, locals := 81 } 18 0 0 0 D cy (fun i => ad ([0, 42, 43, 38, 44, 45, 46, 39, 40, 41, 47, 48, 49, 50, 51, 52, 53, 54].getD i 0)) (fun i => cup [] g ([0, 42, 43, 38, 44, 45, 46, 39, 40, 41, 47, 48, 49, 50, 51, 52, 53, 54].getD i 0)) [.ref (ad ([0, 42, 43, 38, 44, 45, 46, 39, 40, 41, 47, 48, 49, 50, 51, 52, 53, 54].getD 0 0)), .int box] post ∧ ∀ (r : Int32) (nw : Nat → Nat) (l' : List (Nat × va_E)), post r nw l' → INV cy ad (cup (cmrg 173 18 [0, 42, 43, 38, 44, 45, 46, 39, 40, 41, 47, 48, 49, 50, 51, 52, 53, 54] l' []) g) ∧ TK g (cup (cmrg 173 18 [0, 42, 43, 38, 44, 45, 46, 39, 40, 41, 47, 48, 49, 50, 51, 52, 53, 54] l' []) g) := by
  have c0 : CP_0 cy ad (g 0) := hI.1 0 (by decide)
  obtain ⟨x0_1, x0_13, e0, b0_1, b0_13⟩ := c0
  have c38 : CP_38 cy ad (g 38) := hI.1 38 (by decide)
  obtain ⟨x38_2, x38_4, e38, b38_4⟩ := c38
  have c39 : CP_39 cy ad (g 39) := hI.1 39 (by decide)
  obtain ⟨f39, e39⟩ := c39
  have c40 : CP_40 cy ad (g 40) := hI.1 40 (by decide)
  obtain ⟨f40, e40⟩ := c40
  have c41 : CP_41 cy ad (g 41) := hI.1 41 (by decide)
  obtain ⟨f41, e41⟩ := c41
  have c42 : CP_42 cy ad (g 42) := hI.1 42 (by decide)
  have e42 := c42
  have c43 : CP_43 cy ad (g 43) := hI.1 43 (by decide)
  obtain ⟨x43_2, x43_4, e43, b43_4⟩ := c43
  have c44 : CP_44 cy ad (g 44) := hI.1 44 (by decide)
  obtain ⟨f44, e44⟩ := c44
  have c45 : CP_45 cy ad (g 45) := hI.1 45 (by decide)
  obtain ⟨f45, e45⟩ := c45
  have c46 : CP_46 cy ad (g 46) := hI.1 46 (by decide)
  obtain ⟨f46, e46⟩ := c46
  have c47 : CP_47 cy ad (g 47) := hI.1 47 (by decide)
  obtain ⟨x47_2, x47_4, e47, b47_4⟩ := c47
  have c48 : CP_48 cy ad (g 48) := hI.1 48 (by decide)
  obtain ⟨f48, e48⟩ := c48
  have c49 : CP_49 cy ad (g 49) := hI.1 49 (by decide)
  obtain ⟨f49, e49⟩ := c49
  have c50 : CP_50 cy ad (g 50) := hI.1 50 (by decide)
  obtain ⟨f50, e50⟩ := c50
  have c51 : CP_51 cy ad (g 51) := hI.1 51 (by decide)
  obtain ⟨x51_2, x51_4, e51, b51_4⟩ := c51
  have c52 : CP_52 cy ad (g 52) := hI.1 52 (by decide)
  obtain ⟨f52, e52⟩ := c52
  have c53 : CP_53 cy ad (g 53) := hI.1 53 (by decide)
  obtain ⟨f53, e53⟩ := c53
  have c54 : CP_54 cy ad (g 54) := hI.1 54 (by decide)
  obtain ⟨f54, e54⟩ := c54
  have zfh := hI.2.2
  have zkh := hI.2.1
  refine ⟨_, k_X11_image l D cy _ _ (u0_0 := .ref (ad 1)) (u0_1 := .int x0_1) (u0_2 := .ref (ad 2)) (u0_3 := .ref (ad 21)) (c7 := f39) (c8 := f40) (x3_2 := x38_2) (c9 := f41) (x3_4 := x38_4) (c4 := f44) (c5 := f45) (x2_2 := x43_2) (c6 := f46) (x2_4 := x43_4) (c11 := f48) (c12 := f49) (x10_2 := x47_2) (c13 := f50) (x10_4 := x47_4) (c15 := f52) (c16 := f53) (x14_2 := x51_2) (c17 := f54) (x14_4 := x51_4) (u0_6 := .ref (ad 55)) (u0_7 := .ref (ad 59)) (u0_8 := .ref (ad 62)) (u0_9 := .ref (ad 74)) (u0_10 := .ref (ad 88)) (u0_11 := .ref (ad 101)) (u0_12 := .ref (ad 118)) (u0_13 := .int x0_13) e0 e42 e43 e38 e44 e45 e46 e39 e40 e41 e47 e48 e49 e50 e51 e52 e53 e54 b43_4 b38_4 b47_4 b51_4, fun r nw l' hw => ?_⟩
  obtain ⟨n_y2_2, n_y2_4, n_d4, n_d5, n_d6, n_y10_2, n_y10_4, n_d11, n_d12, n_d13, n_y14_2, n_y14_4, n_d15, n_d16, n_d17, z0, z1, z2, z3, rfl⟩ := hw
  refine ⟨INV_mrg (lk := [(43, .inr (9, [.ref (ad 44), .ref (ad 45), .int n_y2_2, .ref (ad 46), .int n_y2_4])), (44, .inl (cy 0, 24, .inl n_d4)), (45, .inl (cy 0, 24, .inl n_d5)), (46, .inl (cy 0, 5, .inl n_d6)), (47, .inr (9, [.ref (ad 48), .ref (ad 49), .int n_y10_2, .ref (ad 50), .int n_y10_4])), (48, .inl (cy 0, 24, .inl n_d11)), (49, .inl (cy 0, 24, .inl n_d12)), (50, .inl (cy 0, 5, .inl n_d13)), (51, .inr (9, [.ref (ad 52), .ref (ad 53), .int n_y14_2, .ref (ad 54), .int n_y14_4])), (52, .inl (cy 0, 24, .inl n_d15)), (53, .inl (cy 0, 24, .inl n_d16)), (54, .inl (cy 0, 5, .inl n_d17))]) hI ?_ ?_ ?_ ?_, (fo_mrg rfl rfl), (fo_mrg rfl rfl)⟩
  · rfl
  · exact (List.forall_mem_cons.mpr ⟨(show CP_43 cy ad _ from ⟨n_y2_2, n_y2_4, rfl, z0⟩), (List.forall_mem_cons.mpr ⟨(show CP_44 cy ad _ from ⟨n_d4, rfl⟩), (List.forall_mem_cons.mpr ⟨(show CP_45 cy ad _ from ⟨n_d5, rfl⟩), (List.forall_mem_cons.mpr ⟨(show CP_46 cy ad _ from ⟨n_d6, rfl⟩), (List.forall_mem_cons.mpr ⟨(show CP_47 cy ad _ from ⟨n_y10_2, n_y10_4, rfl, z1⟩), (List.forall_mem_cons.mpr ⟨(show CP_48 cy ad _ from ⟨n_d11, rfl⟩), (List.forall_mem_cons.mpr ⟨(show CP_49 cy ad _ from ⟨n_d12, rfl⟩), (List.forall_mem_cons.mpr ⟨(show CP_50 cy ad _ from ⟨n_d13, rfl⟩), (List.forall_mem_cons.mpr ⟨(show CP_51 cy ad _ from ⟨n_y14_2, n_y14_4, rfl, z2⟩), (List.forall_mem_cons.mpr ⟨(show CP_52 cy ad _ from ⟨n_d15, rfl⟩), (List.forall_mem_cons.mpr ⟨(show CP_53 cy ad _ from ⟨n_d16, rfl⟩), (List.forall_mem_cons.mpr ⟨(show CP_54 cy ad _ from ⟨n_d17, rfl⟩), (fun _ h => absurd h List.not_mem_nil)⟩)⟩)⟩)⟩)⟩)⟩)⟩)⟩)⟩)⟩)⟩)⟩)
  · exact zkh
  · exact zfh

set_option maxHeartbeats 8000000 in
set_option maxRecDepth 100000 in
theorem sm_X12_image {D : va_G} {cy : Nat → ClassId} {ad : Nat → Nat} {g : Nat → va_E} (l : Launch) (box : Int32) (hI : INV cy ad g) : ∃ post : Int32 → (Nat → Nat) → List (Nat × va_E) → Prop, cMi l yX12_image wq_k_X12_image { frames := 1, cells := 0, slots := 0, locals := 22 } 4 0 0 0 D cy (fun i => ad ([119, 147, 171, 172].getD i 0)) (fun i => cup [] g ([119, 147, 171, 172].getD i 0)) [.ref (ad ([119, 147, 171, 172].getD 0 0)), .int box] post ∧ ∀ (r : Int32) (nw : Nat → Nat) (l' : List (Nat × va_E)), post r nw l' → INV cy ad (cup (cmrg 173 4 [119, 147, 171, 172] l' []) g) ∧ TK g (cup (cmrg 173 4 [119, 147, 171, 172] l' []) g) := by
  have c119 : CP_119 cy ad (g 119) := hI.1 119 (by decide)
  obtain ⟨x119_2, x119_3, x119_4, x119_5, x119_6, x119_7, x119_8, x119_9, w119_10, x119_36, x119_37, x119_38, x119_39, x119_40, x119_56, x119_57, x119_59, x119_60, x119_62, x119_70, x119_71, e119, b119_2, b119_3, b119_4, b119_6, b119_7, b119_8, b119_36, b119_37, b119_38, b119_39, b119_40, b119_56, b119_59, b119_60, b119_62, b119_70, b119_71, hU119⟩ := c119
  have c147 : CP_147 cy ad (g 147) := hI.1 147 (by decide)
  obtain ⟨f147, e147, h147⟩ := c147
  have c171 : CP_171 cy ad (g 171) := hI.1 171 (by decide)
  obtain ⟨f171, e171, h171⟩ := c171
  have c172 : CP_172 cy ad (g 172) := hI.1 172 (by decide)
  obtain ⟨f172, e172, h172⟩ := c172
  have zfh := hI.2.2
  rw [e119] at zfh
  have zkh := hI.2.1
  refine ⟨_, k_X12_image l D cy _ _ (u0_0 := .ref (ad 120)) (u0_1 := .ref (ad 121)) (u0_2 := .int x119_2) (u0_3 := .int x119_3) (u0_4 := .int x119_4) (u0_5 := .int x119_5) (u0_6 := .int x119_6) (u0_7 := .int x119_7) (u0_8 := .int x119_8) (u0_9 := .int x119_9) (u0_10 := .long w119_10) (u0_11 := .ref (ad 122)) (u0_12 := .ref (ad 123)) (u0_13 := .ref (ad 124)) (u0_14 := .ref (ad 125)) (u0_15 := .ref (ad 126)) (u0_16 := .ref (ad 127)) (u0_17 := .ref (ad 128)) (u0_18 := .ref (ad 129)) (u0_19 := .ref (ad 130)) (u0_20 := .ref (ad 131)) (u0_21 := .ref (ad 132)) (u0_22 := .ref (ad 133)) (u0_23 := .ref (ad 134)) (u0_24 := .ref (ad 135)) (u0_25 := .ref (ad 136)) (u0_26 := .ref (ad 137)) (u0_27 := .ref (ad 138)) (u0_28 := .ref (ad 139)) (u0_29 := .ref (ad 140)) (u0_30 := .ref (ad 141)) (u0_31 := .ref (ad 142)) (u0_32 := .ref (ad 143)) (u0_33 := .ref (ad 144)) (u0_34 := .ref (ad 145)) (u0_35 := .ref (ad 146)) (u0_36 := .int x119_36) (u0_37 := .int x119_37) (u0_38 := .int x119_38) (u0_39 := .int x119_39) (u0_40 := .int x119_40) (c1 := f147) (u0_42 := .ref (ad 148)) (u0_43 := .ref (ad 149)) (u0_44 := .ref (ad 150)) (u0_45 := .ref (ad 151)) (u0_46 := .ref (ad 152)) (u0_47 := .ref (ad 153)) (u0_48 := .ref (ad 154)) (u0_49 := .ref (ad 155)) (u0_50 := .ref (ad 156)) (u0_51 := .ref (ad 157)) (u0_52 := .ref (ad 158)) (u0_53 := .ref (ad 159)) (u0_54 := .ref (ad 160)) (u0_55 := .ref (ad 161)) (u0_56 := .int x119_56) (u0_57 := .int x119_57) (u0_58 := .ref (ad 162)) (u0_59 := .int x119_59) (u0_60 := .int x119_60) (u0_61 := .ref (ad 163)) (u0_62 := .int x119_62) (u0_63 := .ref (ad 164)) (u0_64 := .ref (ad 165)) (u0_65 := .ref (ad 166)) (u0_66 := .ref (ad 167)) (u0_67 := .ref (ad 168)) (u0_68 := .ref (ad 169)) (u0_69 := .ref (ad 170)) (u0_70 := .int x119_70) (u0_71 := .int x119_71) (c2 := f171) (c3 := f172) e119 e147 e171 e172 h147 h171 h172, fun r nw l' hw => ?_⟩
  obtain ⟨n_d2, n_d3, z0, z1, z2, rfl⟩ := hw
  refine ⟨INV_mrg (lk := [(171, .inl (cy 0, 240, .inl n_d2)), (172, .inl (cy 2, 3, .inl n_d3))]) hI ?_ ?_ ?_ ?_, (fo_mrg rfl rfl), (fo_mrg rfl rfl)⟩
  · rfl
  · exact (List.forall_mem_cons.mpr ⟨(show CP_171 cy ad _ from ⟨n_d2, rfl, z0⟩), (List.forall_mem_cons.mpr ⟨(show CP_172 cy ad _ from ⟨n_d3, rfl, z1⟩), (fun _ h => absurd h List.not_mem_nil)⟩)⟩)
  · exact zkh
  · exact zfh

set_option maxHeartbeats 8000000 in
set_option maxRecDepth 100000 in
theorem sm_X11_back {D : va_G} {cy : Nat → ClassId} {ad : Nat → Nat} {g : Nat → va_E} (l : Launch) (box : Int32) (hI : INV cy ad g) : ∃ post : Int32 → (Nat → Nat) → List (Nat × va_E) → Prop, cMi l yX11_back wq_k_X11_back { frames := 4, cells := 0, slots := 0, locals := 106 } 44 0 0 0 D cy (fun i => ad ([0, 42, 43, 38, 39, 40, 41, 44, 45, 46, 55, 62, 21, 35, 59, 66, 24, 25, 28, 29, 30, 31, 36, 37, 60, 61, 67, 68, 69, 70, 71, 72, 73, 63, 64, 65, 47, 48, 49, 50, 51, 52, 53, 54].getD i 0)) (fun i => cup [] g ([0, 42, 43, 38, 39, 40, 41, 44, 45, 46, 55, 62, 21, 35, 59, 66, 24, 25, 28, 29, 30, 31, 36, 37, 60, 61, 67, 68, 69, 70, 71, 72, 73, 63, 64, 65, 47, 48, 49, 50, 51, 52, 53, 54].getD i 0)) [.ref (ad ([0, 42, 43, 38, 39, 40, 41, 44, 45, 46, 55, 62, 21, 35, 59, 66, 24, 25, 28, 29, 30, 31, 36, 37, 60, 61, 67, 68, 69, 70, 71, 72, 73, 63, 64, 65, 47, 48, 49, 50, 51, 52, 53, 54].getD 0 0)), .int box] post ∧ ∀ (r : Int32) (nw : Nat → Nat) (l' : List (Nat × va_E)), post r nw l' → INV cy ad (cup (cmrg 173 44 [0, 42, 43, 38, 39, 40, 41, 44, 45, 46, 55, 62, 21, 35, 59, 66, 24, 25, 28, 29, 30, 31, 36, 37, 60, 61, 67, 68, 69, 70, 71, 72, 73, 63, 64, 65, 47, 48, 49, 50, 51, 52, 53, 54] l' []) g) ∧ TK g (cup (cmrg 173 44 [0, 42, 43, 38, 39, 40, 41, 44, 45, 46, 55, 62, 21, 35, 59, 66, 24, 25, 28, 29, 30, 31, 36, 37, 60, 61, 67, 68, 69, 70, 71, 72, 73, 63, 64, 65, 47, 48, 49, 50, 51, 52, 53, 54] l' []) g) := by
  have c0 : CP_0 cy ad (g 0) := hI.1 0 (by decide)
  obtain ⟨x0_1, x0_13, e0, b0_1, b0_13⟩ := c0
  have c21 : CP_21 cy ad (g 21) := hI.1 21 (by decide)
  obtain ⟨x21_5, x21_11, x21_15, x21_16, e21, b21_5, b21_11, b21_16⟩ := c21
  have c24 : CP_24 cy ad (g 24) := hI.1 24 (by decide)
  obtain ⟨f24, e24⟩ := c24
  have c25 : CP_25 cy ad (g 25) := hI.1 25 (by decide)
  obtain ⟨f25, e25⟩ := c25
  have c28 : CP_28 cy ad (g 28) := hI.1 28 (by decide)
  obtain ⟨f28, e28⟩ := c28
  have c29 : CP_29 cy ad (g 29) := hI.1 29 (by decide)
  obtain ⟨f29, e29⟩ := c29
  have c30 : CP_30 cy ad (g 30) := hI.1 30 (by decide)
  obtain ⟨f30, e30, h30⟩ := c30
  have c31 : CP_31 cy ad (g 31) := hI.1 31 (by decide)
  obtain ⟨f31, e31, h31⟩ := c31
  have c35 : CP_35 cy ad (g 35) := hI.1 35 (by decide)
  obtain ⟨x35_1, x35_2, x35_3, e35, b35_1, b35_3⟩ := c35
  have c36 : CP_36 cy ad (g 36) := hI.1 36 (by decide)
  obtain ⟨f36, e36⟩ := c36
  have c37 : CP_37 cy ad (g 37) := hI.1 37 (by decide)
  obtain ⟨f37, e37⟩ := c37
  have c38 : CP_38 cy ad (g 38) := hI.1 38 (by decide)
  obtain ⟨x38_2, x38_4, e38, b38_4⟩ := c38
  have c39 : CP_39 cy ad (g 39) := hI.1 39 (by decide)
  obtain ⟨f39, e39⟩ := c39
  have c40 : CP_40 cy ad (g 40) := hI.1 40 (by decide)
  obtain ⟨f40, e40⟩ := c40
  have c41 : CP_41 cy ad (g 41) := hI.1 41 (by decide)
  obtain ⟨f41, e41⟩ := c41
  have c42 : CP_42 cy ad (g 42) := hI.1 42 (by decide)
  have e42 := c42
  have c43 : CP_43 cy ad (g 43) := hI.1 43 (by decide)
  obtain ⟨x43_2, x43_4, e43, b43_4⟩ := c43
  have c44 : CP_44 cy ad (g 44) := hI.1 44 (by decide)
  obtain ⟨f44, e44⟩ := c44
  have c45 : CP_45 cy ad (g 45) := hI.1 45 (by decide)
  obtain ⟨f45, e45⟩ := c45
  have c46 : CP_46 cy ad (g 46) := hI.1 46 (by decide)
  obtain ⟨f46, e46⟩ := c46
  have c47 : CP_47 cy ad (g 47) := hI.1 47 (by decide)
  obtain ⟨x47_2, x47_4, e47, b47_4⟩ := c47
  have c48 : CP_48 cy ad (g 48) := hI.1 48 (by decide)
  obtain ⟨f48, e48⟩ := c48
  have c49 : CP_49 cy ad (g 49) := hI.1 49 (by decide)
  obtain ⟨f49, e49⟩ := c49
  have c50 : CP_50 cy ad (g 50) := hI.1 50 (by decide)
  obtain ⟨f50, e50⟩ := c50
  have c51 : CP_51 cy ad (g 51) := hI.1 51 (by decide)
  obtain ⟨x51_2, x51_4, e51, b51_4⟩ := c51
  have c52 : CP_52 cy ad (g 52) := hI.1 52 (by decide)
  obtain ⟨f52, e52⟩ := c52
  have c53 : CP_53 cy ad (g 53) := hI.1 53 (by decide)
  obtain ⟨f53, e53⟩ := c53
  have c54 : CP_54 cy ad (g 54) := hI.1 54 (by decide)
  obtain ⟨f54, e54⟩ := c54
  have c55 : CP_55 cy ad (g 55) := hI.1 55 (by decide)
  obtain ⟨x55_3, x55_4, e55, b55_3, b55_4⟩ := c55
  have c59 : CP_59 cy ad (g 59) := hI.1 59 (by decide)
  have e59 := c59
  have c60 : CP_60 cy ad (g 60) := hI.1 60 (by decide)
  obtain ⟨f60, e60⟩ := c60
  have c61 : CP_61 cy ad (g 61) := hI.1 61 (by decide)
  obtain ⟨f61, e61⟩ := c61
  have c62 : CP_62 cy ad (g 62) := hI.1 62 (by decide)
  have e62 := c62
  have c63 : CP_63 cy ad (g 63) := hI.1 63 (by decide)
  obtain ⟨f63, e63⟩ := c63
  have c64 : CP_64 cy ad (g 64) := hI.1 64 (by decide)
  obtain ⟨f64, e64⟩ := c64
  have c65 : CP_65 cy ad (g 65) := hI.1 65 (by decide)
  obtain ⟨f65, e65, h65⟩ := c65
  have c66 : CP_66 cy ad (g 66) := hI.1 66 (by decide)
  have e66 := c66
  have c67 : CP_67 cy ad (g 67) := hI.1 67 (by decide)
  obtain ⟨f67, e67⟩ := c67
  have c68 : CP_68 cy ad (g 68) := hI.1 68 (by decide)
  obtain ⟨f68, e68, h68⟩ := c68
  have c69 : CP_69 cy ad (g 69) := hI.1 69 (by decide)
  obtain ⟨f69, e69, h69⟩ := c69
  have c70 : CP_70 cy ad (g 70) := hI.1 70 (by decide)
  obtain ⟨f70, e70⟩ := c70
  have c71 : CP_71 cy ad (g 71) := hI.1 71 (by decide)
  obtain ⟨f71, e71⟩ := c71
  have c72 : CP_72 cy ad (g 72) := hI.1 72 (by decide)
  obtain ⟨f72, e72⟩ := c72
  have c73 : CP_73 cy ad (g 73) := hI.1 73 (by decide)
  obtain ⟨f73, e73⟩ := c73
  have zfh := hI.2.2
  have zkh := hI.2.1
  refine ⟨_, k_X11_back l D cy _ _ (u0_0 := .ref (ad 1)) (u0_1 := .int x0_1) (u0_2 := .ref (ad 2)) (u0_3 := .ref (ad 21)) (c4 := f39) (c5 := f40) (x3_2 := x38_2) (c6 := f41) (x3_4 := x38_4) (c7 := f44) (c8 := f45) (x2_2 := x43_2) (c9 := f46) (x2_4 := x43_4) (c37 := f48) (c38 := f49) (x36_2 := x47_2) (c39 := f50) (x36_4 := x47_4) (c41 := f52) (c42 := f53) (x40_2 := x51_2) (c43 := f54) (x40_4 := x51_4) (u10_0 := .ref (ad 56)) (u10_1 := .ref (ad 57)) (u10_2 := .ref (ad 58)) (x10_3 := x55_3) (x10_4 := x55_4) (u0_7 := .ref (ad 59)) (u12_0 := .ref (ad 22)) (u12_1 := .ref (ad 23)) (c16 := f24) (c17 := f25) (u12_4 := .ref (ad 26)) (u12_5 := .int x21_5) (u12_6 := .ref (ad 27)) (c18 := f28) (c19 := f29) (c20 := f30) (c21 := f31) (x12_11 := x21_11) (u12_12 := .ref (ad 32)) (u12_13 := .ref (ad 33)) (u12_14 := .ref (ad 34)) (u12_15 := .int x21_15) (u12_16 := .int x21_16) (c22 := f36) (x13_1 := x35_1) (u13_2 := .int x35_2) (x13_3 := x35_3) (c23 := f37) (c24 := f60) (c25 := f61) (c26 := f67) (c27 := f68) (c28 := f69) (c29 := f70) (c30 := f71) (c31 := f72) (c32 := f73) (c33 := f63) (c34 := f64) (c35 := f65) (u0_9 := .ref (ad 74)) (u0_10 := .ref (ad 88)) (u0_11 := .ref (ad 101)) (u0_12 := .ref (ad 118)) (u0_13 := .int x0_13) e0 e42 e43 e38 e39 e40 e41 e44 e45 e46 e55 e62 e21 e35 e59 e66 e24 e25 e28 e29 e30 e31 e36 e37 e60 e61 e67 e68 e69 e70 e71 e72 e73 e63 e64 e65 e47 e48 e49 e50 e51 e52 e53 e54 b43_4 b38_4 b55_3 b55_4 b21_11 b35_1 b35_3 h30 h31 h68 h69 h65 b47_4 b51_4, fun r nw l' hw => ?_⟩
  obtain ⟨n_y3_2, n_y3_4, n_d4, n_d5, n_d6, n_y10_3, n_y10_4, n_d23, n_d24, n_d25, n_d26, n_d27, n_d28, n_d29, n_d30, n_d31, n_d32, n_d33, n_d34, n_d35, z0, z1, z2, z3, z4, z5, z6, rfl⟩ := hw
  refine ⟨INV_mrg (lk := [(38, .inr (9, [.ref (ad 39), .ref (ad 40), .int n_y3_2, .ref (ad 41), .int n_y3_4])), (39, .inl (cy 0, 24, .inl n_d4)), (40, .inl (cy 0, 24, .inl n_d5)), (41, .inl (cy 0, 5, .inl n_d6)), (55, .inr (0, [.ref (ad 56), .ref (ad 57), .ref (ad 58), .int n_y10_3, .int n_y10_4])), (37, .inl (cy 0, 30, .inl n_d23)), (60, .inl (cy 0, 80, .inl n_d24)), (61, .inl (cy 0, 80, .inl n_d25)), (67, .inl (cy 0, 5, .inl n_d26)), (68, .inl (cy 0, 20, .inl n_d27)), (69, .inl (cy 0, 4, .inl n_d28)), (70, .inl (cy 0, 5, .inl n_d29)), (71, .inl (cy 0, 5, .inl n_d30)), (72, .inl (cy 0, 5, .inl n_d31)), (73, .inl (cy 0, 5, .inl n_d32)), (63, .inl (cy 0, 96, .inl n_d33)), (64, .inl (cy 0, 96, .inl n_d34)), (65, .inl (cy 0, 24, .inl n_d35))]) hI ?_ ?_ ?_ ?_, (fo_mrg rfl rfl), (fo_mrg rfl rfl)⟩
  · rfl
  · exact (List.forall_mem_cons.mpr ⟨(show CP_38 cy ad _ from ⟨n_y3_2, n_y3_4, rfl, z0⟩), (List.forall_mem_cons.mpr ⟨(show CP_39 cy ad _ from ⟨n_d4, rfl⟩), (List.forall_mem_cons.mpr ⟨(show CP_40 cy ad _ from ⟨n_d5, rfl⟩), (List.forall_mem_cons.mpr ⟨(show CP_41 cy ad _ from ⟨n_d6, rfl⟩), (List.forall_mem_cons.mpr ⟨(show CP_55 cy ad _ from ⟨n_y10_3, n_y10_4, rfl, z1, z2⟩), (List.forall_mem_cons.mpr ⟨(show CP_37 cy ad _ from ⟨n_d23, rfl⟩), (List.forall_mem_cons.mpr ⟨(show CP_60 cy ad _ from ⟨n_d24, rfl⟩), (List.forall_mem_cons.mpr ⟨(show CP_61 cy ad _ from ⟨n_d25, rfl⟩), (List.forall_mem_cons.mpr ⟨(show CP_67 cy ad _ from ⟨n_d26, rfl⟩), (List.forall_mem_cons.mpr ⟨(show CP_68 cy ad _ from ⟨n_d27, rfl, z3⟩), (List.forall_mem_cons.mpr ⟨(show CP_69 cy ad _ from ⟨n_d28, rfl, z4⟩), (List.forall_mem_cons.mpr ⟨(show CP_70 cy ad _ from ⟨n_d29, rfl⟩), (List.forall_mem_cons.mpr ⟨(show CP_71 cy ad _ from ⟨n_d30, rfl⟩), (List.forall_mem_cons.mpr ⟨(show CP_72 cy ad _ from ⟨n_d31, rfl⟩), (List.forall_mem_cons.mpr ⟨(show CP_73 cy ad _ from ⟨n_d32, rfl⟩), (List.forall_mem_cons.mpr ⟨(show CP_63 cy ad _ from ⟨n_d33, rfl⟩), (List.forall_mem_cons.mpr ⟨(show CP_64 cy ad _ from ⟨n_d34, rfl⟩), (List.forall_mem_cons.mpr ⟨(show CP_65 cy ad _ from ⟨n_d35, rfl, z5⟩), (fun _ h => absurd h List.not_mem_nil)⟩)⟩)⟩)⟩)⟩)⟩)⟩)⟩)⟩)⟩)⟩)⟩)⟩)⟩)⟩)⟩)⟩)⟩)
  · exact zkh
  · exact zfh

set_option maxHeartbeats 8000000 in
set_option maxRecDepth 100000 in
theorem sm_X12_back {D : va_G} {cy : Nat → ClassId} {ad : Nat → Nat} {g : Nat → va_E} (l : Launch) (box : Int32) (hI : INV cy ad g) : ∃ post : Int32 → (Nat → Nat) → List (Nat × va_E) → Prop, cMi l yX12_back wq_k_X12_back { frames := 1, cells := 0, slots := 0, locals := 22 } 4 0 0 0 D cy (fun i => ad ([119, 172, 171, 147].getD i 0)) (fun i => cup [] g ([119, 172, 171, 147].getD i 0)) [.ref (ad ([119, 172, 171, 147].getD 0 0)), .int box] post ∧ ∀ (r : Int32) (nw : Nat → Nat) (l' : List (Nat × va_E)), post r nw l' → INV cy ad (cup (cmrg 173 4 [119, 172, 171, 147] l' []) g) ∧ TK g (cup (cmrg 173 4 [119, 172, 171, 147] l' []) g) := by
  have c119 : CP_119 cy ad (g 119) := hI.1 119 (by decide)
  obtain ⟨x119_2, x119_3, x119_4, x119_5, x119_6, x119_7, x119_8, x119_9, w119_10, x119_36, x119_37, x119_38, x119_39, x119_40, x119_56, x119_57, x119_59, x119_60, x119_62, x119_70, x119_71, e119, b119_2, b119_3, b119_4, b119_6, b119_7, b119_8, b119_36, b119_37, b119_38, b119_39, b119_40, b119_56, b119_59, b119_60, b119_62, b119_70, b119_71, hU119⟩ := c119
  have c147 : CP_147 cy ad (g 147) := hI.1 147 (by decide)
  obtain ⟨f147, e147, h147⟩ := c147
  have c171 : CP_171 cy ad (g 171) := hI.1 171 (by decide)
  obtain ⟨f171, e171, h171⟩ := c171
  have c172 : CP_172 cy ad (g 172) := hI.1 172 (by decide)
  obtain ⟨f172, e172, h172⟩ := c172
  have zfh := hI.2.2
  rw [e119] at zfh
  have zkh := hI.2.1
  refine ⟨_, k_X12_back l D cy _ _ (u0_0 := .ref (ad 120)) (u0_1 := .ref (ad 121)) (u0_2 := .int x119_2) (u0_3 := .int x119_3) (u0_4 := .int x119_4) (u0_5 := .int x119_5) (u0_6 := .int x119_6) (u0_7 := .int x119_7) (u0_8 := .int x119_8) (u0_9 := .int x119_9) (u0_10 := .long w119_10) (u0_11 := .ref (ad 122)) (u0_12 := .ref (ad 123)) (u0_13 := .ref (ad 124)) (u0_14 := .ref (ad 125)) (u0_15 := .ref (ad 126)) (u0_16 := .ref (ad 127)) (u0_17 := .ref (ad 128)) (u0_18 := .ref (ad 129)) (u0_19 := .ref (ad 130)) (u0_20 := .ref (ad 131)) (u0_21 := .ref (ad 132)) (u0_22 := .ref (ad 133)) (u0_23 := .ref (ad 134)) (u0_24 := .ref (ad 135)) (u0_25 := .ref (ad 136)) (u0_26 := .ref (ad 137)) (u0_27 := .ref (ad 138)) (u0_28 := .ref (ad 139)) (u0_29 := .ref (ad 140)) (u0_30 := .ref (ad 141)) (u0_31 := .ref (ad 142)) (u0_32 := .ref (ad 143)) (u0_33 := .ref (ad 144)) (u0_34 := .ref (ad 145)) (u0_35 := .ref (ad 146)) (u0_36 := .int x119_36) (u0_37 := .int x119_37) (u0_38 := .int x119_38) (u0_39 := .int x119_39) (u0_40 := .int x119_40) (c3 := f147) (u0_42 := .ref (ad 148)) (u0_43 := .ref (ad 149)) (u0_44 := .ref (ad 150)) (u0_45 := .ref (ad 151)) (u0_46 := .ref (ad 152)) (u0_47 := .ref (ad 153)) (u0_48 := .ref (ad 154)) (u0_49 := .ref (ad 155)) (u0_50 := .ref (ad 156)) (u0_51 := .ref (ad 157)) (u0_52 := .ref (ad 158)) (u0_53 := .ref (ad 159)) (u0_54 := .ref (ad 160)) (u0_55 := .ref (ad 161)) (u0_56 := .int x119_56) (u0_57 := .int x119_57) (u0_58 := .ref (ad 162)) (x0_59 := x119_59) (x0_60 := x119_60) (u0_61 := .ref (ad 163)) (u0_62 := .int x119_62) (u0_63 := .ref (ad 164)) (u0_64 := .ref (ad 165)) (u0_65 := .ref (ad 166)) (u0_66 := .ref (ad 167)) (u0_67 := .ref (ad 168)) (u0_68 := .ref (ad 169)) (u0_69 := .ref (ad 170)) (u0_70 := .int x119_70) (u0_71 := .int x119_71) (c2 := f171) (c1 := f172) e119 e172 e171 e147 b119_59 b119_60 h172 h171 h147 hU119, fun r nw l' hw => ?_⟩
  obtain ⟨n_y0_59, n_y0_60, n_d3, z0, z1, z2, z3, wr0, rfl⟩ := hw
  refine ⟨INV_mrg (lk := [(119, .inr (12, [.ref (ad 120), .ref (ad 121), .int x119_2, .int x119_3, .int x119_4, .int x119_5, .int x119_6, .int x119_7, .int x119_8, .int x119_9, .long w119_10, .ref (ad 122), .ref (ad 123), .ref (ad 124), .ref (ad 125), .ref (ad 126), .ref (ad 127), .ref (ad 128), .ref (ad 129), .ref (ad 130), .ref (ad 131), .ref (ad 132), .ref (ad 133), .ref (ad 134), .ref (ad 135), .ref (ad 136), .ref (ad 137), .ref (ad 138), .ref (ad 139), .ref (ad 140), .ref (ad 141), .ref (ad 142), .ref (ad 143), .ref (ad 144), .ref (ad 145), .ref (ad 146), .int x119_36, .int x119_37, .int x119_38, .int x119_39, .int x119_40, .ref (ad 147), .ref (ad 148), .ref (ad 149), .ref (ad 150), .ref (ad 151), .ref (ad 152), .ref (ad 153), .ref (ad 154), .ref (ad 155), .ref (ad 156), .ref (ad 157), .ref (ad 158), .ref (ad 159), .ref (ad 160), .ref (ad 161), .int x119_56, .int x119_57, .ref (ad 162), .int n_y0_59, .int n_y0_60, .ref (ad 163), .int x119_62, .ref (ad 164), .ref (ad 165), .ref (ad 166), .ref (ad 167), .ref (ad 168), .ref (ad 169), .ref (ad 170), .int x119_70, .int x119_71, .ref (ad 171), .ref (ad 172)])), (147, .inl (cy 0, 80, .inl n_d3))]) hI ?_ ?_ ?_ ?_, (fo_mrg rfl rfl), (fo_mrg rfl (by rw [e119]; rfl))⟩
  · rfl
  · exact (List.forall_mem_cons.mpr ⟨(show CP_119 cy ad _ from ⟨x119_2, x119_3, x119_4, x119_5, x119_6, x119_7, x119_8, x119_9, w119_10, x119_36, x119_37, x119_38, x119_39, x119_40, x119_56, x119_57, n_y0_59, n_y0_60, x119_62, x119_70, x119_71, rfl, b119_2, b119_3, b119_4, b119_6, b119_7, b119_8, b119_36, b119_37, b119_38, b119_39, b119_40, b119_56, z0, z1, b119_62, b119_70, b119_71, wr0⟩), (List.forall_mem_cons.mpr ⟨(show CP_147 cy ad _ from ⟨n_d3, rfl, z2⟩), (fun _ h => absurd h List.not_mem_nil)⟩)⟩)
  · exact zkh
  · exact zfh

set_option maxHeartbeats 8000000 in
set_option maxRecDepth 100000 in
theorem sm_X11_about {D : va_G} {cy : Nat → ClassId} {ad : Nat → Nat} {g : Nat → va_E} (l : Launch) (what : Int32) (hI : INV cy ad g) : ∃ post : Int32 → (Nat → Nat) → List (Nat × va_E) → Prop, cMi l yX11_about wq_k_X11_about { frames := 0, cells := 0, slots := 0, locals := 0 } 6 0 0 0 D cy (fun i => ad ([0, 21, 38, 55, 101, 35].getD i 0)) (fun i => cup [] g ([0, 21, 38, 55, 101, 35].getD i 0)) [.ref (ad ([0, 21, 38, 55, 101, 35].getD 0 0)), .int what] post ∧ ∀ (r : Int32) (nw : Nat → Nat) (l' : List (Nat × va_E)), post r nw l' → INV cy ad (cup (cmrg 173 6 [0, 21, 38, 55, 101, 35] l' []) g) ∧ TK g (cup (cmrg 173 6 [0, 21, 38, 55, 101, 35] l' []) g) := by
  have c0 : CP_0 cy ad (g 0) := hI.1 0 (by decide)
  obtain ⟨x0_1, x0_13, e0, b0_1, b0_13⟩ := c0
  have c21 : CP_21 cy ad (g 21) := hI.1 21 (by decide)
  obtain ⟨x21_5, x21_11, x21_15, x21_16, e21, b21_5, b21_11, b21_16⟩ := c21
  have c35 : CP_35 cy ad (g 35) := hI.1 35 (by decide)
  obtain ⟨x35_1, x35_2, x35_3, e35, b35_1, b35_3⟩ := c35
  have c38 : CP_38 cy ad (g 38) := hI.1 38 (by decide)
  obtain ⟨x38_2, x38_4, e38, b38_4⟩ := c38
  have c55 : CP_55 cy ad (g 55) := hI.1 55 (by decide)
  obtain ⟨x55_3, x55_4, e55, b55_3, b55_4⟩ := c55
  have c101 : CP_101 cy ad (g 101) := hI.1 101 (by decide)
  obtain ⟨x101_7, x101_8, x101_11, x101_13, x101_14, x101_15, e101, b101_7, b101_8⟩ := c101
  have zfh := hI.2.2
  have zkh := hI.2.1
  refine ⟨_, k_X11_about l D cy _ _ (u0_0 := .ref (ad 1)) (x0_1 := x0_1) (u0_2 := .ref (ad 2)) (u1_0 := .ref (ad 22)) (u1_1 := .ref (ad 23)) (u1_2 := .ref (ad 24)) (u1_3 := .ref (ad 25)) (u1_4 := .ref (ad 26)) (x1_5 := x21_5) (u1_6 := .ref (ad 27)) (u1_7 := .ref (ad 28)) (u1_8 := .ref (ad 29)) (u1_9 := .ref (ad 30)) (u1_10 := .ref (ad 31)) (x1_11 := x21_11) (u1_12 := .ref (ad 32)) (u1_13 := .ref (ad 33)) (u1_14 := .ref (ad 34)) (u1_15 := .int x21_15) (u1_16 := .int x21_16) (u5_0 := .ref (ad 36)) (u5_1 := .int x35_1) (x5_2 := x35_2) (u5_3 := .int x35_3) (u5_4 := .ref (ad 37)) (u2_0 := .ref (ad 39)) (u2_1 := .ref (ad 40)) (u2_2 := .int x38_2) (u2_3 := .ref (ad 41)) (x2_4 := x38_4) (u0_5 := .ref (ad 42)) (u3_0 := .ref (ad 56)) (u3_1 := .ref (ad 57)) (u3_2 := .ref (ad 58)) (x3_3 := x55_3) (x3_4 := x55_4) (u0_7 := .ref (ad 59)) (u0_8 := .ref (ad 62)) (u0_9 := .ref (ad 74)) (u0_10 := .ref (ad 88)) (u4_0 := .ref (ad 21)) (u4_1 := .ref (ad 110)) (u4_2 := .ref (ad 102)) (u4_3 := .ref (ad 103)) (u4_4 := .ref (ad 104)) (u4_5 := .ref (ad 105)) (u4_6 := .ref (ad 106)) (x4_7 := x101_7) (x4_8 := x101_8) (u4_9 := .ref (ad 107)) (u4_10 := .ref (ad 108)) (u4_11 := .int x101_11) (u4_12 := .ref (ad 109)) (u4_13 := .int x101_13) (u4_14 := .int x101_14) (u4_15 := .int x101_15) (u0_12 := .ref (ad 118)) (x0_13 := x0_13) e0 e21 e38 e55 e101 e35 b0_1 b0_13 b21_5 b21_11 b38_4 b55_3 b55_4 b101_7 b101_8, fun r nw l' hw => ?_⟩
  obtain rfl := hw
  refine ⟨INV_mrg (lk := []) hI ?_ ?_ ?_ ?_, (fo_mrg rfl rfl), (fo_mrg rfl rfl)⟩
  · rfl
  · exact (fun _ h => absurd h List.not_mem_nil)
  · exact zkh
  · exact zfh

set_option maxHeartbeats 8000000 in
set_option maxRecDepth 100000 in
theorem sm_X12_about {D : va_G} {cy : Nat → ClassId} {ad : Nat → Nat} {g : Nat → va_E} (l : Launch) (what : Int32) (hI : INV cy ad g) : ∃ post : Int32 → (Nat → Nat) → List (Nat × va_E) → Prop, cMi l yX12_about wq_k_X12_about { frames := 1, cells := 0, slots := 0, locals := 20 } 5 0 0 0 D cy (fun i => ad ([119, 122, 123, 147, 125].getD i 0)) (fun i => cup [] g ([119, 122, 123, 147, 125].getD i 0)) [.ref (ad ([119, 122, 123, 147, 125].getD 0 0)), .int what] post ∧ ∀ (r : Int32) (nw : Nat → Nat) (l' : List (Nat × va_E)), post r nw l' → INV cy ad (cup (cmrg 173 5 [119, 122, 123, 147, 125] l' []) g) ∧ TK g (cup (cmrg 173 5 [119, 122, 123, 147, 125] l' []) g) := by
  have c119 : CP_119 cy ad (g 119) := hI.1 119 (by decide)
  obtain ⟨x119_2, x119_3, x119_4, x119_5, x119_6, x119_7, x119_8, x119_9, w119_10, x119_36, x119_37, x119_38, x119_39, x119_40, x119_56, x119_57, x119_59, x119_60, x119_62, x119_70, x119_71, e119, b119_2, b119_3, b119_4, b119_6, b119_7, b119_8, b119_36, b119_37, b119_38, b119_39, b119_40, b119_56, b119_59, b119_60, b119_62, b119_70, b119_71, hU119⟩ := c119
  have c122 : CP_122 cy ad (g 122) := hI.1 122 (by decide)
  obtain ⟨f122, e122, h122⟩ := c122
  have c123 : CP_123 cy ad (g 123) := hI.1 123 (by decide)
  obtain ⟨f123, e123, h123⟩ := c123
  have c125 : CP_125 cy ad (g 125) := hI.1 125 (by decide)
  obtain ⟨f125, e125, h125⟩ := c125
  have c147 : CP_147 cy ad (g 147) := hI.1 147 (by decide)
  obtain ⟨f147, e147, h147⟩ := c147
  have zfh := hI.2.2
  rw [e119] at zfh
  have zkh := hI.2.1
  refine ⟨_, k_X12_about l D cy _ _ (u0_0 := .ref (ad 120)) (u0_1 := .ref (ad 121)) (x0_2 := x119_2) (u0_3 := .int x119_3) (u0_4 := .int x119_4) (u0_5 := .int x119_5) (u0_6 := .int x119_6) (u0_7 := .int x119_7) (u0_8 := .int x119_8) (u0_9 := .int x119_9) (u0_10 := .long w119_10) (c1 := f122) (c2 := f123) (u0_13 := .ref (ad 124)) (c4 := f125) (u0_15 := .ref (ad 126)) (u0_16 := .ref (ad 127)) (u0_17 := .ref (ad 128)) (u0_18 := .ref (ad 129)) (u0_19 := .ref (ad 130)) (u0_20 := .ref (ad 131)) (u0_21 := .ref (ad 132)) (u0_22 := .ref (ad 133)) (u0_23 := .ref (ad 134)) (u0_24 := .ref (ad 135)) (u0_25 := .ref (ad 136)) (u0_26 := .ref (ad 137)) (u0_27 := .ref (ad 138)) (u0_28 := .ref (ad 139)) (u0_29 := .ref (ad 140)) (u0_30 := .ref (ad 141)) (u0_31 := .ref (ad 142)) (u0_32 := .ref (ad 143)) (u0_33 := .ref (ad 144)) (u0_34 := .ref (ad 145)) (u0_35 := .ref (ad 146)) (x0_36 := x119_36) (u0_37 := .int x119_37) (u0_38 := .int x119_38) (u0_39 := .int x119_39) (u0_40 := .int x119_40) (c3 := f147) (u0_42 := .ref (ad 148)) (u0_43 := .ref (ad 149)) (u0_44 := .ref (ad 150)) (u0_45 := .ref (ad 151)) (u0_46 := .ref (ad 152)) (u0_47 := .ref (ad 153)) (u0_48 := .ref (ad 154)) (u0_49 := .ref (ad 155)) (u0_50 := .ref (ad 156)) (u0_51 := .ref (ad 157)) (u0_52 := .ref (ad 158)) (u0_53 := .ref (ad 159)) (u0_54 := .ref (ad 160)) (u0_55 := .ref (ad 161)) (u0_56 := .int x119_56) (u0_57 := .int x119_57) (u0_58 := .ref (ad 162)) (x0_59 := x119_59) (x0_60 := x119_60) (u0_61 := .ref (ad 163)) (x0_62 := x119_62) (u0_63 := .ref (ad 164)) (u0_64 := .ref (ad 165)) (u0_65 := .ref (ad 166)) (u0_66 := .ref (ad 167)) (u0_67 := .ref (ad 168)) (u0_68 := .ref (ad 169)) (u0_69 := .ref (ad 170)) (x0_70 := x119_70) (x0_71 := x119_71) (u0_72 := .ref (ad 171)) (u0_73 := .ref (ad 172)) e119 e122 e123 e147 e125 b119_2 b119_36 b119_59 b119_60 b119_62 b119_70 b119_71 h122 h123 h147 h125 hU119, fun r nw l' hw => ?_⟩
  obtain ⟨z0, rfl⟩ := hw
  refine ⟨INV_mrg (lk := []) hI ?_ ?_ ?_ ?_, (fo_mrg rfl rfl), (fo_mrg rfl rfl)⟩
  · rfl
  · exact (fun _ h => absurd h List.not_mem_nil)
  · exact zkh
  · exact zfh

