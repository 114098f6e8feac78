set_option maxHeartbeats 8000000 in
set_option maxRecDepth 100000 in
theorem sm_X12_road {D : va_G} {cy : Nat → ClassId} {ad : Nat → Nat} {g : Nat → va_E} (l : Launch)  (hI : INV cy ad g) : ∃ pst_ : Int32 → (Nat → Nat) → List (Nat × va_E) → Prop, cMi l yX12_road wq_k_X12_road { frames := 7, cells := 0, slots := 0, locals := 149 } 29 0 0 0 D cy (fun i => ad ([119, 138, 142, 136, 120, 121, 122, 123, 124, 125, 129, 126, 127, 128, 130, 131, 132, 133, 134, 135, 137, 139, 140, 141, 143, 144, 145, 147, 172].getD i 0)) (fun i => cup [] g ([119, 138, 142, 136, 120, 121, 122, 123, 124, 125, 129, 126, 127, 128, 130, 131, 132, 133, 134, 135, 137, 139, 140, 141, 143, 144, 145, 147, 172].getD i 0)) [.ref (ad ([119, 138, 142, 136, 120, 121, 122, 123, 124, 125, 129, 126, 127, 128, 130, 131, 132, 133, 134, 135, 137, 139, 140, 141, 143, 144, 145, 147, 172].getD 0 0))] pst_ ∧ ∀ (r : Int32) (nw : Nat → Nat) (l' : List (Nat × va_E)), pst_ r nw l' → INV cy ad (cup (cmrg 173 29 [119, 138, 142, 136, 120, 121, 122, 123, 124, 125, 129, 126, 127, 128, 130, 131, 132, 133, 134, 135, 137, 139, 140, 141, 143, 144, 145, 147, 172] l' []) g) ∧ TK g (cup (cmrg 173 29 [119, 138, 142, 136, 120, 121, 122, 123, 124, 125, 129, 126, 127, 128, 130, 131, 132, 133, 134, 135, 137, 139, 140, 141, 143, 144, 145, 147, 172] l' []) g) := by
  have c119 := cp_119 hI
  obtain ⟨x119_2, x119_3, x119_4, x119_5, x119_6, x119_7, x119_8, x119_9, w119_10, x119_36, x119_37, x119_38, x119_39, x119_40, x119_56, x119_57, x119_59, x119_60, x119_62, x119_70, x119_71, e119, b119_2, b119_3, b119_4, b119_6, b119_7, b119_8, b119_36, b119_37, b119_38, b119_39, b119_40, b119_56, b119_59, b119_60, b119_62, b119_70, b119_71, hU119⟩ := c119
  have c120 := cp_120 hI
  obtain ⟨f120, e120⟩ := c120
  have c121 := cp_121 hI
  obtain ⟨f121, e121⟩ := c121
  have c122 := cp_122 hI
  obtain ⟨f122, e122, h122⟩ := c122
  have c123 := cp_123 hI
  obtain ⟨f123, e123, h123⟩ := c123
  have c124 := cp_124 hI
  obtain ⟨f124, e124, h124⟩ := c124
  have c125 := cp_125 hI
  obtain ⟨f125, e125, h125⟩ := c125
  have c126 := cp_126 hI
  obtain ⟨f126, e126⟩ := c126
  have c127 := cp_127 hI
  obtain ⟨f127, e127⟩ := c127
  have c128 := cp_128 hI
  obtain ⟨f128, e128⟩ := c128
  have c129 := cp_129 hI
  obtain ⟨f129, e129⟩ := c129
  have c130 := cp_130 hI
  obtain ⟨f130, e130⟩ := c130
  have c131 := cp_131 hI
  obtain ⟨f131, e131⟩ := c131
  have c132 := cp_132 hI
  obtain ⟨f132, e132, h132⟩ := c132
  have c133 := cp_133 hI
  obtain ⟨f133, e133, h133⟩ := c133
  have c134 := cp_134 hI
  obtain ⟨f134, e134⟩ := c134
  have c135 := cp_135 hI
  obtain ⟨f135, e135⟩ := c135
  have c136 := cp_136 hI
  obtain ⟨f136, e136, h136⟩ := c136
  have c137 := cp_137 hI
  obtain ⟨f137, e137, h137⟩ := c137
  have c138 := cp_138 hI
  obtain ⟨f138, e138, h138⟩ := c138
  have c139 := cp_139 hI
  obtain ⟨f139, e139⟩ := c139
  have c140 := cp_140 hI
  obtain ⟨f140, e140⟩ := c140
  have c141 := cp_141 hI
  obtain ⟨f141, e141⟩ := c141
  have c142 := cp_142 hI
  obtain ⟨f142, e142⟩ := c142
  have c143 := cp_143 hI
  obtain ⟨f143, e143⟩ := c143
  have c144 := cp_144 hI
  obtain ⟨f144, e144⟩ := c144
  have c145 := cp_145 hI
  obtain ⟨f145, e145⟩ := c145
  have c147 := cp_147 hI
  obtain ⟨f147, e147, h147⟩ := c147
  have c172 := cp_172 hI
  obtain ⟨f172, e172, h172⟩ := c172
  have zfh := hI.2.2
  rw [e138, e142, e136, e119] at zfh
  refine ⟨_, k_X12_road l D cy _ _ (c4 := f120) (c5 := f121) (x0_2 := x119_2) (x0_3 := x119_3) (x0_4 := x119_4) (x0_5 := x119_5) (x0_6 := x119_6) (x0_7 := x119_7) (x0_8 := x119_8) (x0_9 := x119_9) (w0x10 := w119_10) (c6 := f122) (c7 := f123) (c8 := f124) (c9 := f125) (c11 := f126) (c12 := f127) (c13 := f128) (c10 := f129) (c14 := f130) (c15 := f131) (c16 := f132) (c17 := f133) (c18 := f134) (c19 := f135) (c3 := f136) (c20 := f137) (c1 := f138) (c21 := f139) (c22 := f140) (c23 := f141) (c2 := f142) (c24 := f143) (c25 := f144) (c26 := f145) (u0_35 := .ref (ad 146)) (x0_36 := x119_36) (x0_37 := x119_37) (x0_38 := x119_38) (x0_39 := x119_39) (x0_40 := x119_40) (c27 := f147) (u0_42 := .ref (ad 148)) (u0_43 := .ref (ad 149)) (u0_44 := .ref (ad 150)) (u0_45 := .ref (ad 151)) (u0_46 := .ref (ad 152)) (u0_47 := .ref (ad 153)) (u0_48 := .ref (ad 154)) (u0_49 := .ref (ad 155)) (u0_50 := .ref (ad 156)) (u0_51 := .ref (ad 157)) (u0_52 := .ref (ad 158)) (u0_53 := .ref (ad 159)) (u0_54 := .ref (ad 160)) (u0_55 := .ref (ad 161)) (u0_56 := .int x119_56) (u0_57 := .int x119_57) (u0_58 := .ref (ad 162)) (x0_59 := x119_59) (x0_60 := x119_60) (u0_61 := .ref (ad 163)) (x0_62 := x119_62) (u0_63 := .ref (ad 164)) (u0_64 := .ref (ad 165)) (u0_65 := .ref (ad 166)) (u0_66 := .ref (ad 167)) (u0_67 := .ref (ad 168)) (u0_68 := .ref (ad 169)) (u0_69 := .ref (ad 170)) (x0_70 := x119_70) (u0_71 := .int x119_71) (u0_72 := .ref (ad 171)) (c28 := f172) e119 e138 e142 e136 e120 e121 e122 e123 e124 e125 e129 e126 e127 e128 e130 e131 e132 e133 e134 e135 e137 e139 e140 e141 e143 e144 e145 e147 e172 b119_2 b119_3 b119_4 b119_6 b119_7 b119_8 b119_36 b119_37 b119_38 b119_39 b119_40 b119_59 b119_60 b119_62 b119_70 h138 h136 h122 h123 h124 h125 h132 h133 h137 h147 h172 hU119 zfh, fun r nw l' hw => ?_⟩
  obtain ⟨n_y0_4, n_y0_5, n_y0_6, n_y0_7, n_y0_8, n_y0_9, n_w0_10, n_y0_36, n_y0_37, n_y0_38, n_y0_39, n_y0_40, n_y0_59, n_y0_60, n_y0_62, n_y0_70, n_d1, n_d2, n_d3, n_d5, n_d6, n_d7, n_d8, n_d9, n_d10, n_d11, n_d12, n_d13, n_d14, n_d15, n_d16, n_d17, n_d18, n_d19, n_d20, n_d21, n_d22, n_d23, n_d24, n_d25, n_d26, n_d27, n_d28, z0, z1, z2, z3, z4, z5, z6, z7, z8, z9, z10, z11, z12, z13, z14, z15, z16, z17, z18, z19, z20, z21, z22, z23, z24, wr0, gp_zb, rfl⟩ := hw
  refine mrg_case (P := fun g1 => INV cy ad g1 ∧ TK g g1) (lk := [(119, .inr (12, [.ref (ad 120), .ref (ad 121), .int 0, .int x119_2, .int n_y0_4, .int n_y0_5, .int n_y0_6, .int n_y0_7, .int n_y0_8, .int n_y0_9, .long n_w0_10, .ref (ad 122), .ref (ad 123), .ref (ad 124), .ref (ad 125), .ref (ad 126), .ref (ad 127), .ref (ad 128), .ref (ad 129), .ref (ad 130), .ref (ad 131), .ref (ad 132), .ref (ad 133), .ref (ad 134), .ref (ad 135), .ref (ad 136), .ref (ad 137), .ref (ad 138), .ref (ad 139), .ref (ad 140), .ref (ad 141), .ref (ad 142), .ref (ad 143), .ref (ad 144), .ref (ad 145), .ref (ad 146), .int n_y0_36, .int n_y0_37, .int n_y0_38, .int n_y0_39, .int n_y0_40, .ref (ad 147), .ref (ad 148), .ref (ad 149), .ref (ad 150), .ref (ad 151), .ref (ad 152), .ref (ad 153), .ref (ad 154), .ref (ad 155), .ref (ad 156), .ref (ad 157), .ref (ad 158), .ref (ad 159), .ref (ad 160), .ref (ad 161), .int x119_56, .int x119_57, .ref (ad 162), .int n_y0_59, .int n_y0_60, .ref (ad 163), .int n_y0_62, .ref (ad 164), .ref (ad 165), .ref (ad 166), .ref (ad 167), .ref (ad 168), .ref (ad 169), .ref (ad 170), .int n_y0_70, .int x119_71, .ref (ad 171), .ref (ad 172)])), (138, .inl (cy 2, 2, .inl n_d1)), (142, .inl (cy 0, 980, .inl n_d2)), (136, .inl (cy 0, 2, .inl n_d3)), (121, .inl (cy 3, 1600, .inl n_d5)), (122, .inl (cy 0, 2, .inl n_d6)), (123, .inl (cy 0, 2, .inl n_d7)), (124, .inl (cy 0, 2, .inl n_d8)), (125, .inl (cy 0, 2, .inl n_d9)), (129, .inl (cy 0, 10, .inl n_d10)), (126, .inl (cy 0, 10, .inl n_d11)), (127, .inl (cy 0, 10, .inl n_d12)), (128, .inl (cy 0, 10, .inl n_d13)), (130, .inl (cy 0, 8, .inl n_d14)), (131, .inl (cy 0, 8, .inl n_d15)), (132, .inl (cy 0, 8, .inl n_d16)), (133, .inl (cy 0, 40, .inl n_d17)), (134, .inl (cy 0, 24, .inl n_d18)), (135, .inl (cy 0, 24, .inl n_d19)), (137, .inl (cy 2, 24, .inl n_d20)), (139, .inl (cy 1, 10, .inr (.inl n_d21))), (140, .inl (cy 1, 8, .inr (.inl n_d22))), (141, .inl (cy 1, 24, .inr (.inl n_d23))), (143, .inl (cy 0, 980, .inl n_d24)), (144, .inl (cy 0, 90, .inl n_d25)), (145, .inl (cy 0, 90, .inl n_d26)), (147, .inl (cy 0, 80, .inl n_d27)), (172, .inl (cy 2, 3, .inl n_d28))]) ?_ ?_
  · rfl
  refine ⟨INV_up hI ?_ ?_ ?_, (by rw [cup_far rfl]), (by rw [e119]; rfl)⟩
  · exact (List.forall_mem_cons.mpr ⟨(cs_119 ⟨0, x119_2, n_y0_4, n_y0_5, n_y0_6, n_y0_7, n_y0_8, n_y0_9, n_w0_10, n_y0_36, n_y0_37, n_y0_38, n_y0_39, n_y0_40, x119_56, x119_57, n_y0_59, n_y0_60, n_y0_62, n_y0_70, x119_71, rfl, (zi_k rfl), (zi_w b119_2 (by decide)), z0, z1, z2, z3, z4, z5, z6, z7, z8, b119_56, z9, z10, z11, z12, b119_71, wr0⟩), (List.forall_mem_cons.mpr ⟨(cs_138 ⟨n_d1, rfl, z13⟩), (List.forall_mem_cons.mpr ⟨(cs_142 ⟨n_d2, rfl⟩), (List.forall_mem_cons.mpr ⟨(cs_136 ⟨n_d3, rfl, z14⟩), (List.forall_mem_cons.mpr ⟨(cs_121 ⟨n_d5, rfl⟩), (List.forall_mem_cons.mpr ⟨(cs_122 ⟨n_d6, rfl, z15⟩), (List.forall_mem_cons.mpr ⟨(cs_123 ⟨n_d7, rfl, z16⟩), (List.forall_mem_cons.mpr ⟨(cs_124 ⟨n_d8, rfl, z17⟩), (List.forall_mem_cons.mpr ⟨(cs_125 ⟨n_d9, rfl, z18⟩), (List.forall_mem_cons.mpr ⟨(cs_129 ⟨n_d10, rfl⟩), (List.forall_mem_cons.mpr ⟨(cs_126 ⟨n_d11, rfl⟩), (List.forall_mem_cons.mpr ⟨(cs_127 ⟨n_d12, rfl⟩), (List.forall_mem_cons.mpr ⟨(cs_128 ⟨n_d13, rfl⟩), (List.forall_mem_cons.mpr ⟨(cs_130 ⟨n_d14, rfl⟩), (List.forall_mem_cons.mpr ⟨(cs_131 ⟨n_d15, rfl⟩), (List.forall_mem_cons.mpr ⟨(cs_132 ⟨n_d16, rfl, z19⟩), (List.forall_mem_cons.mpr ⟨(cs_133 ⟨n_d17, rfl, z20⟩), (List.forall_mem_cons.mpr ⟨(cs_134 ⟨n_d18, rfl⟩), (List.forall_mem_cons.mpr ⟨(cs_135 ⟨n_d19, rfl⟩), (List.forall_mem_cons.mpr ⟨(cs_137 ⟨n_d20, rfl, z21⟩), (List.forall_mem_cons.mpr ⟨(cs_139 ⟨n_d21, rfl⟩), (List.forall_mem_cons.mpr ⟨(cs_140 ⟨n_d22, rfl⟩), (List.forall_mem_cons.mpr ⟨(cs_141 ⟨n_d23, rfl⟩), (List.forall_mem_cons.mpr ⟨(cs_143 ⟨n_d24, rfl⟩), (List.forall_mem_cons.mpr ⟨(cs_144 ⟨n_d25, rfl⟩), (List.forall_mem_cons.mpr ⟨(cs_145 ⟨n_d26, rfl⟩), (List.forall_mem_cons.mpr ⟨(cs_147 ⟨n_d27, rfl, z22⟩), (List.forall_mem_cons.mpr ⟨(cs_172 ⟨n_d28, rfl, z23⟩), (fun _ h => absurd h List.not_mem_nil)⟩)⟩)⟩)⟩)⟩)⟩)⟩)⟩)⟩)⟩)⟩)⟩)⟩)⟩)⟩)⟩)⟩)⟩)⟩)⟩)⟩)⟩)⟩)⟩)⟩)⟩)⟩)⟩)
  · exact (by rw [cup_far (S := 56) rfl, cup_far (S := 57) rfl]; exact hI.2.1)
  · exact gp_zb
