set_option maxHeartbeats 8000000 in
set_option maxRecDepth 100000 in
theorem sm_X12_come {D : va_G} {cy : Nat → ClassId} {ad : Nat → Nat} {g : Nat → va_E} (l : Launch) (minute its : Int32) (hI : INV cy ad g) : ∃ post : Int32 → (Nat → Nat) → List (Nat × va_E) → Prop, cMi l yX12_come wq_k_X12_come { frames := 1, cells := 0, slots := 0, locals := 22 } 3 0 0 0 D cy (fun i => ad ([119, 147, 162].getD i 0)) (fun i => cup [] g ([119, 147, 162].getD i 0)) [.ref (ad ([119, 147, 162].getD 0 0)), .int minute, .int its] post ∧ ∀ (r : Int32) (nw : Nat → Nat) (l' : List (Nat × va_E)), post r nw l' → INV cy ad (cup (cmrg 173 3 [119, 147, 162] l' []) g) ∧ TK g (cup (cmrg 173 3 [119, 147, 162] l' []) g) := by
  have c119 : CP_119 cy ad (g 119) := hI.1 119 (by decide)
  obtain ⟨x119_2, x119_3, x119_4, x119_5, x119_6, x119_7, x119_8, x119_9, w119_10, x119_36, x119_37, x119_38, x119_39, x119_40, x119_56, x119_57, x119_59, x119_60, x119_62, x119_70, x119_71, e119, b119_2, b119_3, b119_4, b119_6, b119_7, b119_8, b119_36, b119_37, b119_38, b119_39, b119_40, b119_56, b119_59, b119_60, b119_62, b119_70, b119_71, hU119⟩ := c119
  have c147 : CP_147 cy ad (g 147) := hI.1 147 (by decide)
  obtain ⟨f147, e147, h147⟩ := c147
  have c162 : CP_162 cy ad (g 162) := hI.1 162 (by decide)
  obtain ⟨f162, e162, h162⟩ := c162
  have zfh := hI.2.2
  rw [e119] at zfh
  have zkh := hI.2.1
  refine ⟨_, k_X12_come l D cy _ _ (u0_0 := .ref (ad 120)) (u0_1 := .ref (ad 121)) (u0_2 := .int x119_2) (u0_3 := .int x119_3) (u0_4 := .int x119_4) (u0_5 := .int x119_5) (u0_6 := .int x119_6) (u0_7 := .int x119_7) (u0_8 := .int x119_8) (u0_9 := .int x119_9) (u0_10 := .long w119_10) (u0_11 := .ref (ad 122)) (u0_12 := .ref (ad 123)) (u0_13 := .ref (ad 124)) (u0_14 := .ref (ad 125)) (u0_15 := .ref (ad 126)) (u0_16 := .ref (ad 127)) (u0_17 := .ref (ad 128)) (u0_18 := .ref (ad 129)) (u0_19 := .ref (ad 130)) (u0_20 := .ref (ad 131)) (u0_21 := .ref (ad 132)) (u0_22 := .ref (ad 133)) (u0_23 := .ref (ad 134)) (u0_24 := .ref (ad 135)) (u0_25 := .ref (ad 136)) (u0_26 := .ref (ad 137)) (u0_27 := .ref (ad 138)) (u0_28 := .ref (ad 139)) (u0_29 := .ref (ad 140)) (u0_30 := .ref (ad 141)) (u0_31 := .ref (ad 142)) (u0_32 := .ref (ad 143)) (u0_33 := .ref (ad 144)) (u0_34 := .ref (ad 145)) (u0_35 := .ref (ad 146)) (u0_36 := .int x119_36) (u0_37 := .int x119_37) (u0_38 := .int x119_38) (u0_39 := .int x119_39) (u0_40 := .int x119_40) (c1 := f147) (u0_42 := .ref (ad 148)) (u0_43 := .ref (ad 149)) (u0_44 := .ref (ad 150)) (u0_45 := .ref (ad 151)) (u0_46 := .ref (ad 152)) (u0_47 := .ref (ad 153)) (u0_48 := .ref (ad 154)) (u0_49 := .ref (ad 155)) (u0_50 := .ref (ad 156)) (u0_51 := .ref (ad 157)) (u0_52 := .ref (ad 158)) (u0_53 := .ref (ad 159)) (u0_54 := .ref (ad 160)) (u0_55 := .ref (ad 161)) (u0_56 := .int x119_56) (u0_57 := .int x119_57) (c2 := f162) (x0_59 := x119_59) (x0_60 := x119_60) (u0_61 := .ref (ad 163)) (u0_62 := .int x119_62) (u0_63 := .ref (ad 164)) (u0_64 := .ref (ad 165)) (u0_65 := .ref (ad 166)) (u0_66 := .ref (ad 167)) (u0_67 := .ref (ad 168)) (u0_68 := .ref (ad 169)) (u0_69 := .ref (ad 170)) (u0_70 := .int x119_70) (u0_71 := .int x119_71) (u0_72 := .ref (ad 171)) (u0_73 := .ref (ad 172)) e119 e147 e162 b119_59 b119_60 h147 h162 hU119, fun r nw l' hw => ?_⟩
  obtain ⟨n_y0_59, n_y0_60, n_d1, n_d2, z0, z1, z2, z3, z4, wr0, rfl⟩ := hw
  refine ⟨INV_mrg (lk := [(119, .inr (12, [.ref (ad 120), .ref (ad 121), .int x119_2, .int x119_3, .int x119_4, .int x119_5, .int x119_6, .int x119_7, .int x119_8, .int x119_9, .long w119_10, .ref (ad 122), .ref (ad 123), .ref (ad 124), .ref (ad 125), .ref (ad 126), .ref (ad 127), .ref (ad 128), .ref (ad 129), .ref (ad 130), .ref (ad 131), .ref (ad 132), .ref (ad 133), .ref (ad 134), .ref (ad 135), .ref (ad 136), .ref (ad 137), .ref (ad 138), .ref (ad 139), .ref (ad 140), .ref (ad 141), .ref (ad 142), .ref (ad 143), .ref (ad 144), .ref (ad 145), .ref (ad 146), .int x119_36, .int x119_37, .int x119_38, .int x119_39, .int x119_40, .ref (ad 147), .ref (ad 148), .ref (ad 149), .ref (ad 150), .ref (ad 151), .ref (ad 152), .ref (ad 153), .ref (ad 154), .ref (ad 155), .ref (ad 156), .ref (ad 157), .ref (ad 158), .ref (ad 159), .ref (ad 160), .ref (ad 161), .int x119_56, .int x119_57, .ref (ad 162), .int n_y0_59, .int n_y0_60, .ref (ad 163), .int x119_62, .ref (ad 164), .ref (ad 165), .ref (ad 166), .ref (ad 167), .ref (ad 168), .ref (ad 169), .ref (ad 170), .int x119_70, .int x119_71, .ref (ad 171), .ref (ad 172)])), (147, .inl (cy 0, 80, .inl n_d1)), (162, .inl (cy 0, 3280, .inl n_d2))]) hI ?_ ?_ ?_ ?_, (fo_mrg rfl rfl), (fo_mrg rfl (by rw [e119]; rfl))⟩
  · rfl
  · exact (List.forall_mem_cons.mpr ⟨(show CP_119 cy ad _ from ⟨x119_2, x119_3, x119_4, x119_5, x119_6, x119_7, x119_8, x119_9, w119_10, x119_36, x119_37, x119_38, x119_39, x119_40, x119_56, x119_57, n_y0_59, n_y0_60, x119_62, x119_70, x119_71, rfl, b119_2, b119_3, b119_4, b119_6, b119_7, b119_8, b119_36, b119_37, b119_38, b119_39, b119_40, b119_56, z0, z1, b119_62, b119_70, b119_71, wr0⟩), (List.forall_mem_cons.mpr ⟨(show CP_147 cy ad _ from ⟨n_d1, rfl, z2⟩), (List.forall_mem_cons.mpr ⟨(show CP_162 cy ad _ from ⟨n_d2, rfl, z3⟩), (fun _ h => absurd h List.not_mem_nil)⟩)⟩)⟩)
  · exact zkh
  · exact zfh

set_option maxHeartbeats 8000000 in
set_option maxRecDepth 100000 in
theorem sm_X11_doubt {D : va_G} {cy : Nat → ClassId} {ad : Nat → Nat} {g : Nat → va_E} (l : Launch) (cart : Int32) (hI : INV cy ad g) : ∃ post : Int32 → (Nat → Nat) → List (Nat × va_E) → Prop, cMi l yX11_doubt wq_k_X11_doubt { frames := 5, cells := 0, slots := 0, locals := 129 } 34 0 0 0 D cy (fun i => ad ([0, 38, 21, 55, 62, 35, 59, 66, 39, 40, 41, 56, 57, 58, 24, 25, 28, 29, 30, 31, 36, 37, 60, 61, 67, 68, 69, 70, 71, 72, 73, 63, 64, 65].getD i 0)) (fun i => cup [] g ([0, 38, 21, 55, 62, 35, 59, 66, 39, 40, 41, 56, 57, 58, 24, 25, 28, 29, 30, 31, 36, 37, 60, 61, 67, 68, 69, 70, 71, 72, 73, 63, 64, 65].getD i 0)) [.ref (ad ([0, 38, 21, 55, 62, 35, 59, 66, 39, 40, 41, 56, 57, 58, 24, 25, 28, 29, 30, 31, 36, 37, 60, 61, 67, 68, 69, 70, 71, 72, 73, 63, 64, 65].getD 0 0)), .int cart] post ∧ ∀ (r : Int32) (nw : Nat → Nat) (l' : List (Nat × va_E)), post r nw l' → INV cy ad (cup (cmrg 173 34 [0, 38, 21, 55, 62, 35, 59, 66, 39, 40, 41, 56, 57, 58, 24, 25, 28, 29, 30, 31, 36, 37, 60, 61, 67, 68, 69, 70, 71, 72, 73, 63, 64, 65] l' []) g) ∧ TK g (cup (cmrg 173 34 [0, 38, 21, 55, 62, 35, 59, 66, 39, 40, 41, 56, 57, 58, 24, 25, 28, 29, 30, 31, 36, 37, 60, 61, 67, 68, 69, 70, 71, 72, 73, 63, 64, 65] l' []) g) := by
  have c0 : CP_0 cy ad (g 0) := hI.1 0 (by decide)
  obtain ⟨x0_1, x0_13, e0, b0_1, b0_13⟩ := c0
  have c21 : CP_21 cy ad (g 21) := hI.1 21 (by decide)
  obtain ⟨x21_5, x21_11, x21_15, x21_16, e21, b21_5, b21_11, b21_16⟩ := c21
  have c24 : CP_24 cy ad (g 24) := hI.1 24 (by decide)
  obtain ⟨f24, e24⟩ := c24
  have c25 : CP_25 cy ad (g 25) := hI.1 25 (by decide)
  obtain ⟨f25, e25⟩ := c25
  have c28 : CP_28 cy ad (g 28) := hI.1 28 (by decide)
  obtain ⟨f28, e28⟩ := c28
  have c29 : CP_29 cy ad (g 29) := hI.1 29 (by decide)
  obtain ⟨f29, e29⟩ := c29
  have c30 : CP_30 cy ad (g 30) := hI.1 30 (by decide)
  obtain ⟨f30, e30, h30⟩ := c30
  have c31 : CP_31 cy ad (g 31) := hI.1 31 (by decide)
  obtain ⟨f31, e31, h31⟩ := c31
  have c35 : CP_35 cy ad (g 35) := hI.1 35 (by decide)
  obtain ⟨x35_1, x35_2, x35_3, e35, b35_1, b35_3⟩ := c35
  have c36 : CP_36 cy ad (g 36) := hI.1 36 (by decide)
  obtain ⟨f36, e36⟩ := c36
  have c37 : CP_37 cy ad (g 37) := hI.1 37 (by decide)
  obtain ⟨f37, e37⟩ := c37
  have c38 : CP_38 cy ad (g 38) := hI.1 38 (by decide)
  obtain ⟨x38_2, x38_4, e38, b38_4⟩ := c38
  have c39 : CP_39 cy ad (g 39) := hI.1 39 (by decide)
  obtain ⟨f39, e39⟩ := c39
  have c40 : CP_40 cy ad (g 40) := hI.1 40 (by decide)
  obtain ⟨f40, e40⟩ := c40
  have c41 : CP_41 cy ad (g 41) := hI.1 41 (by decide)
  obtain ⟨f41, e41⟩ := c41
  have c55 : CP_55 cy ad (g 55) := hI.1 55 (by decide)
  obtain ⟨x55_3, x55_4, e55, b55_3, b55_4⟩ := c55
  have c56 : CP_56 cy ad (g 56) := hI.1 56 (by decide)
  obtain ⟨f56, e56⟩ := c56
  have c57 : CP_57 cy ad (g 57) := hI.1 57 (by decide)
  obtain ⟨f57, e57⟩ := c57
  have c58 : CP_58 cy ad (g 58) := hI.1 58 (by decide)
  obtain ⟨f58, e58⟩ := c58
  have c59 : CP_59 cy ad (g 59) := hI.1 59 (by decide)
  have e59 := c59
  have c60 : CP_60 cy ad (g 60) := hI.1 60 (by decide)
  obtain ⟨f60, e60⟩ := c60
  have c61 : CP_61 cy ad (g 61) := hI.1 61 (by decide)
  obtain ⟨f61, e61⟩ := c61
  have c62 : CP_62 cy ad (g 62) := hI.1 62 (by decide)
  have e62 := c62
  have c63 : CP_63 cy ad (g 63) := hI.1 63 (by decide)
  obtain ⟨f63, e63⟩ := c63
  have c64 : CP_64 cy ad (g 64) := hI.1 64 (by decide)
  obtain ⟨f64, e64⟩ := c64
  have c65 : CP_65 cy ad (g 65) := hI.1 65 (by decide)
  obtain ⟨f65, e65, h65⟩ := c65
  have c66 : CP_66 cy ad (g 66) := hI.1 66 (by decide)
  have e66 := c66
  have c67 : CP_67 cy ad (g 67) := hI.1 67 (by decide)
  obtain ⟨f67, e67⟩ := c67
  have c68 : CP_68 cy ad (g 68) := hI.1 68 (by decide)
  obtain ⟨f68, e68, h68⟩ := c68
  have c69 : CP_69 cy ad (g 69) := hI.1 69 (by decide)
  obtain ⟨f69, e69, h69⟩ := c69
  have c70 : CP_70 cy ad (g 70) := hI.1 70 (by decide)
  obtain ⟨f70, e70⟩ := c70
  have c71 : CP_71 cy ad (g 71) := hI.1 71 (by decide)
  obtain ⟨f71, e71⟩ := c71
  have c72 : CP_72 cy ad (g 72) := hI.1 72 (by decide)
  obtain ⟨f72, e72⟩ := c72
  have c73 : CP_73 cy ad (g 73) := hI.1 73 (by decide)
  obtain ⟨f73, e73⟩ := c73
  have zfh := hI.2.2
  have zkh := hI.2.1
  rw [e56, e57] at zkh
  refine ⟨_, k_X11_doubt l D cy _ _ (u0_0 := .ref (ad 1)) (u0_1 := .int x0_1) (u0_2 := .ref (ad 2)) (u2_0 := .ref (ad 22)) (u2_1 := .ref (ad 23)) (c14 := f24) (c15 := f25) (u2_4 := .ref (ad 26)) (u2_5 := .int x21_5) (u2_6 := .ref (ad 27)) (c16 := f28) (c17 := f29) (c18 := f30) (c19 := f31) (x2_11 := x21_11) (u2_12 := .ref (ad 32)) (u2_13 := .ref (ad 33)) (u2_14 := .ref (ad 34)) (x2_15 := x21_15) (u2_16 := .int x21_16) (c20 := f36) (x5_1 := x35_1) (u5_2 := .int x35_2) (x5_3 := x35_3) (c21 := f37) (c8 := f39) (c9 := f40) (x1_2 := x38_2) (c10 := f41) (x1_4 := x38_4) (u0_5 := .ref (ad 42)) (c11 := f56) (c12 := f57) (c13 := f58) (x3_3 := x55_3) (x3_4 := x55_4) (u0_7 := .ref (ad 59)) (c22 := f60) (c23 := f61) (c24 := f67) (c25 := f68) (c26 := f69) (c27 := f70) (c28 := f71) (c29 := f72) (c30 := f73) (c31 := f63) (c32 := f64) (c33 := f65) (u0_9 := .ref (ad 74)) (u0_10 := .ref (ad 88)) (u0_11 := .ref (ad 101)) (u0_12 := .ref (ad 118)) (u0_13 := .int x0_13) e0 e38 e21 e55 e62 e35 e59 e66 e39 e40 e41 e56 e57 e58 e24 e25 e28 e29 e30 e31 e36 e37 e60 e61 e67 e68 e69 e70 e71 e72 e73 e63 e64 e65 b38_4 b21_11 b55_3 b55_4 b35_1 b35_3 h30 h31 h68 h69 h65 zkh, fun r nw l' hw => ?_⟩
  obtain ⟨n_y1_2, n_y1_4, n_y3_3, n_y3_4, n_d8, n_d9, n_d10, n_d11, n_d12, n_d13, n_d21, n_d22, n_d23, n_d24, n_d25, n_d26, n_d27, n_d28, n_d29, n_d30, n_d31, n_d32, n_d33, z0, z1, z2, z3, z4, z5, z6, pr, rfl⟩ := hw
  refine ⟨INV_mrg (lk := [(38, .inr (9, [.ref (ad 39), .ref (ad 40), .int n_y1_2, .ref (ad 41), .int n_y1_4])), (55, .inr (0, [.ref (ad 56), .ref (ad 57), .ref (ad 58), .int n_y3_3, .int n_y3_4])), (39, .inl (cy 0, 24, .inl n_d8)), (40, .inl (cy 0, 24, .inl n_d9)), (41, .inl (cy 0, 5, .inl n_d10)), (56, .inl (cy 0, 40, .inl n_d11)), (57, .inl (cy 0, 40, .inl n_d12)), (58, .inl (cy 0, 40, .inl n_d13)), (37, .inl (cy 0, 30, .inl n_d21)), (60, .inl (cy 0, 80, .inl n_d22)), (61, .inl (cy 0, 80, .inl n_d23)), (67, .inl (cy 0, 5, .inl n_d24)), (68, .inl (cy 0, 20, .inl n_d25)), (69, .inl (cy 0, 4, .inl n_d26)), (70, .inl (cy 0, 5, .inl n_d27)), (71, .inl (cy 0, 5, .inl n_d28)), (72, .inl (cy 0, 5, .inl n_d29)), (73, .inl (cy 0, 5, .inl n_d30)), (63, .inl (cy 0, 96, .inl n_d31)), (64, .inl (cy 0, 96, .inl n_d32)), (65, .inl (cy 0, 24, .inl n_d33))]) hI ?_ ?_ ?_ ?_, (fo_mrg rfl rfl), (fo_mrg rfl rfl)⟩
  · rfl
  · exact (List.forall_mem_cons.mpr ⟨(show CP_38 cy ad _ from ⟨n_y1_2, n_y1_4, rfl, z0⟩), (List.forall_mem_cons.mpr ⟨(show CP_55 cy ad _ from ⟨n_y3_3, n_y3_4, rfl, z1, z2⟩), (List.forall_mem_cons.mpr ⟨(show CP_39 cy ad _ from ⟨n_d8, rfl⟩), (List.forall_mem_cons.mpr ⟨(show CP_40 cy ad _ from ⟨n_d9, rfl⟩), (List.forall_mem_cons.mpr ⟨(show CP_41 cy ad _ from ⟨n_d10, rfl⟩), (List.forall_mem_cons.mpr ⟨(show CP_56 cy ad _ from ⟨n_d11, rfl⟩), (List.forall_mem_cons.mpr ⟨(show CP_57 cy ad _ from ⟨n_d12, rfl⟩), (List.forall_mem_cons.mpr ⟨(show CP_58 cy ad _ from ⟨n_d13, rfl⟩), (List.forall_mem_cons.mpr ⟨(show CP_37 cy ad _ from ⟨n_d21, rfl⟩), (List.forall_mem_cons.mpr ⟨(show CP_60 cy ad _ from ⟨n_d22, rfl⟩), (List.forall_mem_cons.mpr ⟨(show CP_61 cy ad _ from ⟨n_d23, rfl⟩), (List.forall_mem_cons.mpr ⟨(show CP_67 cy ad _ from ⟨n_d24, rfl⟩), (List.forall_mem_cons.mpr ⟨(show CP_68 cy ad _ from ⟨n_d25, rfl, z3⟩), (List.forall_mem_cons.mpr ⟨(show CP_69 cy ad _ from ⟨n_d26, rfl, z4⟩), (List.forall_mem_cons.mpr ⟨(show CP_70 cy ad _ from ⟨n_d27, rfl⟩), (List.forall_mem_cons.mpr ⟨(show CP_71 cy ad _ from ⟨n_d28, rfl⟩), (List.forall_mem_cons.mpr ⟨(show CP_72 cy ad _ from ⟨n_d29, rfl⟩), (List.forall_mem_cons.mpr ⟨(show CP_73 cy ad _ from ⟨n_d30, rfl⟩), (List.forall_mem_cons.mpr ⟨(show CP_63 cy ad _ from ⟨n_d31, rfl⟩), (List.forall_mem_cons.mpr ⟨(show CP_64 cy ad _ from ⟨n_d32, rfl⟩), (List.forall_mem_cons.mpr ⟨(show CP_65 cy ad _ from ⟨n_d33, rfl, z5⟩), (fun _ h => absurd h List.not_mem_nil)⟩)⟩)⟩)⟩)⟩)⟩)⟩)⟩)⟩)⟩)⟩)⟩)⟩)⟩)⟩)⟩)⟩)⟩)⟩)⟩)⟩)
  · exact pr
  · exact zfh

set_option maxHeartbeats 8000000 in
set_option maxRecDepth 100000 in
theorem sm_X12_doubt {D : va_G} {cy : Nat → ClassId} {ad : Nat → Nat} {g : Nat → va_E} (l : Launch) (cx : Int32) (hI : INV cy ad g) : ∃ post : Int32 → (Nat → Nat) → List (Nat × va_E) → Prop, cMi l yX12_doubt wq_k_X12_doubt { frames := 2, cells := 0, slots := 0, locals := 43 } 5 0 0 0 D cy (fun i => ad ([119, 147, 124, 137, 162].getD i 0)) (fun i => cup [] g ([119, 147, 124, 137, 162].getD i 0)) [.ref (ad ([119, 147, 124, 137, 162].getD 0 0)), .int cx] post ∧ ∀ (r : Int32) (nw : Nat → Nat) (l' : List (Nat × va_E)), post r nw l' → INV cy ad (cup (cmrg 173 5 [119, 147, 124, 137, 162] l' []) g) ∧ TK g (cup (cmrg 173 5 [119, 147, 124, 137, 162] l' []) g) := by
  have c119 : CP_119 cy ad (g 119) := hI.1 119 (by decide)
  obtain ⟨x119_2, x119_3, x119_4, x119_5, x119_6, x119_7, x119_8, x119_9, w119_10, x119_36, x119_37, x119_38, x119_39, x119_40, x119_56, x119_57, x119_59, x119_60, x119_62, x119_70, x119_71, e119, b119_2, b119_3, b119_4, b119_6, b119_7, b119_8, b119_36, b119_37, b119_38, b119_39, b119_40, b119_56, b119_59, b119_60, b119_62, b119_70, b119_71, hU119⟩ := c119
  have c124 : CP_124 cy ad (g 124) := hI.1 124 (by decide)
  obtain ⟨f124, e124, h124⟩ := c124
  have c137 : CP_137 cy ad (g 137) := hI.1 137 (by decide)
  obtain ⟨f137, e137, h137⟩ := c137
  have c147 : CP_147 cy ad (g 147) := hI.1 147 (by decide)
  obtain ⟨f147, e147, h147⟩ := c147
  have c162 : CP_162 cy ad (g 162) := hI.1 162 (by decide)
  obtain ⟨f162, e162, h162⟩ := c162
  have zfh := hI.2.2
  rw [e119] at zfh
  have zkh := hI.2.1
  refine ⟨_, k_X12_doubt l D cy _ _ (u0_0 := .ref (ad 120)) (u0_1 := .ref (ad 121)) (u0_2 := .int x119_2) (u0_3 := .int x119_3) (u0_4 := .int x119_4) (u0_5 := .int x119_5) (u0_6 := .int x119_6) (u0_7 := .int x119_7) (u0_8 := .int x119_8) (u0_9 := .int x119_9) (u0_10 := .long w119_10) (u0_11 := .ref (ad 122)) (u0_12 := .ref (ad 123)) (c2 := f124) (u0_14 := .ref (ad 125)) (u0_15 := .ref (ad 126)) (u0_16 := .ref (ad 127)) (u0_17 := .ref (ad 128)) (u0_18 := .ref (ad 129)) (u0_19 := .ref (ad 130)) (u0_20 := .ref (ad 131)) (u0_21 := .ref (ad 132)) (u0_22 := .ref (ad 133)) (u0_23 := .ref (ad 134)) (u0_24 := .ref (ad 135)) (u0_25 := .ref (ad 136)) (c3 := f137) (u0_27 := .ref (ad 138)) (u0_28 := .ref (ad 139)) (u0_29 := .ref (ad 140)) (u0_30 := .ref (ad 141)) (u0_31 := .ref (ad 142)) (u0_32 := .ref (ad 143)) (u0_33 := .ref (ad 144)) (u0_34 := .ref (ad 145)) (u0_35 := .ref (ad 146)) (x0_36 := x119_36) (u0_37 := .int x119_37) (u0_38 := .int x119_38) (u0_39 := .int x119_39) (u0_40 := .int x119_40) (c1 := f147) (u0_42 := .ref (ad 148)) (u0_43 := .ref (ad 149)) (u0_44 := .ref (ad 150)) (u0_45 := .ref (ad 151)) (u0_46 := .ref (ad 152)) (u0_47 := .ref (ad 153)) (u0_48 := .ref (ad 154)) (u0_49 := .ref (ad 155)) (u0_50 := .ref (ad 156)) (u0_51 := .ref (ad 157)) (u0_52 := .ref (ad 158)) (u0_53 := .ref (ad 159)) (u0_54 := .ref (ad 160)) (u0_55 := .ref (ad 161)) (u0_56 := .int x119_56) (u0_57 := .int x119_57) (c4 := f162) (x0_59 := x119_59) (x0_60 := x119_60) (u0_61 := .ref (ad 163)) (u0_62 := .int x119_62) (u0_63 := .ref (ad 164)) (u0_64 := .ref (ad 165)) (u0_65 := .ref (ad 166)) (u0_66 := .ref (ad 167)) (u0_67 := .ref (ad 168)) (u0_68 := .ref (ad 169)) (u0_69 := .ref (ad 170)) (u0_70 := .int x119_70) (u0_71 := .int x119_71) (u0_72 := .ref (ad 171)) (u0_73 := .ref (ad 172)) e119 e147 e124 e137 e162 b119_36 b119_59 b119_60 h147 h124 h137 h162 hU119, fun r nw l' hw => ?_⟩
  obtain ⟨n_y0_59, n_y0_60, n_d1, n_d4, z0, z1, z2, z3, wr0, rfl⟩ := hw
  refine ⟨INV_mrg (lk := [(119, .inr (12, [.ref (ad 120), .ref (ad 121), .int x119_2, .int x119_3, .int x119_4, .int x119_5, .int x119_6, .int x119_7, .int x119_8, .int x119_9, .long w119_10, .ref (ad 122), .ref (ad 123), .ref (ad 124), .ref (ad 125), .ref (ad 126), .ref (ad 127), .ref (ad 128), .ref (ad 129), .ref (ad 130), .ref (ad 131), .ref (ad 132), .ref (ad 133), .ref (ad 134), .ref (ad 135), .ref (ad 136), .ref (ad 137), .ref (ad 138), .ref (ad 139), .ref (ad 140), .ref (ad 141), .ref (ad 142), .ref (ad 143), .ref (ad 144), .ref (ad 145), .ref (ad 146), .int x119_36, .int x119_37, .int x119_38, .int x119_39, .int x119_40, .ref (ad 147), .ref (ad 148), .ref (ad 149), .ref (ad 150), .ref (ad 151), .ref (ad 152), .ref (ad 153), .ref (ad 154), .ref (ad 155), .ref (ad 156), .ref (ad 157), .ref (ad 158), .ref (ad 159), .ref (ad 160), .ref (ad 161), .int x119_56, .int x119_57, .ref (ad 162), .int n_y0_59, .int n_y0_60, .ref (ad 163), .int x119_62, .ref (ad 164), .ref (ad 165), .ref (ad 166), .ref (ad 167), .ref (ad 168), .ref (ad 169), .ref (ad 170), .int x119_70, .int x119_71, .ref (ad 171), .ref (ad 172)])), (147, .inl (cy 0, 80, .inl n_d1)), (162, .inl (cy 0, 3280, .inl n_d4))]) hI ?_ ?_ ?_ ?_, (fo_mrg rfl rfl), (fo_mrg rfl (by rw [e119]; rfl))⟩
  · rfl
  · exact (List.forall_mem_cons.mpr ⟨(show CP_119 cy ad _ from ⟨x119_2, x119_3, x119_4, x119_5, x119_6, x119_7, x119_8, x119_9, w119_10, x119_36, x119_37, x119_38, x119_39, x119_40, x119_56, x119_57, n_y0_59, n_y0_60, x119_62, x119_70, x119_71, rfl, b119_2, b119_3, b119_4, b119_6, b119_7, b119_8, b119_36, b119_37, b119_38, b119_39, b119_40, b119_56, z0, z1, b119_62, b119_70, b119_71, wr0⟩), (List.forall_mem_cons.mpr ⟨(show CP_147 cy ad _ from ⟨n_d1, rfl, z2⟩), (List.forall_mem_cons.mpr ⟨(show CP_162 cy ad _ from ⟨n_d4, rfl, z3⟩), (fun _ h => absurd h List.not_mem_nil)⟩)⟩)⟩)
  · exact zkh
  · exact zfh

set_option maxHeartbeats 8000000 in
set_option maxRecDepth 100000 in
theorem sm_X11_learn {D : va_G} {cy : Nat → ClassId} {ad : Nat → Nat} {g : Nat → va_E} (l : Launch) (bird byx : Int32) (hI : INV cy ad g) : ∃ post : Int32 → (Nat → Nat) → List (Nat × va_E) → Prop, cMi l yX11_learn wq_k_X11_learn { frames := 5, cells := 0, slots := 0, locals := 129 } 34 0 0 0 D cy (fun i => ad ([0, 21, 38, 41, 55, 62, 35, 59, 66, 39, 40, 56, 57, 58, 24, 25, 28, 29, 30, 31, 36, 37, 60, 61, 67, 68, 69, 70, 71, 72, 73, 63, 64, 65].getD i 0)) (fun i => cup [] g ([0, 21, 38, 41, 55, 62, 35, 59, 66, 39, 40, 56, 57, 58, 24, 25, 28, 29, 30, 31, 36, 37, 60, 61, 67, 68, 69, 70, 71, 72, 73, 63, 64, 65].getD i 0)) [.ref (ad ([0, 21, 38, 41, 55, 62, 35, 59, 66, 39, 40, 56, 57, 58, 24, 25, 28, 29, 30, 31, 36, 37, 60, 61, 67, 68, 69, 70, 71, 72, 73, 63, 64, 65].getD 0 0)), .int bird, .int byx] post ∧ ∀ (r : Int32) (nw : Nat → Nat) (l' : List (Nat × va_E)), post r nw l' → INV cy ad (cup (cmrg 173 34 [0, 21, 38, 41, 55, 62, 35, 59, 66, 39, 40, 56, 57, 58, 24, 25, 28, 29, 30, 31, 36, 37, 60, 61, 67, 68, 69, 70, 71, 72, 73, 63, 64, 65] l' []) g) ∧ TK g (cup (cmrg 173 34 [0, 21, 38, 41, 55, 62, 35, 59, 66, 39, 40, 56, 57, 58, 24, 25, 28, 29, 30, 31, 36, 37, 60, 61, 67, 68, 69, 70, 71, 72, 73, 63, 64, 65] l' []) g) := by
  have c0 : CP_0 cy ad (g 0) := hI.1 0 (by decide)
  obtain ⟨x0_1, x0_13, e0, b0_1, b0_13⟩ := c0
  have c21 : CP_21 cy ad (g 21) := hI.1 21 (by decide)
  obtain ⟨x21_5, x21_11, x21_15, x21_16, e21, b21_5, b21_11, b21_16⟩ := c21
  have c24 : CP_24 cy ad (g 24) := hI.1 24 (by decide)
  obtain ⟨f24, e24⟩ := c24
  have c25 : CP_25 cy ad (g 25) := hI.1 25 (by decide)
  obtain ⟨f25, e25⟩ := c25
  have c28 : CP_28 cy ad (g 28) := hI.1 28 (by decide)
  obtain ⟨f28, e28⟩ := c28
  have c29 : CP_29 cy ad (g 29) := hI.1 29 (by decide)
  obtain ⟨f29, e29⟩ := c29
  have c30 : CP_30 cy ad (g 30) := hI.1 30 (by decide)
  obtain ⟨f30, e30, h30⟩ := c30
  have c31 : CP_31 cy ad (g 31) := hI.1 31 (by decide)
  obtain ⟨f31, e31, h31⟩ := c31
  have c35 : CP_35 cy ad (g 35) := hI.1 35 (by decide)
  obtain ⟨x35_1, x35_2, x35_3, e35, b35_1, b35_3⟩ := c35
  have c36 : CP_36 cy ad (g 36) := hI.1 36 (by decide)
  obtain ⟨f36, e36⟩ := c36
  have c37 : CP_37 cy ad (g 37) := hI.1 37 (by decide)
  obtain ⟨f37, e37⟩ := c37
  have c38 : CP_38 cy ad (g 38) := hI.1 38 (by decide)
  obtain ⟨x38_2, x38_4, e38, b38_4⟩ := c38
  have c39 : CP_39 cy ad (g 39) := hI.1 39 (by decide)
  obtain ⟨f39, e39⟩ := c39
  have c40 : CP_40 cy ad (g 40) := hI.1 40 (by decide)
  obtain ⟨f40, e40⟩ := c40
  have c41 : CP_41 cy ad (g 41) := hI.1 41 (by decide)
  obtain ⟨f41, e41⟩ := c41
  have c55 : CP_55 cy ad (g 55) := hI.1 55 (by decide)
  obtain ⟨x55_3, x55_4, e55, b55_3, b55_4⟩ := c55
  have c56 : CP_56 cy ad (g 56) := hI.1 56 (by decide)
  obtain ⟨f56, e56⟩ := c56
  have c57 : CP_57 cy ad (g 57) := hI.1 57 (by decide)
  obtain ⟨f57, e57⟩ := c57
  have c58 : CP_58 cy ad (g 58) := hI.1 58 (by decide)
  obtain ⟨f58, e58⟩ := c58
  have c59 : CP_59 cy ad (g 59) := hI.1 59 (by decide)
  have e59 := c59
  have c60 : CP_60 cy ad (g 60) := hI.1 60 (by decide)
  obtain ⟨f60, e60⟩ := c60
  have c61 : CP_61 cy ad (g 61) := hI.1 61 (by decide)
  obtain ⟨f61, e61⟩ := c61
  have c62 : CP_62 cy ad (g 62) := hI.1 62 (by decide)
  have e62 := c62
  have c63 : CP_63 cy ad (g 63) := hI.1 63 (by decide)
  obtain ⟨f63, e63⟩ := c63
  have c64 : CP_64 cy ad (g 64) := hI.1 64 (by decide)
  obtain ⟨f64, e64⟩ := c64
  have c65 : CP_65 cy ad (g 65) := hI.1 65 (by decide)
  obtain ⟨f65, e65, h65⟩ := c65
  have c66 : CP_66 cy ad (g 66) := hI.1 66 (by decide)
  have e66 := c66
  have c67 : CP_67 cy ad (g 67) := hI.1 67 (by decide)
  obtain ⟨f67, e67⟩ := c67
  have c68 : CP_68 cy ad (g 68) := hI.1 68 (by decide)
  obtain ⟨f68, e68, h68⟩ := c68
  have c69 : CP_69 cy ad (g 69) := hI.1 69 (by decide)
  obtain ⟨f69, e69, h69⟩ := c69
  have c70 : CP_70 cy ad (g 70) := hI.1 70 (by decide)
  obtain ⟨f70, e70⟩ := c70
  have c71 : CP_71 cy ad (g 71) := hI.1 71 (by decide)
  obtain ⟨f71, e71⟩ := c71
  have c72 : CP_72 cy ad (g 72) := hI.1 72 (by decide)
  obtain ⟨f72, e72⟩ := c72
  have c73 : CP_73 cy ad (g 73) := hI.1 73 (by decide)
  obtain ⟨f73, e73⟩ := c73
  have zfh := hI.2.2
  have zkh := hI.2.1
  rw [e56, e57] at zkh
  refine ⟨_, k_X11_learn l D cy _ _ (u0_0 := .ref (ad 1)) (u0_1 := .int x0_1) (u0_2 := .ref (ad 2)) (u1_0 := .ref (ad 22)) (u1_1 := .ref (ad 23)) (c14 := f24) (c15 := f25) (u1_4 := .ref (ad 26)) (x1_5 := x21_5) (u1_6 := .ref (ad 27)) (c16 := f28) (c17 := f29) (c18 := f30) (c19 := f31) (x1_11 := x21_11) (u1_12 := .ref (ad 32)) (u1_13 := .ref (ad 33)) (u1_14 := .ref (ad 34)) (u1_15 := .int x21_15) (u1_16 := .int x21_16) (c20 := f36) (x6_1 := x35_1) (u6_2 := .int x35_2) (x6_3 := x35_3) (c21 := f37) (c9 := f39) (c10 := f40) (x2_2 := x38_2) (c3 := f41) (x2_4 := x38_4) (u0_5 := .ref (ad 42)) (c11 := f56) (c12 := f57) (c13 := f58) (x4_3 := x55_3) (x4_4 := x55_4) (u0_7 := .ref (ad 59)) (c22 := f60) (c23 := f61) (c24 := f67) (c25 := f68) (c26 := f69) (c27 := f70) (c28 := f71) (c29 := f72) (c30 := f73) (c31 := f63) (c32 := f64) (c33 := f65) (u0_9 := .ref (ad 74)) (u0_10 := .ref (ad 88)) (u0_11 := .ref (ad 101)) (u0_12 := .ref (ad 118)) (u0_13 := .int x0_13) e0 e21 e38 e41 e55 e62 e35 e59 e66 e39 e40 e56 e57 e58 e24 e25 e28 e29 e30 e31 e36 e37 e60 e61 e67 e68 e69 e70 e71 e72 e73 e63 e64 e65 b21_5 b21_11 b38_4 b55_3 b55_4 b35_1 b35_3 h30 h31 h68 h69 h65 zkh, fun r nw l' hw => ?_⟩
  obtain ⟨n_y2_2, n_y2_4, n_d3, n_y4_3, n_y4_4, n_d9, n_d10, n_d11, n_d12, n_d13, n_d21, n_d22, n_d23, n_d24, n_d25, n_d26, n_d27, n_d28, n_d29, n_d30, n_d31, n_d32, n_d33, z0, z1, z2, z3, z4, z5, pr, rfl⟩ := hw
  refine ⟨INV_mrg (lk := [(38, .inr (9, [.ref (ad 39), .ref (ad 40), .int n_y2_2, .ref (ad 41), .int n_y2_4])), (41, .inl (cy 0, 5, .inl n_d3)), (55, .inr (0, [.ref (ad 56), .ref (ad 57), .ref (ad 58), .int n_y4_3, .int n_y4_4])), (39, .inl (cy 0, 24, .inl n_d9)), (40, .inl (cy 0, 24, .inl n_d10)), (56, .inl (cy 0, 40, .inl n_d11)), (57, .inl (cy 0, 40, .inl n_d12)), (58, .inl (cy 0, 40, .inl n_d13)), (37, .inl (cy 0, 30, .inl n_d21)), (60, .inl (cy 0, 80, .inl n_d22)), (61, .inl (cy 0, 80, .inl n_d23)), (67, .inl (cy 0, 5, .inl n_d24)), (68, .inl (cy 0, 20, .inl n_d25)), (69, .inl (cy 0, 4, .inl n_d26)), (70, .inl (cy 0, 5, .inl n_d27)), (71, .inl (cy 0, 5, .inl n_d28)), (72, .inl (cy 0, 5, .inl n_d29)), (73, .inl (cy 0, 5, .inl n_d30)), (63, .inl (cy 0, 96, .inl n_d31)), (64, .inl (cy 0, 96, .inl n_d32)), (65, .inl (cy 0, 24, .inl n_d33))]) hI ?_ ?_ ?_ ?_, (fo_mrg rfl rfl), (fo_mrg rfl rfl)⟩
  · rfl
  · exact (List.forall_mem_cons.mpr ⟨(show CP_38 cy ad _ from ⟨n_y2_2, n_y2_4, rfl, z0⟩), (List.forall_mem_cons.mpr ⟨(show CP_41 cy ad _ from ⟨n_d3, rfl⟩), (List.forall_mem_cons.mpr ⟨(show CP_55 cy ad _ from ⟨n_y4_3, n_y4_4, rfl, z1, z2⟩), (List.forall_mem_cons.mpr ⟨(show CP_39 cy ad _ from ⟨n_d9, rfl⟩), (List.forall_mem_cons.mpr ⟨(show CP_40 cy ad _ from ⟨n_d10, rfl⟩), (List.forall_mem_cons.mpr ⟨(show CP_56 cy ad _ from ⟨n_d11, rfl⟩), (List.forall_mem_cons.mpr ⟨(show CP_57 cy ad _ from ⟨n_d12, rfl⟩), (List.forall_mem_cons.mpr ⟨(show CP_58 cy ad _ from ⟨n_d13, rfl⟩), (List.forall_mem_cons.mpr ⟨(show CP_37 cy ad _ from ⟨n_d21, rfl⟩), (List.forall_mem_cons.mpr ⟨(show CP_60 cy ad _ from ⟨n_d22, rfl⟩), (List.forall_mem_cons.mpr ⟨(show CP_61 cy ad _ from ⟨n_d23, rfl⟩), (List.forall_mem_cons.mpr ⟨(show CP_67 cy ad _ from ⟨n_d24, rfl⟩), (List.forall_mem_cons.mpr ⟨(show CP_68 cy ad _ from ⟨n_d25, rfl, z3⟩), (List.forall_mem_cons.mpr ⟨(show CP_69 cy ad _ from ⟨n_d26, rfl, z4⟩), (List.forall_mem_cons.mpr ⟨(show CP_70 cy ad _ from ⟨n_d27, rfl⟩), (List.forall_mem_cons.mpr ⟨(show CP_71 cy ad _ from ⟨n_d28, rfl⟩), (List.forall_mem_cons.mpr ⟨(show CP_72 cy ad _ from ⟨n_d29, rfl⟩), (List.forall_mem_cons.mpr ⟨(show CP_73 cy ad _ from ⟨n_d30, rfl⟩), (List.forall_mem_cons.mpr ⟨(show CP_63 cy ad _ from ⟨n_d31, rfl⟩), (List.forall_mem_cons.mpr ⟨(show CP_64 cy ad _ from ⟨n_d32, rfl⟩), (List.forall_mem_cons.mpr ⟨(show CP_65 cy ad _ from ⟨n_d33, rfl, z5⟩), (fun _ h => absurd h List.not_mem_nil)⟩)⟩)⟩)⟩)⟩)⟩)⟩)⟩)⟩)⟩)⟩)⟩)⟩)⟩)⟩)⟩)⟩)⟩)⟩)⟩)⟩)
  · exact pr
  · exact zfh

set_option maxHeartbeats 8000000 in
set_option maxRecDepth 100000 in
theorem sm_X12_learn {D : va_G} {cy : Nat → ClassId} {ad : Nat → Nat} {g : Nat → va_E} (l : Launch) (bx byx : Int32) (hI : INV cy ad g) : ∃ post : Int32 → (Nat → Nat) → List (Nat × va_E) → Prop, cMi l yX12_learn wq_k_X12_learn { frames := 2, cells := 0, slots := 0, locals := 43 } 4 0 0 0 D cy (fun i => ad ([119, 122, 147, 162].getD i 0)) (fun i => cup [] g ([119, 122, 147, 162].getD i 0)) [.ref (ad ([119, 122, 147, 162].getD 0 0)), .int bx, .int byx] post ∧ ∀ (r : Int32) (nw : Nat → Nat) (l' : List (Nat × va_E)), post r nw l' → INV cy ad (cup (cmrg 173 4 [119, 122, 147, 162] l' []) g) ∧ TK g (cup (cmrg 173 4 [119, 122, 147, 162] l' []) g) := by
  have c119 : CP_119 cy ad (g 119) := hI.1 119 (by decide)
  obtain ⟨x119_2, x119_3, x119_4, x119_5, x119_6, x119_7, x119_8, x119_9, w119_10, x119_36, x119_37, x119_38, x119_39, x119_40, x119_56, x119_57, x119_59, x119_60, x119_62, x119_70, x119_71, e119, b119_2, b119_3, b119_4, b119_6, b119_7, b119_8, b119_36, b119_37, b119_38, b119_39, b119_40, b119_56, b119_59, b119_60, b119_62, b119_70, b119_71, hU119⟩ := c119
  have c122 : CP_122 cy ad (g 122) := hI.1 122 (by decide)
  obtain ⟨f122, e122, h122⟩ := c122
  have c147 : CP_147 cy ad (g 147) := hI.1 147 (by decide)
  obtain ⟨f147, e147, h147⟩ := c147
  have c162 : CP_162 cy ad (g 162) := hI.1 162 (by decide)
  obtain ⟨f162, e162, h162⟩ := c162
  have zfh := hI.2.2
  rw [e119] at zfh
  have zkh := hI.2.1
  refine ⟨_, k_X12_learn l D cy _ _ (u0_0 := .ref (ad 120)) (u0_1 := .ref (ad 121)) (u0_2 := .int x119_2) (u0_3 := .int x119_3) (u0_4 := .int x119_4) (u0_5 := .int x119_5) (u0_6 := .int x119_6) (u0_7 := .int x119_7) (u0_8 := .int x119_8) (u0_9 := .int x119_9) (u0_10 := .long w119_10) (c1 := f122) (u0_12 := .ref (ad 123)) (u0_13 := .ref (ad 124)) (u0_14 := .ref (ad 125)) (u0_15 := .ref (ad 126)) (u0_16 := .ref (ad 127)) (u0_17 := .ref (ad 128)) (u0_18 := .ref (ad 129)) (u0_19 := .ref (ad 130)) (u0_20 := .ref (ad 131)) (u0_21 := .ref (ad 132)) (u0_22 := .ref (ad 133)) (u0_23 := .ref (ad 134)) (u0_24 := .ref (ad 135)) (u0_25 := .ref (ad 136)) (u0_26 := .ref (ad 137)) (u0_27 := .ref (ad 138)) (u0_28 := .ref (ad 139)) (u0_29 := .ref (ad 140)) (u0_30 := .ref (ad 141)) (u0_31 := .ref (ad 142)) (u0_32 := .ref (ad 143)) (u0_33 := .ref (ad 144)) (u0_34 := .ref (ad 145)) (u0_35 := .ref (ad 146)) (x0_36 := x119_36) (u0_37 := .int x119_37) (u0_38 := .int x119_38) (u0_39 := .int x119_39) (u0_40 := .int x119_40) (c2 := f147) (u0_42 := .ref (ad 148)) (u0_43 := .ref (ad 149)) (u0_44 := .ref (ad 150)) (u0_45 := .ref (ad 151)) (u0_46 := .ref (ad 152)) (u0_47 := .ref (ad 153)) (u0_48 := .ref (ad 154)) (u0_49 := .ref (ad 155)) (u0_50 := .ref (ad 156)) (u0_51 := .ref (ad 157)) (u0_52 := .ref (ad 158)) (u0_53 := .ref (ad 159)) (u0_54 := .ref (ad 160)) (u0_55 := .ref (ad 161)) (u0_56 := .int x119_56) (u0_57 := .int x119_57) (c3 := f162) (x0_59 := x119_59) (x0_60 := x119_60) (u0_61 := .ref (ad 163)) (u0_62 := .int x119_62) (u0_63 := .ref (ad 164)) (u0_64 := .ref (ad 165)) (u0_65 := .ref (ad 166)) (u0_66 := .ref (ad 167)) (u0_67 := .ref (ad 168)) (u0_68 := .ref (ad 169)) (u0_69 := .ref (ad 170)) (u0_70 := .int x119_70) (u0_71 := .int x119_71) (u0_72 := .ref (ad 171)) (u0_73 := .ref (ad 172)) e119 e122 e147 e162 b119_36 b119_59 b119_60 h122 h147 h162 hU119, fun r nw l' hw => ?_⟩
  obtain ⟨n_y0_59, n_y0_60, n_d2, n_d3, z0, z1, z2, z3, wr0, rfl⟩ := hw
  refine ⟨INV_mrg (lk := [(119, .inr (12, [.ref (ad 120), .ref (ad 121), .int x119_2, .int x119_3, .int x119_4, .int x119_5, .int x119_6, .int x119_7, .int x119_8, .int x119_9, .long w119_10, .ref (ad 122), .ref (ad 123), .ref (ad 124), .ref (ad 125), .ref (ad 126), .ref (ad 127), .ref (ad 128), .ref (ad 129), .ref (ad 130), .ref (ad 131), .ref (ad 132), .ref (ad 133), .ref (ad 134), .ref (ad 135), .ref (ad 136), .ref (ad 137), .ref (ad 138), .ref (ad 139), .ref (ad 140), .ref (ad 141), .ref (ad 142), .ref (ad 143), .ref (ad 144), .ref (ad 145), .ref (ad 146), .int x119_36, .int x119_37, .int x119_38, .int x119_39, .int x119_40, .ref (ad 147), .ref (ad 148), .ref (ad 149), .ref (ad 150), .ref (ad 151), .ref (ad 152), .ref (ad 153), .ref (ad 154), .ref (ad 155), .ref (ad 156), .ref (ad 157), .ref (ad 158), .ref (ad 159), .ref (ad 160), .ref (ad 161), .int x119_56, .int x119_57, .ref (ad 162), .int n_y0_59, .int n_y0_60, .ref (ad 163), .int x119_62, .ref (ad 164), .ref (ad 165), .ref (ad 166), .ref (ad 167), .ref (ad 168), .ref (ad 169), .ref (ad 170), .int x119_70, .int x119_71, .ref (ad 171), .ref (ad 172)])), (147, .inl (cy 0, 80, .inl n_d2)), (162, .inl (cy 0, 3280, .inl n_d3))]) hI ?_ ?_ ?_ ?_, (fo_mrg rfl rfl), (fo_mrg rfl (by rw [e119]; rfl))⟩
  · rfl
  · exact (List.forall_mem_cons.mpr ⟨(show CP_119 cy ad _ from ⟨x119_2, x119_3, x119_4, x119_5, x119_6, x119_7, x119_8, x119_9, w119_10, x119_36, x119_37, x119_38, x119_39, x119_40, x119_56, x119_57, n_y0_59, n_y0_60, x119_62, x119_70, x119_71, rfl, b119_2, b119_3, b119_4, b119_6, b119_7, b119_8, b119_36, b119_37, b119_38, b119_39, b119_40, b119_56, z0, z1, b119_62, b119_70, b119_71, wr0⟩), (List.forall_mem_cons.mpr ⟨(show CP_147 cy ad _ from ⟨n_d2, rfl, z2⟩), (List.forall_mem_cons.mpr ⟨(show CP_162 cy ad _ from ⟨n_d3, rfl, z3⟩), (fun _ h => absurd h List.not_mem_nil)⟩)⟩)⟩)
  · exact zkh
  · exact zfh

set_option maxHeartbeats 8000000 in
set_option maxRecDepth 100000 in
theorem sm_X11_undo {D : va_G} {cy : Nat → ClassId} {ad : Nat → Nat} {g : Nat → va_E} (l : Launch)  (hI : INV cy ad g) : ∃ post : Int32 → (Nat → Nat) → List (Nat × va_E) → Prop, cMi l yX11_undo wq_k_X11_undo { frames := 4, cells := 0, slots := 0, locals := 106 } 34 0 0 0 D cy (fun i => ad ([0, 55, 38, 56, 57, 58, 41, 62, 21, 35, 59, 66, 24, 25, 28, 29, 30, 31, 36, 37, 39, 40, 60, 61, 67, 68, 69, 70, 71, 72, 73, 63, 64, 65].getD i 0)) (fun i => cup [] g ([0, 55, 38, 56, 57, 58, 41, 62, 21, 35, 59, 66, 24, 25, 28, 29, 30, 31, 36, 37, 39, 40, 60, 61, 67, 68, 69, 70, 71, 72, 73, 63, 64, 65].getD i 0)) [.ref (ad ([0, 55, 38, 56, 57, 58, 41, 62, 21, 35, 59, 66, 24, 25, 28, 29, 30, 31, 36, 37, 39, 40, 60, 61, 67, 68, 69, 70, 71, 72, 73, 63, 64, 65].getD 0 0))] post ∧ ∀ (r : Int32) (nw : Nat → Nat) (l' : List (Nat × va_E)), post r nw l' → INV cy ad (cup (cmrg 173 34 [0, 55, 38, 56, 57, 58, 41, 62, 21, 35, 59, 66, 24, 25, 28, 29, 30, 31, 36, 37, 39, 40, 60, 61, 67, 68, 69, 70, 71, 72, 73, 63, 64, 65] l' []) g) ∧ TK g (cup (cmrg 173 34 [0, 55, 38, 56, 57, 58, 41, 62, 21, 35, 59, 66, 24, 25, 28, 29, 30, 31, 36, 37, 39, 40, 60, 61, 67, 68, 69, 70, 71, 72, 73, 63, 64, 65] l' []) g) := by
  have c0 : CP_0 cy ad (g 0) := hI.1 0 (by decide)
  obtain ⟨x0_1, x0_13, e0, b0_1, b0_13⟩ := c0
  have c21 : CP_21 cy ad (g 21) := hI.1 21 (by decide)
  obtain ⟨x21_5, x21_11, x21_15, x21_16, e21, b21_5, b21_11, b21_16⟩ := c21
  have c24 : CP_24 cy ad (g 24) := hI.1 24 (by decide)
  obtain ⟨f24, e24⟩ := c24
  have c25 : CP_25 cy ad (g 25) := hI.1 25 (by decide)
  obtain ⟨f25, e25⟩ := c25
  have c28 : CP_28 cy ad (g 28) := hI.1 28 (by decide)
  obtain ⟨f28, e28⟩ := c28
  have c29 : CP_29 cy ad (g 29) := hI.1 29 (by decide)
  obtain ⟨f29, e29⟩ := c29
  have c30 : CP_30 cy ad (g 30) := hI.1 30 (by decide)
  obtain ⟨f30, e30, h30⟩ := c30
  have c31 : CP_31 cy ad (g 31) := hI.1 31 (by decide)
  obtain ⟨f31, e31, h31⟩ := c31
  have c35 : CP_35 cy ad (g 35) := hI.1 35 (by decide)
  obtain ⟨x35_1, x35_2, x35_3, e35, b35_1, b35_3⟩ := c35
  have c36 : CP_36 cy ad (g 36) := hI.1 36 (by decide)
  obtain ⟨f36, e36⟩ := c36
  have c37 : CP_37 cy ad (g 37) := hI.1 37 (by decide)
  obtain ⟨f37, e37⟩ := c37
  have c38 : CP_38 cy ad (g 38) := hI.1 38 (by decide)
  obtain ⟨x38_2, x38_4, e38, b38_4⟩ := c38
  have c39 : CP_39 cy ad (g 39) := hI.1 39 (by decide)
  obtain ⟨f39, e39⟩ := c39
  have c40 : CP_40 cy ad (g 40) := hI.1 40 (by decide)
  obtain ⟨f40, e40⟩ := c40
  have c41 : CP_41 cy ad (g 41) := hI.1 41 (by decide)
  obtain ⟨f41, e41⟩ := c41
  have c55 : CP_55 cy ad (g 55) := hI.1 55 (by decide)
  obtain ⟨x55_3, x55_4, e55, b55_3, b55_4⟩ := c55
  have c56 : CP_56 cy ad (g 56) := hI.1 56 (by decide)
  obtain ⟨f56, e56⟩ := c56
  have c57 : CP_57 cy ad (g 57) := hI.1 57 (by decide)
  obtain ⟨f57, e57⟩ := c57
  have c58 : CP_58 cy ad (g 58) := hI.1 58 (by decide)
  obtain ⟨f58, e58⟩ := c58
  have c59 : CP_59 cy ad (g 59) := hI.1 59 (by decide)
  have e59 := c59
  have c60 : CP_60 cy ad (g 60) := hI.1 60 (by decide)
  obtain ⟨f60, e60⟩ := c60
  have c61 : CP_61 cy ad (g 61) := hI.1 61 (by decide)
  obtain ⟨f61, e61⟩ := c61
  have c62 : CP_62 cy ad (g 62) := hI.1 62 (by decide)
  have e62 := c62
  have c63 : CP_63 cy ad (g 63) := hI.1 63 (by decide)
  obtain ⟨f63, e63⟩ := c63
  have c64 : CP_64 cy ad (g 64) := hI.1 64 (by decide)
  obtain ⟨f64, e64⟩ := c64
  have c65 : CP_65 cy ad (g 65) := hI.1 65 (by decide)
  obtain ⟨f65, e65, h65⟩ := c65
  have c66 : CP_66 cy ad (g 66) := hI.1 66 (by decide)
  have e66 := c66
  have c67 : CP_67 cy ad (g 67) := hI.1 67 (by decide)
  obtain ⟨f67, e67⟩ := c67
  have c68 : CP_68 cy ad (g 68) := hI.1 68 (by decide)
  obtain ⟨f68, e68, h68⟩ := c68
  have c69 : CP_69 cy ad (g 69) := hI.1 69 (by decide)
  obtain ⟨f69, e69, h69⟩ := c69
  have c70 : CP_70 cy ad (g 70) := hI.1 70 (by decide)
  obtain ⟨f70, e70⟩ := c70
  have c71 : CP_71 cy ad (g 71) := hI.1 71 (by decide)
  obtain ⟨f71, e71⟩ := c71
  have c72 : CP_72 cy ad (g 72) := hI.1 72 (by decide)
  obtain ⟨f72, e72⟩ := c72
  have c73 : CP_73 cy ad (g 73) := hI.1 73 (by decide)
  obtain ⟨f73, e73⟩ := c73
  have zfh := hI.2.2
  have zkh := hI.2.1
  rw [e56, e57] at zkh
  refine ⟨_, k_X11_undo l D cy _ _ (u0_0 := .ref (ad 1)) (u0_1 := .int x0_1) (u0_2 := .ref (ad 2)) (u0_3 := .ref (ad 21)) (c20 := f39) (c21 := f40) (x2_2 := x38_2) (c6 := f41) (x2_4 := x38_4) (u0_5 := .ref (ad 42)) (c3 := f56) (c4 := f57) (c5 := f58) (x1_3 := x55_3) (u1_4 := .int x55_4) (u0_7 := .ref (ad 59)) (u8_0 := .ref (ad 22)) (u8_1 := .ref (ad 23)) (c12 := f24) (c13 := f25) (u8_4 := .ref (ad 26)) (u8_5 := .int x21_5) (u8_6 := .ref (ad 27)) (c14 := f28) (c15 := f29) (c16 := f30) (c17 := f31) (x8_11 := x21_11) (u8_12 := .ref (ad 32)) (u8_13 := .ref (ad 33)) (u8_14 := .ref (ad 34)) (u8_15 := .int x21_15) (u8_16 := .int x21_16) (c18 := f36) (x9_1 := x35_1) (u9_2 := .int x35_2) (x9_3 := x35_3) (c19 := f37) (c22 := f60) (c23 := f61) (c24 := f67) (c25 := f68) (c26 := f69) (c27 := f70) (c28 := f71) (c29 := f72) (c30 := f73) (c31 := f63) (c32 := f64) (c33 := f65) (u0_9 := .ref (ad 74)) (u0_10 := .ref (ad 88)) (u0_11 := .ref (ad 101)) (u0_12 := .ref (ad 118)) (u0_13 := .int x0_13) e0 e55 e38 e56 e57 e58 e41 e62 e21 e35 e59 e66 e24 e25 e28 e29 e30 e31 e36 e37 e39 e40 e60 e61 e67 e68 e69 e70 e71 e72 e73 e63 e64 e65 b55_3 b38_4 b21_11 b35_1 b35_3 h30 h31 h68 h69 h65 zkh, fun r nw l' hw => ?_⟩
  obtain ⟨n_y1_3, n_y2_2, n_y2_4, n_d6, n_d19, n_d22, n_d23, n_d24, n_d25, n_d26, n_d27, n_d28, n_d29, n_d30, n_d31, n_d32, n_d33, z0, z1, z2, z3, z4, z5, rfl⟩ := hw
  refine ⟨INV_mrg (lk := [(55, .inr (0, [.ref (ad 56), .ref (ad 57), .ref (ad 58), .int n_y1_3, .int x55_4])), (38, .inr (9, [.ref (ad 39), .ref (ad 40), .int n_y2_2, .ref (ad 41), .int n_y2_4])), (41, .inl (cy 0, 5, .inl n_d6)), (37, .inl (cy 0, 30, .inl n_d19)), (60, .inl (cy 0, 80, .inl n_d22)), (61, .inl (cy 0, 80, .inl n_d23)), (67, .inl (cy 0, 5, .inl n_d24)), (68, .inl (cy 0, 20, .inl n_d25)), (69, .inl (cy 0, 4, .inl n_d26)), (70, .inl (cy 0, 5, .inl n_d27)), (71, .inl (cy 0, 5, .inl n_d28)), (72, .inl (cy 0, 5, .inl n_d29)), (73, .inl (cy 0, 5, .inl n_d30)), (63, .inl (cy 0, 96, .inl n_d31)), (64, .inl (cy 0, 96, .inl n_d32)), (65, .inl (cy 0, 24, .inl n_d33))]) hI ?_ ?_ ?_ ?_, (fo_mrg rfl rfl), (fo_mrg rfl rfl)⟩
  · rfl
  · exact (List.forall_mem_cons.mpr ⟨(show CP_55 cy ad _ from ⟨n_y1_3, x55_4, rfl, (zi_w z0 (by decide)), b55_4⟩), (List.forall_mem_cons.mpr ⟨(show CP_38 cy ad _ from ⟨n_y2_2, n_y2_4, rfl, z1⟩), (List.forall_mem_cons.mpr ⟨(show CP_41 cy ad _ from ⟨n_d6, rfl⟩), (List.forall_mem_cons.mpr ⟨(show CP_37 cy ad _ from ⟨n_d19, rfl⟩), (List.forall_mem_cons.mpr ⟨(show CP_60 cy ad _ from ⟨n_d22, rfl⟩), (List.forall_mem_cons.mpr ⟨(show CP_61 cy ad _ from ⟨n_d23, rfl⟩), (List.forall_mem_cons.mpr ⟨(show CP_67 cy ad _ from ⟨n_d24, rfl⟩), (List.forall_mem_cons.mpr ⟨(show CP_68 cy ad _ from ⟨n_d25, rfl, z2⟩), (List.forall_mem_cons.mpr ⟨(show CP_69 cy ad _ from ⟨n_d26, rfl, z3⟩), (List.forall_mem_cons.mpr ⟨(show CP_70 cy ad _ from ⟨n_d27, rfl⟩), (List.forall_mem_cons.mpr ⟨(show CP_71 cy ad _ from ⟨n_d28, rfl⟩), (List.forall_mem_cons.mpr ⟨(show CP_72 cy ad _ from ⟨n_d29, rfl⟩), (List.forall_mem_cons.mpr ⟨(show CP_73 cy ad _ from ⟨n_d30, rfl⟩), (List.forall_mem_cons.mpr ⟨(show CP_63 cy ad _ from ⟨n_d31, rfl⟩), (List.forall_mem_cons.mpr ⟨(show CP_64 cy ad _ from ⟨n_d32, rfl⟩), (List.forall_mem_cons.mpr ⟨(show CP_65 cy ad _ from ⟨n_d33, rfl, z4⟩), (fun _ h => absurd h List.not_mem_nil)⟩)⟩)⟩)⟩)⟩)⟩)⟩)⟩)⟩)⟩)⟩)⟩)⟩)⟩)⟩)⟩)
  · exact zkh
  · exact zfh

set_option maxHeartbeats 8000000 in
set_option maxRecDepth 100000 in
theorem sm_X12_undo {D : va_G} {cy : Nat → ClassId} {ad : Nat → Nat} {g : Nat → va_E} (l : Launch)  (hI : INV cy ad g) : ∃ post : Int32 → (Nat → Nat) → List (Nat × va_E) → Prop, cMi l yX12_undo wq_k_X12_undo { frames := 1, cells := 0, slots := 0, locals := 22 } 3 0 0 0 D cy (fun i => ad ([119, 147, 162].getD i 0)) (fun i => cup [] g ([119, 147, 162].getD i 0)) [.ref (ad ([119, 147, 162].getD 0 0))] post ∧ ∀ (r : Int32) (nw : Nat → Nat) (l' : List (Nat × va_E)), post r nw l' → INV cy ad (cup (cmrg 173 3 [119, 147, 162] l' []) g) ∧ TK g (cup (cmrg 173 3 [119, 147, 162] l' []) g) := by
  have c119 : CP_119 cy ad (g 119) := hI.1 119 (by decide)
  obtain ⟨x119_2, x119_3, x119_4, x119_5, x119_6, x119_7, x119_8, x119_9, w119_10, x119_36, x119_37, x119_38, x119_39, x119_40, x119_56, x119_57, x119_59, x119_60, x119_62, x119_70, x119_71, e119, b119_2, b119_3, b119_4, b119_6, b119_7, b119_8, b119_36, b119_37, b119_38, b119_39, b119_40, b119_56, b119_59, b119_60, b119_62, b119_70, b119_71, hU119⟩ := c119
  have c147 : CP_147 cy ad (g 147) := hI.1 147 (by decide)
  obtain ⟨f147, e147, h147⟩ := c147
  have c162 : CP_162 cy ad (g 162) := hI.1 162 (by decide)
  obtain ⟨f162, e162, h162⟩ := c162
  have zfh := hI.2.2
  rw [e119] at zfh
  have zkh := hI.2.1
  refine ⟨_, k_X12_undo l D cy _ _ (u0_0 := .ref (ad 120)) (u0_1 := .ref (ad 121)) (u0_2 := .int x119_2) (u0_3 := .int x119_3) (u0_4 := .int x119_4) (u0_5 := .int x119_5) (u0_6 := .int x119_6) (u0_7 := .int x119_7) (u0_8 := .int x119_8) (u0_9 := .int x119_9) (u0_10 := .long w119_10) (u0_11 := .ref (ad 122)) (u0_12 := .ref (ad 123)) (u0_13 := .ref (ad 124)) (u0_14 := .ref (ad 125)) (u0_15 := .ref (ad 126)) (u0_16 := .ref (ad 127)) (u0_17 := .ref (ad 128)) (u0_18 := .ref (ad 129)) (u0_19 := .ref (ad 130)) (u0_20 := .ref (ad 131)) (u0_21 := .ref (ad 132)) (u0_22 := .ref (ad 133)) (u0_23 := .ref (ad 134)) (u0_24 := .ref (ad 135)) (u0_25 := .ref (ad 136)) (u0_26 := .ref (ad 137)) (u0_27 := .ref (ad 138)) (u0_28 := .ref (ad 139)) (u0_29 := .ref (ad 140)) (u0_30 := .ref (ad 141)) (u0_31 := .ref (ad 142)) (u0_32 := .ref (ad 143)) (u0_33 := .ref (ad 144)) (u0_34 := .ref (ad 145)) (u0_35 := .ref (ad 146)) (u0_36 := .int x119_36) (u0_37 := .int x119_37) (u0_38 := .int x119_38) (u0_39 := .int x119_39) (u0_40 := .int x119_40) (c1 := f147) (u0_42 := .ref (ad 148)) (u0_43 := .ref (ad 149)) (u0_44 := .ref (ad 150)) (u0_45 := .ref (ad 151)) (u0_46 := .ref (ad 152)) (u0_47 := .ref (ad 153)) (u0_48 := .ref (ad 154)) (u0_49 := .ref (ad 155)) (u0_50 := .ref (ad 156)) (u0_51 := .ref (ad 157)) (u0_52 := .ref (ad 158)) (u0_53 := .ref (ad 159)) (u0_54 := .ref (ad 160)) (u0_55 := .ref (ad 161)) (u0_56 := .int x119_56) (u0_57 := .int x119_57) (c2 := f162) (x0_59 := x119_59) (x0_60 := x119_60) (u0_61 := .ref (ad 163)) (u0_62 := .int x119_62) (u0_63 := .ref (ad 164)) (u0_64 := .ref (ad 165)) (u0_65 := .ref (ad 166)) (u0_66 := .ref (ad 167)) (u0_67 := .ref (ad 168)) (u0_68 := .ref (ad 169)) (u0_69 := .ref (ad 170)) (u0_70 := .int x119_70) (u0_71 := .int x119_71) (u0_72 := .ref (ad 171)) (u0_73 := .ref (ad 172)) e119 e147 e162 b119_59 b119_60 h147 h162 hU119, fun r nw l' hw => ?_⟩
  obtain ⟨n_y0_59, n_y0_60, n_d1, n_d2, z0, z1, z2, z3, z4, wr0, rfl⟩ := hw
  refine ⟨INV_mrg (lk := [(119, .inr (12, [.ref (ad 120), .ref (ad 121), .int x119_2, .int x119_3, .int x119_4, .int x119_5, .int x119_6, .int x119_7, .int x119_8, .int x119_9, .long w119_10, .ref (ad 122), .ref (ad 123), .ref (ad 124), .ref (ad 125), .ref (ad 126), .ref (ad 127), .ref (ad 128), .ref (ad 129), .ref (ad 130), .ref (ad 131), .ref (ad 132), .ref (ad 133), .ref (ad 134), .ref (ad 135), .ref (ad 136), .ref (ad 137), .ref (ad 138), .ref (ad 139), .ref (ad 140), .ref (ad 141), .ref (ad 142), .ref (ad 143), .ref (ad 144), .ref (ad 145), .ref (ad 146), .int x119_36, .int x119_37, .int x119_38, .int x119_39, .int x119_40, .ref (ad 147), .ref (ad 148), .ref (ad 149), .ref (ad 150), .ref (ad 151), .ref (ad 152), .ref (ad 153), .ref (ad 154), .ref (ad 155), .ref (ad 156), .ref (ad 157), .ref (ad 158), .ref (ad 159), .ref (ad 160), .ref (ad 161), .int x119_56, .int x119_57, .ref (ad 162), .int n_y0_59, .int n_y0_60, .ref (ad 163), .int x119_62, .ref (ad 164), .ref (ad 165), .ref (ad 166), .ref (ad 167), .ref (ad 168), .ref (ad 169), .ref (ad 170), .int x119_70, .int x119_71, .ref (ad 171), .ref (ad 172)])), (147, .inl (cy 0, 80, .inl n_d1)), (162, .inl (cy 0, 3280, .inl n_d2))]) hI ?_ ?_ ?_ ?_, (fo_mrg rfl rfl), (fo_mrg rfl (by rw [e119]; rfl))⟩
  · rfl
  · exact (List.forall_mem_cons.mpr ⟨(show CP_119 cy ad _ from ⟨x119_2, x119_3, x119_4, x119_5, x119_6, x119_7, x119_8, x119_9, w119_10, x119_36, x119_37, x119_38, x119_39, x119_40, x119_56, x119_57, n_y0_59, n_y0_60, x119_62, x119_70, x119_71, rfl, b119_2, b119_3, b119_4, b119_6, b119_7, b119_8, b119_36, b119_37, b119_38, b119_39, b119_40, b119_56, (zi_w z0 (by decide)), z1, b119_62, b119_70, b119_71, wr0⟩), (List.forall_mem_cons.mpr ⟨(show CP_147 cy ad _ from ⟨n_d1, rfl, z2⟩), (List.forall_mem_cons.mpr ⟨(show CP_162 cy ad _ from ⟨n_d2, rfl, z3⟩), (fun _ h => absurd h List.not_mem_nil)⟩)⟩)⟩)
  · exact zkh
  · exact zfh

set_option maxHeartbeats 8000000 in
set_option maxRecDepth 100000 in
theorem sm_X11_redo {D : va_G} {cy : Nat → ClassId} {ad : Nat → Nat} {g : Nat → va_E} (l : Launch)  (hI : INV cy ad g) : ∃ post : Int32 → (Nat → Nat) → List (Nat × va_E) → Prop, cMi l yX11_redo wq_k_X11_redo { frames := 4, cells := 0, slots := 0, locals := 106 } 34 0 0 0 D cy (fun i => ad ([0, 55, 38, 56, 57, 58, 39, 40, 41, 62, 21, 35, 59, 66, 24, 25, 28, 29, 30, 31, 36, 37, 60, 61, 67, 68, 69, 70, 71, 72, 73, 63, 64, 65].getD i 0)) (fun i => cup [] g ([0, 55, 38, 56, 57, 58, 39, 40, 41, 62, 21, 35, 59, 66, 24, 25, 28, 29, 30, 31, 36, 37, 60, 61, 67, 68, 69, 70, 71, 72, 73, 63, 64, 65].getD i 0)) [.ref (ad ([0, 55, 38, 56, 57, 58, 39, 40, 41, 62, 21, 35, 59, 66, 24, 25, 28, 29, 30, 31, 36, 37, 60, 61, 67, 68, 69, 70, 71, 72, 73, 63, 64, 65].getD 0 0))] post ∧ ∀ (r : Int32) (nw : Nat → Nat) (l' : List (Nat × va_E)), post r nw l' → INV cy ad (cup (cmrg 173 34 [0, 55, 38, 56, 57, 58, 39, 40, 41, 62, 21, 35, 59, 66, 24, 25, 28, 29, 30, 31, 36, 37, 60, 61, 67, 68, 69, 70, 71, 72, 73, 63, 64, 65] l' []) g) ∧ TK g (cup (cmrg 173 34 [0, 55, 38, 56, 57, 58, 39, 40, 41, 62, 21, 35, 59, 66, 24, 25, 28, 29, 30, 31, 36, 37, 60, 61, 67, 68, 69, 70, 71, 72, 73, 63, 64, 65] l' []) g) := by
  have c0 : CP_0 cy ad (g 0) := hI.1 0 (by decide)
  obtain ⟨x0_1, x0_13, e0, b0_1, b0_13⟩ := c0
  have c21 : CP_21 cy ad (g 21) := hI.1 21 (by decide)
  obtain ⟨x21_5, x21_11, x21_15, x21_16, e21, b21_5, b21_11, b21_16⟩ := c21
  have c24 : CP_24 cy ad (g 24) := hI.1 24 (by decide)
  obtain ⟨f24, e24⟩ := c24
  have c25 : CP_25 cy ad (g 25) := hI.1 25 (by decide)
  obtain ⟨f25, e25⟩ := c25
  have c28 : CP_28 cy ad (g 28) := hI.1 28 (by decide)
  obtain ⟨f28, e28⟩ := c28
  have c29 : CP_29 cy ad (g 29) := hI.1 29 (by decide)
  obtain ⟨f29, e29⟩ := c29
  have c30 : CP_30 cy ad (g 30) := hI.1 30 (by decide)
  obtain ⟨f30, e30, h30⟩ := c30
  have c31 : CP_31 cy ad (g 31) := hI.1 31 (by decide)
  obtain ⟨f31, e31, h31⟩ := c31
  have c35 : CP_35 cy ad (g 35) := hI.1 35 (by decide)
  obtain ⟨x35_1, x35_2, x35_3, e35, b35_1, b35_3⟩ := c35
  have c36 : CP_36 cy ad (g 36) := hI.1 36 (by decide)
  obtain ⟨f36, e36⟩ := c36
  have c37 : CP_37 cy ad (g 37) := hI.1 37 (by decide)
  obtain ⟨f37, e37⟩ := c37
  have c38 : CP_38 cy ad (g 38) := hI.1 38 (by decide)
  obtain ⟨x38_2, x38_4, e38, b38_4⟩ := c38
  have c39 : CP_39 cy ad (g 39) := hI.1 39 (by decide)
  obtain ⟨f39, e39⟩ := c39
  have c40 : CP_40 cy ad (g 40) := hI.1 40 (by decide)
  obtain ⟨f40, e40⟩ := c40
  have c41 : CP_41 cy ad (g 41) := hI.1 41 (by decide)
  obtain ⟨f41, e41⟩ := c41
  have c55 : CP_55 cy ad (g 55) := hI.1 55 (by decide)
  obtain ⟨x55_3, x55_4, e55, b55_3, b55_4⟩ := c55
  have c56 : CP_56 cy ad (g 56) := hI.1 56 (by decide)
  obtain ⟨f56, e56⟩ := c56
  have c57 : CP_57 cy ad (g 57) := hI.1 57 (by decide)
  obtain ⟨f57, e57⟩ := c57
  have c58 : CP_58 cy ad (g 58) := hI.1 58 (by decide)
  obtain ⟨f58, e58⟩ := c58
  have c59 : CP_59 cy ad (g 59) := hI.1 59 (by decide)
  have e59 := c59
  have c60 : CP_60 cy ad (g 60) := hI.1 60 (by decide)
  obtain ⟨f60, e60⟩ := c60
  have c61 : CP_61 cy ad (g 61) := hI.1 61 (by decide)
  obtain ⟨f61, e61⟩ := c61
  have c62 : CP_62 cy ad (g 62) := hI.1 62 (by decide)
  have e62 := c62
  have c63 : CP_63 cy ad (g 63) := hI.1 63 (by decide)
  obtain ⟨f63, e63⟩ := c63
  have c64 : CP_64 cy ad (g 64) := hI.1 64 (by decide)
  obtain ⟨f64, e64⟩ := c64
  have c65 : CP_65 cy ad (g 65) := hI.1 65 (by decide)
  obtain ⟨f65, e65, h65⟩ := c65
  have c66 : CP_66 cy ad (g 66) := hI.1 66 (by decide)
  have e66 := c66
  have c67 : CP_67 cy ad (g 67) := hI.1 67 (by decide)
  obtain ⟨f67, e67⟩ := c67
  have c68 : CP_68 cy ad (g 68) := hI.1 68 (by decide)
  obtain ⟨f68, e68, h68⟩ := c68
  have c69 : CP_69 cy ad (g 69) := hI.1 69 (by decide)
  obtain ⟨f69, e69, h69⟩ := c69
  have c70 : CP_70 cy ad (g 70) := hI.1 70 (by decide)
  obtain ⟨f70, e70⟩ := c70
  have c71 : CP_71 cy ad (g 71) := hI.1 71 (by decide)
  obtain ⟨f71, e71⟩ := c71
  have c72 : CP_72 cy ad (g 72) := hI.1 72 (by decide)
  obtain ⟨f72, e72⟩ := c72
  have c73 : CP_73 cy ad (g 73) := hI.1 73 (by decide)
  obtain ⟨f73, e73⟩ := c73
  have zfh := hI.2.2
  have zkh := hI.2.1
  rw [e56, e57] at zkh
  refine ⟨_, k_X11_redo l D cy _ _ (u0_0 := .ref (ad 1)) (u0_1 := .int x0_1) (u0_2 := .ref (ad 2)) (u0_3 := .ref (ad 21)) (c6 := f39) (c7 := f40) (x2_2 := x38_2) (c8 := f41) (x2_4 := x38_4) (u0_5 := .ref (ad 42)) (c3 := f56) (c4 := f57) (c5 := f58) (x1_3 := x55_3) (x1_4 := x55_4) (u0_7 := .ref (ad 59)) (u10_0 := .ref (ad 22)) (u10_1 := .ref (ad 23)) (c14 := f24) (c15 := f25) (u10_4 := .ref (ad 26)) (u10_5 := .int x21_5) (u10_6 := .ref (ad 27)) (c16 := f28) (c17 := f29) (c18 := f30) (c19 := f31) (x10_11 := x21_11) (u10_12 := .ref (ad 32)) (u10_13 := .ref (ad 33)) (u10_14 := .ref (ad 34)) (u10_15 := .int x21_15) (u10_16 := .int x21_16) (c20 := f36) (x11_1 := x35_1) (u11_2 := .int x35_2) (x11_3 := x35_3) (c21 := f37) (c22 := f60) (c23 := f61) (c24 := f67) (c25 := f68) (c26 := f69) (c27 := f70) (c28 := f71) (c29 := f72) (c30 := f73) (c31 := f63) (c32 := f64) (c33 := f65) (u0_9 := .ref (ad 74)) (u0_10 := .ref (ad 88)) (u0_11 := .ref (ad 101)) (u0_12 := .ref (ad 118)) (u0_13 := .int x0_13) e0 e55 e38 e56 e57 e58 e39 e40 e41 e62 e21 e35 e59 e66 e24 e25 e28 e29 e30 e31 e36 e37 e60 e61 e67 e68 e69 e70 e71 e72 e73 e63 e64 e65 b55_3 b55_4 b38_4 b21_11 b35_1 b35_3 h30 h31 h68 h69 h65 zkh, fun r nw l' hw => ?_⟩
  obtain ⟨n_y1_3, n_y2_2, n_y2_4, n_d6, n_d7, n_d8, n_d21, n_d22, n_d23, n_d24, n_d25, n_d26, n_d27, n_d28, n_d29, n_d30, n_d31, n_d32, n_d33, z0, z1, z2, z3, z4, z5, rfl⟩ := hw
  refine ⟨INV_mrg (lk := [(55, .inr (0, [.ref (ad 56), .ref (ad 57), .ref (ad 58), .int n_y1_3, .int x55_4])), (38, .inr (9, [.ref (ad 39), .ref (ad 40), .int n_y2_2, .ref (ad 41), .int n_y2_4])), (39, .inl (cy 0, 24, .inl n_d6)), (40, .inl (cy 0, 24, .inl n_d7)), (41, .inl (cy 0, 5, .inl n_d8)), (37, .inl (cy 0, 30, .inl n_d21)), (60, .inl (cy 0, 80, .inl n_d22)), (61, .inl (cy 0, 80, .inl n_d23)), (67, .inl (cy 0, 5, .inl n_d24)), (68, .inl (cy 0, 20, .inl n_d25)), (69, .inl (cy 0, 4, .inl n_d26)), (70, .inl (cy 0, 5, .inl n_d27)), (71, .inl (cy 0, 5, .inl n_d28)), (72, .inl (cy 0, 5, .inl n_d29)), (73, .inl (cy 0, 5, .inl n_d30)), (63, .inl (cy 0, 96, .inl n_d31)), (64, .inl (cy 0, 96, .inl n_d32)), (65, .inl (cy 0, 24, .inl n_d33))]) hI ?_ ?_ ?_ ?_, (fo_mrg rfl rfl), (fo_mrg rfl rfl)⟩
  · rfl
  · exact (List.forall_mem_cons.mpr ⟨(show CP_55 cy ad _ from ⟨n_y1_3, x55_4, rfl, z0, b55_4⟩), (List.forall_mem_cons.mpr ⟨(show CP_38 cy ad _ from ⟨n_y2_2, n_y2_4, rfl, z1⟩), (List.forall_mem_cons.mpr ⟨(show CP_39 cy ad _ from ⟨n_d6, rfl⟩), (List.forall_mem_cons.mpr ⟨(show CP_40 cy ad _ from ⟨n_d7, rfl⟩), (List.forall_mem_cons.mpr ⟨(show CP_41 cy ad _ from ⟨n_d8, rfl⟩), (List.forall_mem_cons.mpr ⟨(show CP_37 cy ad _ from ⟨n_d21, rfl⟩), (List.forall_mem_cons.mpr ⟨(show CP_60 cy ad _ from ⟨n_d22, rfl⟩), (List.forall_mem_cons.mpr ⟨(show CP_61 cy ad _ from ⟨n_d23, rfl⟩), (List.forall_mem_cons.mpr ⟨(show CP_67 cy ad _ from ⟨n_d24, rfl⟩), (List.forall_mem_cons.mpr ⟨(show CP_68 cy ad _ from ⟨n_d25, rfl, z2⟩), (List.forall_mem_cons.mpr ⟨(show CP_69 cy ad _ from ⟨n_d26, rfl, z3⟩), (List.forall_mem_cons.mpr ⟨(show CP_70 cy ad _ from ⟨n_d27, rfl⟩), (List.forall_mem_cons.mpr ⟨(show CP_71 cy ad _ from ⟨n_d28, rfl⟩), (List.forall_mem_cons.mpr ⟨(show CP_72 cy ad _ from ⟨n_d29, rfl⟩), (List.forall_mem_cons.mpr ⟨(show CP_73 cy ad _ from ⟨n_d30, rfl⟩), (List.forall_mem_cons.mpr ⟨(show CP_63 cy ad _ from ⟨n_d31, rfl⟩), (List.forall_mem_cons.mpr ⟨(show CP_64 cy ad _ from ⟨n_d32, rfl⟩), (List.forall_mem_cons.mpr ⟨(show CP_65 cy ad _ from ⟨n_d33, rfl, z4⟩), (fun _ h => absurd h List.not_mem_nil)⟩)⟩)⟩)⟩)⟩)⟩)⟩)⟩)⟩)⟩)⟩)⟩)⟩)⟩)⟩)⟩)⟩)⟩)
  · exact zkh
  · exact zfh

set_option maxHeartbeats 8000000 in
set_option maxRecDepth 100000 in
theorem sm_X12_redo {D : va_G} {cy : Nat → ClassId} {ad : Nat → Nat} {g : Nat → va_E} (l : Launch)  (hI : INV cy ad g) : ∃ post : Int32 → (Nat → Nat) → List (Nat × va_E) → Prop, cMi l yX12_redo wq_k_X12_redo { frames := 1, cells := 0, slots := 0, locals := 22 } 3 0 0 0 D cy (fun i => ad ([119, 147, 162].getD i 0)) (fun i => cup [] g ([119, 147, 162].getD i 0)) [.ref (ad ([119, 147, 162].getD 0 0))] post ∧ ∀ (r : Int32) (nw : Nat → Nat) (l' : List (Nat × va_E)), post r nw l' → INV cy ad (cup (cmrg 173 3 [119, 147, 162] l' []) g) ∧ TK g (cup (cmrg 173 3 [119, 147, 162] l' []) g) := by
  have c119 : CP_119 cy ad (g 119) := hI.1 119 (by decide)
  obtain ⟨x119_2, x119_3, x119_4, x119_5, x119_6, x119_7, x119_8, x119_9, w119_10, x119_36, x119_37, x119_38, x119_39, x119_40, x119_56, x119_57, x119_59, x119_60, x119_62, x119_70, x119_71, e119, b119_2, b119_3, b119_4, b119_6, b119_7, b119_8, b119_36, b119_37, b119_38, b119_39, b119_40, b119_56, b119_59, b119_60, b119_62, b119_70, b119_71, hU119⟩ := c119
  have c147 : CP_147 cy ad (g 147) := hI.1 147 (by decide)
  obtain ⟨f147, e147, h147⟩ := c147
  have c162 : CP_162 cy ad (g 162) := hI.1 162 (by decide)
  obtain ⟨f162, e162, h162⟩ := c162
  have zfh := hI.2.2
  rw [e119] at zfh
  have zkh := hI.2.1
  refine ⟨_, k_X12_redo l D cy _ _ (u0_0 := .ref (ad 120)) (u0_1 := .ref (ad 121)) (u0_2 := .int x119_2) (u0_3 := .int x119_3) (u0_4 := .int x119_4) (u0_5 := .int x119_5) (u0_6 := .int x119_6) (u0_7 := .int x119_7) (u0_8 := .int x119_8) (u0_9 := .int x119_9) (u0_10 := .long w119_10) (u0_11 := .ref (ad 122)) (u0_12 := .ref (ad 123)) (u0_13 := .ref (ad 124)) (u0_14 := .ref (ad 125)) (u0_15 := .ref (ad 126)) (u0_16 := .ref (ad 127)) (u0_17 := .ref (ad 128)) (u0_18 := .ref (ad 129)) (u0_19 := .ref (ad 130)) (u0_20 := .ref (ad 131)) (u0_21 := .ref (ad 132)) (u0_22 := .ref (ad 133)) (u0_23 := .ref (ad 134)) (u0_24 := .ref (ad 135)) (u0_25 := .ref (ad 136)) (u0_26 := .ref (ad 137)) (u0_27 := .ref (ad 138)) (u0_28 := .ref (ad 139)) (u0_29 := .ref (ad 140)) (u0_30 := .ref (ad 141)) (u0_31 := .ref (ad 142)) (u0_32 := .ref (ad 143)) (u0_33 := .ref (ad 144)) (u0_34 := .ref (ad 145)) (u0_35 := .ref (ad 146)) (u0_36 := .int x119_36) (u0_37 := .int x119_37) (u0_38 := .int x119_38) (u0_39 := .int x119_39) (u0_40 := .int x119_40) (c1 := f147) (u0_42 := .ref (ad 148)) (u0_43 := .ref (ad 149)) (u0_44 := .ref (ad 150)) (u0_45 := .ref (ad 151)) (u0_46 := .ref (ad 152)) (u0_47 := .ref (ad 153)) (u0_48 := .ref (ad 154)) (u0_49 := .ref (ad 155)) (u0_50 := .ref (ad 156)) (u0_51 := .ref (ad 157)) (u0_52 := .ref (ad 158)) (u0_53 := .ref (ad 159)) (u0_54 := .ref (ad 160)) (u0_55 := .ref (ad 161)) (u0_56 := .int x119_56) (u0_57 := .int x119_57) (c2 := f162) (x0_59 := x119_59) (x0_60 := x119_60) (u0_61 := .ref (ad 163)) (u0_62 := .int x119_62) (u0_63 := .ref (ad 164)) (u0_64 := .ref (ad 165)) (u0_65 := .ref (ad 166)) (u0_66 := .ref (ad 167)) (u0_67 := .ref (ad 168)) (u0_68 := .ref (ad 169)) (u0_69 := .ref (ad 170)) (u0_70 := .int x119_70) (u0_71 := .int x119_71) (u0_72 := .ref (ad 171)) (u0_73 := .ref (ad 172)) e119 e147 e162 b119_59 b119_60 h147 h162 hU119, fun r nw l' hw => ?_⟩
  obtain ⟨n_y0_59, n_y0_60, n_d1, n_d2, z0, z1, z2, z3, z4, wr0, rfl⟩ := hw
  refine ⟨INV_mrg (lk := [(119, .inr (12, [.ref (ad 120), .ref (ad 121), .int x119_2, .int x119_3, .int x119_4, .int x119_5, .int x119_6, .int x119_7, .int x119_8, .int x119_9, .long w119_10, .ref (ad 122), .ref (ad 123), .ref (ad 124), .ref (ad 125), .ref (ad 126), .ref (ad 127), .ref (ad 128), .ref (ad 129), .ref (ad 130), .ref (ad 131), .ref (ad 132), .ref (ad 133), .ref (ad 134), .ref (ad 135), .ref (ad 136), .ref (ad 137), .ref (ad 138), .ref (ad 139), .ref (ad 140), .ref (ad 141), .ref (ad 142), .ref (ad 143), .ref (ad 144), .ref (ad 145), .ref (ad 146), .int x119_36, .int x119_37, .int x119_38, .int x119_39, .int x119_40, .ref (ad 147), .ref (ad 148), .ref (ad 149), .ref (ad 150), .ref (ad 151), .ref (ad 152), .ref (ad 153), .ref (ad 154), .ref (ad 155), .ref (ad 156), .ref (ad 157), .ref (ad 158), .ref (ad 159), .ref (ad 160), .ref (ad 161), .int x119_56, .int x119_57, .ref (ad 162), .int n_y0_59, .int n_y0_60, .ref (ad 163), .int x119_62, .ref (ad 164), .ref (ad 165), .ref (ad 166), .ref (ad 167), .ref (ad 168), .ref (ad 169), .ref (ad 170), .int x119_70, .int x119_71, .ref (ad 171), .ref (ad 172)])), (147, .inl (cy 0, 80, .inl n_d1)), (162, .inl (cy 0, 3280, .inl n_d2))]) hI ?_ ?_ ?_ ?_, (fo_mrg rfl rfl), (fo_mrg rfl (by rw [e119]; rfl))⟩
  · rfl
  · exact (List.forall_mem_cons.mpr ⟨(show CP_119 cy ad _ from ⟨x119_2, x119_3, x119_4, x119_5, x119_6, x119_7, x119_8, x119_9, w119_10, x119_36, x119_37, x119_38, x119_39, x119_40, x119_56, x119_57, n_y0_59, n_y0_60, x119_62, x119_70, x119_71, rfl, b119_2, b119_3, b119_4, b119_6, b119_7, b119_8, b119_36, b119_37, b119_38, b119_39, b119_40, b119_56, z0, (zi_w z1 (by decide)), b119_62, b119_70, b119_71, wr0⟩), (List.forall_mem_cons.mpr ⟨(show CP_147 cy ad _ from ⟨n_d1, rfl, z2⟩), (List.forall_mem_cons.mpr ⟨(show CP_162 cy ad _ from ⟨n_d2, rfl, z3⟩), (fun _ h => absurd h List.not_mem_nil)⟩)⟩)⟩)
  · exact zkh
  · exact zfh

set_option maxHeartbeats 8000000 in
set_option maxRecDepth 100000 in
theorem sm_X11_party {D : va_G} {cy : Nat → ClassId} {ad : Nat → Nat} {g : Nat → va_E} (l : Launch) (n sacks minute w late : Int32) (hI : INV cy ad g) : ∃ post : Int32 → (Nat → Nat) → List (Nat × va_E) → Prop, cMi l yX11_party wq_k_X11_party { frames := 5, cells := 0, slots := 0, locals := 129 } 29 0 0 0 D cy (fun i => ad ([0, 38, 74, 21, 35, 59, 80, 24, 25, 28, 29, 30, 31, 36, 37, 39, 41, 60, 61, 81, 82, 83, 84, 85, 86, 87, 75, 78, 118].getD i 0)) (fun i => cup [] g ([0, 38, 74, 21, 35, 59, 80, 24, 25, 28, 29, 30, 31, 36, 37, 39, 41, 60, 61, 81, 82, 83, 84, 85, 86, 87, 75, 78, 118].getD i 0)) [.ref (ad ([0, 38, 74, 21, 35, 59, 80, 24, 25, 28, 29, 30, 31, 36, 37, 39, 41, 60, 61, 81, 82, 83, 84, 85, 86, 87, 75, 78, 118].getD 0 0)), .int n, .int sacks, .int minute, .int w, .int late] post ∧ ∀ (r : Int32) (nw : Nat → Nat) (l' : List (Nat × va_E)), post r nw l' → INV cy ad (cup (cmrg 173 29 [0, 38, 74, 21, 35, 59, 80, 24, 25, 28, 29, 30, 31, 36, 37, 39, 41, 60, 61, 81, 82, 83, 84, 85, 86, 87, 75, 78, 118] l' []) g) ∧ TK g (cup (cmrg 173 29 [0, 38, 74, 21, 35, 59, 80, 24, 25, 28, 29, 30, 31, 36, 37, 39, 41, 60, 61, 81, 82, 83, 84, 85, 86, 87, 75, 78, 118] l' []) g) := by
  have c0 : CP_0 cy ad (g 0) := hI.1 0 (by decide)
  obtain ⟨x0_1, x0_13, e0, b0_1, b0_13⟩ := c0
  have c21 : CP_21 cy ad (g 21) := hI.1 21 (by decide)
  obtain ⟨x21_5, x21_11, x21_15, x21_16, e21, b21_5, b21_11, b21_16⟩ := c21
  have c24 : CP_24 cy ad (g 24) := hI.1 24 (by decide)
  obtain ⟨f24, e24⟩ := c24
  have c25 : CP_25 cy ad (g 25) := hI.1 25 (by decide)
  obtain ⟨f25, e25⟩ := c25
  have c28 : CP_28 cy ad (g 28) := hI.1 28 (by decide)
  obtain ⟨f28, e28⟩ := c28
  have c29 : CP_29 cy ad (g 29) := hI.1 29 (by decide)
  obtain ⟨f29, e29⟩ := c29
  have c30 : CP_30 cy ad (g 30) := hI.1 30 (by decide)
  obtain ⟨f30, e30, h30⟩ := c30
  have c31 : CP_31 cy ad (g 31) := hI.1 31 (by decide)
  obtain ⟨f31, e31, h31⟩ := c31
  have c35 : CP_35 cy ad (g 35) := hI.1 35 (by decide)
  obtain ⟨x35_1, x35_2, x35_3, e35, b35_1, b35_3⟩ := c35
  have c36 : CP_36 cy ad (g 36) := hI.1 36 (by decide)
  obtain ⟨f36, e36⟩ := c36
  have c37 : CP_37 cy ad (g 37) := hI.1 37 (by decide)
  obtain ⟨f37, e37⟩ := c37
  have c38 : CP_38 cy ad (g 38) := hI.1 38 (by decide)
  obtain ⟨x38_2, x38_4, e38, b38_4⟩ := c38
  have c39 : CP_39 cy ad (g 39) := hI.1 39 (by decide)
  obtain ⟨f39, e39⟩ := c39
  have c41 : CP_41 cy ad (g 41) := hI.1 41 (by decide)
  obtain ⟨f41, e41⟩ := c41
  have c59 : CP_59 cy ad (g 59) := hI.1 59 (by decide)
  have e59 := c59
  have c60 : CP_60 cy ad (g 60) := hI.1 60 (by decide)
  obtain ⟨f60, e60⟩ := c60
  have c61 : CP_61 cy ad (g 61) := hI.1 61 (by decide)
  obtain ⟨f61, e61⟩ := c61
  have c74 : CP_74 cy ad (g 74) := hI.1 74 (by decide)
  obtain ⟨x74_5, x74_10, e74, b74_5⟩ := c74
  have c75 : CP_75 cy ad (g 75) := hI.1 75 (by decide)
  obtain ⟨f75, e75, h75⟩ := c75
  have c78 : CP_78 cy ad (g 78) := hI.1 78 (by decide)
  obtain ⟨f78, e78⟩ := c78
  have c80 : CP_80 cy ad (g 80) := hI.1 80 (by decide)
  have e80 := c80
  have c81 : CP_81 cy ad (g 81) := hI.1 81 (by decide)
  obtain ⟨f81, e81⟩ := c81
  have c82 : CP_82 cy ad (g 82) := hI.1 82 (by decide)
  obtain ⟨f82, e82, h82⟩ := c82
  have c83 : CP_83 cy ad (g 83) := hI.1 83 (by decide)
  obtain ⟨f83, e83, h83⟩ := c83
  have c84 : CP_84 cy ad (g 84) := hI.1 84 (by decide)
  obtain ⟨f84, e84⟩ := c84
  have c85 : CP_85 cy ad (g 85) := hI.1 85 (by decide)
  obtain ⟨f85, e85⟩ := c85
  have c86 : CP_86 cy ad (g 86) := hI.1 86 (by decide)
  obtain ⟨f86, e86⟩ := c86
  have c87 : CP_87 cy ad (g 87) := hI.1 87 (by decide)
  obtain ⟨f87, e87⟩ := c87
  have c118 : CP_118 cy ad (g 118) := hI.1 118 (by decide)
  obtain ⟨f118, e118⟩ := c118
  have zfh := hI.2.2
  have zkh := hI.2.1
  refine ⟨_, k_X11_party l D cy _ _ (u0_0 := .ref (ad 1)) (u0_1 := .int x0_1) (u0_2 := .ref (ad 2)) (u0_3 := .ref (ad 21)) (c15 := f39) (u1_1 := .ref (ad 40)) (x1_2 := x38_2) (c16 := f41) (x1_4 := x38_4) (u0_5 := .ref (ad 42)) (u0_6 := .ref (ad 55)) (u0_7 := .ref (ad 59)) (u0_8 := .ref (ad 62)) (u3_0 := .ref (ad 22)) (u3_1 := .ref (ad 23)) (c7 := f24) (c8 := f25) (u3_4 := .ref (ad 26)) (u3_5 := .int x21_5) (u3_6 := .ref (ad 27)) (c9 := f28) (c10 := f29) (c11 := f30) (c12 := f31) (x3_11 := x21_11) (u3_12 := .ref (ad 32)) (u3_13 := .ref (ad 33)) (u3_14 := .ref (ad 34)) (u3_15 := .int x21_15) (u3_16 := .int x21_16) (c13 := f36) (x4_1 := x35_1) (u4_2 := .int x35_2) (x4_3 := x35_3) (c14 := f37) (c17 := f60) (c18 := f61) (c19 := f81) (c20 := f82) (c21 := f83) (c22 := f84) (c23 := f85) (c24 := f86) (c25 := f87) (c26 := f75) (x2_5 := x74_5) (u2_6 := .ref (ad 76)) (u2_7 := .ref (ad 77)) (c27 := f78) (u2_9 := .ref (ad 79)) (u2_10 := .int x74_10) (u0_10 := .ref (ad 88)) (u0_11 := .ref (ad 101)) (c28 := f118) (x0_13 := x0_13) e0 e38 e74 e21 e35 e59 e80 e24 e25 e28 e29 e30 e31 e36 e37 e39 e41 e60 e61 e81 e82 e83 e84 e85 e86 e87 e75 e78 e118 b0_13 b38_4 b74_5 b21_11 b35_1 b35_3 h30 h31 h82 h83 h75, fun r nw l' hw => ?_⟩
  obtain ⟨n_y0_13, n_y2_5, n_d14, n_d17, n_d18, n_d19, n_d20, n_d21, n_d22, n_d23, n_d24, n_d25, n_d26, n_d27, n_d28, z0, z1, z2, z3, z4, rfl⟩ := hw
  refine ⟨INV_mrg (lk := [(0, .inr (11, [.ref (ad 1), .int x0_1, .ref (ad 2), .ref (ad 21), .ref (ad 38), .ref (ad 42), .ref (ad 55), .ref (ad 59), .ref (ad 62), .ref (ad 74), .ref (ad 88), .ref (ad 101), .ref (ad 118), .int n_y0_13])), (74, .inr (2, [.ref (ad 21), .ref (ad 38), .ref (ad 59), .ref (ad 80), .ref (ad 75), .int n_y2_5, .ref (ad 76), .ref (ad 77), .ref (ad 78), .ref (ad 79), .int x74_10])), (37, .inl (cy 0, 30, .inl n_d14)), (60, .inl (cy 0, 80, .inl n_d17)), (61, .inl (cy 0, 80, .inl n_d18)), (81, .inl (cy 0, 5, .inl n_d19)), (82, .inl (cy 0, 20, .inl n_d20)), (83, .inl (cy 0, 4, .inl n_d21)), (84, .inl (cy 0, 5, .inl n_d22)), (85, .inl (cy 0, 5, .inl n_d23)), (86, .inl (cy 0, 5, .inl n_d24)), (87, .inl (cy 0, 5, .inl n_d25)), (75, .inl (cy 0, 24, .inl n_d26)), (78, .inl (cy 0, 3, .inl n_d27)), (118, .inl (cy 0, 24, .inl n_d28))]) hI ?_ ?_ ?_ ?_, (fo_mrg rfl rfl), (fo_mrg rfl rfl)⟩
  · rfl
  · exact (List.forall_mem_cons.mpr ⟨(show CP_0 cy ad _ from ⟨x0_1, n_y0_13, rfl, b0_1, (zi_w z0 (by decide))⟩), (List.forall_mem_cons.mpr ⟨(show CP_74 cy ad _ from ⟨n_y2_5, x74_10, rfl, z1⟩), (List.forall_mem_cons.mpr ⟨(show CP_37 cy ad _ from ⟨n_d14, rfl⟩), (List.forall_mem_cons.mpr ⟨(show CP_60 cy ad _ from ⟨n_d17, rfl⟩), (List.forall_mem_cons.mpr ⟨(show CP_61 cy ad _ from ⟨n_d18, rfl⟩), (List.forall_mem_cons.mpr ⟨(show CP_81 cy ad _ from ⟨n_d19, rfl⟩), (List.forall_mem_cons.mpr ⟨(show CP_82 cy ad _ from ⟨n_d20, rfl, z2⟩), (List.forall_mem_cons.mpr ⟨(show CP_83 cy ad _ from ⟨n_d21, rfl, z3⟩), (List.forall_mem_cons.mpr ⟨(show CP_84 cy ad _ from ⟨n_d22, rfl⟩), (List.forall_mem_cons.mpr ⟨(show CP_85 cy ad _ from ⟨n_d23, rfl⟩), (List.forall_mem_cons.mpr ⟨(show CP_86 cy ad _ from ⟨n_d24, rfl⟩), (List.forall_mem_cons.mpr ⟨(show CP_87 cy ad _ from ⟨n_d25, rfl⟩), (List.forall_mem_cons.mpr ⟨(show CP_75 cy ad _ from ⟨n_d26, rfl, z4⟩), (List.forall_mem_cons.mpr ⟨(show CP_78 cy ad _ from ⟨n_d27, rfl⟩), (List.forall_mem_cons.mpr ⟨(show CP_118 cy ad _ from ⟨n_d28, rfl⟩), (fun _ h => absurd h List.not_mem_nil)⟩)⟩)⟩)⟩)⟩)⟩)⟩)⟩)⟩)⟩)⟩)⟩)⟩)⟩)⟩)
  · exact zkh
  · exact zfh

set_option maxHeartbeats 8000000 in
set_option maxRecDepth 100000 in
theorem sm_X12_party {D : va_G} {cy : Nat → ClassId} {ad : Nat → Nat} {g : Nat → va_E} (l : Launch) (n its minute w late : Int32) (hI : INV cy ad g) : ∃ post : Int32 → (Nat → Nat) → List (Nat × va_E) → Prop, cMi l yX12_party wq_k_X12_party { frames := 5, cells := 0, slots := 0, locals := 127 } 29 0 0 0 D cy (fun i => ad ([119, 147, 123, 127, 128, 130, 131, 132, 133, 136, 138, 142, 143, 146, 148, 149, 150, 151, 152, 153, 154, 155, 156, 157, 158, 159, 160, 161, 163].getD i 0)) (fun i => cup [] g ([119, 147, 123, 127, 128, 130, 131, 132, 133, 136, 138, 142, 143, 146, 148, 149, 150, 151, 152, 153, 154, 155, 156, 157, 158, 159, 160, 161, 163].getD i 0)) [.ref (ad ([119, 147, 123, 127, 128, 130, 131, 132, 133, 136, 138, 142, 143, 146, 148, 149, 150, 151, 152, 153, 154, 155, 156, 157, 158, 159, 160, 161, 163].getD 0 0)), .int n, .int its, .int minute, .int w, .int late] post ∧ ∀ (r : Int32) (nw : Nat → Nat) (l' : List (Nat × va_E)), post r nw l' → INV cy ad (cup (cmrg 173 29 [119, 147, 123, 127, 128, 130, 131, 132, 133, 136, 138, 142, 143, 146, 148, 149, 150, 151, 152, 153, 154, 155, 156, 157, 158, 159, 160, 161, 163] l' []) g) ∧ TK g (cup (cmrg 173 29 [119, 147, 123, 127, 128, 130, 131, 132, 133, 136, 138, 142, 143, 146, 148, 149, 150, 151, 152, 153, 154, 155, 156, 157, 158, 159, 160, 161, 163] l' []) g) := by
  have c119 : CP_119 cy ad (g 119) := hI.1 119 (by decide)
  obtain ⟨x119_2, x119_3, x119_4, x119_5, x119_6, x119_7, x119_8, x119_9, w119_10, x119_36, x119_37, x119_38, x119_39, x119_40, x119_56, x119_57, x119_59, x119_60, x119_62, x119_70, x119_71, e119, b119_2, b119_3, b119_4, b119_6, b119_7, b119_8, b119_36, b119_37, b119_38, b119_39, b119_40, b119_56, b119_59, b119_60, b119_62, b119_70, b119_71, hU119⟩ := c119
  have c123 : CP_123 cy ad (g 123) := hI.1 123 (by decide)
  obtain ⟨f123, e123, h123⟩ := c123
  have c127 : CP_127 cy ad (g 127) := hI.1 127 (by decide)
  obtain ⟨f127, e127⟩ := c127
  have c128 : CP_128 cy ad (g 128) := hI.1 128 (by decide)
  obtain ⟨f128, e128⟩ := c128
  have c130 : CP_130 cy ad (g 130) := hI.1 130 (by decide)
  obtain ⟨f130, e130⟩ := c130
  have c131 : CP_131 cy ad (g 131) := hI.1 131 (by decide)
  obtain ⟨f131, e131⟩ := c131
  have c132 : CP_132 cy ad (g 132) := hI.1 132 (by decide)
  obtain ⟨f132, e132, h132⟩ := c132
  have c133 : CP_133 cy ad (g 133) := hI.1 133 (by decide)
  obtain ⟨f133, e133, h133⟩ := c133
  have c136 : CP_136 cy ad (g 136) := hI.1 136 (by decide)
  obtain ⟨f136, e136, h136⟩ := c136
  have c138 : CP_138 cy ad (g 138) := hI.1 138 (by decide)
  obtain ⟨f138, e138, h138⟩ := c138
  have c142 : CP_142 cy ad (g 142) := hI.1 142 (by decide)
  obtain ⟨f142, e142⟩ := c142
  have c143 : CP_143 cy ad (g 143) := hI.1 143 (by decide)
  obtain ⟨f143, e143⟩ := c143
  have c146 : CP_146 cy ad (g 146) := hI.1 146 (by decide)
  obtain ⟨f146, e146⟩ := c146
  have c147 : CP_147 cy ad (g 147) := hI.1 147 (by decide)
  obtain ⟨f147, e147, h147⟩ := c147
  have c148 : CP_148 cy ad (g 148) := hI.1 148 (by decide)
  obtain ⟨f148, e148⟩ := c148
  have c149 : CP_149 cy ad (g 149) := hI.1 149 (by decide)
  obtain ⟨f149, e149⟩ := c149
  have c150 : CP_150 cy ad (g 150) := hI.1 150 (by decide)
  obtain ⟨f150, e150⟩ := c150
  have c151 : CP_151 cy ad (g 151) := hI.1 151 (by decide)
  obtain ⟨f151, e151, h151⟩ := c151
  have c152 : CP_152 cy ad (g 152) := hI.1 152 (by decide)
  obtain ⟨f152, e152, h152⟩ := c152
  have c153 : CP_153 cy ad (g 153) := hI.1 153 (by decide)
  obtain ⟨f153, e153, h153⟩ := c153
  have c154 : CP_154 cy ad (g 154) := hI.1 154 (by decide)
  obtain ⟨f154, e154⟩ := c154
  have c155 : CP_155 cy ad (g 155) := hI.1 155 (by decide)
  obtain ⟨f155, e155⟩ := c155
  have c156 : CP_156 cy ad (g 156) := hI.1 156 (by decide)
  obtain ⟨f156, e156⟩ := c156
  have c157 : CP_157 cy ad (g 157) := hI.1 157 (by decide)
  obtain ⟨f157, e157⟩ := c157
  have c158 : CP_158 cy ad (g 158) := hI.1 158 (by decide)
  obtain ⟨f158, e158⟩ := c158
  have c159 : CP_159 cy ad (g 159) := hI.1 159 (by decide)
  obtain ⟨f159, e159⟩ := c159
  have c160 : CP_160 cy ad (g 160) := hI.1 160 (by decide)
  obtain ⟨f160, e160, h160⟩ := c160
  have c161 : CP_161 cy ad (g 161) := hI.1 161 (by decide)
  obtain ⟨f161, e161, h161⟩ := c161
  have c163 : CP_163 cy ad (g 163) := hI.1 163 (by decide)
  obtain ⟨f163, e163⟩ := c163
  have zfh := hI.2.2
  rw [e138, e142, e136, e119] at zfh
  have zkh := hI.2.1
  refine ⟨_, k_X12_party l D cy _ _ (u0_0 := .ref (ad 120)) (u0_1 := .ref (ad 121)) (u0_2 := .int x119_2) (u0_3 := .int x119_3) (u0_4 := .int x119_4) (u0_5 := .int x119_5) (u0_6 := .int x119_6) (u0_7 := .int x119_7) (u0_8 := .int x119_8) (u0_9 := .int x119_9) (u0_10 := .long w119_10) (u0_11 := .ref (ad 122)) (c2 := f123) (u0_13 := .ref (ad 124)) (u0_14 := .ref (ad 125)) (u0_15 := .ref (ad 126)) (c3 := f127) (c4 := f128) (u0_18 := .ref (ad 129)) (c5 := f130) (c6 := f131) (c7 := f132) (c8 := f133) (u0_23 := .ref (ad 134)) (u0_24 := .ref (ad 135)) (c9 := f136) (u0_26 := .ref (ad 137)) (c10 := f138) (u0_28 := .ref (ad 139)) (u0_29 := .ref (ad 140)) (u0_30 := .ref (ad 141)) (c11 := f142) (c12 := f143) (u0_33 := .ref (ad 144)) (u0_34 := .ref (ad 145)) (c13 := f146) (x0_36 := x119_36) (u0_37 := .int x119_37) (u0_38 := .int x119_38) (u0_39 := .int x119_39) (u0_40 := .int x119_40) (c1 := f147) (c14 := f148) (c15 := f149) (c16 := f150) (c17 := f151) (c18 := f152) (c19 := f153) (c20 := f154) (c21 := f155) (c22 := f156) (c23 := f157) (c24 := f158) (c25 := f159) (c26 := f160) (c27 := f161) (x0_56 := x119_56) (x0_57 := x119_57) (u0_58 := .ref (ad 162)) (u0_59 := .int x119_59) (u0_60 := .int x119_60) (c28 := f163) (x0_62 := x119_62) (u0_63 := .ref (ad 164)) (u0_64 := .ref (ad 165)) (u0_65 := .ref (ad 166)) (u0_66 := .ref (ad 167)) (u0_67 := .ref (ad 168)) (u0_68 := .ref (ad 169)) (u0_69 := .ref (ad 170)) (u0_70 := .int x119_70) (u0_71 := .int x119_71) (u0_72 := .ref (ad 171)) (u0_73 := .ref (ad 172)) e119 e147 e123 e127 e128 e130 e131 e132 e133 e136 e138 e142 e143 e146 e148 e149 e150 e151 e152 e153 e154 e155 e156 e157 e158 e159 e160 e161 e163 b119_36 b119_56 b119_62 h147 h123 h132 h133 h136 h138 h151 h152 h153 h160 h161 zfh, fun r nw l' hw => ?_⟩
  obtain ⟨n_y0_56, n_y0_57, n_y0_62, n_d13, n_d14, n_d15, n_d16, n_d17, n_d18, n_d19, n_d20, n_d21, n_d22, n_d23, n_d24, n_d25, n_d26, n_d27, n_d28, z0, z1, z2, z3, z4, z5, z6, rfl⟩ := hw
  refine ⟨INV_mrg (lk := [(119, .inr (12, [.ref (ad 120), .ref (ad 121), .int x119_2, .int x119_3, .int x119_4, .int x119_5, .int x119_6, .int x119_7, .int x119_8, .int x119_9, .long w119_10, .ref (ad 122), .ref (ad 123), .ref (ad 124), .ref (ad 125), .ref (ad 126), .ref (ad 127), .ref (ad 128), .ref (ad 129), .ref (ad 130), .ref (ad 131), .ref (ad 132), .ref (ad 133), .ref (ad 134), .ref (ad 135), .ref (ad 136), .ref (ad 137), .ref (ad 138), .ref (ad 139), .ref (ad 140), .ref (ad 141), .ref (ad 142), .ref (ad 143), .ref (ad 144), .ref (ad 145), .ref (ad 146), .int x119_36, .int x119_37, .int x119_38, .int x119_39, .int x119_40, .ref (ad 147), .ref (ad 148), .ref (ad 149), .ref (ad 150), .ref (ad 151), .ref (ad 152), .ref (ad 153), .ref (ad 154), .ref (ad 155), .ref (ad 156), .ref (ad 157), .ref (ad 158), .ref (ad 159), .ref (ad 160), .ref (ad 161), .int n_y0_56, .int n_y0_57, .ref (ad 162), .int x119_59, .int x119_60, .ref (ad 163), .int n_y0_62, .ref (ad 164), .ref (ad 165), .ref (ad 166), .ref (ad 167), .ref (ad 168), .ref (ad 169), .ref (ad 170), .int x119_70, .int x119_71, .ref (ad 171), .ref (ad 172)])), (146, .inl (cy 0, 60, .inl n_d13)), (148, .inl (cy 0, 30, .inl n_d14)), (149, .inl (cy 0, 30, .inl n_d15)), (150, .inl (cy 0, 5, .inl n_d16)), (151, .inl (cy 0, 4, .inl n_d17)), (152, .inl (cy 0, 20, .inl n_d18)), (153, .inl (cy 0, 30, .inl n_d19)), (154, .inl (cy 0, 120, .inl n_d20)), (155, .inl (cy 0, 120, .inl n_d21)), (156, .inl (cy 0, 5, .inl n_d22)), (157, .inl (cy 0, 5, .inl n_d23)), (158, .inl (cy 0, 5, .inl n_d24)), (159, .inl (cy 0, 5, .inl n_d25)), (160, .inl (cy 2, 30, .inl n_d26)), (161, .inl (cy 2, 5, .inl n_d27)), (163, .inl (cy 0, 24, .inl n_d28))]) hI ?_ ?_ ?_ ?_, (fo_mrg rfl rfl), (fo_mrg rfl (by rw [e119]; rfl))⟩
  · rfl
  · exact (List.forall_mem_cons.mpr ⟨(show CP_119 cy ad _ from ⟨x119_2, x119_3, x119_4, x119_5, x119_6, x119_7, x119_8, x119_9, w119_10, x119_36, x119_37, x119_38, x119_39, x119_40, n_y0_56, n_y0_57, x119_59, x119_60, n_y0_62, x119_70, x119_71, rfl, b119_2, b119_3, b119_4, b119_6, b119_7, b119_8, b119_36, b119_37, b119_38, b119_39, b119_40, z0, b119_59, b119_60, (zi_w z1 (by decide)), b119_70, b119_71, hU119⟩), (List.forall_mem_cons.mpr ⟨(show CP_146 cy ad _ from ⟨n_d13, rfl⟩), (List.forall_mem_cons.mpr ⟨(show CP_148 cy ad _ from ⟨n_d14, rfl⟩), (List.forall_mem_cons.mpr ⟨(show CP_149 cy ad _ from ⟨n_d15, rfl⟩), (List.forall_mem_cons.mpr ⟨(show CP_150 cy ad _ from ⟨n_d16, rfl⟩), (List.forall_mem_cons.mpr ⟨(show CP_151 cy ad _ from ⟨n_d17, rfl, z2⟩), (List.forall_mem_cons.mpr ⟨(show CP_152 cy ad _ from ⟨n_d18, rfl, z3⟩), (List.forall_mem_cons.mpr ⟨(show CP_153 cy ad _ from ⟨n_d19, rfl, z4⟩), (List.forall_mem_cons.mpr ⟨(show CP_154 cy ad _ from ⟨n_d20, rfl⟩), (List.forall_mem_cons.mpr ⟨(show CP_155 cy ad _ from ⟨n_d21, rfl⟩), (List.forall_mem_cons.mpr ⟨(show CP_156 cy ad _ from ⟨n_d22, rfl⟩), (List.forall_mem_cons.mpr ⟨(show CP_157 cy ad _ from ⟨n_d23, rfl⟩), (List.forall_mem_cons.mpr ⟨(show CP_158 cy ad _ from ⟨n_d24, rfl⟩), (List.forall_mem_cons.mpr ⟨(show CP_159 cy ad _ from ⟨n_d25, rfl⟩), (List.forall_mem_cons.mpr ⟨(show CP_160 cy ad _ from ⟨n_d26, rfl, z5⟩), (List.forall_mem_cons.mpr ⟨(show CP_161 cy ad _ from ⟨n_d27, rfl, z6⟩), (List.forall_mem_cons.mpr ⟨(show CP_163 cy ad _ from ⟨n_d28, rfl⟩), (fun _ h => absurd h List.not_mem_nil)⟩)⟩)⟩)⟩)⟩)⟩)⟩)⟩)⟩)⟩)⟩)⟩)⟩)⟩)⟩)⟩)⟩)
  · exact zkh
  · exact zfh

set_option maxHeartbeats 8000000 in
set_option maxRecDepth 100000 in
theorem sm_X11_heaps {D : va_G} {cy : Nat → ClassId} {ad : Nat → Nat} {g : Nat → va_E} (l : Launch) (sacks minute what : Int32) (hI : INV cy ad g) : ∃ post : Int32 → (Nat → Nat) → List (Nat × va_E) → Prop, cMi l yX11_heaps wq_k_X11_heaps { frames := 5, cells := 0, slots := 0, locals := 126 } 27 0 0 0 D cy (fun i => ad ([0, 38, 74, 21, 35, 59, 80, 24, 25, 28, 29, 30, 31, 36, 37, 39, 41, 60, 61, 81, 82, 83, 84, 85, 86, 87, 75].getD i 0)) (fun i => cup [] g ([0, 38, 74, 21, 35, 59, 80, 24, 25, 28, 29, 30, 31, 36, 37, 39, 41, 60, 61, 81, 82, 83, 84, 85, 86, 87, 75].getD i 0)) [.ref (ad ([0, 38, 74, 21, 35, 59, 80, 24, 25, 28, 29, 30, 31, 36, 37, 39, 41, 60, 61, 81, 82, 83, 84, 85, 86, 87, 75].getD 0 0)), .int sacks, .int minute, .int what] post ∧ ∀ (r : Int32) (nw : Nat → Nat) (l' : List (Nat × va_E)), post r nw l' → INV cy ad (cup (cmrg 173 27 [0, 38, 74, 21, 35, 59, 80, 24, 25, 28, 29, 30, 31, 36, 37, 39, 41, 60, 61, 81, 82, 83, 84, 85, 86, 87, 75] l' []) g) ∧ TK g (cup (cmrg 173 27 [0, 38, 74, 21, 35, 59, 80, 24, 25, 28, 29, 30, 31, 36, 37, 39, 41, 60, 61, 81, 82, 83, 84, 85, 86, 87, 75] l' []) g) := by
  have c0 : CP_0 cy ad (g 0) := hI.1 0 (by decide)
  obtain ⟨x0_1, x0_13, e0, b0_1, b0_13⟩ := c0
  have c21 : CP_21 cy ad (g 21) := hI.1 21 (by decide)
  obtain ⟨x21_5, x21_11, x21_15, x21_16, e21, b21_5, b21_11, b21_16⟩ := c21
  have c24 : CP_24 cy ad (g 24) := hI.1 24 (by decide)
  obtain ⟨f24, e24⟩ := c24
  have c25 : CP_25 cy ad (g 25) := hI.1 25 (by decide)
  obtain ⟨f25, e25⟩ := c25
  have c28 : CP_28 cy ad (g 28) := hI.1 28 (by decide)
  obtain ⟨f28, e28⟩ := c28
  have c29 : CP_29 cy ad (g 29) := hI.1 29 (by decide)
  obtain ⟨f29, e29⟩ := c29
  have c30 : CP_30 cy ad (g 30) := hI.1 30 (by decide)
  obtain ⟨f30, e30, h30⟩ := c30
  have c31 : CP_31 cy ad (g 31) := hI.1 31 (by decide)
  obtain ⟨f31, e31, h31⟩ := c31
  have c35 : CP_35 cy ad (g 35) := hI.1 35 (by decide)
  obtain ⟨x35_1, x35_2, x35_3, e35, b35_1, b35_3⟩ := c35
  have c36 : CP_36 cy ad (g 36) := hI.1 36 (by decide)
  obtain ⟨f36, e36⟩ := c36
  have c37 : CP_37 cy ad (g 37) := hI.1 37 (by decide)
  obtain ⟨f37, e37⟩ := c37
  have c38 : CP_38 cy ad (g 38) := hI.1 38 (by decide)
  obtain ⟨x38_2, x38_4, e38, b38_4⟩ := c38
  have c39 : CP_39 cy ad (g 39) := hI.1 39 (by decide)
  obtain ⟨f39, e39⟩ := c39
  have c41 : CP_41 cy ad (g 41) := hI.1 41 (by decide)
  obtain ⟨f41, e41⟩ := c41
  have c59 : CP_59 cy ad (g 59) := hI.1 59 (by decide)
  have e59 := c59
  have c60 : CP_60 cy ad (g 60) := hI.1 60 (by decide)
  obtain ⟨f60, e60⟩ := c60
  have c61 : CP_61 cy ad (g 61) := hI.1 61 (by decide)
  obtain ⟨f61, e61⟩ := c61
  have c74 : CP_74 cy ad (g 74) := hI.1 74 (by decide)
  obtain ⟨x74_5, x74_10, e74, b74_5⟩ := c74
  have c75 : CP_75 cy ad (g 75) := hI.1 75 (by decide)
  obtain ⟨f75, e75, h75⟩ := c75
  have c80 : CP_80 cy ad (g 80) := hI.1 80 (by decide)
  have e80 := c80
  have c81 : CP_81 cy ad (g 81) := hI.1 81 (by decide)
  obtain ⟨f81, e81⟩ := c81
  have c82 : CP_82 cy ad (g 82) := hI.1 82 (by decide)
  obtain ⟨f82, e82, h82⟩ := c82
  have c83 : CP_83 cy ad (g 83) := hI.1 83 (by decide)
  obtain ⟨f83, e83, h83⟩ := c83
  have c84 : CP_84 cy ad (g 84) := hI.1 84 (by decide)
  obtain ⟨f84, e84⟩ := c84
  have c85 : CP_85 cy ad (g 85) := hI.1 85 (by decide)
  obtain ⟨f85, e85⟩ := c85
  have c86 : CP_86 cy ad (g 86) := hI.1 86 (by decide)
  obtain ⟨f86, e86⟩ := c86
  have c87 : CP_87 cy ad (g 87) := hI.1 87 (by decide)
  obtain ⟨f87, e87⟩ := c87
  have zfh := hI.2.2
  have zkh := hI.2.1
  refine ⟨_, k_X11_heaps l D cy _ _ (u0_0 := .ref (ad 1)) (u0_1 := .int x0_1) (u0_2 := .ref (ad 2)) (u0_3 := .ref (ad 21)) (c15 := f39) (u1_1 := .ref (ad 40)) (x1_2 := x38_2) (c16 := f41) (x1_4 := x38_4) (u0_5 := .ref (ad 42)) (u0_6 := .ref (ad 55)) (u0_7 := .ref (ad 59)) (u0_8 := .ref (ad 62)) (u3_0 := .ref (ad 22)) (u3_1 := .ref (ad 23)) (c7 := f24) (c8 := f25) (u3_4 := .ref (ad 26)) (u3_5 := .int x21_5) (u3_6 := .ref (ad 27)) (c9 := f28) (c10 := f29) (c11 := f30) (c12 := f31) (x3_11 := x21_11) (u3_12 := .ref (ad 32)) (u3_13 := .ref (ad 33)) (u3_14 := .ref (ad 34)) (u3_15 := .int x21_15) (u3_16 := .int x21_16) (c13 := f36) (x4_1 := x35_1) (u4_2 := .int x35_2) (x4_3 := x35_3) (c14 := f37) (c17 := f60) (c18 := f61) (c19 := f81) (c20 := f82) (c21 := f83) (c22 := f84) (c23 := f85) (c24 := f86) (c25 := f87) (c26 := f75) (x2_5 := x74_5) (u2_6 := .ref (ad 76)) (u2_7 := .ref (ad 77)) (u2_8 := .ref (ad 78)) (u2_9 := .ref (ad 79)) (x2_10 := x74_10) (u0_10 := .ref (ad 88)) (u0_11 := .ref (ad 101)) (u0_12 := .ref (ad 118)) (u0_13 := .int x0_13) e0 e38 e74 e21 e35 e59 e80 e24 e25 e28 e29 e30 e31 e36 e37 e39 e41 e60 e61 e81 e82 e83 e84 e85 e86 e87 e75 b38_4 b74_5 b21_11 b35_1 b35_3 h30 h31 h82 h83 h75, fun r nw l' hw => ?_⟩
  obtain ⟨n_y2_5, n_y2_10, n_d14, n_d17, n_d18, n_d19, n_d20, n_d21, n_d22, n_d23, n_d24, n_d25, n_d26, z0, z1, z2, z3, rfl⟩ := hw
  refine ⟨INV_mrg (lk := [(74, .inr (2, [.ref (ad 21), .ref (ad 38), .ref (ad 59), .ref (ad 80), .ref (ad 75), .int n_y2_5, .ref (ad 76), .ref (ad 77), .ref (ad 78), .ref (ad 79), .int n_y2_10])), (37, .inl (cy 0, 30, .inl n_d14)), (60, .inl (cy 0, 80, .inl n_d17)), (61, .inl (cy 0, 80, .inl n_d18)), (81, .inl (cy 0, 5, .inl n_d19)), (82, .inl (cy 0, 20, .inl n_d20)), (83, .inl (cy 0, 4, .inl n_d21)), (84, .inl (cy 0, 5, .inl n_d22)), (85, .inl (cy 0, 5, .inl n_d23)), (86, .inl (cy 0, 5, .inl n_d24)), (87, .inl (cy 0, 5, .inl n_d25)), (75, .inl (cy 0, 24, .inl n_d26))]) hI ?_ ?_ ?_ ?_, (fo_mrg rfl rfl), (fo_mrg rfl rfl)⟩
  · rfl
  · exact (List.forall_mem_cons.mpr ⟨(show CP_74 cy ad _ from ⟨n_y2_5, n_y2_10, rfl, z0⟩), (List.forall_mem_cons.mpr ⟨(show CP_37 cy ad _ from ⟨n_d14, rfl⟩), (List.forall_mem_cons.mpr ⟨(show CP_60 cy ad _ from ⟨n_d17, rfl⟩), (List.forall_mem_cons.mpr ⟨(show CP_61 cy ad _ from ⟨n_d18, rfl⟩), (List.forall_mem_cons.mpr ⟨(show CP_81 cy ad _ from ⟨n_d19, rfl⟩), (List.forall_mem_cons.mpr ⟨(show CP_82 cy ad _ from ⟨n_d20, rfl, z1⟩), (List.forall_mem_cons.mpr ⟨(show CP_83 cy ad _ from ⟨n_d21, rfl, z2⟩), (List.forall_mem_cons.mpr ⟨(show CP_84 cy ad _ from ⟨n_d22, rfl⟩), (List.forall_mem_cons.mpr ⟨(show CP_85 cy ad _ from ⟨n_d23, rfl⟩), (List.forall_mem_cons.mpr ⟨(show CP_86 cy ad _ from ⟨n_d24, rfl⟩), (List.forall_mem_cons.mpr ⟨(show CP_87 cy ad _ from ⟨n_d25, rfl⟩), (List.forall_mem_cons.mpr ⟨(show CP_75 cy ad _ from ⟨n_d26, rfl, z3⟩), (fun _ h => absurd h List.not_mem_nil)⟩)⟩)⟩)⟩)⟩)⟩)⟩)⟩)⟩)⟩)⟩)⟩)
  · exact zkh
  · exact zfh

set_option maxHeartbeats 8000000 in
set_option maxRecDepth 100000 in
theorem sm_X12_heaps {D : va_G} {cy : Nat → ClassId} {ad : Nat → Nat} {g : Nat → va_E} (l : Launch) (its minute what : Int32) (hI : INV cy ad g) : ∃ post : Int32 → (Nat → Nat) → List (Nat × va_E) → Prop, cMi l yX12_heaps wq_k_X12_heaps { frames := 4, cells := 0, slots := 0, locals := 97 } 28 0 0 0 D cy (fun i => ad ([119, 147, 123, 132, 133, 148, 149, 150, 151, 152, 160, 127, 128, 130, 131, 136, 138, 142, 143, 146, 153, 154, 155, 156, 157, 158, 159, 161].getD i 0)) (fun i => cup [] g ([119, 147, 123, 132, 133, 148, 149, 150, 151, 152, 160, 127, 128, 130, 131, 136, 138, 142, 143, 146, 153, 154, 155, 156, 157, 158, 159, 161].getD i 0)) [.ref (ad ([119, 147, 123, 132, 133, 148, 149, 150, 151, 152, 160, 127, 128, 130, 131, 136, 138, 142, 143, 146, 153, 154, 155, 156, 157, 158, 159, 161].getD 0 0)), .int its, .int minute, .int what] post ∧ ∀ (r : Int32) (nw : Nat → Nat) (l' : List (Nat × va_E)), post r nw l' → INV cy ad (cup (cmrg 173 28 [119, 147, 123, 132, 133, 148, 149, 150, 151, 152, 160, 127, 128, 130, 131, 136, 138, 142, 143, 146, 153, 154, 155, 156, 157, 158, 159, 161] l' []) g) ∧ TK g (cup (cmrg 173 28 [119, 147, 123, 132, 133, 148, 149, 150, 151, 152, 160, 127, 128, 130, 131, 136, 138, 142, 143, 146, 153, 154, 155, 156, 157, 158, 159, 161] l' []) g) := by
  have c119 : CP_119 cy ad (g 119) := hI.1 119 (by decide)
  obtain ⟨x119_2, x119_3, x119_4, x119_5, x119_6, x119_7, x119_8, x119_9, w119_10, x119_36, x119_37, x119_38, x119_39, x119_40, x119_56, x119_57, x119_59, x119_60, x119_62, x119_70, x119_71, e119, b119_2, b119_3, b119_4, b119_6, b119_7, b119_8, b119_36, b119_37, b119_38, b119_39, b119_40, b119_56, b119_59, b119_60, b119_62, b119_70, b119_71, hU119⟩ := c119
  have c123 : CP_123 cy ad (g 123) := hI.1 123 (by decide)
  obtain ⟨f123, e123, h123⟩ := c123
  have c127 : CP_127 cy ad (g 127) := hI.1 127 (by decide)
  obtain ⟨f127, e127⟩ := c127
  have c128 : CP_128 cy ad (g 128) := hI.1 128 (by decide)
  obtain ⟨f128, e128⟩ := c128
  have c130 : CP_130 cy ad (g 130) := hI.1 130 (by decide)
  obtain ⟨f130, e130⟩ := c130
  have c131 : CP_131 cy ad (g 131) := hI.1 131 (by decide)
  obtain ⟨f131, e131⟩ := c131
  have c132 : CP_132 cy ad (g 132) := hI.1 132 (by decide)
  obtain ⟨f132, e132, h132⟩ := c132
  have c133 : CP_133 cy ad (g 133) := hI.1 133 (by decide)
  obtain ⟨f133, e133, h133⟩ := c133
  have c136 : CP_136 cy ad (g 136) := hI.1 136 (by decide)
  obtain ⟨f136, e136, h136⟩ := c136
  have c138 : CP_138 cy ad (g 138) := hI.1 138 (by decide)
  obtain ⟨f138, e138, h138⟩ := c138
  have c142 : CP_142 cy ad (g 142) := hI.1 142 (by decide)
  obtain ⟨f142, e142⟩ := c142
  have c143 : CP_143 cy ad (g 143) := hI.1 143 (by decide)
  obtain ⟨f143, e143⟩ := c143
  have c146 : CP_146 cy ad (g 146) := hI.1 146 (by decide)
  obtain ⟨f146, e146⟩ := c146
  have c147 : CP_147 cy ad (g 147) := hI.1 147 (by decide)
  obtain ⟨f147, e147, h147⟩ := c147
  have c148 : CP_148 cy ad (g 148) := hI.1 148 (by decide)
  obtain ⟨f148, e148⟩ := c148
  have c149 : CP_149 cy ad (g 149) := hI.1 149 (by decide)
  obtain ⟨f149, e149⟩ := c149
  have c150 : CP_150 cy ad (g 150) := hI.1 150 (by decide)
  obtain ⟨f150, e150⟩ := c150
  have c151 : CP_151 cy ad (g 151) := hI.1 151 (by decide)
  obtain ⟨f151, e151, h151⟩ := c151
  have c152 : CP_152 cy ad (g 152) := hI.1 152 (by decide)
  obtain ⟨f152, e152, h152⟩ := c152
  have c153 : CP_153 cy ad (g 153) := hI.1 153 (by decide)
  obtain ⟨f153, e153, h153⟩ := c153
  have c154 : CP_154 cy ad (g 154) := hI.1 154 (by decide)
  obtain ⟨f154, e154⟩ := c154
  have c155 : CP_155 cy ad (g 155) := hI.1 155 (by decide)
  obtain ⟨f155, e155⟩ := c155
  have c156 : CP_156 cy ad (g 156) := hI.1 156 (by decide)
  obtain ⟨f156, e156⟩ := c156
  have c157 : CP_157 cy ad (g 157) := hI.1 157 (by decide)
  obtain ⟨f157, e157⟩ := c157
  have c158 : CP_158 cy ad (g 158) := hI.1 158 (by decide)
  obtain ⟨f158, e158⟩ := c158
  have c159 : CP_159 cy ad (g 159) := hI.1 159 (by decide)
  obtain ⟨f159, e159⟩ := c159
  have c160 : CP_160 cy ad (g 160) := hI.1 160 (by decide)
  obtain ⟨f160, e160, h160⟩ := c160
  have c161 : CP_161 cy ad (g 161) := hI.1 161 (by decide)
  obtain ⟨f161, e161, h161⟩ := c161
  have zfh := hI.2.2
  rw [e138, e142, e136, e119] at zfh
  have zkh := hI.2.1
  refine ⟨_, k_X12_heaps l D cy _ _ (u0_0 := .ref (ad 120)) (u0_1 := .ref (ad 121)) (u0_2 := .int x119_2) (u0_3 := .int x119_3) (u0_4 := .int x119_4) (u0_5 := .int x119_5) (u0_6 := .int x119_6) (u0_7 := .int x119_7) (u0_8 := .int x119_8) (u0_9 := .int x119_9) (u0_10 := .long w119_10) (u0_11 := .ref (ad 122)) (c2 := f123) (u0_13 := .ref (ad 124)) (u0_14 := .ref (ad 125)) (u0_15 := .ref (ad 126)) (c11 := f127) (c12 := f128) (u0_18 := .ref (ad 129)) (c13 := f130) (c14 := f131) (c3 := f132) (c4 := f133) (u0_23 := .ref (ad 134)) (u0_24 := .ref (ad 135)) (c15 := f136) (u0_26 := .ref (ad 137)) (c16 := f138) (u0_28 := .ref (ad 139)) (u0_29 := .ref (ad 140)) (u0_30 := .ref (ad 141)) (c17 := f142) (c18 := f143) (u0_33 := .ref (ad 144)) (u0_34 := .ref (ad 145)) (c19 := f146) (x0_36 := x119_36) (u0_37 := .int x119_37) (u0_38 := .int x119_38) (u0_39 := .int x119_39) (u0_40 := .int x119_40) (c1 := f147) (c5 := f148) (c6 := f149) (c7 := f150) (c8 := f151) (c9 := f152) (c20 := f153) (c21 := f154) (c22 := f155) (c23 := f156) (c24 := f157) (c25 := f158) (c26 := f159) (c10 := f160) (c27 := f161) (x0_56 := x119_56) (x0_57 := x119_57) (u0_58 := .ref (ad 162)) (u0_59 := .int x119_59) (u0_60 := .int x119_60) (u0_61 := .ref (ad 163)) (u0_62 := .int x119_62) (u0_63 := .ref (ad 164)) (u0_64 := .ref (ad 165)) (u0_65 := .ref (ad 166)) (u0_66 := .ref (ad 167)) (u0_67 := .ref (ad 168)) (u0_68 := .ref (ad 169)) (u0_69 := .ref (ad 170)) (u0_70 := .int x119_70) (u0_71 := .int x119_71) (u0_72 := .ref (ad 171)) (u0_73 := .ref (ad 172)) e119 e147 e123 e132 e133 e148 e149 e150 e151 e152 e160 e127 e128 e130 e131 e136 e138 e142 e143 e146 e153 e154 e155 e156 e157 e158 e159 e161 b119_36 b119_56 h147 h123 h132 h133 h151 h152 h160 h136 h138 h153 h161 zfh, fun r nw l' hw => ?_⟩
  obtain ⟨n_y0_56, n_y0_57, n_d5, n_d6, n_d7, n_d8, n_d9, n_d10, n_d19, n_d20, n_d21, n_d22, n_d23, n_d24, n_d25, n_d26, n_d27, z0, z1, z2, z3, z4, z5, rfl⟩ := hw
  refine ⟨INV_mrg (lk := [(119, .inr (12, [.ref (ad 120), .ref (ad 121), .int x119_2, .int x119_3, .int x119_4, .int x119_5, .int x119_6, .int x119_7, .int x119_8, .int x119_9, .long w119_10, .ref (ad 122), .ref (ad 123), .ref (ad 124), .ref (ad 125), .ref (ad 126), .ref (ad 127), .ref (ad 128), .ref (ad 129), .ref (ad 130), .ref (ad 131), .ref (ad 132), .ref (ad 133), .ref (ad 134), .ref (ad 135), .ref (ad 136), .ref (ad 137), .ref (ad 138), .ref (ad 139), .ref (ad 140), .ref (ad 141), .ref (ad 142), .ref (ad 143), .ref (ad 144), .ref (ad 145), .ref (ad 146), .int x119_36, .int x119_37, .int x119_38, .int x119_39, .int x119_40, .ref (ad 147), .ref (ad 148), .ref (ad 149), .ref (ad 150), .ref (ad 151), .ref (ad 152), .ref (ad 153), .ref (ad 154), .ref (ad 155), .ref (ad 156), .ref (ad 157), .ref (ad 158), .ref (ad 159), .ref (ad 160), .ref (ad 161), .int n_y0_56, .int n_y0_57, .ref (ad 162), .int x119_59, .int x119_60, .ref (ad 163), .int x119_62, .ref (ad 164), .ref (ad 165), .ref (ad 166), .ref (ad 167), .ref (ad 168), .ref (ad 169), .ref (ad 170), .int x119_70, .int x119_71, .ref (ad 171), .ref (ad 172)])), (148, .inl (cy 0, 30, .inl n_d5)), (149, .inl (cy 0, 30, .inl n_d6)), (150, .inl (cy 0, 5, .inl n_d7)), (151, .inl (cy 0, 4, .inl n_d8)), (152, .inl (cy 0, 20, .inl n_d9)), (160, .inl (cy 2, 30, .inl n_d10)), (146, .inl (cy 0, 60, .inl n_d19)), (153, .inl (cy 0, 30, .inl n_d20)), (154, .inl (cy 0, 120, .inl n_d21)), (155, .inl (cy 0, 120, .inl n_d22)), (156, .inl (cy 0, 5, .inl n_d23)), (157, .inl (cy 0, 5, .inl n_d24)), (158, .inl (cy 0, 5, .inl n_d25)), (159, .inl (cy 0, 5, .inl n_d26)), (161, .inl (cy 2, 5, .inl n_d27))]) hI ?_ ?_ ?_ ?_, (fo_mrg rfl rfl), (fo_mrg rfl (by rw [e119]; rfl))⟩
  · rfl
  · exact (List.forall_mem_cons.mpr ⟨(show CP_119 cy ad _ from ⟨x119_2, x119_3, x119_4, x119_5, x119_6, x119_7, x119_8, x119_9, w119_10, x119_36, x119_37, x119_38, x119_39, x119_40, n_y0_56, n_y0_57, x119_59, x119_60, x119_62, x119_70, x119_71, rfl, b119_2, b119_3, b119_4, b119_6, b119_7, b119_8, b119_36, b119_37, b119_38, b119_39, b119_40, z0, b119_59, b119_60, b119_62, b119_70, b119_71, hU119⟩), (List.forall_mem_cons.mpr ⟨(show CP_148 cy ad _ from ⟨n_d5, rfl⟩), (List.forall_mem_cons.mpr ⟨(show CP_149 cy ad _ from ⟨n_d6, rfl⟩), (List.forall_mem_cons.mpr ⟨(show CP_150 cy ad _ from ⟨n_d7, rfl⟩), (List.forall_mem_cons.mpr ⟨(show CP_151 cy ad _ from ⟨n_d8, rfl, z1⟩), (List.forall_mem_cons.mpr ⟨(show CP_152 cy ad _ from ⟨n_d9, rfl, z2⟩), (List.forall_mem_cons.mpr ⟨(show CP_160 cy ad _ from ⟨n_d10, rfl, z3⟩), (List.forall_mem_cons.mpr ⟨(show CP_146 cy ad _ from ⟨n_d19, rfl⟩), (List.forall_mem_cons.mpr ⟨(show CP_153 cy ad _ from ⟨n_d20, rfl, z4⟩), (List.forall_mem_cons.mpr ⟨(show CP_154 cy ad _ from ⟨n_d21, rfl⟩), (List.forall_mem_cons.mpr ⟨(show CP_155 cy ad _ from ⟨n_d22, rfl⟩), (List.forall_mem_cons.mpr ⟨(show CP_156 cy ad _ from ⟨n_d23, rfl⟩), (List.forall_mem_cons.mpr ⟨(show CP_157 cy ad _ from ⟨n_d24, rfl⟩), (List.forall_mem_cons.mpr ⟨(show CP_158 cy ad _ from ⟨n_d25, rfl⟩), (List.forall_mem_cons.mpr ⟨(show CP_159 cy ad _ from ⟨n_d26, rfl⟩), (List.forall_mem_cons.mpr ⟨(show CP_161 cy ad _ from ⟨n_d27, rfl, z5⟩), (fun _ h => absurd h List.not_mem_nil)⟩)⟩)⟩)⟩)⟩)⟩)⟩)⟩)⟩)⟩)⟩)⟩)⟩)⟩)⟩)⟩)
  · exact zkh
  · exact zfh

set_option maxHeartbeats 8000000 in
set_option maxRecDepth 100000 in
theorem sm_X11_rest {D : va_G} {cy : Nat → ClassId} {ad : Nat → Nat} {g : Nat → va_E} (l : Launch)  (hI : INV cy ad g) : ∃ post : Int32 → (Nat → Nat) → List (Nat × va_E) → Prop, cMi l yX11_rest wq_k_X11_rest { frames := 7, cells := 0, slots := 0, locals := 168 } 32 0 0 0 D cy (fun i => ad ([0, 74, 21, 35, 38, 59, 80, 24, 25, 28, 29, 30, 31, 36, 37, 39, 40, 41, 60, 61, 81, 82, 83, 84, 85, 86, 87, 75, 76, 77, 79, 118].getD i 0)) (fun i => cup [] g ([0, 74, 21, 35, 38, 59, 80, 24, 25, 28, 29, 30, 31, 36, 37, 39, 40, 41, 60, 61, 81, 82, 83, 84, 85, 86, 87, 75, 76, 77, 79, 118].getD i 0)) [.ref (ad ([0, 74, 21, 35, 38, 59, 80, 24, 25, 28, 29, 30, 31, 36, 37, 39, 40, 41, 60, 61, 81, 82, 83, 84, 85, 86, 87, 75, 76, 77, 79, 118].getD 0 0))] post ∧ ∀ (r : Int32) (nw : Nat → Nat) (l' : List (Nat × va_E)), post r nw l' → INV cy ad (cup (cmrg 173 32 [0, 74, 21, 35, 38, 59, 80, 24, 25, 28, 29, 30, 31, 36, 37, 39, 40, 41, 60, 61, 81, 82, 83, 84, 85, 86, 87, 75, 76, 77, 79, 118] l' []) g) ∧ TK g (cup (cmrg 173 32 [0, 74, 21, 35, 38, 59, 80, 24, 25, 28, 29, 30, 31, 36, 37, 39, 40, 41, 60, 61, 81, 82, 83, 84, 85, 86, 87, 75, 76, 77, 79, 118] l' []) g) := by
  have c0 : CP_0 cy ad (g 0) := hI.1 0 (by decide)
  obtain ⟨x0_1, x0_13, e0, b0_1, b0_13⟩ := c0
  have c21 : CP_21 cy ad (g 21) := hI.1 21 (by decide)
  obtain ⟨x21_5, x21_11, x21_15, x21_16, e21, b21_5, b21_11, b21_16⟩ := c21
  have c24 : CP_24 cy ad (g 24) := hI.1 24 (by decide)
  obtain ⟨f24, e24⟩ := c24
  have c25 : CP_25 cy ad (g 25) := hI.1 25 (by decide)
  obtain ⟨f25, e25⟩ := c25
  have c28 : CP_28 cy ad (g 28) := hI.1 28 (by decide)
  obtain ⟨f28, e28⟩ := c28
  have c29 : CP_29 cy ad (g 29) := hI.1 29 (by decide)
  obtain ⟨f29, e29⟩ := c29
  have c30 : CP_30 cy ad (g 30) := hI.1 30 (by decide)
  obtain ⟨f30, e30, h30⟩ := c30
  have c31 : CP_31 cy ad (g 31) := hI.1 31 (by decide)
  obtain ⟨f31, e31, h31⟩ := c31
  have c35 : CP_35 cy ad (g 35) := hI.1 35 (by decide)
  obtain ⟨x35_1, x35_2, x35_3, e35, b35_1, b35_3⟩ := c35
  have c36 : CP_36 cy ad (g 36) := hI.1 36 (by decide)
  obtain ⟨f36, e36⟩ := c36
  have c37 : CP_37 cy ad (g 37) := hI.1 37 (by decide)
  obtain ⟨f37, e37⟩ := c37
  have c38 : CP_38 cy ad (g 38) := hI.1 38 (by decide)
  obtain ⟨x38_2, x38_4, e38, b38_4⟩ := c38
  have c39 : CP_39 cy ad (g 39) := hI.1 39 (by decide)
  obtain ⟨f39, e39⟩ := c39
  have c40 : CP_40 cy ad (g 40) := hI.1 40 (by decide)
  obtain ⟨f40, e40⟩ := c40
  have c41 : CP_41 cy ad (g 41) := hI.1 41 (by decide)
  obtain ⟨f41, e41⟩ := c41
  have c59 : CP_59 cy ad (g 59) := hI.1 59 (by decide)
  have e59 := c59
  have c60 : CP_60 cy ad (g 60) := hI.1 60 (by decide)
  obtain ⟨f60, e60⟩ := c60
  have c61 : CP_61 cy ad (g 61) := hI.1 61 (by decide)
  obtain ⟨f61, e61⟩ := c61
  have c74 : CP_74 cy ad (g 74) := hI.1 74 (by decide)
  obtain ⟨x74_5, x74_10, e74, b74_5⟩ := c74
  have c75 : CP_75 cy ad (g 75) := hI.1 75 (by decide)
  obtain ⟨f75, e75, h75⟩ := c75
  have c76 : CP_76 cy ad (g 76) := hI.1 76 (by decide)
  obtain ⟨f76, e76, h76⟩ := c76
  have c77 : CP_77 cy ad (g 77) := hI.1 77 (by decide)
  obtain ⟨f77, e77⟩ := c77
  have c79 : CP_79 cy ad (g 79) := hI.1 79 (by decide)
  obtain ⟨f79, e79⟩ := c79
  have c80 : CP_80 cy ad (g 80) := hI.1 80 (by decide)
  have e80 := c80
  have c81 : CP_81 cy ad (g 81) := hI.1 81 (by decide)
  obtain ⟨f81, e81⟩ := c81
  have c82 : CP_82 cy ad (g 82) := hI.1 82 (by decide)
  obtain ⟨f82, e82, h82⟩ := c82
  have c83 : CP_83 cy ad (g 83) := hI.1 83 (by decide)
  obtain ⟨f83, e83, h83⟩ := c83
  have c84 : CP_84 cy ad (g 84) := hI.1 84 (by decide)
  obtain ⟨f84, e84⟩ := c84
  have c85 : CP_85 cy ad (g 85) := hI.1 85 (by decide)
  obtain ⟨f85, e85⟩ := c85
  have c86 : CP_86 cy ad (g 86) := hI.1 86 (by decide)
  obtain ⟨f86, e86⟩ := c86
  have c87 : CP_87 cy ad (g 87) := hI.1 87 (by decide)
  obtain ⟨f87, e87⟩ := c87
  have c118 : CP_118 cy ad (g 118) := hI.1 118 (by decide)
  obtain ⟨f118, e118⟩ := c118
  have zfh := hI.2.2
  have zkh := hI.2.1
  refine ⟨_, k_X11_rest l D cy _ _ (u0_0 := .ref (ad 1)) (u0_1 := .int x0_1) (u0_2 := .ref (ad 2)) (u0_3 := .ref (ad 21)) (c15 := f39) (c16 := f40) (x4_2 := x38_2) (c17 := f41) (x4_4 := x38_4) (u0_5 := .ref (ad 42)) (u0_6 := .ref (ad 55)) (u0_7 := .ref (ad 59)) (u0_8 := .ref (ad 62)) (u2_0 := .ref (ad 22)) (u2_1 := .ref (ad 23)) (c7 := f24) (c8 := f25) (u2_4 := .ref (ad 26)) (u2_5 := .int x21_5) (u2_6 := .ref (ad 27)) (c9 := f28) (c10 := f29) (c11 := f30) (c12 := f31) (x2_11 := x21_11) (u2_12 := .ref (ad 32)) (u2_13 := .ref (ad 33)) (u2_14 := .ref (ad 34)) (u2_15 := .int x21_15) (u2_16 := .int x21_16) (c13 := f36) (x3_1 := x35_1) (u3_2 := .int x35_2) (x3_3 := x35_3) (c14 := f37) (c18 := f60) (c19 := f61) (c20 := f81) (c21 := f82) (c22 := f83) (c23 := f84) (c24 := f85) (c25 := f86) (c26 := f87) (c27 := f75) (x1_5 := x74_5) (c28 := f76) (c29 := f77) (u1_8 := .ref (ad 78)) (c30 := f79) (u1_10 := .int x74_10) (u0_10 := .ref (ad 88)) (u0_11 := .ref (ad 101)) (c31 := f118) (x0_13 := x0_13) e0 e74 e21 e35 e38 e59 e80 e24 e25 e28 e29 e30 e31 e36 e37 e39 e40 e41 e60 e61 e81 e82 e83 e84 e85 e86 e87 e75 e76 e77 e79 e118 b0_13 b74_5 b21_11 b35_1 b35_3 b38_4 h30 h31 h82 h83 h75 h76, fun r nw l' hw => ?_⟩
  obtain ⟨n_y0_13, n_y1_5, n_d14, n_d18, n_d19, n_d20, n_d21, n_d22, n_d23, n_d24, n_d25, n_d26, n_d27, n_d28, n_d29, n_d30, n_d31, z0, z1, z2, z3, z4, z5, z6, rfl⟩ := hw
  refine ⟨INV_mrg (lk := [(0, .inr (11, [.ref (ad 1), .int x0_1, .ref (ad 2), .ref (ad 21), .ref (ad 38), .ref (ad 42), .ref (ad 55), .ref (ad 59), .ref (ad 62), .ref (ad 74), .ref (ad 88), .ref (ad 101), .ref (ad 118), .int n_y0_13])), (74, .inr (2, [.ref (ad 21), .ref (ad 38), .ref (ad 59), .ref (ad 80), .ref (ad 75), .int n_y1_5, .ref (ad 76), .ref (ad 77), .ref (ad 78), .ref (ad 79), .int x74_10])), (37, .inl (cy 0, 30, .inl n_d14)), (60, .inl (cy 0, 80, .inl n_d18)), (61, .inl (cy 0, 80, .inl n_d19)), (81, .inl (cy 0, 5, .inl n_d20)), (82, .inl (cy 0, 20, .inl n_d21)), (83, .inl (cy 0, 4, .inl n_d22)), (84, .inl (cy 0, 5, .inl n_d23)), (85, .inl (cy 0, 5, .inl n_d24)), (86, .inl (cy 0, 5, .inl n_d25)), (87, .inl (cy 0, 5, .inl n_d26)), (75, .inl (cy 0, 24, .inl n_d27)), (76, .inl (cy 0, 24, .inl n_d28)), (77, .inl (cy 0, 24, .inl n_d29)), (79, .inl (cy 0, 24, .inl n_d30)), (118, .inl (cy 0, 24, .inl n_d31))]) hI ?_ ?_ ?_ ?_, (fo_mrg rfl rfl), (fo_mrg rfl rfl)⟩
  · rfl
  · exact (List.forall_mem_cons.mpr ⟨(show CP_0 cy ad _ from ⟨x0_1, n_y0_13, rfl, b0_1, z0⟩), (List.forall_mem_cons.mpr ⟨(show CP_74 cy ad _ from ⟨n_y1_5, x74_10, rfl, z1⟩), (List.forall_mem_cons.mpr ⟨(show CP_37 cy ad _ from ⟨n_d14, rfl⟩), (List.forall_mem_cons.mpr ⟨(show CP_60 cy ad _ from ⟨n_d18, rfl⟩), (List.forall_mem_cons.mpr ⟨(show CP_61 cy ad _ from ⟨n_d19, rfl⟩), (List.forall_mem_cons.mpr ⟨(show CP_81 cy ad _ from ⟨n_d20, rfl⟩), (List.forall_mem_cons.mpr ⟨(show CP_82 cy ad _ from ⟨n_d21, rfl, z2⟩), (List.forall_mem_cons.mpr ⟨(show CP_83 cy ad _ from ⟨n_d22, rfl, z3⟩), (List.forall_mem_cons.mpr ⟨(show CP_84 cy ad _ from ⟨n_d23, rfl⟩), (List.forall_mem_cons.mpr ⟨(show CP_85 cy ad _ from ⟨n_d24, rfl⟩), (List.forall_mem_cons.mpr ⟨(show CP_86 cy ad _ from ⟨n_d25, rfl⟩), (List.forall_mem_cons.mpr ⟨(show CP_87 cy ad _ from ⟨n_d26, rfl⟩), (List.forall_mem_cons.mpr ⟨(show CP_75 cy ad _ from ⟨n_d27, rfl, z4⟩), (List.forall_mem_cons.mpr ⟨(show CP_76 cy ad _ from ⟨n_d28, rfl, z5⟩), (List.forall_mem_cons.mpr ⟨(show CP_77 cy ad _ from ⟨n_d29, rfl⟩), (List.forall_mem_cons.mpr ⟨(show CP_79 cy ad _ from ⟨n_d30, rfl⟩), (List.forall_mem_cons.mpr ⟨(show CP_118 cy ad _ from ⟨n_d31, rfl⟩), (fun _ h => absurd h List.not_mem_nil)⟩)⟩)⟩)⟩)⟩)⟩)⟩)⟩)⟩)⟩)⟩)⟩)⟩)⟩)⟩)⟩)⟩)
  · exact zkh
  · exact zfh

set_option maxHeartbeats 8000000 in
set_option maxRecDepth 100000 in
theorem sm_X12_rest {D : va_G} {cy : Nat → ClassId} {ad : Nat → Nat} {g : Nat → va_E} (l : Launch)  (hI : INV cy ad g) : ∃ post : Int32 → (Nat → Nat) → List (Nat × va_E) → Prop, cMi l yX12_rest wq_k_X12_rest { frames := 6, cells := 0, slots := 0, locals := 145 } 30 0 0 0 D cy (fun i => ad ([119, 147, 164, 123, 127, 128, 130, 131, 132, 133, 136, 138, 142, 143, 146, 148, 149, 150, 151, 152, 153, 154, 155, 156, 157, 158, 159, 160, 161, 163].getD i 0)) (fun i => cup [] g ([119, 147, 164, 123, 127, 128, 130, 131, 132, 133, 136, 138, 142, 143, 146, 148, 149, 150, 151, 152, 153, 154, 155, 156, 157, 158, 159, 160, 161, 163].getD i 0)) [.ref (ad ([119, 147, 164, 123, 127, 128, 130, 131, 132, 133, 136, 138, 142, 143, 146, 148, 149, 150, 151, 152, 153, 154, 155, 156, 157, 158, 159, 160, 161, 163].getD 0 0))] post ∧ ∀ (r : Int32) (nw : Nat → Nat) (l' : List (Nat × va_E)), post r nw l' → INV cy ad (cup (cmrg 173 30 [119, 147, 164, 123, 127, 128, 130, 131, 132, 133, 136, 138, 142, 143, 146, 148, 149, 150, 151, 152, 153, 154, 155, 156, 157, 158, 159, 160, 161, 163] l' []) g) ∧ TK g (cup (cmrg 173 30 [119, 147, 164, 123, 127, 128, 130, 131, 132, 133, 136, 138, 142, 143, 146, 148, 149, 150, 151, 152, 153, 154, 155, 156, 157, 158, 159, 160, 161, 163] l' []) g) := by
  have c119 : CP_119 cy ad (g 119) := hI.1 119 (by decide)
  obtain ⟨x119_2, x119_3, x119_4, x119_5, x119_6, x119_7, x119_8, x119_9, w119_10, x119_36, x119_37, x119_38, x119_39, x119_40, x119_56, x119_57, x119_59, x119_60, x119_62, x119_70, x119_71, e119, b119_2, b119_3, b119_4, b119_6, b119_7, b119_8, b119_36, b119_37, b119_38, b119_39, b119_40, b119_56, b119_59, b119_60, b119_62, b119_70, b119_71, hU119⟩ := c119
  have c123 : CP_123 cy ad (g 123) := hI.1 123 (by decide)
  obtain ⟨f123, e123, h123⟩ := c123
  have c127 : CP_127 cy ad (g 127) := hI.1 127 (by decide)
  obtain ⟨f127, e127⟩ := c127
  have c128 : CP_128 cy ad (g 128) := hI.1 128 (by decide)
  obtain ⟨f128, e128⟩ := c128
  have c130 : CP_130 cy ad (g 130) := hI.1 130 (by decide)
  obtain ⟨f130, e130⟩ := c130
  have c131 : CP_131 cy ad (g 131) := hI.1 131 (by decide)
  obtain ⟨f131, e131⟩ := c131
  have c132 : CP_132 cy ad (g 132) := hI.1 132 (by decide)
  obtain ⟨f132, e132, h132⟩ := c132
  have c133 : CP_133 cy ad (g 133) := hI.1 133 (by decide)
  obtain ⟨f133, e133, h133⟩ := c133
  have c136 : CP_136 cy ad (g 136) := hI.1 136 (by decide)
  obtain ⟨f136, e136, h136⟩ := c136
  have c138 : CP_138 cy ad (g 138) := hI.1 138 (by decide)
  obtain ⟨f138, e138, h138⟩ := c138
  have c142 : CP_142 cy ad (g 142) := hI.1 142 (by decide)
  obtain ⟨f142, e142⟩ := c142
  have c143 : CP_143 cy ad (g 143) := hI.1 143 (by decide)
  obtain ⟨f143, e143⟩ := c143
  have c146 : CP_146 cy ad (g 146) := hI.1 146 (by decide)
  obtain ⟨f146, e146⟩ := c146
  have c147 : CP_147 cy ad (g 147) := hI.1 147 (by decide)
  obtain ⟨f147, e147, h147⟩ := c147
  have c148 : CP_148 cy ad (g 148) := hI.1 148 (by decide)
  obtain ⟨f148, e148⟩ := c148
  have c149 : CP_149 cy ad (g 149) := hI.1 149 (by decide)
  obtain ⟨f149, e149⟩ := c149
  have c150 : CP_150 cy ad (g 150) := hI.1 150 (by decide)
  obtain ⟨f150, e150⟩ := c150
  have c151 : CP_151 cy ad (g 151) := hI.1 151 (by decide)
  obtain ⟨f151, e151, h151⟩ := c151
  have c152 : CP_152 cy ad (g 152) := hI.1 152 (by decide)
  obtain ⟨f152, e152, h152⟩ := c152
  have c153 : CP_153 cy ad (g 153) := hI.1 153 (by decide)
  obtain ⟨f153, e153, h153⟩ := c153
  have c154 : CP_154 cy ad (g 154) := hI.1 154 (by decide)
  obtain ⟨f154, e154⟩ := c154
  have c155 : CP_155 cy ad (g 155) := hI.1 155 (by decide)
  obtain ⟨f155, e155⟩ := c155
  have c156 : CP_156 cy ad (g 156) := hI.1 156 (by decide)
  obtain ⟨f156, e156⟩ := c156
  have c157 : CP_157 cy ad (g 157) := hI.1 157 (by decide)
  obtain ⟨f157, e157⟩ := c157
  have c158 : CP_158 cy ad (g 158) := hI.1 158 (by decide)
  obtain ⟨f158, e158⟩ := c158
  have c159 : CP_159 cy ad (g 159) := hI.1 159 (by decide)
  obtain ⟨f159, e159⟩ := c159
  have c160 : CP_160 cy ad (g 160) := hI.1 160 (by decide)
  obtain ⟨f160, e160, h160⟩ := c160
  have c161 : CP_161 cy ad (g 161) := hI.1 161 (by decide)
  obtain ⟨f161, e161, h161⟩ := c161
  have c163 : CP_163 cy ad (g 163) := hI.1 163 (by decide)
  obtain ⟨f163, e163⟩ := c163
  have c164 : CP_164 cy ad (g 164) := hI.1 164 (by decide)
  obtain ⟨f164, e164⟩ := c164
  have zfh := hI.2.2
  rw [e138, e142, e136, e119] at zfh
  have zkh := hI.2.1
  refine ⟨_, k_X12_rest l D cy _ _ (u0_0 := .ref (ad 120)) (u0_1 := .ref (ad 121)) (u0_2 := .int x119_2) (u0_3 := .int x119_3) (u0_4 := .int x119_4) (u0_5 := .int x119_5) (u0_6 := .int x119_6) (u0_7 := .int x119_7) (u0_8 := .int x119_8) (u0_9 := .int x119_9) (u0_10 := .long w119_10) (u0_11 := .ref (ad 122)) (c3 := f123) (u0_13 := .ref (ad 124)) (u0_14 := .ref (ad 125)) (u0_15 := .ref (ad 126)) (c4 := f127) (c5 := f128) (u0_18 := .ref (ad 129)) (c6 := f130) (c7 := f131) (c8 := f132) (c9 := f133) (u0_23 := .ref (ad 134)) (u0_24 := .ref (ad 135)) (c10 := f136) (u0_26 := .ref (ad 137)) (c11 := f138) (u0_28 := .ref (ad 139)) (u0_29 := .ref (ad 140)) (u0_30 := .ref (ad 141)) (c12 := f142) (c13 := f143) (u0_33 := .ref (ad 144)) (u0_34 := .ref (ad 145)) (c14 := f146) (x0_36 := x119_36) (u0_37 := .int x119_37) (u0_38 := .int x119_38) (u0_39 := .int x119_39) (u0_40 := .int x119_40) (c1 := f147) (c15 := f148) (c16 := f149) (c17 := f150) (c18 := f151) (c19 := f152) (c20 := f153) (c21 := f154) (c22 := f155) (c23 := f156) (c24 := f157) (c25 := f158) (c26 := f159) (c27 := f160) (c28 := f161) (x0_56 := x119_56) (x0_57 := x119_57) (u0_58 := .ref (ad 162)) (u0_59 := .int x119_59) (u0_60 := .int x119_60) (c29 := f163) (x0_62 := x119_62) (c2 := f164) (u0_64 := .ref (ad 165)) (u0_65 := .ref (ad 166)) (u0_66 := .ref (ad 167)) (u0_67 := .ref (ad 168)) (u0_68 := .ref (ad 169)) (u0_69 := .ref (ad 170)) (u0_70 := .int x119_70) (u0_71 := .int x119_71) (u0_72 := .ref (ad 171)) (u0_73 := .ref (ad 172)) e119 e147 e164 e123 e127 e128 e130 e131 e132 e133 e136 e138 e142 e143 e146 e148 e149 e150 e151 e152 e153 e154 e155 e156 e157 e158 e159 e160 e161 e163 b119_36 b119_56 b119_62 h147 h123 h132 h133 h136 h138 h151 h152 h153 h160 h161 zfh, fun r nw l' hw => ?_⟩
  obtain ⟨n_y0_56, n_y0_57, n_y0_62, n_d2, n_d14, n_d15, n_d16, n_d17, n_d18, n_d19, n_d20, n_d21, n_d22, n_d23, n_d24, n_d25, n_d26, n_d27, n_d28, n_d29, z0, z1, z2, z3, z4, z5, z6, z7, rfl⟩ := hw
  refine ⟨INV_mrg (lk := [(119, .inr (12, [.ref (ad 120), .ref (ad 121), .int x119_2, .int x119_3, .int x119_4, .int x119_5, .int x119_6, .int x119_7, .int x119_8, .int x119_9, .long w119_10, .ref (ad 122), .ref (ad 123), .ref (ad 124), .ref (ad 125), .ref (ad 126), .ref (ad 127), .ref (ad 128), .ref (ad 129), .ref (ad 130), .ref (ad 131), .ref (ad 132), .ref (ad 133), .ref (ad 134), .ref (ad 135), .ref (ad 136), .ref (ad 137), .ref (ad 138), .ref (ad 139), .ref (ad 140), .ref (ad 141), .ref (ad 142), .ref (ad 143), .ref (ad 144), .ref (ad 145), .ref (ad 146), .int x119_36, .int x119_37, .int x119_38, .int x119_39, .int x119_40, .ref (ad 147), .ref (ad 148), .ref (ad 149), .ref (ad 150), .ref (ad 151), .ref (ad 152), .ref (ad 153), .ref (ad 154), .ref (ad 155), .ref (ad 156), .ref (ad 157), .ref (ad 158), .ref (ad 159), .ref (ad 160), .ref (ad 161), .int n_y0_56, .int n_y0_57, .ref (ad 162), .int x119_59, .int x119_60, .ref (ad 163), .int n_y0_62, .ref (ad 164), .ref (ad 165), .ref (ad 166), .ref (ad 167), .ref (ad 168), .ref (ad 169), .ref (ad 170), .int x119_70, .int x119_71, .ref (ad 171), .ref (ad 172)])), (164, .inl (cy 0, 24, .inl n_d2)), (146, .inl (cy 0, 60, .inl n_d14)), (148, .inl (cy 0, 30, .inl n_d15)), (149, .inl (cy 0, 30, .inl n_d16)), (150, .inl (cy 0, 5, .inl n_d17)), (151, .inl (cy 0, 4, .inl n_d18)), (152, .inl (cy 0, 20, .inl n_d19)), (153, .inl (cy 0, 30, .inl n_d20)), (154, .inl (cy 0, 120, .inl n_d21)), (155, .inl (cy 0, 120, .inl n_d22)), (156, .inl (cy 0, 5, .inl n_d23)), (157, .inl (cy 0, 5, .inl n_d24)), (158, .inl (cy 0, 5, .inl n_d25)), (159, .inl (cy 0, 5, .inl n_d26)), (160, .inl (cy 2, 30, .inl n_d27)), (161, .inl (cy 2, 5, .inl n_d28)), (163, .inl (cy 0, 24, .inl n_d29))]) hI ?_ ?_ ?_ ?_, (fo_mrg rfl rfl), (fo_mrg rfl (by rw [e119]; rfl))⟩
  · rfl
  · exact (List.forall_mem_cons.mpr ⟨(show CP_119 cy ad _ from ⟨x119_2, x119_3, x119_4, x119_5, x119_6, x119_7, x119_8, x119_9, w119_10, x119_36, x119_37, x119_38, x119_39, x119_40, n_y0_56, n_y0_57, x119_59, x119_60, n_y0_62, x119_70, x119_71, rfl, b119_2, b119_3, b119_4, b119_6, b119_7, b119_8, b119_36, b119_37, b119_38, b119_39, b119_40, z0, b119_59, b119_60, z1, b119_70, b119_71, hU119⟩), (List.forall_mem_cons.mpr ⟨(show CP_164 cy ad _ from ⟨n_d2, rfl⟩), (List.forall_mem_cons.mpr ⟨(show CP_146 cy ad _ from ⟨n_d14, rfl⟩), (List.forall_mem_cons.mpr ⟨(show CP_148 cy ad _ from ⟨n_d15, rfl⟩), (List.forall_mem_cons.mpr ⟨(show CP_149 cy ad _ from ⟨n_d16, rfl⟩), (List.forall_mem_cons.mpr ⟨(show CP_150 cy ad _ from ⟨n_d17, rfl⟩), (List.forall_mem_cons.mpr ⟨(show CP_151 cy ad _ from ⟨n_d18, rfl, z2⟩), (List.forall_mem_cons.mpr ⟨(show CP_152 cy ad _ from ⟨n_d19, rfl, z3⟩), (List.forall_mem_cons.mpr ⟨(show CP_153 cy ad _ from ⟨n_d20, rfl, z4⟩), (List.forall_mem_cons.mpr ⟨(show CP_154 cy ad _ from ⟨n_d21, rfl⟩), (List.forall_mem_cons.mpr ⟨(show CP_155 cy ad _ from ⟨n_d22, rfl⟩), (List.forall_mem_cons.mpr ⟨(show CP_156 cy ad _ from ⟨n_d23, rfl⟩), (List.forall_mem_cons.mpr ⟨(show CP_157 cy ad _ from ⟨n_d24, rfl⟩), (List.forall_mem_cons.mpr ⟨(show CP_158 cy ad _ from ⟨n_d25, rfl⟩), (List.forall_mem_cons.mpr ⟨(show CP_159 cy ad _ from ⟨n_d26, rfl⟩), (List.forall_mem_cons.mpr ⟨(show CP_160 cy ad _ from ⟨n_d27, rfl, z5⟩), (List.forall_mem_cons.mpr ⟨(show CP_161 cy ad _ from ⟨n_d28, rfl, z6⟩), (List.forall_mem_cons.mpr ⟨(show CP_163 cy ad _ from ⟨n_d29, rfl⟩), (fun _ h => absurd h List.not_mem_nil)⟩)⟩)⟩)⟩)⟩)⟩)⟩)⟩)⟩)⟩)⟩)⟩)⟩)⟩)⟩)⟩)⟩)⟩)
  · exact zkh
  · exact zfh

set_option maxHeartbeats 8000000 in
set_option maxRecDepth 100000 in
theorem sm_X11_teach {D : va_G} {cy : Nat → ClassId} {ad : Nat → Nat} {g : Nat → va_E} (l : Launch) (so : Int32) (hI : INV cy ad g) : ∃ post : Int32 → (Nat → Nat) → List (Nat × va_E) → Prop, cMi l yX11_teach wq_k_X11_teach { frames := 6, cells := 0, slots := 0, locals := 143 } 31 0 0 0 D cy (fun i => ad ([0, 88, 21, 35, 38, 59, 93, 24, 25, 28, 29, 30, 31, 36, 37, 39, 40, 41, 60, 61, 94, 95, 96, 97, 98, 99, 100, 89, 90, 92, 118].getD i 0)) (fun i => cup [] g ([0, 88, 21, 35, 38, 59, 93, 24, 25, 28, 29, 30, 31, 36, 37, 39, 40, 41, 60, 61, 94, 95, 96, 97, 98, 99, 100, 89, 90, 92, 118].getD i 0)) [.ref (ad ([0, 88, 21, 35, 38, 59, 93, 24, 25, 28, 29, 30, 31, 36, 37, 39, 40, 41, 60, 61, 94, 95, 96, 97, 98, 99, 100, 89, 90, 92, 118].getD 0 0)), .int so] post ∧ ∀ (r : Int32) (nw : Nat → Nat) (l' : List (Nat × va_E)), post r nw l' → INV cy ad (cup (cmrg 173 31 [0, 88, 21, 35, 38, 59, 93, 24, 25, 28, 29, 30, 31, 36, 37, 39, 40, 41, 60, 61, 94, 95, 96, 97, 98, 99, 100, 89, 90, 92, 118] l' []) g) ∧ TK g (cup (cmrg 173 31 [0, 88, 21, 35, 38, 59, 93, 24, 25, 28, 29, 30, 31, 36, 37, 39, 40, 41, 60, 61, 94, 95, 96, 97, 98, 99, 100, 89, 90, 92, 118] l' []) g) := by
  have c0 : CP_0 cy ad (g 0) := hI.1 0 (by decide)
  obtain ⟨x0_1, x0_13, e0, b0_1, b0_13⟩ := c0
  have c21 : CP_21 cy ad (g 21) := hI.1 21 (by decide)
  obtain ⟨x21_5, x21_11, x21_15, x21_16, e21, b21_5, b21_11, b21_16⟩ := c21
  have c24 : CP_24 cy ad (g 24) := hI.1 24 (by decide)
  obtain ⟨f24, e24⟩ := c24
  have c25 : CP_25 cy ad (g 25) := hI.1 25 (by decide)
  obtain ⟨f25, e25⟩ := c25
  have c28 : CP_28 cy ad (g 28) := hI.1 28 (by decide)
  obtain ⟨f28, e28⟩ := c28
  have c29 : CP_29 cy ad (g 29) := hI.1 29 (by decide)
  obtain ⟨f29, e29⟩ := c29
  have c30 : CP_30 cy ad (g 30) := hI.1 30 (by decide)
  obtain ⟨f30, e30, h30⟩ := c30
  have c31 : CP_31 cy ad (g 31) := hI.1 31 (by decide)
  obtain ⟨f31, e31, h31⟩ := c31
  have c35 : CP_35 cy ad (g 35) := hI.1 35 (by decide)
  obtain ⟨x35_1, x35_2, x35_3, e35, b35_1, b35_3⟩ := c35
  have c36 : CP_36 cy ad (g 36) := hI.1 36 (by decide)
  obtain ⟨f36, e36⟩ := c36
  have c37 : CP_37 cy ad (g 37) := hI.1 37 (by decide)
  obtain ⟨f37, e37⟩ := c37
  have c38 : CP_38 cy ad (g 38) := hI.1 38 (by decide)
  obtain ⟨x38_2, x38_4, e38, b38_4⟩ := c38
  have c39 : CP_39 cy ad (g 39) := hI.1 39 (by decide)
  obtain ⟨f39, e39⟩ := c39
  have c40 : CP_40 cy ad (g 40) := hI.1 40 (by decide)
  obtain ⟨f40, e40⟩ := c40
  have c41 : CP_41 cy ad (g 41) := hI.1 41 (by decide)
  obtain ⟨f41, e41⟩ := c41
  have c59 : CP_59 cy ad (g 59) := hI.1 59 (by decide)
  have e59 := c59
  have c60 : CP_60 cy ad (g 60) := hI.1 60 (by decide)
  obtain ⟨f60, e60⟩ := c60
  have c61 : CP_61 cy ad (g 61) := hI.1 61 (by decide)
  obtain ⟨f61, e61⟩ := c61
  have c88 : CP_88 cy ad (g 88) := hI.1 88 (by decide)
  obtain ⟨x88_5, e88, b88_5⟩ := c88
  have c89 : CP_89 cy ad (g 89) := hI.1 89 (by decide)
  obtain ⟨f89, e89, h89⟩ := c89
  have c90 : CP_90 cy ad (g 90) := hI.1 90 (by decide)
  obtain ⟨f90, e90⟩ := c90
  have c92 : CP_92 cy ad (g 92) := hI.1 92 (by decide)
  obtain ⟨f92, e92⟩ := c92
  have c93 : CP_93 cy ad (g 93) := hI.1 93 (by decide)
  have e93 := c93
  have c94 : CP_94 cy ad (g 94) := hI.1 94 (by decide)
  obtain ⟨f94, e94⟩ := c94
  have c95 : CP_95 cy ad (g 95) := hI.1 95 (by decide)
  obtain ⟨f95, e95, h95⟩ := c95
  have c96 : CP_96 cy ad (g 96) := hI.1 96 (by decide)
  obtain ⟨f96, e96, h96⟩ := c96
  have c97 : CP_97 cy ad (g 97) := hI.1 97 (by decide)
  obtain ⟨f97, e97⟩ := c97
  have c98 : CP_98 cy ad (g 98) := hI.1 98 (by decide)
  obtain ⟨f98, e98⟩ := c98
  have c99 : CP_99 cy ad (g 99) := hI.1 99 (by decide)
  obtain ⟨f99, e99⟩ := c99
  have c100 : CP_100 cy ad (g 100) := hI.1 100 (by decide)
  obtain ⟨f100, e100⟩ := c100
  have c118 : CP_118 cy ad (g 118) := hI.1 118 (by decide)
  obtain ⟨f118, e118⟩ := c118
  have zfh := hI.2.2
  have zkh := hI.2.1
  refine ⟨_, k_X11_teach l D cy _ _ (u0_0 := .ref (ad 1)) (u0_1 := .int x0_1) (u0_2 := .ref (ad 2)) (u2_0 := .ref (ad 22)) (u2_1 := .ref (ad 23)) (c7 := f24) (c8 := f25) (u2_4 := .ref (ad 26)) (x2_5 := x21_5) (u2_6 := .ref (ad 27)) (c9 := f28) (c10 := f29) (c11 := f30) (c12 := f31) (x2_11 := x21_11) (u2_12 := .ref (ad 32)) (u2_13 := .ref (ad 33)) (u2_14 := .ref (ad 34)) (u2_15 := .int x21_15) (u2_16 := .int x21_16) (c13 := f36) (x3_1 := x35_1) (u3_2 := .int x35_2) (x3_3 := x35_3) (c14 := f37) (u0_4 := .ref (ad 38)) (u0_5 := .ref (ad 42)) (u0_6 := .ref (ad 55)) (u0_7 := .ref (ad 59)) (u0_8 := .ref (ad 62)) (u0_9 := .ref (ad 74)) (c15 := f39) (c16 := f40) (x4_2 := x38_2) (c17 := f41) (x4_4 := x38_4) (c18 := f60) (c19 := f61) (c20 := f94) (c21 := f95) (c22 := f96) (c23 := f97) (c24 := f98) (c25 := f99) (c26 := f100) (c27 := f89) (x1_5 := x88_5) (c28 := f90) (u1_7 := .ref (ad 91)) (c29 := f92) (u0_11 := .ref (ad 101)) (c30 := f118) (x0_13 := x0_13) e0 e88 e21 e35 e38 e59 e93 e24 e25 e28 e29 e30 e31 e36 e37 e39 e40 e41 e60 e61 e94 e95 e96 e97 e98 e99 e100 e89 e90 e92 e118 b0_13 b88_5 b21_5 b21_11 b35_1 b35_3 b38_4 h30 h31 h95 h96 h89, fun r nw l' hw => ?_⟩
  obtain ⟨n_y0_13, n_y1_5, n_d14, n_d18, n_d19, n_d20, n_d21, n_d22, n_d23, n_d24, n_d25, n_d26, n_d27, n_d28, n_d29, n_d30, z0, z1, z2, z3, z4, rfl⟩ := hw
  refine ⟨INV_mrg (lk := [(0, .inr (11, [.ref (ad 1), .int x0_1, .ref (ad 2), .ref (ad 21), .ref (ad 38), .ref (ad 42), .ref (ad 55), .ref (ad 59), .ref (ad 62), .ref (ad 74), .ref (ad 88), .ref (ad 101), .ref (ad 118), .int n_y0_13])), (88, .inr (3, [.ref (ad 21), .ref (ad 38), .ref (ad 59), .ref (ad 93), .ref (ad 89), .int n_y1_5, .ref (ad 90), .ref (ad 91), .ref (ad 92)])), (37, .inl (cy 0, 30, .inl n_d14)), (60, .inl (cy 0, 80, .inl n_d18)), (61, .inl (cy 0, 80, .inl n_d19)), (94, .inl (cy 0, 5, .inl n_d20)), (95, .inl (cy 0, 20, .inl n_d21)), (96, .inl (cy 0, 4, .inl n_d22)), (97, .inl (cy 0, 5, .inl n_d23)), (98, .inl (cy 0, 5, .inl n_d24)), (99, .inl (cy 0, 5, .inl n_d25)), (100, .inl (cy 0, 5, .inl n_d26)), (89, .inl (cy 0, 24, .inl n_d27)), (90, .inl (cy 0, 5, .inl n_d28)), (92, .inl (cy 0, 5, .inl n_d29)), (118, .inl (cy 0, 24, .inl n_d30))]) hI ?_ ?_ ?_ ?_, (fo_mrg rfl rfl), (fo_mrg rfl rfl)⟩
  · rfl
  · exact (List.forall_mem_cons.mpr ⟨(show CP_0 cy ad _ from ⟨x0_1, n_y0_13, rfl, b0_1, (zi_w z0 (by decide))⟩), (List.forall_mem_cons.mpr ⟨(show CP_88 cy ad _ from ⟨n_y1_5, rfl, z1⟩), (List.forall_mem_cons.mpr ⟨(show CP_37 cy ad _ from ⟨n_d14, rfl⟩), (List.forall_mem_cons.mpr ⟨(show CP_60 cy ad _ from ⟨n_d18, rfl⟩), (List.forall_mem_cons.mpr ⟨(show CP_61 cy ad _ from ⟨n_d19, rfl⟩), (List.forall_mem_cons.mpr ⟨(show CP_94 cy ad _ from ⟨n_d20, rfl⟩), (List.forall_mem_cons.mpr ⟨(show CP_95 cy ad _ from ⟨n_d21, rfl, z2⟩), (List.forall_mem_cons.mpr ⟨(show CP_96 cy ad _ from ⟨n_d22, rfl, z3⟩), (List.forall_mem_cons.mpr ⟨(show CP_97 cy ad _ from ⟨n_d23, rfl⟩), (List.forall_mem_cons.mpr ⟨(show CP_98 cy ad _ from ⟨n_d24, rfl⟩), (List.forall_mem_cons.mpr ⟨(show CP_99 cy ad _ from ⟨n_d25, rfl⟩), (List.forall_mem_cons.mpr ⟨(show CP_100 cy ad _ from ⟨n_d26, rfl⟩), (List.forall_mem_cons.mpr ⟨(show CP_89 cy ad _ from ⟨n_d27, rfl, z4⟩), (List.forall_mem_cons.mpr ⟨(show CP_90 cy ad _ from ⟨n_d28, rfl⟩), (List.forall_mem_cons.mpr ⟨(show CP_92 cy ad _ from ⟨n_d29, rfl⟩), (List.forall_mem_cons.mpr ⟨(show CP_118 cy ad _ from ⟨n_d30, rfl⟩), (fun _ h => absurd h List.not_mem_nil)⟩)⟩)⟩)⟩)⟩)⟩)⟩)⟩)⟩)⟩)⟩)⟩)⟩)⟩)⟩)⟩)
  · exact zkh
  · exact zfh

