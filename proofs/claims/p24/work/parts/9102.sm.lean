set_option maxHeartbeats 8000000 in
set_option maxRecDepth 100000 in
theorem sm_X11_undo {D : va_G} {cy : Nat → ClassId} {ad : Nat → Nat} {g : Nat → va_E} (l : Launch)  (hI : INV cy ad g) : ∃ pst_ : Int32 → (Nat → Nat) → List (Nat × va_E) → Prop, cMi l yX11_undo wq_k_X11_undo { frames := 4, cells := 0, slots := 0, locals := 106 } 34 0 0 0 D cy (fun i => ad ([0, 55, 38, 56, 57, 58, 41, 62, 21, 35, 59, 66, 24, 25, 28, 29, 30, 31, 36, 37, 39, 40, 60, 61, 67, 68, 69, 70, 71, 72, 73, 63, 64, 65].getD i 0)) (fun i => cup [] g ([0, 55, 38, 56, 57, 58, 41, 62, 21, 35, 59, 66, 24, 25, 28, 29, 30, 31, 36, 37, 39, 40, 60, 61, 67, 68, 69, 70, 71, 72, 73, 63, 64, 65].getD i 0)) [.ref (ad ([0, 55, 38, 56, 57, 58, 41, 62, 21, 35, 59, 66, 24, 25, 28, 29, 30, 31, 36, 37, 39, 40, 60, 61, 67, 68, 69, 70, 71, 72, 73, 63, 64, 65].getD 0 0))] pst_ ∧ ∀ (r : Int32) (nw : Nat → Nat) (l' : List (Nat × va_E)), pst_ r nw l' → INV cy ad (cup (cmrg 173 34 [0, 55, 38, 56, 57, 58, 41, 62, 21, 35, 59, 66, 24, 25, 28, 29, 30, 31, 36, 37, 39, 40, 60, 61, 67, 68, 69, 70, 71, 72, 73, 63, 64, 65] l' []) g) ∧ TK g (cup (cmrg 173 34 [0, 55, 38, 56, 57, 58, 41, 62, 21, 35, 59, 66, 24, 25, 28, 29, 30, 31, 36, 37, 39, 40, 60, 61, 67, 68, 69, 70, 71, 72, 73, 63, 64, 65] l' []) g) := by
  have c0 := cp_0 hI
  obtain ⟨x0_1, x0_13, e0, b0_1, b0_13⟩ := c0
  have c21 := cp_21 hI
  obtain ⟨x21_5, x21_11, x21_15, x21_16, e21, b21_5, b21_11, b21_16⟩ := c21
  have c24 := cp_24 hI
  obtain ⟨f24, e24⟩ := c24
  have c25 := cp_25 hI
  obtain ⟨f25, e25⟩ := c25
  have c28 := cp_28 hI
  obtain ⟨f28, e28⟩ := c28
  have c29 := cp_29 hI
  obtain ⟨f29, e29⟩ := c29
  have c30 := cp_30 hI
  obtain ⟨f30, e30, h30⟩ := c30
  have c31 := cp_31 hI
  obtain ⟨f31, e31, h31⟩ := c31
  have c35 := cp_35 hI
  obtain ⟨x35_1, x35_2, x35_3, e35, b35_1, b35_3⟩ := c35
  have c36 := cp_36 hI
  obtain ⟨f36, e36⟩ := c36
  have c37 := cp_37 hI
  obtain ⟨f37, e37⟩ := c37
  have c38 := cp_38 hI
  obtain ⟨x38_2, x38_4, e38, b38_4⟩ := c38
  have c39 := cp_39 hI
  obtain ⟨f39, e39⟩ := c39
  have c40 := cp_40 hI
  obtain ⟨f40, e40⟩ := c40
  have c41 := cp_41 hI
  obtain ⟨f41, e41⟩ := c41
  have c55 := cp_55 hI
  obtain ⟨x55_3, x55_4, e55, b55_3, b55_4⟩ := c55
  have c56 := cp_56 hI
  obtain ⟨f56, e56⟩ := c56
  have c57 := cp_57 hI
  obtain ⟨f57, e57⟩ := c57
  have c58 := cp_58 hI
  obtain ⟨f58, e58⟩ := c58
  have c59 := cp_59 hI
  have e59 := c59
  have c60 := cp_60 hI
  obtain ⟨f60, e60⟩ := c60
  have c61 := cp_61 hI
  obtain ⟨f61, e61⟩ := c61
  have c62 := cp_62 hI
  have e62 := c62
  have c63 := cp_63 hI
  obtain ⟨f63, e63⟩ := c63
  have c64 := cp_64 hI
  obtain ⟨f64, e64⟩ := c64
  have c65 := cp_65 hI
  obtain ⟨f65, e65, h65⟩ := c65
  have c66 := cp_66 hI
  have e66 := c66
  have c67 := cp_67 hI
  obtain ⟨f67, e67⟩ := c67
  have c68 := cp_68 hI
  obtain ⟨f68, e68, h68⟩ := c68
  have c69 := cp_69 hI
  obtain ⟨f69, e69, h69⟩ := c69
  have c70 := cp_70 hI
  obtain ⟨f70, e70⟩ := c70
  have c71 := cp_71 hI
  obtain ⟨f71, e71⟩ := c71
  have c72 := cp_72 hI
  obtain ⟨f72, e72⟩ := c72
  have c73 := cp_73 hI
  obtain ⟨f73, e73⟩ := c73
  have zkh := hI.2.1
  rw [e56, e57] at zkh
  refine ⟨_, k_X11_undo l D cy _ _ (u0_0 := .ref (ad 1)) (u0_1 := .int x0_1) (u0_2 := .ref (ad 2)) (u0_3 := .ref (ad 21)) (c20 := f39) (c21 := f40) (x2_2 := x38_2) (c6 := f41) (x2_4 := x38_4) (u0_5 := .ref (ad 42)) (c3 := f56) (c4 := f57) (c5 := f58) (x1_3 := x55_3) (u1_4 := .int x55_4) (u0_7 := .ref (ad 59)) (u8_0 := .ref (ad 22)) (u8_1 := .ref (ad 23)) (c12 := f24) (c13 := f25) (u8_4 := .ref (ad 26)) (u8_5 := .int x21_5) (u8_6 := .ref (ad 27)) (c14 := f28) (c15 := f29) (c16 := f30) (c17 := f31) (x8_11 := x21_11) (u8_12 := .ref (ad 32)) (u8_13 := .ref (ad 33)) (u8_14 := .ref (ad 34)) (u8_15 := .int x21_15) (u8_16 := .int x21_16) (c18 := f36) (x9_1 := x35_1) (u9_2 := .int x35_2) (x9_3 := x35_3) (c19 := f37) (c22 := f60) (c23 := f61) (c24 := f67) (c25 := f68) (c26 := f69) (c27 := f70) (c28 := f71) (c29 := f72) (c30 := f73) (c31 := f63) (c32 := f64) (c33 := f65) (u0_9 := .ref (ad 74)) (u0_10 := .ref (ad 88)) (u0_11 := .ref (ad 101)) (u0_12 := .ref (ad 118)) (u0_13 := .int x0_13) e0 e55 e38 e56 e57 e58 e41 e62 e21 e35 e59 e66 e24 e25 e28 e29 e30 e31 e36 e37 e39 e40 e60 e61 e67 e68 e69 e70 e71 e72 e73 e63 e64 e65 b55_3 b38_4 b21_11 b35_1 b35_3 h30 h31 h68 h69 h65 zkh, fun r nw l' hw => ?_⟩
  obtain ⟨n_y1_3, n_y2_2, n_y2_4, n_d6, n_d19, n_d22, n_d23, n_d24, n_d25, n_d26, n_d27, n_d28, n_d29, n_d30, n_d31, n_d32, n_d33, z0, z1, z2, z3, z4, z5, rfl⟩ := hw
  refine mrg_case (P := fun g1 => INV cy ad g1 ∧ TK g g1) (lk := [(55, .inr (0, [.ref (ad 56), .ref (ad 57), .ref (ad 58), .int n_y1_3, .int x55_4])), (38, .inr (9, [.ref (ad 39), .ref (ad 40), .int n_y2_2, .ref (ad 41), .int n_y2_4])), (41, .inl (cy 0, 5, .inl n_d6)), (37, .inl (cy 0, 30, .inl n_d19)), (60, .inl (cy 0, 80, .inl n_d22)), (61, .inl (cy 0, 80, .inl n_d23)), (67, .inl (cy 0, 5, .inl n_d24)), (68, .inl (cy 0, 20, .inl n_d25)), (69, .inl (cy 0, 4, .inl n_d26)), (70, .inl (cy 0, 5, .inl n_d27)), (71, .inl (cy 0, 5, .inl n_d28)), (72, .inl (cy 0, 5, .inl n_d29)), (73, .inl (cy 0, 5, .inl n_d30)), (63, .inl (cy 0, 96, .inl n_d31)), (64, .inl (cy 0, 96, .inl n_d32)), (65, .inl (cy 0, 24, .inl n_d33))]) ?_ ?_
  · rfl
  refine ⟨INV_up hI ?_ ?_ ?_, (by rw [cup_far rfl]), (by rw [cup_far rfl])⟩
  · exact (List.forall_mem_cons.mpr ⟨(cs_55 ⟨n_y1_3, x55_4, rfl, (zi_w z0 (by decide)), b55_4⟩), (List.forall_mem_cons.mpr ⟨(cs_38 ⟨n_y2_2, n_y2_4, rfl, z1⟩), (List.forall_mem_cons.mpr ⟨(cs_41 ⟨n_d6, rfl⟩), (List.forall_mem_cons.mpr ⟨(cs_37 ⟨n_d19, rfl⟩), (List.forall_mem_cons.mpr ⟨(cs_60 ⟨n_d22, rfl⟩), (List.forall_mem_cons.mpr ⟨(cs_61 ⟨n_d23, rfl⟩), (List.forall_mem_cons.mpr ⟨(cs_67 ⟨n_d24, rfl⟩), (List.forall_mem_cons.mpr ⟨(cs_68 ⟨n_d25, rfl, z2⟩), (List.forall_mem_cons.mpr ⟨(cs_69 ⟨n_d26, rfl, z3⟩), (List.forall_mem_cons.mpr ⟨(cs_70 ⟨n_d27, rfl⟩), (List.forall_mem_cons.mpr ⟨(cs_71 ⟨n_d28, rfl⟩), (List.forall_mem_cons.mpr ⟨(cs_72 ⟨n_d29, rfl⟩), (List.forall_mem_cons.mpr ⟨(cs_73 ⟨n_d30, rfl⟩), (List.forall_mem_cons.mpr ⟨(cs_63 ⟨n_d31, rfl⟩), (List.forall_mem_cons.mpr ⟨(cs_64 ⟨n_d32, rfl⟩), (List.forall_mem_cons.mpr ⟨(cs_65 ⟨n_d33, rfl, z4⟩), (fun _ h => absurd h List.not_mem_nil)⟩)⟩)⟩)⟩)⟩)⟩)⟩)⟩)⟩)⟩)⟩)⟩)⟩)⟩)⟩)⟩)
  · exact (by rw [cup_far (S := 56) rfl, cup_far (S := 57) rfl]; exact hI.2.1)
  · exact (by have z := hI.2.2; rw [cup_far (S := 138) rfl, cup_far (S := 142) rfl, cup_far (S := 136) rfl, cup_far (S := 119) rfl]; exact z)

set_option maxHeartbeats 8000000 in
set_option maxRecDepth 100000 in
theorem sm_X12_undo {D : va_G} {cy : Nat → ClassId} {ad : Nat → Nat} {g : Nat → va_E} (l : Launch)  (hI : INV cy ad g) : ∃ pst_ : Int32 → (Nat → Nat) → List (Nat × va_E) → Prop, cMi l yX12_undo wq_k_X12_undo { frames := 1, cells := 0, slots := 0, locals := 22 } 3 0 0 0 D cy (fun i => ad ([119, 147, 162].getD i 0)) (fun i => cup [] g ([119, 147, 162].getD i 0)) [.ref (ad ([119, 147, 162].getD 0 0))] pst_ ∧ ∀ (r : Int32) (nw : Nat → Nat) (l' : List (Nat × va_E)), pst_ r nw l' → INV cy ad (cup (cmrg 173 3 [119, 147, 162] l' []) g) ∧ TK g (cup (cmrg 173 3 [119, 147, 162] l' []) g) := by
  have c119 := cp_119 hI
  obtain ⟨x119_2, x119_3, x119_4, x119_5, x119_6, x119_7, x119_8, x119_9, w119_10, x119_36, x119_37, x119_38, x119_39, x119_40, x119_56, x119_57, x119_59, x119_60, x119_62, x119_70, x119_71, e119, b119_2, b119_3, b119_4, b119_6, b119_7, b119_8, b119_36, b119_37, b119_38, b119_39, b119_40, b119_56, b119_59, b119_60, b119_62, b119_70, b119_71, hU119⟩ := c119
  have c147 := cp_147 hI
  obtain ⟨f147, e147, h147⟩ := c147
  have c162 := cp_162 hI
  obtain ⟨f162, e162, h162⟩ := c162
  refine ⟨_, k_X12_undo l D cy _ _ (u0_0 := .ref (ad 120)) (u0_1 := .ref (ad 121)) (u0_2 := .int x119_2) (u0_3 := .int x119_3) (u0_4 := .int x119_4) (u0_5 := .int x119_5) (u0_6 := .int x119_6) (u0_7 := .int x119_7) (u0_8 := .int x119_8) (u0_9 := .int x119_9) (u0_10 := .long w119_10) (u0_11 := .ref (ad 122)) (u0_12 := .ref (ad 123)) (u0_13 := .ref (ad 124)) (u0_14 := .ref (ad 125)) (u0_15 := .ref (ad 126)) (u0_16 := .ref (ad 127)) (u0_17 := .ref (ad 128)) (u0_18 := .ref (ad 129)) (u0_19 := .ref (ad 130)) (u0_20 := .ref (ad 131)) (u0_21 := .ref (ad 132)) (u0_22 := .ref (ad 133)) (u0_23 := .ref (ad 134)) (u0_24 := .ref (ad 135)) (u0_25 := .ref (ad 136)) (u0_26 := .ref (ad 137)) (u0_27 := .ref (ad 138)) (u0_28 := .ref (ad 139)) (u0_29 := .ref (ad 140)) (u0_30 := .ref (ad 141)) (u0_31 := .ref (ad 142)) (u0_32 := .ref (ad 143)) (u0_33 := .ref (ad 144)) (u0_34 := .ref (ad 145)) (u0_35 := .ref (ad 146)) (u0_36 := .int x119_36) (u0_37 := .int x119_37) (u0_38 := .int x119_38) (u0_39 := .int x119_39) (u0_40 := .int x119_40) (c1 := f147) (u0_42 := .ref (ad 148)) (u0_43 := .ref (ad 149)) (u0_44 := .ref (ad 150)) (u0_45 := .ref (ad 151)) (u0_46 := .ref (ad 152)) (u0_47 := .ref (ad 153)) (u0_48 := .ref (ad 154)) (u0_49 := .ref (ad 155)) (u0_50 := .ref (ad 156)) (u0_51 := .ref (ad 157)) (u0_52 := .ref (ad 158)) (u0_53 := .ref (ad 159)) (u0_54 := .ref (ad 160)) (u0_55 := .ref (ad 161)) (u0_56 := .int x119_56) (u0_57 := .int x119_57) (c2 := f162) (x0_59 := x119_59) (x0_60 := x119_60) (u0_61 := .ref (ad 163)) (u0_62 := .int x119_62) (u0_63 := .ref (ad 164)) (u0_64 := .ref (ad 165)) (u0_65 := .ref (ad 166)) (u0_66 := .ref (ad 167)) (u0_67 := .ref (ad 168)) (u0_68 := .ref (ad 169)) (u0_69 := .ref (ad 170)) (u0_70 := .int x119_70) (u0_71 := .int x119_71) (u0_72 := .ref (ad 171)) (u0_73 := .ref (ad 172)) e119 e147 e162 b119_59 b119_60 h147 h162 hU119, fun r nw l' hw => ?_⟩
  obtain ⟨n_y0_59, n_y0_60, n_d1, n_d2, z0, z1, z2, z3, z4, wr0, rfl⟩ := hw
  refine mrg_case (P := fun g1 => INV cy ad g1 ∧ TK g g1) (lk := [(119, .inr (12, [.ref (ad 120), .ref (ad 121), .int x119_2, .int x119_3, .int x119_4, .int x119_5, .int x119_6, .int x119_7, .int x119_8, .int x119_9, .long w119_10, .ref (ad 122), .ref (ad 123), .ref (ad 124), .ref (ad 125), .ref (ad 126), .ref (ad 127), .ref (ad 128), .ref (ad 129), .ref (ad 130), .ref (ad 131), .ref (ad 132), .ref (ad 133), .ref (ad 134), .ref (ad 135), .ref (ad 136), .ref (ad 137), .ref (ad 138), .ref (ad 139), .ref (ad 140), .ref (ad 141), .ref (ad 142), .ref (ad 143), .ref (ad 144), .ref (ad 145), .ref (ad 146), .int x119_36, .int x119_37, .int x119_38, .int x119_39, .int x119_40, .ref (ad 147), .ref (ad 148), .ref (ad 149), .ref (ad 150), .ref (ad 151), .ref (ad 152), .ref (ad 153), .ref (ad 154), .ref (ad 155), .ref (ad 156), .ref (ad 157), .ref (ad 158), .ref (ad 159), .ref (ad 160), .ref (ad 161), .int x119_56, .int x119_57, .ref (ad 162), .int n_y0_59, .int n_y0_60, .ref (ad 163), .int x119_62, .ref (ad 164), .ref (ad 165), .ref (ad 166), .ref (ad 167), .ref (ad 168), .ref (ad 169), .ref (ad 170), .int x119_70, .int x119_71, .ref (ad 171), .ref (ad 172)])), (147, .inl (cy 0, 80, .inl n_d1)), (162, .inl (cy 0, 3280, .inl n_d2))]) ?_ ?_
  · rfl
  refine ⟨INV_up hI ?_ ?_ ?_, (by rw [cup_far rfl]), (by rw [e119]; rfl)⟩
  · exact (List.forall_mem_cons.mpr ⟨(cs_119 ⟨x119_2, x119_3, x119_4, x119_5, x119_6, x119_7, x119_8, x119_9, w119_10, x119_36, x119_37, x119_38, x119_39, x119_40, x119_56, x119_57, n_y0_59, n_y0_60, x119_62, x119_70, x119_71, rfl, b119_2, b119_3, b119_4, b119_6, b119_7, b119_8, b119_36, b119_37, b119_38, b119_39, b119_40, b119_56, (zi_w z0 (by decide)), z1, b119_62, b119_70, b119_71, wr0⟩), (List.forall_mem_cons.mpr ⟨(cs_147 ⟨n_d1, rfl, z2⟩), (List.forall_mem_cons.mpr ⟨(cs_162 ⟨n_d2, rfl, z3⟩), (fun _ h => absurd h List.not_mem_nil)⟩)⟩)⟩)
  · exact (by rw [cup_far (S := 56) rfl, cup_far (S := 57) rfl]; exact hI.2.1)
  · exact (by have z := hI.2.2; rw [e119] at z; rw [cup_far (S := 138) rfl, cup_far (S := 142) rfl, cup_far (S := 136) rfl]; exact z)

set_option maxHeartbeats 8000000 in
set_option maxRecDepth 100000 in
theorem sm_X11_redo {D : va_G} {cy : Nat → ClassId} {ad : Nat → Nat} {g : Nat → va_E} (l : Launch)  (hI : INV cy ad g) : ∃ pst_ : Int32 → (Nat → Nat) → List (Nat × va_E) → Prop, cMi l yX11_redo wq_k_X11_redo { frames := 4, cells := 0, slots := 0, locals := 106 } 34 0 0 0 D cy (fun i => ad ([0, 55, 38, 56, 57, 58, 39, 40, 41, 62, 21, 35, 59, 66, 24, 25, 28, 29, 30, 31, 36, 37, 60, 61, 67, 68, 69, 70, 71, 72, 73, 63, 64, 65].getD i 0)) (fun i => cup [] g ([0, 55, 38, 56, 57, 58, 39, 40, 41, 62, 21, 35, 59, 66, 24, 25, 28, 29, 30, 31, 36, 37, 60, 61, 67, 68, 69, 70, 71, 72, 73, 63, 64, 65].getD i 0)) [.ref (ad ([0, 55, 38, 56, 57, 58, 39, 40, 41, 62, 21, 35, 59, 66, 24, 25, 28, 29, 30, 31, 36, 37, 60, 61, 67, 68, 69, 70, 71, 72, 73, 63, 64, 65].getD 0 0))] pst_ ∧ ∀ (r : Int32) (nw : Nat → Nat) (l' : List (Nat × va_E)), pst_ r nw l' → INV cy ad (cup (cmrg 173 34 [0, 55, 38, 56, 57, 58, 39, 40, 41, 62, 21, 35, 59, 66, 24, 25, 28, 29, 30, 31, 36, 37, 60, 61, 67, 68, 69, 70, 71, 72, 73, 63, 64, 65] l' []) g) ∧ TK g (cup (cmrg 173 34 [0, 55, 38, 56, 57, 58, 39, 40, 41, 62, 21, 35, 59, 66, 24, 25, 28, 29, 30, 31, 36, 37, 60, 61, 67, 68, 69, 70, 71, 72, 73, 63, 64, 65] l' []) g) := by
  have c0 := cp_0 hI
  obtain ⟨x0_1, x0_13, e0, b0_1, b0_13⟩ := c0
  have c21 := cp_21 hI
  obtain ⟨x21_5, x21_11, x21_15, x21_16, e21, b21_5, b21_11, b21_16⟩ := c21
  have c24 := cp_24 hI
  obtain ⟨f24, e24⟩ := c24
  have c25 := cp_25 hI
  obtain ⟨f25, e25⟩ := c25
  have c28 := cp_28 hI
  obtain ⟨f28, e28⟩ := c28
  have c29 := cp_29 hI
  obtain ⟨f29, e29⟩ := c29
  have c30 := cp_30 hI
  obtain ⟨f30, e30, h30⟩ := c30
  have c31 := cp_31 hI
  obtain ⟨f31, e31, h31⟩ := c31
  have c35 := cp_35 hI
  obtain ⟨x35_1, x35_2, x35_3, e35, b35_1, b35_3⟩ := c35
  have c36 := cp_36 hI
  obtain ⟨f36, e36⟩ := c36
  have c37 := cp_37 hI
  obtain ⟨f37, e37⟩ := c37
  have c38 := cp_38 hI
  obtain ⟨x38_2, x38_4, e38, b38_4⟩ := c38
  have c39 := cp_39 hI
  obtain ⟨f39, e39⟩ := c39
  have c40 := cp_40 hI
  obtain ⟨f40, e40⟩ := c40
  have c41 := cp_41 hI
  obtain ⟨f41, e41⟩ := c41
  have c55 := cp_55 hI
  obtain ⟨x55_3, x55_4, e55, b55_3, b55_4⟩ := c55
  have c56 := cp_56 hI
  obtain ⟨f56, e56⟩ := c56
  have c57 := cp_57 hI
  obtain ⟨f57, e57⟩ := c57
  have c58 := cp_58 hI
  obtain ⟨f58, e58⟩ := c58
  have c59 := cp_59 hI
  have e59 := c59
  have c60 := cp_60 hI
  obtain ⟨f60, e60⟩ := c60
  have c61 := cp_61 hI
  obtain ⟨f61, e61⟩ := c61
  have c62 := cp_62 hI
  have e62 := c62
  have c63 := cp_63 hI
  obtain ⟨f63, e63⟩ := c63
  have c64 := cp_64 hI
  obtain ⟨f64, e64⟩ := c64
  have c65 := cp_65 hI
  obtain ⟨f65, e65, h65⟩ := c65
  have c66 := cp_66 hI
  have e66 := c66
  have c67 := cp_67 hI
  obtain ⟨f67, e67⟩ := c67
  have c68 := cp_68 hI
  obtain ⟨f68, e68, h68⟩ := c68
  have c69 := cp_69 hI
  obtain ⟨f69, e69, h69⟩ := c69
  have c70 := cp_70 hI
  obtain ⟨f70, e70⟩ := c70
  have c71 := cp_71 hI
  obtain ⟨f71, e71⟩ := c71
  have c72 := cp_72 hI
  obtain ⟨f72, e72⟩ := c72
  have c73 := cp_73 hI
  obtain ⟨f73, e73⟩ := c73
  have zkh := hI.2.1
  rw [e56, e57] at zkh
  refine ⟨_, k_X11_redo l D cy _ _ (u0_0 := .ref (ad 1)) (u0_1 := .int x0_1) (u0_2 := .ref (ad 2)) (u0_3 := .ref (ad 21)) (c6 := f39) (c7 := f40) (x2_2 := x38_2) (c8 := f41) (x2_4 := x38_4) (u0_5 := .ref (ad 42)) (c3 := f56) (c4 := f57) (c5 := f58) (x1_3 := x55_3) (x1_4 := x55_4) (u0_7 := .ref (ad 59)) (u10_0 := .ref (ad 22)) (u10_1 := .ref (ad 23)) (c14 := f24) (c15 := f25) (u10_4 := .ref (ad 26)) (u10_5 := .int x21_5) (u10_6 := .ref (ad 27)) (c16 := f28) (c17 := f29) (c18 := f30) (c19 := f31) (x10_11 := x21_11) (u10_12 := .ref (ad 32)) (u10_13 := .ref (ad 33)) (u10_14 := .ref (ad 34)) (u10_15 := .int x21_15) (u10_16 := .int x21_16) (c20 := f36) (x11_1 := x35_1) (u11_2 := .int x35_2) (x11_3 := x35_3) (c21 := f37) (c22 := f60) (c23 := f61) (c24 := f67) (c25 := f68) (c26 := f69) (c27 := f70) (c28 := f71) (c29 := f72) (c30 := f73) (c31 := f63) (c32 := f64) (c33 := f65) (u0_9 := .ref (ad 74)) (u0_10 := .ref (ad 88)) (u0_11 := .ref (ad 101)) (u0_12 := .ref (ad 118)) (u0_13 := .int x0_13) e0 e55 e38 e56 e57 e58 e39 e40 e41 e62 e21 e35 e59 e66 e24 e25 e28 e29 e30 e31 e36 e37 e60 e61 e67 e68 e69 e70 e71 e72 e73 e63 e64 e65 b55_3 b55_4 b38_4 b21_11 b35_1 b35_3 h30 h31 h68 h69 h65 zkh, fun r nw l' hw => ?_⟩
  obtain ⟨n_y1_3, n_y2_2, n_y2_4, n_d6, n_d7, n_d8, n_d21, n_d22, n_d23, n_d24, n_d25, n_d26, n_d27, n_d28, n_d29, n_d30, n_d31, n_d32, n_d33, z0, z1, z2, z3, z4, z5, rfl⟩ := hw
  refine mrg_case (P := fun g1 => INV cy ad g1 ∧ TK g g1) (lk := [(55, .inr (0, [.ref (ad 56), .ref (ad 57), .ref (ad 58), .int n_y1_3, .int x55_4])), (38, .inr (9, [.ref (ad 39), .ref (ad 40), .int n_y2_2, .ref (ad 41), .int n_y2_4])), (39, .inl (cy 0, 24, .inl n_d6)), (40, .inl (cy 0, 24, .inl n_d7)), (41, .inl (cy 0, 5, .inl n_d8)), (37, .inl (cy 0, 30, .inl n_d21)), (60, .inl (cy 0, 80, .inl n_d22)), (61, .inl (cy 0, 80, .inl n_d23)), (67, .inl (cy 0, 5, .inl n_d24)), (68, .inl (cy 0, 20, .inl n_d25)), (69, .inl (cy 0, 4, .inl n_d26)), (70, .inl (cy 0, 5, .inl n_d27)), (71, .inl (cy 0, 5, .inl n_d28)), (72, .inl (cy 0, 5, .inl n_d29)), (73, .inl (cy 0, 5, .inl n_d30)), (63, .inl (cy 0, 96, .inl n_d31)), (64, .inl (cy 0, 96, .inl n_d32)), (65, .inl (cy 0, 24, .inl n_d33))]) ?_ ?_
  · rfl
  refine ⟨INV_up hI ?_ ?_ ?_, (by rw [cup_far rfl]), (by rw [cup_far rfl])⟩
  · exact (List.forall_mem_cons.mpr ⟨(cs_55 ⟨n_y1_3, x55_4, rfl, z0, b55_4⟩), (List.forall_mem_cons.mpr ⟨(cs_38 ⟨n_y2_2, n_y2_4, rfl, z1⟩), (List.forall_mem_cons.mpr ⟨(cs_39 ⟨n_d6, rfl⟩), (List.forall_mem_cons.mpr ⟨(cs_40 ⟨n_d7, rfl⟩), (List.forall_mem_cons.mpr ⟨(cs_41 ⟨n_d8, rfl⟩), (List.forall_mem_cons.mpr ⟨(cs_37 ⟨n_d21, rfl⟩), (List.forall_mem_cons.mpr ⟨(cs_60 ⟨n_d22, rfl⟩), (List.forall_mem_cons.mpr ⟨(cs_61 ⟨n_d23, rfl⟩), (List.forall_mem_cons.mpr ⟨(cs_67 ⟨n_d24, rfl⟩), (List.forall_mem_cons.mpr ⟨(cs_68 ⟨n_d25, rfl, z2⟩), (List.forall_mem_cons.mpr ⟨(cs_69 ⟨n_d26, rfl, z3⟩), (List.forall_mem_cons.mpr ⟨(cs_70 ⟨n_d27, rfl⟩), (List.forall_mem_cons.mpr ⟨(cs_71 ⟨n_d28, rfl⟩), (List.forall_mem_cons.mpr ⟨(cs_72 ⟨n_d29, rfl⟩), (List.forall_mem_cons.mpr ⟨(cs_73 ⟨n_d30, rfl⟩), (List.forall_mem_cons.mpr ⟨(cs_63 ⟨n_d31, rfl⟩), (List.forall_mem_cons.mpr ⟨(cs_64 ⟨n_d32, rfl⟩), (List.forall_mem_cons.mpr ⟨(cs_65 ⟨n_d33, rfl, z4⟩), (fun _ h => absurd h List.not_mem_nil)⟩)⟩)⟩)⟩)⟩)⟩)⟩)⟩)⟩)⟩)⟩)⟩)⟩)⟩)⟩)⟩)⟩)⟩)
  · exact (by rw [cup_far (S := 56) rfl, cup_far (S := 57) rfl]; exact hI.2.1)
  · exact (by have z := hI.2.2; rw [cup_far (S := 138) rfl, cup_far (S := 142) rfl, cup_far (S := 136) rfl, cup_far (S := 119) rfl]; exact z)

set_option maxHeartbeats 8000000 in
set_option maxRecDepth 100000 in
theorem sm_X12_redo {D : va_G} {cy : Nat → ClassId} {ad : Nat → Nat} {g : Nat → va_E} (l : Launch)  (hI : INV cy ad g) : ∃ pst_ : Int32 → (Nat → Nat) → List (Nat × va_E) → Prop, cMi l yX12_redo wq_k_X12_redo { frames := 1, cells := 0, slots := 0, locals := 22 } 3 0 0 0 D cy (fun i => ad ([119, 147, 162].getD i 0)) (fun i => cup [] g ([119, 147, 162].getD i 0)) [.ref (ad ([119, 147, 162].getD 0 0))] pst_ ∧ ∀ (r : Int32) (nw : Nat → Nat) (l' : List (Nat × va_E)), pst_ r nw l' → INV cy ad (cup (cmrg 173 3 [119, 147, 162] l' []) g) ∧ TK g (cup (cmrg 173 3 [119, 147, 162] l' []) g) := by
  have c119 := cp_119 hI
  obtain ⟨x119_2, x119_3, x119_4, x119_5, x119_6, x119_7, x119_8, x119_9, w119_10, x119_36, x119_37, x119_38, x119_39, x119_40, x119_56, x119_57, x119_59, x119_60, x119_62, x119_70, x119_71, e119, b119_2, b119_3, b119_4, b119_6, b119_7, b119_8, b119_36, b119_37, b119_38, b119_39, b119_40, b119_56, b119_59, b119_60, b119_62, b119_70, b119_71, hU119⟩ := c119
  have c147 := cp_147 hI
  obtain ⟨f147, e147, h147⟩ := c147
  have c162 := cp_162 hI
  obtain ⟨f162, e162, h162⟩ := c162
  refine ⟨_, k_X12_redo l D cy _ _ (u0_0 := .ref (ad 120)) (u0_1 := .ref (ad 121)) (u0_2 := .int x119_2) (u0_3 := .int x119_3) (u0_4 := .int x119_4) (u0_5 := .int x119_5) (u0_6 := .int x119_6) (u0_7 := .int x119_7) (u0_8 := .int x119_8) (u0_9 := .int x119_9) (u0_10 := .long w119_10) (u0_11 := .ref (ad 122)) (u0_12 := .ref (ad 123)) (u0_13 := .ref (ad 124)) (u0_14 := .ref (ad 125)) (u0_15 := .ref (ad 126)) (u0_16 := .ref (ad 127)) (u0_17 := .ref (ad 128)) (u0_18 := .ref (ad 129)) (u0_19 := .ref (ad 130)) (u0_20 := .ref (ad 131)) (u0_21 := .ref (ad 132)) (u0_22 := .ref (ad 133)) (u0_23 := .ref (ad 134)) (u0_24 := .ref (ad 135)) (u0_25 := .ref (ad 136)) (u0_26 := .ref (ad 137)) (u0_27 := .ref (ad 138)) (u0_28 := .ref (ad 139)) (u0_29 := .ref (ad 140)) (u0_30 := .ref (ad 141)) (u0_31 := .ref (ad 142)) (u0_32 := .ref (ad 143)) (u0_33 := .ref (ad 144)) (u0_34 := .ref (ad 145)) (u0_35 := .ref (ad 146)) (u0_36 := .int x119_36) (u0_37 := .int x119_37) (u0_38 := .int x119_38) (u0_39 := .int x119_39) (u0_40 := .int x119_40) (c1 := f147) (u0_42 := .ref (ad 148)) (u0_43 := .ref (ad 149)) (u0_44 := .ref (ad 150)) (u0_45 := .ref (ad 151)) (u0_46 := .ref (ad 152)) (u0_47 := .ref (ad 153)) (u0_48 := .ref (ad 154)) (u0_49 := .ref (ad 155)) (u0_50 := .ref (ad 156)) (u0_51 := .ref (ad 157)) (u0_52 := .ref (ad 158)) (u0_53 := .ref (ad 159)) (u0_54 := .ref (ad 160)) (u0_55 := .ref (ad 161)) (u0_56 := .int x119_56) (u0_57 := .int x119_57) (c2 := f162) (x0_59 := x119_59) (x0_60 := x119_60) (u0_61 := .ref (ad 163)) (u0_62 := .int x119_62) (u0_63 := .ref (ad 164)) (u0_64 := .ref (ad 165)) (u0_65 := .ref (ad 166)) (u0_66 := .ref (ad 167)) (u0_67 := .ref (ad 168)) (u0_68 := .ref (ad 169)) (u0_69 := .ref (ad 170)) (u0_70 := .int x119_70) (u0_71 := .int x119_71) (u0_72 := .ref (ad 171)) (u0_73 := .ref (ad 172)) e119 e147 e162 b119_59 b119_60 h147 h162 hU119, fun r nw l' hw => ?_⟩
  obtain ⟨n_y0_59, n_y0_60, n_d1, n_d2, z0, z1, z2, z3, z4, wr0, rfl⟩ := hw
  refine mrg_case (P := fun g1 => INV cy ad g1 ∧ TK g g1) (lk := [(119, .inr (12, [.ref (ad 120), .ref (ad 121), .int x119_2, .int x119_3, .int x119_4, .int x119_5, .int x119_6, .int x119_7, .int x119_8, .int x119_9, .long w119_10, .ref (ad 122), .ref (ad 123), .ref (ad 124), .ref (ad 125), .ref (ad 126), .ref (ad 127), .ref (ad 128), .ref (ad 129), .ref (ad 130), .ref (ad 131), .ref (ad 132), .ref (ad 133), .ref (ad 134), .ref (ad 135), .ref (ad 136), .ref (ad 137), .ref (ad 138), .ref (ad 139), .ref (ad 140), .ref (ad 141), .ref (ad 142), .ref (ad 143), .ref (ad 144), .ref (ad 145), .ref (ad 146), .int x119_36, .int x119_37, .int x119_38, .int x119_39, .int x119_40, .ref (ad 147), .ref (ad 148), .ref (ad 149), .ref (ad 150), .ref (ad 151), .ref (ad 152), .ref (ad 153), .ref (ad 154), .ref (ad 155), .ref (ad 156), .ref (ad 157), .ref (ad 158), .ref (ad 159), .ref (ad 160), .ref (ad 161), .int x119_56, .int x119_57, .ref (ad 162), .int n_y0_59, .int n_y0_60, .ref (ad 163), .int x119_62, .ref (ad 164), .ref (ad 165), .ref (ad 166), .ref (ad 167), .ref (ad 168), .ref (ad 169), .ref (ad 170), .int x119_70, .int x119_71, .ref (ad 171), .ref (ad 172)])), (147, .inl (cy 0, 80, .inl n_d1)), (162, .inl (cy 0, 3280, .inl n_d2))]) ?_ ?_
  · rfl
  refine ⟨INV_up hI ?_ ?_ ?_, (by rw [cup_far rfl]), (by rw [e119]; rfl)⟩
  · exact (List.forall_mem_cons.mpr ⟨(cs_119 ⟨x119_2, x119_3, x119_4, x119_5, x119_6, x119_7, x119_8, x119_9, w119_10, x119_36, x119_37, x119_38, x119_39, x119_40, x119_56, x119_57, n_y0_59, n_y0_60, x119_62, x119_70, x119_71, rfl, b119_2, b119_3, b119_4, b119_6, b119_7, b119_8, b119_36, b119_37, b119_38, b119_39, b119_40, b119_56, z0, (zi_w z1 (by decide)), b119_62, b119_70, b119_71, wr0⟩), (List.forall_mem_cons.mpr ⟨(cs_147 ⟨n_d1, rfl, z2⟩), (List.forall_mem_cons.mpr ⟨(cs_162 ⟨n_d2, rfl, z3⟩), (fun _ h => absurd h List.not_mem_nil)⟩)⟩)⟩)
  · exact (by rw [cup_far (S := 56) rfl, cup_far (S := 57) rfl]; exact hI.2.1)
  · exact (by have z := hI.2.2; rw [e119] at z; rw [cup_far (S := 138) rfl, cup_far (S := 142) rfl, cup_far (S := 136) rfl]; exact z)

set_option maxHeartbeats 8000000 in
set_option maxRecDepth 100000 in
theorem sm_X11_party {D : va_G} {cy : Nat → ClassId} {ad : Nat → Nat} {g : Nat → va_E} (l : Launch) (n sacks minute w late : Int32) (hI : INV cy ad g) : ∃ pst_ : Int32 → (Nat → Nat) → List (Nat × va_E) → Prop, cMi l yX11_party wq_k_X11_party { frames := 5, cells := 0, slots := 0, locals := 129 } 29 0 0 0 D cy (fun i => ad ([0, 38, 74, 21, 35, 59, 80, 24, 25, 28, 29, 30, 31, 36, 37, 39, 41, 60, 61, 81, 82, 83, 84, 85, 86, 87, 75, 78, 118].getD i 0)) (fun i => cup [] g ([0, 38, 74, 21, 35, 59, 80, 24, 25, 28, 29, 30, 31, 36, 37, 39, 41, 60, 61, 81, 82, 83, 84, 85, 86, 87, 75, 78, 118].getD i 0)) [.ref (ad ([0, 38, 74, 21, 35, 59, 80, 24, 25, 28, 29, 30, 31, 36, 37, 39, 41, 60, 61, 81, 82, 83, 84, 85, 86, 87, 75, 78, 118].getD 0 0)), .int n, .int sacks, .int minute, .int w, .int late] pst_ ∧ ∀ (r : Int32) (nw : Nat → Nat) (l' : List (Nat × va_E)), pst_ r nw l' → INV cy ad (cup (cmrg 173 29 [0, 38, 74, 21, 35, 59, 80, 24, 25, 28, 29, 30, 31, 36, 37, 39, 41, 60, 61, 81, 82, 83, 84, 85, 86, 87, 75, 78, 118] l' []) g) ∧ TK g (cup (cmrg 173 29 [0, 38, 74, 21, 35, 59, 80, 24, 25, 28, 29, 30, 31, 36, 37, 39, 41, 60, 61, 81, 82, 83, 84, 85, 86, 87, 75, 78, 118] l' []) g) := by
  have c0 := cp_0 hI
  obtain ⟨x0_1, x0_13, e0, b0_1, b0_13⟩ := c0
  have c21 := cp_21 hI
  obtain ⟨x21_5, x21_11, x21_15, x21_16, e21, b21_5, b21_11, b21_16⟩ := c21
  have c24 := cp_24 hI
  obtain ⟨f24, e24⟩ := c24
  have c25 := cp_25 hI
  obtain ⟨f25, e25⟩ := c25
  have c28 := cp_28 hI
  obtain ⟨f28, e28⟩ := c28
  have c29 := cp_29 hI
  obtain ⟨f29, e29⟩ := c29
  have c30 := cp_30 hI
  obtain ⟨f30, e30, h30⟩ := c30
  have c31 := cp_31 hI
  obtain ⟨f31, e31, h31⟩ := c31
  have c35 := cp_35 hI
  obtain ⟨x35_1, x35_2, x35_3, e35, b35_1, b35_3⟩ := c35
  have c36 := cp_36 hI
  obtain ⟨f36, e36⟩ := c36
  have c37 := cp_37 hI
  obtain ⟨f37, e37⟩ := c37
  have c38 := cp_38 hI
  obtain ⟨x38_2, x38_4, e38, b38_4⟩ := c38
  have c39 := cp_39 hI
  obtain ⟨f39, e39⟩ := c39
  have c41 := cp_41 hI
  obtain ⟨f41, e41⟩ := c41
  have c59 := cp_59 hI
  have e59 := c59
  have c60 := cp_60 hI
  obtain ⟨f60, e60⟩ := c60
  have c61 := cp_61 hI
  obtain ⟨f61, e61⟩ := c61
  have c74 := cp_74 hI
  obtain ⟨x74_5, x74_10, e74, b74_5⟩ := c74
  have c75 := cp_75 hI
  obtain ⟨f75, e75, h75⟩ := c75
  have c78 := cp_78 hI
  obtain ⟨f78, e78⟩ := c78
  have c80 := cp_80 hI
  have e80 := c80
  have c81 := cp_81 hI
  obtain ⟨f81, e81⟩ := c81
  have c82 := cp_82 hI
  obtain ⟨f82, e82, h82⟩ := c82
  have c83 := cp_83 hI
  obtain ⟨f83, e83, h83⟩ := c83
  have c84 := cp_84 hI
  obtain ⟨f84, e84⟩ := c84
  have c85 := cp_85 hI
  obtain ⟨f85, e85⟩ := c85
  have c86 := cp_86 hI
  obtain ⟨f86, e86⟩ := c86
  have c87 := cp_87 hI
  obtain ⟨f87, e87⟩ := c87
  have c118 := cp_118 hI
  obtain ⟨f118, e118⟩ := c118
  refine ⟨_, k_X11_party l D cy _ _ (u0_0 := .ref (ad 1)) (u0_1 := .int x0_1) (u0_2 := .ref (ad 2)) (u0_3 := .ref (ad 21)) (c15 := f39) (u1_1 := .ref (ad 40)) (x1_2 := x38_2) (c16 := f41) (x1_4 := x38_4) (u0_5 := .ref (ad 42)) (u0_6 := .ref (ad 55)) (u0_7 := .ref (ad 59)) (u0_8 := .ref (ad 62)) (u3_0 := .ref (ad 22)) (u3_1 := .ref (ad 23)) (c7 := f24) (c8 := f25) (u3_4 := .ref (ad 26)) (u3_5 := .int x21_5) (u3_6 := .ref (ad 27)) (c9 := f28) (c10 := f29) (c11 := f30) (c12 := f31) (x3_11 := x21_11) (u3_12 := .ref (ad 32)) (u3_13 := .ref (ad 33)) (u3_14 := .ref (ad 34)) (u3_15 := .int x21_15) (u3_16 := .int x21_16) (c13 := f36) (x4_1 := x35_1) (u4_2 := .int x35_2) (x4_3 := x35_3) (c14 := f37) (c17 := f60) (c18 := f61) (c19 := f81) (c20 := f82) (c21 := f83) (c22 := f84) (c23 := f85) (c24 := f86) (c25 := f87) (c26 := f75) (x2_5 := x74_5) (u2_6 := .ref (ad 76)) (u2_7 := .ref (ad 77)) (c27 := f78) (u2_9 := .ref (ad 79)) (u2_10 := .int x74_10) (u0_10 := .ref (ad 88)) (u0_11 := .ref (ad 101)) (c28 := f118) (x0_13 := x0_13) e0 e38 e74 e21 e35 e59 e80 e24 e25 e28 e29 e30 e31 e36 e37 e39 e41 e60 e61 e81 e82 e83 e84 e85 e86 e87 e75 e78 e118 b0_13 b38_4 b74_5 b21_11 b35_1 b35_3 h30 h31 h82 h83 h75, fun r nw l' hw => ?_⟩
  obtain ⟨n_y0_13, n_y2_5, n_d14, n_d17, n_d18, n_d19, n_d20, n_d21, n_d22, n_d23, n_d24, n_d25, n_d26, n_d27, n_d28, z0, z1, z2, z3, z4, rfl⟩ := hw
  refine mrg_case (P := fun g1 => INV cy ad g1 ∧ TK g g1) (lk := [(0, .inr (11, [.ref (ad 1), .int x0_1, .ref (ad 2), .ref (ad 21), .ref (ad 38), .ref (ad 42), .ref (ad 55), .ref (ad 59), .ref (ad 62), .ref (ad 74), .ref (ad 88), .ref (ad 101), .ref (ad 118), .int n_y0_13])), (74, .inr (2, [.ref (ad 21), .ref (ad 38), .ref (ad 59), .ref (ad 80), .ref (ad 75), .int n_y2_5, .ref (ad 76), .ref (ad 77), .ref (ad 78), .ref (ad 79), .int x74_10])), (37, .inl (cy 0, 30, .inl n_d14)), (60, .inl (cy 0, 80, .inl n_d17)), (61, .inl (cy 0, 80, .inl n_d18)), (81, .inl (cy 0, 5, .inl n_d19)), (82, .inl (cy 0, 20, .inl n_d20)), (83, .inl (cy 0, 4, .inl n_d21)), (84, .inl (cy 0, 5, .inl n_d22)), (85, .inl (cy 0, 5, .inl n_d23)), (86, .inl (cy 0, 5, .inl n_d24)), (87, .inl (cy 0, 5, .inl n_d25)), (75, .inl (cy 0, 24, .inl n_d26)), (78, .inl (cy 0, 3, .inl n_d27)), (118, .inl (cy 0, 24, .inl n_d28))]) ?_ ?_
  · rfl
  refine ⟨INV_up hI ?_ ?_ ?_, (by rw [cup_far rfl]), (by rw [cup_far rfl])⟩
  · exact (List.forall_mem_cons.mpr ⟨(cs_0 ⟨x0_1, n_y0_13, rfl, b0_1, (zi_w z0 (by decide))⟩), (List.forall_mem_cons.mpr ⟨(cs_74 ⟨n_y2_5, x74_10, rfl, z1⟩), (List.forall_mem_cons.mpr ⟨(cs_37 ⟨n_d14, rfl⟩), (List.forall_mem_cons.mpr ⟨(cs_60 ⟨n_d17, rfl⟩), (List.forall_mem_cons.mpr ⟨(cs_61 ⟨n_d18, rfl⟩), (List.forall_mem_cons.mpr ⟨(cs_81 ⟨n_d19, rfl⟩), (List.forall_mem_cons.mpr ⟨(cs_82 ⟨n_d20, rfl, z2⟩), (List.forall_mem_cons.mpr ⟨(cs_83 ⟨n_d21, rfl, z3⟩), (List.forall_mem_cons.mpr ⟨(cs_84 ⟨n_d22, rfl⟩), (List.forall_mem_cons.mpr ⟨(cs_85 ⟨n_d23, rfl⟩), (List.forall_mem_cons.mpr ⟨(cs_86 ⟨n_d24, rfl⟩), (List.forall_mem_cons.mpr ⟨(cs_87 ⟨n_d25, rfl⟩), (List.forall_mem_cons.mpr ⟨(cs_75 ⟨n_d26, rfl, z4⟩), (List.forall_mem_cons.mpr ⟨(cs_78 ⟨n_d27, rfl⟩), (List.forall_mem_cons.mpr ⟨(cs_118 ⟨n_d28, rfl⟩), (fun _ h => absurd h List.not_mem_nil)⟩)⟩)⟩)⟩)⟩)⟩)⟩)⟩)⟩)⟩)⟩)⟩)⟩)⟩)⟩)
  · exact (by rw [cup_far (S := 56) rfl, cup_far (S := 57) rfl]; exact hI.2.1)
  · exact (by have z := hI.2.2; rw [cup_far (S := 138) rfl, cup_far (S := 142) rfl, cup_far (S := 136) rfl, cup_far (S := 119) rfl]; exact z)

set_option maxHeartbeats 8000000 in
set_option maxRecDepth 100000 in
theorem sm_X12_party {D : va_G} {cy : Nat → ClassId} {ad : Nat → Nat} {g : Nat → va_E} (l : Launch) (n its minute w late : Int32) (hI : INV cy ad g) : ∃ pst_ : Int32 → (Nat → Nat) → List (Nat × va_E) → Prop, cMi l yX12_party wq_k_X12_party { frames := 5, cells := 0, slots := 0, locals := 127 } 29 0 0 0 D cy (fun i => ad ([119, 147, 123, 127, 128, 130, 131, 132, 133, 136, 138, 142, 143, 146, 148, 149, 150, 151, 152, 153, 154, 155, 156, 157, 158, 159, 160, 161, 163].getD i 0)) (fun i => cup [] g ([119, 147, 123, 127, 128, 130, 131, 132, 133, 136, 138, 142, 143, 146, 148, 149, 150, 151, 152, 153, 154, 155, 156, 157, 158, 159, 160, 161, 163].getD i 0)) [.ref (ad ([119, 147, 123, 127, 128, 130, 131, 132, 133, 136, 138, 142, 143, 146, 148, 149, 150, 151, 152, 153, 154, 155, 156, 157, 158, 159, 160, 161, 163].getD 0 0)), .int n, .int its, .int minute, .int w, .int late] pst_ ∧ ∀ (r : Int32) (nw : Nat → Nat) (l' : List (Nat × va_E)), pst_ r nw l' → INV cy ad (cup (cmrg 173 29 [119, 147, 123, 127, 128, 130, 131, 132, 133, 136, 138, 142, 143, 146, 148, 149, 150, 151, 152, 153, 154, 155, 156, 157, 158, 159, 160, 161, 163] l' []) g) ∧ TK g (cup (cmrg 173 29 [119, 147, 123, 127, 128, 130, 131, 132, 133, 136, 138, 142, 143, 146, 148, 149, 150, 151, 152, 153, 154, 155, 156, 157, 158, 159, 160, 161, 163] l' []) g) := by
  have c119 := cp_119 hI
  obtain ⟨x119_2, x119_3, x119_4, x119_5, x119_6, x119_7, x119_8, x119_9, w119_10, x119_36, x119_37, x119_38, x119_39, x119_40, x119_56, x119_57, x119_59, x119_60, x119_62, x119_70, x119_71, e119, b119_2, b119_3, b119_4, b119_6, b119_7, b119_8, b119_36, b119_37, b119_38, b119_39, b119_40, b119_56, b119_59, b119_60, b119_62, b119_70, b119_71, hU119⟩ := c119
  have c123 := cp_123 hI
  obtain ⟨f123, e123, h123⟩ := c123
  have c127 := cp_127 hI
  obtain ⟨f127, e127⟩ := c127
  have c128 := cp_128 hI
  obtain ⟨f128, e128⟩ := c128
  have c130 := cp_130 hI
  obtain ⟨f130, e130⟩ := c130
  have c131 := cp_131 hI
  obtain ⟨f131, e131⟩ := c131
  have c132 := cp_132 hI
  obtain ⟨f132, e132, h132⟩ := c132
  have c133 := cp_133 hI
  obtain ⟨f133, e133, h133⟩ := c133
  have c136 := cp_136 hI
  obtain ⟨f136, e136, h136⟩ := c136
  have c138 := cp_138 hI
  obtain ⟨f138, e138, h138⟩ := c138
  have c142 := cp_142 hI
  obtain ⟨f142, e142⟩ := c142
  have c143 := cp_143 hI
  obtain ⟨f143, e143⟩ := c143
  have c146 := cp_146 hI
  obtain ⟨f146, e146⟩ := c146
  have c147 := cp_147 hI
  obtain ⟨f147, e147, h147⟩ := c147
  have c148 := cp_148 hI
  obtain ⟨f148, e148⟩ := c148
  have c149 := cp_149 hI
  obtain ⟨f149, e149⟩ := c149
  have c150 := cp_150 hI
  obtain ⟨f150, e150⟩ := c150
  have c151 := cp_151 hI
  obtain ⟨f151, e151, h151⟩ := c151
  have c152 := cp_152 hI
  obtain ⟨f152, e152, h152⟩ := c152
  have c153 := cp_153 hI
  obtain ⟨f153, e153, h153⟩ := c153
  have c154 := cp_154 hI
  obtain ⟨f154, e154⟩ := c154
  have c155 := cp_155 hI
  obtain ⟨f155, e155⟩ := c155
  have c156 := cp_156 hI
  obtain ⟨f156, e156⟩ := c156
  have c157 := cp_157 hI
  obtain ⟨f157, e157⟩ := c157
  have c158 := cp_158 hI
  obtain ⟨f158, e158⟩ := c158
  have c159 := cp_159 hI
  obtain ⟨f159, e159⟩ := c159
  have c160 := cp_160 hI
  obtain ⟨f160, e160, h160⟩ := c160
  have c161 := cp_161 hI
  obtain ⟨f161, e161, h161⟩ := c161
  have c163 := cp_163 hI
  obtain ⟨f163, e163⟩ := c163
  have zfh := hI.2.2
  rw [e138, e142, e136, e119] at zfh
  refine ⟨_, k_X12_party l D cy _ _ (u0_0 := .ref (ad 120)) (u0_1 := .ref (ad 121)) (u0_2 := .int x119_2) (u0_3 := .int x119_3) (u0_4 := .int x119_4) (u0_5 := .int x119_5) (u0_6 := .int x119_6) (u0_7 := .int x119_7) (u0_8 := .int x119_8) (u0_9 := .int x119_9) (u0_10 := .long w119_10) (u0_11 := .ref (ad 122)) (c2 := f123) (u0_13 := .ref (ad 124)) (u0_14 := .ref (ad 125)) (u0_15 := .ref (ad 126)) (c3 := f127) (c4 := f128) (u0_18 := .ref (ad 129)) (c5 := f130) (c6 := f131) (c7 := f132) (c8 := f133) (u0_23 := .ref (ad 134)) (u0_24 := .ref (ad 135)) (c9 := f136) (u0_26 := .ref (ad 137)) (c10 := f138) (u0_28 := .ref (ad 139)) (u0_29 := .ref (ad 140)) (u0_30 := .ref (ad 141)) (c11 := f142) (c12 := f143) (u0_33 := .ref (ad 144)) (u0_34 := .ref (ad 145)) (c13 := f146) (x0_36 := x119_36) (u0_37 := .int x119_37) (u0_38 := .int x119_38) (u0_39 := .int x119_39) (u0_40 := .int x119_40) (c1 := f147) (c14 := f148) (c15 := f149) (c16 := f150) (c17 := f151) (c18 := f152) (c19 := f153) (c20 := f154) (c21 := f155) (c22 := f156) (c23 := f157) (c24 := f158) (c25 := f159) (c26 := f160) (c27 := f161) (x0_56 := x119_56) (x0_57 := x119_57) (u0_58 := .ref (ad 162)) (u0_59 := .int x119_59) (u0_60 := .int x119_60) (c28 := f163) (x0_62 := x119_62) (u0_63 := .ref (ad 164)) (u0_64 := .ref (ad 165)) (u0_65 := .ref (ad 166)) (u0_66 := .ref (ad 167)) (u0_67 := .ref (ad 168)) (u0_68 := .ref (ad 169)) (u0_69 := .ref (ad 170)) (u0_70 := .int x119_70) (u0_71 := .int x119_71) (u0_72 := .ref (ad 171)) (u0_73 := .ref (ad 172)) e119 e147 e123 e127 e128 e130 e131 e132 e133 e136 e138 e142 e143 e146 e148 e149 e150 e151 e152 e153 e154 e155 e156 e157 e158 e159 e160 e161 e163 b119_36 b119_56 b119_62 h147 h123 h132 h133 h136 h138 h151 h152 h153 h160 h161 zfh, fun r nw l' hw => ?_⟩
  obtain ⟨n_y0_56, n_y0_57, n_y0_62, n_d13, n_d14, n_d15, n_d16, n_d17, n_d18, n_d19, n_d20, n_d21, n_d22, n_d23, n_d24, n_d25, n_d26, n_d27, n_d28, z0, z1, z2, z3, z4, z5, z6, rfl⟩ := hw
  refine mrg_case (P := fun g1 => INV cy ad g1 ∧ TK g g1) (lk := [(119, .inr (12, [.ref (ad 120), .ref (ad 121), .int x119_2, .int x119_3, .int x119_4, .int x119_5, .int x119_6, .int x119_7, .int x119_8, .int x119_9, .long w119_10, .ref (ad 122), .ref (ad 123), .ref (ad 124), .ref (ad 125), .ref (ad 126), .ref (ad 127), .ref (ad 128), .ref (ad 129), .ref (ad 130), .ref (ad 131), .ref (ad 132), .ref (ad 133), .ref (ad 134), .ref (ad 135), .ref (ad 136), .ref (ad 137), .ref (ad 138), .ref (ad 139), .ref (ad 140), .ref (ad 141), .ref (ad 142), .ref (ad 143), .ref (ad 144), .ref (ad 145), .ref (ad 146), .int x119_36, .int x119_37, .int x119_38, .int x119_39, .int x119_40, .ref (ad 147), .ref (ad 148), .ref (ad 149), .ref (ad 150), .ref (ad 151), .ref (ad 152), .ref (ad 153), .ref (ad 154), .ref (ad 155), .ref (ad 156), .ref (ad 157), .ref (ad 158), .ref (ad 159), .ref (ad 160), .ref (ad 161), .int n_y0_56, .int n_y0_57, .ref (ad 162), .int x119_59, .int x119_60, .ref (ad 163), .int n_y0_62, .ref (ad 164), .ref (ad 165), .ref (ad 166), .ref (ad 167), .ref (ad 168), .ref (ad 169), .ref (ad 170), .int x119_70, .int x119_71, .ref (ad 171), .ref (ad 172)])), (146, .inl (cy 0, 60, .inl n_d13)), (148, .inl (cy 0, 30, .inl n_d14)), (149, .inl (cy 0, 30, .inl n_d15)), (150, .inl (cy 0, 5, .inl n_d16)), (151, .inl (cy 0, 4, .inl n_d17)), (152, .inl (cy 0, 20, .inl n_d18)), (153, .inl (cy 0, 30, .inl n_d19)), (154, .inl (cy 0, 120, .inl n_d20)), (155, .inl (cy 0, 120, .inl n_d21)), (156, .inl (cy 0, 5, .inl n_d22)), (157, .inl (cy 0, 5, .inl n_d23)), (158, .inl (cy 0, 5, .inl n_d24)), (159, .inl (cy 0, 5, .inl n_d25)), (160, .inl (cy 2, 30, .inl n_d26)), (161, .inl (cy 2, 5, .inl n_d27)), (163, .inl (cy 0, 24, .inl n_d28))]) ?_ ?_
  · rfl
  refine ⟨INV_up hI ?_ ?_ ?_, (by rw [cup_far rfl]), (by rw [e119]; rfl)⟩
  · exact (List.forall_mem_cons.mpr ⟨(cs_119 ⟨x119_2, x119_3, x119_4, x119_5, x119_6, x119_7, x119_8, x119_9, w119_10, x119_36, x119_37, x119_38, x119_39, x119_40, n_y0_56, n_y0_57, x119_59, x119_60, n_y0_62, x119_70, x119_71, rfl, b119_2, b119_3, b119_4, b119_6, b119_7, b119_8, b119_36, b119_37, b119_38, b119_39, b119_40, z0, b119_59, b119_60, (zi_w z1 (by decide)), b119_70, b119_71, hU119⟩), (List.forall_mem_cons.mpr ⟨(cs_146 ⟨n_d13, rfl⟩), (List.forall_mem_cons.mpr ⟨(cs_148 ⟨n_d14, rfl⟩), (List.forall_mem_cons.mpr ⟨(cs_149 ⟨n_d15, rfl⟩), (List.forall_mem_cons.mpr ⟨(cs_150 ⟨n_d16, rfl⟩), (List.forall_mem_cons.mpr ⟨(cs_151 ⟨n_d17, rfl, z2⟩), (List.forall_mem_cons.mpr ⟨(cs_152 ⟨n_d18, rfl, z3⟩), (List.forall_mem_cons.mpr ⟨(cs_153 ⟨n_d19, rfl, z4⟩), (List.forall_mem_cons.mpr ⟨(cs_154 ⟨n_d20, rfl⟩), (List.forall_mem_cons.mpr ⟨(cs_155 ⟨n_d21, rfl⟩), (List.forall_mem_cons.mpr ⟨(cs_156 ⟨n_d22, rfl⟩), (List.forall_mem_cons.mpr ⟨(cs_157 ⟨n_d23, rfl⟩), (List.forall_mem_cons.mpr ⟨(cs_158 ⟨n_d24, rfl⟩), (List.forall_mem_cons.mpr ⟨(cs_159 ⟨n_d25, rfl⟩), (List.forall_mem_cons.mpr ⟨(cs_160 ⟨n_d26, rfl, z5⟩), (List.forall_mem_cons.mpr ⟨(cs_161 ⟨n_d27, rfl, z6⟩), (List.forall_mem_cons.mpr ⟨(cs_163 ⟨n_d28, rfl⟩), (fun _ h => absurd h List.not_mem_nil)⟩)⟩)⟩)⟩)⟩)⟩)⟩)⟩)⟩)⟩)⟩)⟩)⟩)⟩)⟩)⟩)⟩)
  · exact (by rw [cup_far (S := 56) rfl, cup_far (S := 57) rfl]; exact hI.2.1)
  · exact (by have z := hI.2.2; rw [e119] at z; rw [cup_far (S := 138) rfl, cup_far (S := 142) rfl, cup_far (S := 136) rfl]; exact z)

set_option maxHeartbeats 8000000 in
set_option maxRecDepth 100000 in
theorem sm_X11_heaps {D : va_G} {cy : Nat → ClassId} {ad : Nat → Nat} {g : Nat → va_E} (l : Launch) (sacks minute what : Int32) (hI : INV cy ad g) : ∃ pst_ : Int32 → (Nat → Nat) → List (Nat × va_E) → Prop, cMi l yX11_heaps wq_k_X11_heaps { frames := 5, cells := 0, slots := 0, locals := 126 } 27 0 0 0 D cy (fun i => ad ([0, 38, 74, 21, 35, 59, 80, 24, 25, 28, 29, 30, 31, 36, 37, 39, 41, 60, 61, 81, 82, 83, 84, 85, 86, 87, 75].getD i 0)) (fun i => cup [] g ([0, 38, 74, 21, 35, 59, 80, 24, 25, 28, 29, 30, 31, 36, 37, 39, 41, 60, 61, 81, 82, 83, 84, 85, 86, 87, 75].getD i 0)) [.ref (ad ([0, 38, 74, 21, 35, 59, 80, 24, 25, 28, 29, 30, 31, 36, 37, 39, 41, 60, 61, 81, 82, 83, 84, 85, 86, 87, 75].getD 0 0)), .int sacks, .int minute, .int what] pst_ ∧ ∀ (r : Int32) (nw : Nat → Nat) (l' : List (Nat × va_E)), pst_ r nw l' → INV cy ad (cup (cmrg 173 27 [0, 38, 74, 21, 35, 59, 80, 24, 25, 28, 29, 30, 31, 36, 37, 39, 41, 60, 61, 81, 82, 83, 84, 85, 86, 87, 75] l' []) g) ∧ TK g (cup (cmrg 173 27 [0, 38, 74, 21, 35, 59, 80, 24, 25, 28, 29, 30, 31, 36, 37, 39, 41, 60, 61, 81, 82, 83, 84, 85, 86, 87, 75] l' []) g) := by
  have c0 := cp_0 hI
  obtain ⟨x0_1, x0_13, e0, b0_1, b0_13⟩ := c0
  have c21 := cp_21 hI
  obtain ⟨x21_5, x21_11, x21_15, x21_16, e21, b21_5, b21_11, b21_16⟩ := c21
  have c24 := cp_24 hI
  obtain ⟨f24, e24⟩ := c24
  have c25 := cp_25 hI
  obtain ⟨f25, e25⟩ := c25
  have c28 := cp_28 hI
  obtain ⟨f28, e28⟩ := c28
  have c29 := cp_29 hI
  obtain ⟨f29, e29⟩ := c29
  have c30 := cp_30 hI
  obtain ⟨f30, e30, h30⟩ := c30
  have c31 := cp_31 hI
  obtain ⟨f31, e31, h31⟩ := c31
  have c35 := cp_35 hI
  obtain ⟨x35_1, x35_2, x35_3, e35, b35_1, b35_3⟩ := c35
  have c36 := cp_36 hI
  obtain ⟨f36, e36⟩ := c36
  have c37 := cp_37 hI
  obtain ⟨f37, e37⟩ := c37
  have c38 := cp_38 hI
  obtain ⟨x38_2, x38_4, e38, b38_4⟩ := c38
  have c39 := cp_39 hI
  obtain ⟨f39, e39⟩ := c39
  have c41 := cp_41 hI
  obtain ⟨f41, e41⟩ := c41
  have c59 := cp_59 hI
  have e59 := c59
  have c60 := cp_60 hI
  obtain ⟨f60, e60⟩ := c60
  have c61 := cp_61 hI
  obtain ⟨f61, e61⟩ := c61
  have c74 := cp_74 hI
  obtain ⟨x74_5, x74_10, e74, b74_5⟩ := c74
  have c75 := cp_75 hI
  obtain ⟨f75, e75, h75⟩ := c75
  have c80 := cp_80 hI
  have e80 := c80
  have c81 := cp_81 hI
  obtain ⟨f81, e81⟩ := c81
  have c82 := cp_82 hI
  obtain ⟨f82, e82, h82⟩ := c82
  have c83 := cp_83 hI
  obtain ⟨f83, e83, h83⟩ := c83
  have c84 := cp_84 hI
  obtain ⟨f84, e84⟩ := c84
  have c85 := cp_85 hI
  obtain ⟨f85, e85⟩ := c85
  have c86 := cp_86 hI
  obtain ⟨f86, e86⟩ := c86
  have c87 := cp_87 hI
  obtain ⟨f87, e87⟩ := c87
  refine ⟨_, k_X11_heaps l D cy _ _ (u0_0 := .ref (ad 1)) (u0_1 := .int x0_1) (u0_2 := .ref (ad 2)) (u0_3 := .ref (ad 21)) (c15 := f39) (u1_1 := .ref (ad 40)) (x1_2 := x38_2) (c16 := f41) (x1_4 := x38_4) (u0_5 := .ref (ad 42)) (u0_6 := .ref (ad 55)) (u0_7 := .ref (ad 59)) (u0_8 := .ref (ad 62)) (u3_0 := .ref (ad 22)) (u3_1 := .ref (ad 23)) (c7 := f24) (c8 := f25) (u3_4 := .ref (ad 26)) (u3_5 := .int x21_5) (u3_6 := .ref (ad 27)) (c9 := f28) (c10 := f29) (c11 := f30) (c12 := f31) (x3_11 := x21_11) (u3_12 := .ref (ad 32)) (u3_13 := .ref (ad 33)) (u3_14 := .ref (ad 34)) (u3_15 := .int x21_15) (u3_16 := .int x21_16) (c13 := f36) (x4_1 := x35_1) (u4_2 := .int x35_2) (x4_3 := x35_3) (c14 := f37) (c17 := f60) (c18 := f61) (c19 := f81) (c20 := f82) (c21 := f83) (c22 := f84) (c23 := f85) (c24 := f86) (c25 := f87) (c26 := f75) (x2_5 := x74_5) (u2_6 := .ref (ad 76)) (u2_7 := .ref (ad 77)) (u2_8 := .ref (ad 78)) (u2_9 := .ref (ad 79)) (x2_10 := x74_10) (u0_10 := .ref (ad 88)) (u0_11 := .ref (ad 101)) (u0_12 := .ref (ad 118)) (u0_13 := .int x0_13) e0 e38 e74 e21 e35 e59 e80 e24 e25 e28 e29 e30 e31 e36 e37 e39 e41 e60 e61 e81 e82 e83 e84 e85 e86 e87 e75 b38_4 b74_5 b21_11 b35_1 b35_3 h30 h31 h82 h83 h75, fun r nw l' hw => ?_⟩
  obtain ⟨n_y2_5, n_y2_10, n_d14, n_d17, n_d18, n_d19, n_d20, n_d21, n_d22, n_d23, n_d24, n_d25, n_d26, z0, z1, z2, z3, rfl⟩ := hw
  refine mrg_case (P := fun g1 => INV cy ad g1 ∧ TK g g1) (lk := [(74, .inr (2, [.ref (ad 21), .ref (ad 38), .ref (ad 59), .ref (ad 80), .ref (ad 75), .int n_y2_5, .ref (ad 76), .ref (ad 77), .ref (ad 78), .ref (ad 79), .int n_y2_10])), (37, .inl (cy 0, 30, .inl n_d14)), (60, .inl (cy 0, 80, .inl n_d17)), (61, .inl (cy 0, 80, .inl n_d18)), (81, .inl (cy 0, 5, .inl n_d19)), (82, .inl (cy 0, 20, .inl n_d20)), (83, .inl (cy 0, 4, .inl n_d21)), (84, .inl (cy 0, 5, .inl n_d22)), (85, .inl (cy 0, 5, .inl n_d23)), (86, .inl (cy 0, 5, .inl n_d24)), (87, .inl (cy 0, 5, .inl n_d25)), (75, .inl (cy 0, 24, .inl n_d26))]) ?_ ?_
  · rfl
  refine ⟨INV_up hI ?_ ?_ ?_, (by rw [cup_far rfl]), (by rw [cup_far rfl])⟩
  · exact (List.forall_mem_cons.mpr ⟨(cs_74 ⟨n_y2_5, n_y2_10, rfl, z0⟩), (List.forall_mem_cons.mpr ⟨(cs_37 ⟨n_d14, rfl⟩), (List.forall_mem_cons.mpr ⟨(cs_60 ⟨n_d17, rfl⟩), (List.forall_mem_cons.mpr ⟨(cs_61 ⟨n_d18, rfl⟩), (List.forall_mem_cons.mpr ⟨(cs_81 ⟨n_d19, rfl⟩), (List.forall_mem_cons.mpr ⟨(cs_82 ⟨n_d20, rfl, z1⟩), (List.forall_mem_cons.mpr ⟨(cs_83 ⟨n_d21, rfl, z2⟩), (List.forall_mem_cons.mpr ⟨(cs_84 ⟨n_d22, rfl⟩), (List.forall_mem_cons.mpr ⟨(cs_85 ⟨n_d23, rfl⟩), (List.forall_mem_cons.mpr ⟨(cs_86 ⟨n_d24, rfl⟩), (List.forall_mem_cons.mpr ⟨(cs_87 ⟨n_d25, rfl⟩), (List.forall_mem_cons.mpr ⟨(cs_75 ⟨n_d26, rfl, z3⟩), (fun _ h => absurd h List.not_mem_nil)⟩)⟩)⟩)⟩)⟩)⟩)⟩)⟩)⟩)⟩)⟩)⟩)
  · exact (by rw [cup_far (S := 56) rfl, cup_far (S := 57) rfl]; exact hI.2.1)
  · exact (by have z := hI.2.2; rw [cup_far (S := 138) rfl, cup_far (S := 142) rfl, cup_far (S := 136) rfl, cup_far (S := 119) rfl]; exact z)

set_option maxHeartbeats 8000000 in
set_option maxRecDepth 100000 in
theorem sm_X12_heaps {D : va_G} {cy : Nat → ClassId} {ad : Nat → Nat} {g : Nat → va_E} (l : Launch) (its minute what : Int32) (hI : INV cy ad g) : ∃ pst_ : Int32 → (Nat → Nat) → List (Nat × va_E) → Prop, cMi l yX12_heaps wq_k_X12_heaps { frames := 4, cells := 0, slots := 0, locals := 97 } 28 0 0 0 D cy (fun i => ad ([119, 147, 123, 132, 133, 148, 149, 150, 151, 152, 160, 127, 128, 130, 131, 136, 138, 142, 143, 146, 153, 154, 155, 156, 157, 158, 159, 161].getD i 0)) (fun i => cup [] g ([119, 147, 123, 132, 133, 148, 149, 150, 151, 152, 160, 127, 128, 130, 131, 136, 138, 142, 143, 146, 153, 154, 155, 156, 157, 158, 159, 161].getD i 0)) [.ref (ad ([119, 147, 123, 132, 133, 148, 149, 150, 151, 152, 160, 127, 128, 130, 131, 136, 138, 142, 143, 146, 153, 154, 155, 156, 157, 158, 159, 161].getD 0 0)), .int its, .int minute, .int what] pst_ ∧ ∀ (r : Int32) (nw : Nat → Nat) (l' : List (Nat × va_E)), pst_ r nw l' → INV cy ad (cup (cmrg 173 28 [119, 147, 123, 132, 133, 148, 149, 150, 151, 152, 160, 127, 128, 130, 131, 136, 138, 142, 143, 146, 153, 154, 155, 156, 157, 158, 159, 161] l' []) g) ∧ TK g (cup (cmrg 173 28 [119, 147, 123, 132, 133, 148, 149, 150, 151, 152, 160, 127, 128, 130, 131, 136, 138, 142, 143, 146, 153, 154, 155, 156, 157, 158, 159, 161] l' []) g) := by
  have c119 := cp_119 hI
  obtain ⟨x119_2, x119_3, x119_4, x119_5, x119_6, x119_7, x119_8, x119_9, w119_10, x119_36, x119_37, x119_38, x119_39, x119_40, x119_56, x119_57, x119_59, x119_60, x119_62, x119_70, x119_71, e119, b119_2, b119_3, b119_4, b119_6, b119_7, b119_8, b119_36, b119_37, b119_38, b119_39, b119_40, b119_56, b119_59, b119_60, b119_62, b119_70, b119_71, hU119⟩ := c119
  have c123 := cp_123 hI
  obtain ⟨f123, e123, h123⟩ := c123
  have c127 := cp_127 hI
  obtain ⟨f127, e127⟩ := c127
  have c128 := cp_128 hI
  obtain ⟨f128, e128⟩ := c128
  have c130 := cp_130 hI
  obtain ⟨f130, e130⟩ := c130
  have c131 := cp_131 hI
  obtain ⟨f131, e131⟩ := c131
  have c132 := cp_132 hI
  obtain ⟨f132, e132, h132⟩ := c132
  have c133 := cp_133 hI
  obtain ⟨f133, e133, h133⟩ := c133
  have c136 := cp_136 hI
  obtain ⟨f136, e136, h136⟩ := c136
  have c138 := cp_138 hI
  obtain ⟨f138, e138, h138⟩ := c138
  have c142 := cp_142 hI
  obtain ⟨f142, e142⟩ := c142
  have c143 := cp_143 hI
  obtain ⟨f143, e143⟩ := c143
  have c146 := cp_146 hI
  obtain ⟨f146, e146⟩ := c146
  have c147 := cp_147 hI
  obtain ⟨f147, e147, h147⟩ := c147
  have c148 := cp_148 hI
  obtain ⟨f148, e148⟩ := c148
  have c149 := cp_149 hI
  obtain ⟨f149, e149⟩ := c149
  have c150 := cp_150 hI
  obtain ⟨f150, e150⟩ := c150
  have c151 := cp_151 hI
  obtain ⟨f151, e151, h151⟩ := c151
  have c152 := cp_152 hI
  obtain ⟨f152, e152, h152⟩ := c152
  have c153 := cp_153 hI
  obtain ⟨f153, e153, h153⟩ := c153
  have c154 := cp_154 hI
  obtain ⟨f154, e154⟩ := c154
  have c155 := cp_155 hI
  obtain ⟨f155, e155⟩ := c155
  have c156 := cp_156 hI
  obtain ⟨f156, e156⟩ := c156
  have c157 := cp_157 hI
  obtain ⟨f157, e157⟩ := c157
  have c158 := cp_158 hI
  obtain ⟨f158, e158⟩ := c158
  have c159 := cp_159 hI
  obtain ⟨f159, e159⟩ := c159
  have c160 := cp_160 hI
  obtain ⟨f160, e160, h160⟩ := c160
  have c161 := cp_161 hI
  obtain ⟨f161, e161, h161⟩ := c161
  have zfh := hI.2.2
  rw [e138, e142, e136, e119] at zfh
  refine ⟨_, k_X12_heaps l D cy _ _ (u0_0 := .ref (ad 120)) (u0_1 := .ref (ad 121)) (u0_2 := .int x119_2) (u0_3 := .int x119_3) (u0_4 := .int x119_4) (u0_5 := .int x119_5) (u0_6 := .int x119_6) (u0_7 := .int x119_7) (u0_8 := .int x119_8) (u0_9 := .int x119_9) (u0_10 := .long w119_10) (u0_11 := .ref (ad 122)) (c2 := f123) (u0_13 := .ref (ad 124)) (u0_14 := .ref (ad 125)) (u0_15 := .ref (ad 126)) (c11 := f127) (c12 := f128) (u0_18 := .ref (ad 129)) (c13 := f130) (c14 := f131) (c3 := f132) (c4 := f133) (u0_23 := .ref (ad 134)) (u0_24 := .ref (ad 135)) (c15 := f136) (u0_26 := .ref (ad 137)) (c16 := f138) (u0_28 := .ref (ad 139)) (u0_29 := .ref (ad 140)) (u0_30 := .ref (ad 141)) (c17 := f142) (c18 := f143) (u0_33 := .ref (ad 144)) (u0_34 := .ref (ad 145)) (c19 := f146) (x0_36 := x119_36) (u0_37 := .int x119_37) (u0_38 := .int x119_38) (u0_39 := .int x119_39) (u0_40 := .int x119_40) (c1 := f147) (c5 := f148) (c6 := f149) (c7 := f150) (c8 := f151) (c9 := f152) (c20 := f153) (c21 := f154) (c22 := f155) (c23 := f156) (c24 := f157) (c25 := f158) (c26 := f159) (c10 := f160) (c27 := f161) (x0_56 := x119_56) (x0_57 := x119_57) (u0_58 := .ref (ad 162)) (u0_59 := .int x119_59) (u0_60 := .int x119_60) (u0_61 := .ref (ad 163)) (u0_62 := .int x119_62) (u0_63 := .ref (ad 164)) (u0_64 := .ref (ad 165)) (u0_65 := .ref (ad 166)) (u0_66 := .ref (ad 167)) (u0_67 := .ref (ad 168)) (u0_68 := .ref (ad 169)) (u0_69 := .ref (ad 170)) (u0_70 := .int x119_70) (u0_71 := .int x119_71) (u0_72 := .ref (ad 171)) (u0_73 := .ref (ad 172)) e119 e147 e123 e132 e133 e148 e149 e150 e151 e152 e160 e127 e128 e130 e131 e136 e138 e142 e143 e146 e153 e154 e155 e156 e157 e158 e159 e161 b119_36 b119_56 h147 h123 h132 h133 h151 h152 h160 h136 h138 h153 h161 zfh, fun r nw l' hw => ?_⟩
  obtain ⟨n_y0_56, n_y0_57, n_d5, n_d6, n_d7, n_d8, n_d9, n_d10, n_d19, n_d20, n_d21, n_d22, n_d23, n_d24, n_d25, n_d26, n_d27, z0, z1, z2, z3, z4, z5, rfl⟩ := hw
  refine mrg_case (P := fun g1 => INV cy ad g1 ∧ TK g g1) (lk := [(119, .inr (12, [.ref (ad 120), .ref (ad 121), .int x119_2, .int x119_3, .int x119_4, .int x119_5, .int x119_6, .int x119_7, .int x119_8, .int x119_9, .long w119_10, .ref (ad 122), .ref (ad 123), .ref (ad 124), .ref (ad 125), .ref (ad 126), .ref (ad 127), .ref (ad 128), .ref (ad 129), .ref (ad 130), .ref (ad 131), .ref (ad 132), .ref (ad 133), .ref (ad 134), .ref (ad 135), .ref (ad 136), .ref (ad 137), .ref (ad 138), .ref (ad 139), .ref (ad 140), .ref (ad 141), .ref (ad 142), .ref (ad 143), .ref (ad 144), .ref (ad 145), .ref (ad 146), .int x119_36, .int x119_37, .int x119_38, .int x119_39, .int x119_40, .ref (ad 147), .ref (ad 148), .ref (ad 149), .ref (ad 150), .ref (ad 151), .ref (ad 152), .ref (ad 153), .ref (ad 154), .ref (ad 155), .ref (ad 156), .ref (ad 157), .ref (ad 158), .ref (ad 159), .ref (ad 160), .ref (ad 161), .int n_y0_56, .int n_y0_57, .ref (ad 162), .int x119_59, .int x119_60, .ref (ad 163), .int x119_62, .ref (ad 164), .ref (ad 165), .ref (ad 166), .ref (ad 167), .ref (ad 168), .ref (ad 169), .ref (ad 170), .int x119_70, .int x119_71, .ref (ad 171), .ref (ad 172)])), (148, .inl (cy 0, 30, .inl n_d5)), (149, .inl (cy 0, 30, .inl n_d6)), (150, .inl (cy 0, 5, .inl n_d7)), (151, .inl (cy 0, 4, .inl n_d8)), (152, .inl (cy 0, 20, .inl n_d9)), (160, .inl (cy 2, 30, .inl n_d10)), (146, .inl (cy 0, 60, .inl n_d19)), (153, .inl (cy 0, 30, .inl n_d20)), (154, .inl (cy 0, 120, .inl n_d21)), (155, .inl (cy 0, 120, .inl n_d22)), (156, .inl (cy 0, 5, .inl n_d23)), (157, .inl (cy 0, 5, .inl n_d24)), (158, .inl (cy 0, 5, .inl n_d25)), (159, .inl (cy 0, 5, .inl n_d26)), (161, .inl (cy 2, 5, .inl n_d27))]) ?_ ?_
  · rfl
  refine ⟨INV_up hI ?_ ?_ ?_, (by rw [cup_far rfl]), (by rw [e119]; rfl)⟩
  · exact (List.forall_mem_cons.mpr ⟨(cs_119 ⟨x119_2, x119_3, x119_4, x119_5, x119_6, x119_7, x119_8, x119_9, w119_10, x119_36, x119_37, x119_38, x119_39, x119_40, n_y0_56, n_y0_57, x119_59, x119_60, x119_62, x119_70, x119_71, rfl, b119_2, b119_3, b119_4, b119_6, b119_7, b119_8, b119_36, b119_37, b119_38, b119_39, b119_40, z0, b119_59, b119_60, b119_62, b119_70, b119_71, hU119⟩), (List.forall_mem_cons.mpr ⟨(cs_148 ⟨n_d5, rfl⟩), (List.forall_mem_cons.mpr ⟨(cs_149 ⟨n_d6, rfl⟩), (List.forall_mem_cons.mpr ⟨(cs_150 ⟨n_d7, rfl⟩), (List.forall_mem_cons.mpr ⟨(cs_151 ⟨n_d8, rfl, z1⟩), (List.forall_mem_cons.mpr ⟨(cs_152 ⟨n_d9, rfl, z2⟩), (List.forall_mem_cons.mpr ⟨(cs_160 ⟨n_d10, rfl, z3⟩), (List.forall_mem_cons.mpr ⟨(cs_146 ⟨n_d19, rfl⟩), (List.forall_mem_cons.mpr ⟨(cs_153 ⟨n_d20, rfl, z4⟩), (List.forall_mem_cons.mpr ⟨(cs_154 ⟨n_d21, rfl⟩), (List.forall_mem_cons.mpr ⟨(cs_155 ⟨n_d22, rfl⟩), (List.forall_mem_cons.mpr ⟨(cs_156 ⟨n_d23, rfl⟩), (List.forall_mem_cons.mpr ⟨(cs_157 ⟨n_d24, rfl⟩), (List.forall_mem_cons.mpr ⟨(cs_158 ⟨n_d25, rfl⟩), (List.forall_mem_cons.mpr ⟨(cs_159 ⟨n_d26, rfl⟩), (List.forall_mem_cons.mpr ⟨(cs_161 ⟨n_d27, rfl, z5⟩), (fun _ h => absurd h List.not_mem_nil)⟩)⟩)⟩)⟩)⟩)⟩)⟩)⟩)⟩)⟩)⟩)⟩)⟩)⟩)⟩)⟩)
  · exact (by rw [cup_far (S := 56) rfl, cup_far (S := 57) rfl]; exact hI.2.1)
  · exact (by have z := hI.2.2; rw [e119] at z; rw [cup_far (S := 138) rfl, cup_far (S := 142) rfl, cup_far (S := 136) rfl]; exact z)

set_option maxHeartbeats 8000000 in
set_option maxRecDepth 100000 in
theorem sm_X11_rest {D : va_G} {cy : Nat → ClassId} {ad : Nat → Nat} {g : Nat → va_E} (l : Launch)  (hI : INV cy ad g) : ∃ pst_ : Int32 → (Nat → Nat) → List (Nat × va_E) → Prop, cMi l yX11_rest wq_k_X11_rest { frames := 7, cells := 0, slots := 0, locals := 168 } 32 0 0 0 D cy (fun i => ad ([0, 74, 21, 35, 38, 59, 80, 24, 25, 28, 29, 30, 31, 36, 37, 39, 40, 41, 60, 61, 81, 82, 83, 84, 85, 86, 87, 75, 76, 77, 79, 118].getD i 0)) (fun i => cup [] g ([0, 74, 21, 35, 38, 59, 80, 24, 25, 28, 29, 30, 31, 36, 37, 39, 40, 41, 60, 61, 81, 82, 83, 84, 85, 86, 87, 75, 76, 77, 79, 118].getD i 0)) [.ref (ad ([0, 74, 21, 35, 38, 59, 80, 24, 25, 28, 29, 30, 31, 36, 37, 39, 40, 41, 60, 61, 81, 82, 83, 84, 85, 86, 87, 75, 76, 77, 79, 118].getD 0 0))] pst_ ∧ ∀ (r : Int32) (nw : Nat → Nat) (l' : List (Nat × va_E)), pst_ r nw l' → INV cy ad (cup (cmrg 173 32 [0, 74, 21, 35, 38, 59, 80, 24, 25, 28, 29, 30, 31, 36, 37, 39, 40, 41, 60, 61, 81, 82, 83, 84, 85, 86, 87, 75, 76, 77, 79, 118] l' []) g) ∧ TK g (cup (cmrg 173 32 [0, 74, 21, 35, 38, 59, 80, 24, 25, 28, 29, 30, 31, 36, 37, 39, 40, 41, 60, 61, 81, 82, 83, 84, 85, 86, 87, 75, 76, 77, 79, 118] l' []) g) := by
  have c0 := cp_0 hI
  obtain ⟨x0_1, x0_13, e0, b0_1, b0_13⟩ := c0
  have c21 := cp_21 hI
  obtain ⟨x21_5, x21_11, x21_15, x21_16, e21, b21_5, b21_11, b21_16⟩ := c21
  have c24 := cp_24 hI
  obtain ⟨f24, e24⟩ := c24
  have c25 := cp_25 hI
  obtain ⟨f25, e25⟩ := c25
  have c28 := cp_28 hI
  obtain ⟨f28, e28⟩ := c28
  have c29 := cp_29 hI
  obtain ⟨f29, e29⟩ := c29
  have c30 := cp_30 hI
  obtain ⟨f30, e30, h30⟩ := c30
  have c31 := cp_31 hI
  obtain ⟨f31, e31, h31⟩ := c31
  have c35 := cp_35 hI
  obtain ⟨x35_1, x35_2, x35_3, e35, b35_1, b35_3⟩ := c35
  have c36 := cp_36 hI
  obtain ⟨f36, e36⟩ := c36
  have c37 := cp_37 hI
  obtain ⟨f37, e37⟩ := c37
  have c38 := cp_38 hI
  obtain ⟨x38_2, x38_4, e38, b38_4⟩ := c38
  have c39 := cp_39 hI
  obtain ⟨f39, e39⟩ := c39
  have c40 := cp_40 hI
  obtain ⟨f40, e40⟩ := c40
  have c41 := cp_41 hI
  obtain ⟨f41, e41⟩ := c41
  have c59 := cp_59 hI
  have e59 := c59
  have c60 := cp_60 hI
  obtain ⟨f60, e60⟩ := c60
  have c61 := cp_61 hI
  obtain ⟨f61, e61⟩ := c61
  have c74 := cp_74 hI
  obtain ⟨x74_5, x74_10, e74, b74_5⟩ := c74
  have c75 := cp_75 hI
  obtain ⟨f75, e75, h75⟩ := c75
  have c76 := cp_76 hI
  obtain ⟨f76, e76, h76⟩ := c76
  have c77 := cp_77 hI
  obtain ⟨f77, e77⟩ := c77
  have c79 := cp_79 hI
  obtain ⟨f79, e79⟩ := c79
  have c80 := cp_80 hI
  have e80 := c80
  have c81 := cp_81 hI
  obtain ⟨f81, e81⟩ := c81
  have c82 := cp_82 hI
  obtain ⟨f82, e82, h82⟩ := c82
  have c83 := cp_83 hI
  obtain ⟨f83, e83, h83⟩ := c83
  have c84 := cp_84 hI
  obtain ⟨f84, e84⟩ := c84
  have c85 := cp_85 hI
  obtain ⟨f85, e85⟩ := c85
  have c86 := cp_86 hI
  obtain ⟨f86, e86⟩ := c86
  have c87 := cp_87 hI
  obtain ⟨f87, e87⟩ := c87
  have c118 := cp_118 hI
  obtain ⟨f118, e118⟩ := c118
  refine ⟨_, k_X11_rest l D cy _ _ (u0_0 := .ref (ad 1)) (u0_1 := .int x0_1) (u0_2 := .ref (ad 2)) (u0_3 := .ref (ad 21)) (c15 := f39) (c16 := f40) (x4_2 := x38_2) (c17 := f41) (x4_4 := x38_4) (u0_5 := .ref (ad 42)) (u0_6 := .ref (ad 55)) (u0_7 := .ref (ad 59)) (u0_8 := .ref (ad 62)) (u2_0 := .ref (ad 22)) (u2_1 := .ref (ad 23)) (c7 := f24) (c8 := f25) (u2_4 := .ref (ad 26)) (u2_5 := .int x21_5) (u2_6 := .ref (ad 27)) (c9 := f28) (c10 := f29) (c11 := f30) (c12 := f31) (x2_11 := x21_11) (u2_12 := .ref (ad 32)) (u2_13 := .ref (ad 33)) (u2_14 := .ref (ad 34)) (u2_15 := .int x21_15) (u2_16 := .int x21_16) (c13 := f36) (x3_1 := x35_1) (u3_2 := .int x35_2) (x3_3 := x35_3) (c14 := f37) (c18 := f60) (c19 := f61) (c20 := f81) (c21 := f82) (c22 := f83) (c23 := f84) (c24 := f85) (c25 := f86) (c26 := f87) (c27 := f75) (x1_5 := x74_5) (c28 := f76) (c29 := f77) (u1_8 := .ref (ad 78)) (c30 := f79) (u1_10 := .int x74_10) (u0_10 := .ref (ad 88)) (u0_11 := .ref (ad 101)) (c31 := f118) (x0_13 := x0_13) e0 e74 e21 e35 e38 e59 e80 e24 e25 e28 e29 e30 e31 e36 e37 e39 e40 e41 e60 e61 e81 e82 e83 e84 e85 e86 e87 e75 e76 e77 e79 e118 b0_13 b74_5 b21_11 b35_1 b35_3 b38_4 h30 h31 h82 h83 h75 h76, fun r nw l' hw => ?_⟩
  obtain ⟨n_y0_13, n_y1_5, n_d14, n_d18, n_d19, n_d20, n_d21, n_d22, n_d23, n_d24, n_d25, n_d26, n_d27, n_d28, n_d29, n_d30, n_d31, z0, z1, z2, z3, z4, z5, z6, rfl⟩ := hw
  refine mrg_case (P := fun g1 => INV cy ad g1 ∧ TK g g1) (lk := [(0, .inr (11, [.ref (ad 1), .int x0_1, .ref (ad 2), .ref (ad 21), .ref (ad 38), .ref (ad 42), .ref (ad 55), .ref (ad 59), .ref (ad 62), .ref (ad 74), .ref (ad 88), .ref (ad 101), .ref (ad 118), .int n_y0_13])), (74, .inr (2, [.ref (ad 21), .ref (ad 38), .ref (ad 59), .ref (ad 80), .ref (ad 75), .int n_y1_5, .ref (ad 76), .ref (ad 77), .ref (ad 78), .ref (ad 79), .int x74_10])), (37, .inl (cy 0, 30, .inl n_d14)), (60, .inl (cy 0, 80, .inl n_d18)), (61, .inl (cy 0, 80, .inl n_d19)), (81, .inl (cy 0, 5, .inl n_d20)), (82, .inl (cy 0, 20, .inl n_d21)), (83, .inl (cy 0, 4, .inl n_d22)), (84, .inl (cy 0, 5, .inl n_d23)), (85, .inl (cy 0, 5, .inl n_d24)), (86, .inl (cy 0, 5, .inl n_d25)), (87, .inl (cy 0, 5, .inl n_d26)), (75, .inl (cy 0, 24, .inl n_d27)), (76, .inl (cy 0, 24, .inl n_d28)), (77, .inl (cy 0, 24, .inl n_d29)), (79, .inl (cy 0, 24, .inl n_d30)), (118, .inl (cy 0, 24, .inl n_d31))]) ?_ ?_
  · rfl
  refine ⟨INV_up hI ?_ ?_ ?_, (by rw [cup_far rfl]), (by rw [cup_far rfl])⟩
  · exact (List.forall_mem_cons.mpr ⟨(cs_0 ⟨x0_1, n_y0_13, rfl, b0_1, z0⟩), (List.forall_mem_cons.mpr ⟨(cs_74 ⟨n_y1_5, x74_10, rfl, z1⟩), (List.forall_mem_cons.mpr ⟨(cs_37 ⟨n_d14, rfl⟩), (List.forall_mem_cons.mpr ⟨(cs_60 ⟨n_d18, rfl⟩), (List.forall_mem_cons.mpr ⟨(cs_61 ⟨n_d19, rfl⟩), (List.forall_mem_cons.mpr ⟨(cs_81 ⟨n_d20, rfl⟩), (List.forall_mem_cons.mpr ⟨(cs_82 ⟨n_d21, rfl, z2⟩), (List.forall_mem_cons.mpr ⟨(cs_83 ⟨n_d22, rfl, z3⟩), (List.forall_mem_cons.mpr ⟨(cs_84 ⟨n_d23, rfl⟩), (List.forall_mem_cons.mpr ⟨(cs_85 ⟨n_d24, rfl⟩), (List.forall_mem_cons.mpr ⟨(cs_86 ⟨n_d25, rfl⟩), (List.forall_mem_cons.mpr ⟨(cs_87 ⟨n_d26, rfl⟩), (List.forall_mem_cons.mpr ⟨(cs_75 ⟨n_d27, rfl, z4⟩), (List.forall_mem_cons.mpr ⟨(cs_76 ⟨n_d28, rfl, z5⟩), (List.forall_mem_cons.mpr ⟨(cs_77 ⟨n_d29, rfl⟩), (List.forall_mem_cons.mpr ⟨(cs_79 ⟨n_d30, rfl⟩), (List.forall_mem_cons.mpr ⟨(cs_118 ⟨n_d31, rfl⟩), (fun _ h => absurd h List.not_mem_nil)⟩)⟩)⟩)⟩)⟩)⟩)⟩)⟩)⟩)⟩)⟩)⟩)⟩)⟩)⟩)⟩)⟩)
  · exact (by rw [cup_far (S := 56) rfl, cup_far (S := 57) rfl]; exact hI.2.1)
  · exact (by have z := hI.2.2; rw [cup_far (S := 138) rfl, cup_far (S := 142) rfl, cup_far (S := 136) rfl, cup_far (S := 119) rfl]; exact z)

