set_option maxHeartbeats 8000000 in
set_option maxRecDepth 100000 in
theorem sm_X11_feed {D : va_G} {cy : Nat → ClassId} {ad : Nat → Nat} {g : Nat → va_E} (l : Launch) (ax bx cx dx ex : Int32) (hI : INV cy ad g) : ∃ post : Int32 → (Nat → Nat) → List (Nat × va_E) → Prop, cMi l yX11_feed wq_k_X11_feed { frames := 1, cells := 0, slots := 0, locals := 22 } 2 0 0 0 D cy (fun i => ad ([0, 1].getD i 0)) (fun i => cup [] g ([0, 1].getD i 0)) [.ref (ad ([0, 1].getD 0 0)), .int ax, .int bx, .int cx, .int dx, .int ex] post ∧ ∀ (r : Int32) (nw : Nat → Nat) (l' : List (Nat × va_E)), post r nw l' → INV cy ad (cup (cmrg 173 2 [0, 1] l' []) g) ∧ TK g (cup (cmrg 173 2 [0, 1] l' []) g) := by
  have c0 : CP_0 cy ad (g 0) := hI.1 0 (by decide)
  obtain ⟨x0_1, x0_13, e0, b0_1, b0_13⟩ := c0
  have c1 : CP_1 cy ad (g 1) := hI.1 1 (by decide)
  obtain ⟨f1, e1⟩ := c1
  have zfh := hI.2.2
  have zkh := hI.2.1
  refine ⟨_, k_X11_feed l D cy _ _ (c1 := f1) (x0_1 := x0_1) (u0_2 := .ref (ad 2)) (u0_3 := .ref (ad 21)) (u0_4 := .ref (ad 38)) (u0_5 := .ref (ad 42)) (u0_6 := .ref (ad 55)) (u0_7 := .ref (ad 59)) (u0_8 := .ref (ad 62)) (u0_9 := .ref (ad 74)) (u0_10 := .ref (ad 88)) (u0_11 := .ref (ad 101)) (u0_12 := .ref (ad 118)) (u0_13 := .int x0_13) e0 e1 b0_1, fun r nw l' hw => ?_⟩
  obtain ⟨n_y0_1, n_d1, z0, z1, rfl⟩ := hw
  refine ⟨INV_mrg (lk := [(0, .inr (11, [.ref (ad 1), .int n_y0_1, .ref (ad 2), .ref (ad 21), .ref (ad 38), .ref (ad 42), .ref (ad 55), .ref (ad 59), .ref (ad 62), .ref (ad 74), .ref (ad 88), .ref (ad 101), .ref (ad 118), .int x0_13])), (1, .inl (cy 0, 1600, .inl n_d1))]) hI ?_ ?_ ?_ ?_, (fo_mrg rfl rfl), (fo_mrg rfl rfl)⟩
  · rfl
  · exact (List.forall_mem_cons.mpr ⟨(show CP_0 cy ad _ from ⟨n_y0_1, x0_13, rfl, z0, b0_13⟩), (List.forall_mem_cons.mpr ⟨(show CP_1 cy ad _ from ⟨n_d1, rfl⟩), (fun _ h => absurd h List.not_mem_nil)⟩)⟩)
  · exact zkh
  · exact zfh

set_option maxHeartbeats 8000000 in
set_option maxRecDepth 100000 in
theorem sm_X12_feed {D : va_G} {cy : Nat → ClassId} {ad : Nat → Nat} {g : Nat → va_E} (l : Launch) (ax bx cx dx ex : Int32) (hI : INV cy ad g) : ∃ post : Int32 → (Nat → Nat) → List (Nat × va_E) → Prop, cMi l yX12_feed wq_k_X12_feed { frames := 0, cells := 0, slots := 0, locals := 0 } 2 0 0 0 D cy (fun i => ad ([119, 120].getD i 0)) (fun i => cup [] g ([119, 120].getD i 0)) [.ref (ad ([119, 120].getD 0 0)), .int ax, .int bx, .int cx, .int dx, .int ex] post ∧ ∀ (r : Int32) (nw : Nat → Nat) (l' : List (Nat × va_E)), post r nw l' → INV cy ad (cup (cmrg 173 2 [119, 120] l' []) g) ∧ TK g (cup (cmrg 173 2 [119, 120] l' []) g) := by
  have c119 : CP_119 cy ad (g 119) := hI.1 119 (by decide)
  obtain ⟨x119_2, x119_3, x119_4, x119_5, x119_6, x119_7, x119_8, x119_9, w119_10, x119_36, x119_37, x119_38, x119_39, x119_40, x119_56, x119_57, x119_59, x119_60, x119_62, x119_70, x119_71, e119, b119_2, b119_3, b119_4, b119_6, b119_7, b119_8, b119_36, b119_37, b119_38, b119_39, b119_40, b119_56, b119_59, b119_60, b119_62, b119_70, b119_71, hU119⟩ := c119
  have c120 : CP_120 cy ad (g 120) := hI.1 120 (by decide)
  obtain ⟨f120, e120⟩ := c120
  have zfh := hI.2.2
  rw [e119] at zfh
  have zkh := hI.2.1
  refine ⟨_, k_X12_feed l D cy _ _ (c1 := f120) (u0_1 := .ref (ad 121)) (x0_2 := x119_2) (u0_3 := .int x119_3) (u0_4 := .int x119_4) (u0_5 := .int x119_5) (u0_6 := .int x119_6) (u0_7 := .int x119_7) (u0_8 := .int x119_8) (u0_9 := .int x119_9) (u0_10 := .long w119_10) (u0_11 := .ref (ad 122)) (u0_12 := .ref (ad 123)) (u0_13 := .ref (ad 124)) (u0_14 := .ref (ad 125)) (u0_15 := .ref (ad 126)) (u0_16 := .ref (ad 127)) (u0_17 := .ref (ad 128)) (u0_18 := .ref (ad 129)) (u0_19 := .ref (ad 130)) (u0_20 := .ref (ad 131)) (u0_21 := .ref (ad 132)) (u0_22 := .ref (ad 133)) (u0_23 := .ref (ad 134)) (u0_24 := .ref (ad 135)) (u0_25 := .ref (ad 136)) (u0_26 := .ref (ad 137)) (u0_27 := .ref (ad 138)) (u0_28 := .ref (ad 139)) (u0_29 := .ref (ad 140)) (u0_30 := .ref (ad 141)) (u0_31 := .ref (ad 142)) (u0_32 := .ref (ad 143)) (u0_33 := .ref (ad 144)) (u0_34 := .ref (ad 145)) (u0_35 := .ref (ad 146)) (u0_36 := .int x119_36) (u0_37 := .int x119_37) (u0_38 := .int x119_38) (u0_39 := .int x119_39) (u0_40 := .int x119_40) (u0_41 := .ref (ad 147)) (u0_42 := .ref (ad 148)) (u0_43 := .ref (ad 149)) (u0_44 := .ref (ad 150)) (u0_45 := .ref (ad 151)) (u0_46 := .ref (ad 152)) (u0_47 := .ref (ad 153)) (u0_48 := .ref (ad 154)) (u0_49 := .ref (ad 155)) (u0_50 := .ref (ad 156)) (u0_51 := .ref (ad 157)) (u0_52 := .ref (ad 158)) (u0_53 := .ref (ad 159)) (u0_54 := .ref (ad 160)) (u0_55 := .ref (ad 161)) (u0_56 := .int x119_56) (u0_57 := .int x119_57) (u0_58 := .ref (ad 162)) (u0_59 := .int x119_59) (u0_60 := .int x119_60) (u0_61 := .ref (ad 163)) (u0_62 := .int x119_62) (u0_63 := .ref (ad 164)) (u0_64 := .ref (ad 165)) (u0_65 := .ref (ad 166)) (u0_66 := .ref (ad 167)) (u0_67 := .ref (ad 168)) (u0_68 := .ref (ad 169)) (u0_69 := .ref (ad 170)) (u0_70 := .int x119_70) (u0_71 := .int x119_71) (u0_72 := .ref (ad 171)) (u0_73 := .ref (ad 172)) e119 e120 b119_2, fun r nw l' hw => ?_⟩
  obtain ⟨n_y0_2, n_d1, z0, z1, rfl⟩ := hw
  refine ⟨INV_mrg (lk := [(119, .inr (12, [.ref (ad 120), .ref (ad 121), .int n_y0_2, .int x119_3, .int x119_4, .int x119_5, .int x119_6, .int x119_7, .int x119_8, .int x119_9, .long w119_10, .ref (ad 122), .ref (ad 123), .ref (ad 124), .ref (ad 125), .ref (ad 126), .ref (ad 127), .ref (ad 128), .ref (ad 129), .ref (ad 130), .ref (ad 131), .ref (ad 132), .ref (ad 133), .ref (ad 134), .ref (ad 135), .ref (ad 136), .ref (ad 137), .ref (ad 138), .ref (ad 139), .ref (ad 140), .ref (ad 141), .ref (ad 142), .ref (ad 143), .ref (ad 144), .ref (ad 145), .ref (ad 146), .int x119_36, .int x119_37, .int x119_38, .int x119_39, .int x119_40, .ref (ad 147), .ref (ad 148), .ref (ad 149), .ref (ad 150), .ref (ad 151), .ref (ad 152), .ref (ad 153), .ref (ad 154), .ref (ad 155), .ref (ad 156), .ref (ad 157), .ref (ad 158), .ref (ad 159), .ref (ad 160), .ref (ad 161), .int x119_56, .int x119_57, .ref (ad 162), .int x119_59, .int x119_60, .ref (ad 163), .int x119_62, .ref (ad 164), .ref (ad 165), .ref (ad 166), .ref (ad 167), .ref (ad 168), .ref (ad 169), .ref (ad 170), .int x119_70, .int x119_71, .ref (ad 171), .ref (ad 172)])), (120, .inl (cy 3, 1620, .inl n_d1))]) hI ?_ ?_ ?_ ?_, (fo_mrg rfl rfl), (fo_mrg rfl (by rw [e119]; rfl))⟩
  · rfl
  · exact (List.forall_mem_cons.mpr ⟨(show CP_119 cy ad _ from ⟨n_y0_2, x119_3, x119_4, x119_5, x119_6, x119_7, x119_8, x119_9, w119_10, x119_36, x119_37, x119_38, x119_39, x119_40, x119_56, x119_57, x119_59, x119_60, x119_62, x119_70, x119_71, rfl, (zi_w z0 (by decide)), b119_3, b119_4, b119_6, b119_7, b119_8, b119_36, b119_37, b119_38, b119_39, b119_40, b119_56, b119_59, b119_60, b119_62, b119_70, b119_71, hU119⟩), (List.forall_mem_cons.mpr ⟨(show CP_120 cy ad _ from ⟨n_d1, rfl⟩), (fun _ h => absurd h List.not_mem_nil)⟩)⟩)
  · exact zkh
  · exact zfh

set_option maxHeartbeats 8000000 in
set_option maxRecDepth 100000 in
theorem sm_X11_end {D : va_G} {cy : Nat → ClassId} {ad : Nat → Nat} {g : Nat → va_E} (l : Launch) (n : Int32) (hI : INV cy ad g) : ∃ post : Int32 → (Nat → Nat) → List (Nat × va_E) → Prop, cMi l yX11_end wq_k_X11_end { frames := 1, cells := 0, slots := 0, locals := 22 } 1 0 0 0 D cy (fun i => ad ([0].getD i 0)) (fun i => cup [] g ([0].getD i 0)) [.ref (ad ([0].getD 0 0)), .int n] post ∧ ∀ (r : Int32) (nw : Nat → Nat) (l' : List (Nat × va_E)), post r nw l' → INV cy ad (cup (cmrg 173 1 [0] l' []) g) ∧ TK g (cup (cmrg 173 1 [0] l' []) g) := by
  have c0 : CP_0 cy ad (g 0) := hI.1 0 (by decide)
  obtain ⟨x0_1, x0_13, e0, b0_1, b0_13⟩ := c0
  have zfh := hI.2.2
  have zkh := hI.2.1
  refine ⟨_, k_X11_end l D cy _ _ (u0_0 := .ref (ad 1)) (x0_1 := x0_1) (u0_2 := .ref (ad 2)) (u0_3 := .ref (ad 21)) (u0_4 := .ref (ad 38)) (u0_5 := .ref (ad 42)) (u0_6 := .ref (ad 55)) (u0_7 := .ref (ad 59)) (u0_8 := .ref (ad 62)) (u0_9 := .ref (ad 74)) (u0_10 := .ref (ad 88)) (u0_11 := .ref (ad 101)) (u0_12 := .ref (ad 118)) (u0_13 := .int x0_13) e0 b0_1, fun r nw l' hw => ?_⟩
  obtain ⟨n_y0_1, z0, z1, rfl⟩ := hw
  refine ⟨INV_mrg (lk := [(0, .inr (11, [.ref (ad 1), .int n_y0_1, .ref (ad 2), .ref (ad 21), .ref (ad 38), .ref (ad 42), .ref (ad 55), .ref (ad 59), .ref (ad 62), .ref (ad 74), .ref (ad 88), .ref (ad 101), .ref (ad 118), .int x0_13]))]) hI ?_ ?_ ?_ ?_, (fo_mrg rfl rfl), (fo_mrg rfl rfl)⟩
  · rfl
  · exact (List.forall_mem_cons.mpr ⟨(show CP_0 cy ad _ from ⟨n_y0_1, x0_13, rfl, z0, b0_13⟩), (fun _ h => absurd h List.not_mem_nil)⟩)
  · exact zkh
  · exact zfh

set_option maxHeartbeats 8000000 in
set_option maxRecDepth 100000 in
theorem sm_X12_end {D : va_G} {cy : Nat → ClassId} {ad : Nat → Nat} {g : Nat → va_E} (l : Launch) (n : Int32) (hI : INV cy ad g) : ∃ post : Int32 → (Nat → Nat) → List (Nat × va_E) → Prop, cMi l yX12_end wq_k_X12_end { frames := 0, cells := 0, slots := 0, locals := 0 } 1 0 0 0 D cy (fun i => ad ([119].getD i 0)) (fun i => cup [] g ([119].getD i 0)) [.ref (ad ([119].getD 0 0)), .int n] post ∧ ∀ (r : Int32) (nw : Nat → Nat) (l' : List (Nat × va_E)), post r nw l' → INV cy ad (cup (cmrg 173 1 [119] l' []) g) ∧ TK g (cup (cmrg 173 1 [119] l' []) g) := by
  have c119 : CP_119 cy ad (g 119) := hI.1 119 (by decide)
  obtain ⟨x119_2, x119_3, x119_4, x119_5, x119_6, x119_7, x119_8, x119_9, w119_10, x119_36, x119_37, x119_38, x119_39, x119_40, x119_56, x119_57, x119_59, x119_60, x119_62, x119_70, x119_71, e119, b119_2, b119_3, b119_4, b119_6, b119_7, b119_8, b119_36, b119_37, b119_38, b119_39, b119_40, b119_56, b119_59, b119_60, b119_62, b119_70, b119_71, hU119⟩ := c119
  have zfh := hI.2.2
  rw [e119] at zfh
  have zkh := hI.2.1
  refine ⟨_, k_X12_end l D cy _ _ (u0_0 := .ref (ad 120)) (u0_1 := .ref (ad 121)) (x0_2 := x119_2) (u0_3 := .int x119_3) (u0_4 := .int x119_4) (u0_5 := .int x119_5) (u0_6 := .int x119_6) (u0_7 := .int x119_7) (u0_8 := .int x119_8) (u0_9 := .int x119_9) (u0_10 := .long w119_10) (u0_11 := .ref (ad 122)) (u0_12 := .ref (ad 123)) (u0_13 := .ref (ad 124)) (u0_14 := .ref (ad 125)) (u0_15 := .ref (ad 126)) (u0_16 := .ref (ad 127)) (u0_17 := .ref (ad 128)) (u0_18 := .ref (ad 129)) (u0_19 := .ref (ad 130)) (u0_20 := .ref (ad 131)) (u0_21 := .ref (ad 132)) (u0_22 := .ref (ad 133)) (u0_23 := .ref (ad 134)) (u0_24 := .ref (ad 135)) (u0_25 := .ref (ad 136)) (u0_26 := .ref (ad 137)) (u0_27 := .ref (ad 138)) (u0_28 := .ref (ad 139)) (u0_29 := .ref (ad 140)) (u0_30 := .ref (ad 141)) (u0_31 := .ref (ad 142)) (u0_32 := .ref (ad 143)) (u0_33 := .ref (ad 144)) (u0_34 := .ref (ad 145)) (u0_35 := .ref (ad 146)) (u0_36 := .int x119_36) (u0_37 := .int x119_37) (u0_38 := .int x119_38) (u0_39 := .int x119_39) (u0_40 := .int x119_40) (u0_41 := .ref (ad 147)) (u0_42 := .ref (ad 148)) (u0_43 := .ref (ad 149)) (u0_44 := .ref (ad 150)) (u0_45 := .ref (ad 151)) (u0_46 := .ref (ad 152)) (u0_47 := .ref (ad 153)) (u0_48 := .ref (ad 154)) (u0_49 := .ref (ad 155)) (u0_50 := .ref (ad 156)) (u0_51 := .ref (ad 157)) (u0_52 := .ref (ad 158)) (u0_53 := .ref (ad 159)) (u0_54 := .ref (ad 160)) (u0_55 := .ref (ad 161)) (u0_56 := .int x119_56) (u0_57 := .int x119_57) (u0_58 := .ref (ad 162)) (u0_59 := .int x119_59) (u0_60 := .int x119_60) (u0_61 := .ref (ad 163)) (u0_62 := .int x119_62) (u0_63 := .ref (ad 164)) (u0_64 := .ref (ad 165)) (u0_65 := .ref (ad 166)) (u0_66 := .ref (ad 167)) (u0_67 := .ref (ad 168)) (u0_68 := .ref (ad 169)) (u0_69 := .ref (ad 170)) (u0_70 := .int x119_70) (u0_71 := .int x119_71) (u0_72 := .ref (ad 171)) (u0_73 := .ref (ad 172)) e119 b119_2, fun r nw l' hw => ?_⟩
  obtain ⟨n_y0_2, z0, z1, rfl⟩ := hw
  refine ⟨INV_mrg (lk := [(119, .inr (12, [.ref (ad 120), .ref (ad 121), .int n_y0_2, .int x119_3, .int x119_4, .int x119_5, .int x119_6, .int x119_7, .int x119_8, .int x119_9, .long w119_10, .ref (ad 122), .ref (ad 123), .ref (ad 124), .ref (ad 125), .ref (ad 126), .ref (ad 127), .ref (ad 128), .ref (ad 129), .ref (ad 130), .ref (ad 131), .ref (ad 132), .ref (ad 133), .ref (ad 134), .ref (ad 135), .ref (ad 136), .ref (ad 137), .ref (ad 138), .ref (ad 139), .ref (ad 140), .ref (ad 141), .ref (ad 142), .ref (ad 143), .ref (ad 144), .ref (ad 145), .ref (ad 146), .int x119_36, .int x119_37, .int x119_38, .int x119_39, .int x119_40, .ref (ad 147), .ref (ad 148), .ref (ad 149), .ref (ad 150), .ref (ad 151), .ref (ad 152), .ref (ad 153), .ref (ad 154), .ref (ad 155), .ref (ad 156), .ref (ad 157), .ref (ad 158), .ref (ad 159), .ref (ad 160), .ref (ad 161), .int x119_56, .int x119_57, .ref (ad 162), .int x119_59, .int x119_60, .ref (ad 163), .int x119_62, .ref (ad 164), .ref (ad 165), .ref (ad 166), .ref (ad 167), .ref (ad 168), .ref (ad 169), .ref (ad 170), .int x119_70, .int x119_71, .ref (ad 171), .ref (ad 172)]))]) hI ?_ ?_ ?_ ?_, (fo_mrg rfl rfl), (fo_mrg rfl (by rw [e119]; rfl))⟩
  · rfl
  · exact (List.forall_mem_cons.mpr ⟨(show CP_119 cy ad _ from ⟨n_y0_2, x119_3, x119_4, x119_5, x119_6, x119_7, x119_8, x119_9, w119_10, x119_36, x119_37, x119_38, x119_39, x119_40, x119_56, x119_57, x119_59, x119_60, x119_62, x119_70, x119_71, rfl, z0, b119_3, b119_4, b119_6, b119_7, b119_8, b119_36, b119_37, b119_38, b119_39, b119_40, b119_56, b119_59, b119_60, b119_62, b119_70, b119_71, hU119⟩), (fun _ h => absurd h List.not_mem_nil)⟩)
  · exact zkh
  · exact zfh

set_option maxHeartbeats 8000000 in
set_option maxRecDepth 100000 in
theorem sm_X11_road {D : va_G} {cy : Nat → ClassId} {ad : Nat → Nat} {g : Nat → va_E} (l : Launch)  (hI : INV cy ad g) : ∃ post : Int32 → (Nat → Nat) → List (Nat × va_E) → Prop, cMi l yX11_road wq_k_X11_road { frames := 63, cells := 0, slots := 0, locals := 1531 } 58 0 0 0 D cy (fun i => ad ([0, 2, 3, 17, 4, 5, 6, 7, 8, 9, 10, 11, 12, 13, 14, 15, 16, 18, 1, 21, 35, 23, 24, 25, 26, 28, 29, 30, 31, 33, 34, 36, 59, 60, 38, 39, 40, 41, 55, 101, 42, 43, 47, 51, 62, 66, 37, 61, 67, 68, 69, 70, 71, 72, 73, 63, 64, 65].getD i 0)) (fun i => cup [] g ([0, 2, 3, 17, 4, 5, 6, 7, 8, 9, 10, 11, 12, 13, 14, 15, 16, 18, 1, 21, 35, 23, 24, 25, 26, 28, 29, 30, 31, 33, 34, 36, 59, 60, 38, 39, 40, 41, 55, 101, 42, 43, 47, 51, 62, 66, 37, 61, 67, 68, 69, 70, 71, 72, 73, 63, 64, 65].getD i 0)) [.ref (ad ([0, 2, 3, 17, 4, 5, 6, 7, 8, 9, 10, 11, 12, 13, 14, 15, 16, 18, 1, 21, 35, 23, 24, 25, 26, 28, 29, 30, 31, 33, 34, 36, 59, 60, 38, 39, 40, 41, 55, 101, 42, 43, 47, 51, 62, 66, 37, 61, 67, 68, 69, 70, 71, 72, 73, 63, 64, 65].getD 0 0))] post ∧ ∀ (r : Int32) (nw : Nat → Nat) (l' : List (Nat × va_E)), post r nw l' → INV cy ad (cup (cmrg 173 58 [0, 2, 3, 17, 4, 5, 6, 7, 8, 9, 10, 11, 12, 13, 14, 15, 16, 18, 1, 21, 35, 23, 24, 25, 26, 28, 29, 30, 31, 33, 34, 36, 59, 60, 38, 39, 40, 41, 55, 101, 42, 43, 47, 51, 62, 66, 37, 61, 67, 68, 69, 70, 71, 72, 73, 63, 64, 65] l' []) g) ∧ TK g (cup (cmrg 173 58 [0, 2, 3, 17, 4, 5, 6, 7, 8, 9, 10, 11, 12, 13, 14, 15, 16, 18, 1, 21, 35, 23, 24, 25, 26, 28, 29, 30, 31, 33, 34, 36, 59, 60, 38, 39, 40, 41, 55, 101, 42, 43, 47, 51, 62, 66, 37, 61, 67, 68, 69, 70, 71, 72, 73, 63, 64, 65] l' []) g) := by
  have c0 : CP_0 cy ad (g 0) := hI.1 0 (by decide)
  obtain ⟨x0_1, x0_13, e0, b0_1, b0_13⟩ := c0
  have c1 : CP_1 cy ad (g 1) := hI.1 1 (by decide)
  obtain ⟨f1, e1⟩ := c1
  have c2 : CP_2 cy ad (g 2) := hI.1 2 (by decide)
  obtain ⟨x2_1, x2_2, u2_3, x2_4, x2_5, x2_6, x2_7, x2_8, x2_9, x2_10, w2_11, e2, b2_4, b2_5, b2_7, hW2⟩ := c2
  have c3 : CP_3 cy ad (g 3) := hI.1 3 (by decide)
  obtain ⟨x3_5, x3_11, x3_15, x3_16, e3, b3_5, b3_11, b3_16⟩ := c3
  have c4 : CP_4 cy ad (g 4) := hI.1 4 (by decide)
  obtain ⟨f4, e4⟩ := c4
  have c5 : CP_5 cy ad (g 5) := hI.1 5 (by decide)
  obtain ⟨f5, e5⟩ := c5
  have c6 : CP_6 cy ad (g 6) := hI.1 6 (by decide)
  obtain ⟨f6, e6⟩ := c6
  have c7 : CP_7 cy ad (g 7) := hI.1 7 (by decide)
  obtain ⟨f7, e7⟩ := c7
  have c8 : CP_8 cy ad (g 8) := hI.1 8 (by decide)
  obtain ⟨f8, e8, h8⟩ := c8
  have c9 : CP_9 cy ad (g 9) := hI.1 9 (by decide)
  obtain ⟨f9, e9⟩ := c9
  have c10 : CP_10 cy ad (g 10) := hI.1 10 (by decide)
  obtain ⟨f10, e10⟩ := c10
  have c11 : CP_11 cy ad (g 11) := hI.1 11 (by decide)
  obtain ⟨f11, e11⟩ := c11
  have c12 : CP_12 cy ad (g 12) := hI.1 12 (by decide)
  obtain ⟨f12, e12, h12⟩ := c12
  have c13 : CP_13 cy ad (g 13) := hI.1 13 (by decide)
  obtain ⟨f13, e13, h13⟩ := c13
  have c14 : CP_14 cy ad (g 14) := hI.1 14 (by decide)
  obtain ⟨f14, e14⟩ := c14
  have c15 : CP_15 cy ad (g 15) := hI.1 15 (by decide)
  obtain ⟨f15, e15⟩ := c15
  have c16 : CP_16 cy ad (g 16) := hI.1 16 (by decide)
  obtain ⟨f16, e16⟩ := c16
  have c17 : CP_17 cy ad (g 17) := hI.1 17 (by decide)
  obtain ⟨x17_1, x17_2, x17_3, e17, b17_1, b17_3⟩ := c17
  have c18 : CP_18 cy ad (g 18) := hI.1 18 (by decide)
  obtain ⟨f18, e18⟩ := c18
  have c21 : CP_21 cy ad (g 21) := hI.1 21 (by decide)
  obtain ⟨x21_5, x21_11, x21_15, x21_16, e21, b21_5, b21_11, b21_16⟩ := c21
  have c23 : CP_23 cy ad (g 23) := hI.1 23 (by decide)
  obtain ⟨f23, e23⟩ := c23
  have c24 : CP_24 cy ad (g 24) := hI.1 24 (by decide)
  obtain ⟨f24, e24⟩ := c24
  have c25 : CP_25 cy ad (g 25) := hI.1 25 (by decide)
  obtain ⟨f25, e25⟩ := c25
  have c26 : CP_26 cy ad (g 26) := hI.1 26 (by decide)
  obtain ⟨f26, e26, h26⟩ := c26
  have c28 : CP_28 cy ad (g 28) := hI.1 28 (by decide)
  obtain ⟨f28, e28⟩ := c28
  have c29 : CP_29 cy ad (g 29) := hI.1 29 (by decide)
  obtain ⟨f29, e29⟩ := c29
  have c30 : CP_30 cy ad (g 30) := hI.1 30 (by decide)
  obtain ⟨f30, e30, h30⟩ := c30
  have c31 : CP_31 cy ad (g 31) := hI.1 31 (by decide)
  obtain ⟨f31, e31, h31⟩ := c31
  have c33 : CP_33 cy ad (g 33) := hI.1 33 (by decide)
  obtain ⟨f33, e33⟩ := c33
  have c34 : CP_34 cy ad (g 34) := hI.1 34 (by decide)
  obtain ⟨f34, e34⟩ := c34
  have c35 : CP_35 cy ad (g 35) := hI.1 35 (by decide)
  obtain ⟨x35_1, x35_2, x35_3, e35, b35_1, b35_3⟩ := c35
  have c36 : CP_36 cy ad (g 36) := hI.1 36 (by decide)
  obtain ⟨f36, e36⟩ := c36
  have c37 : CP_37 cy ad (g 37) := hI.1 37 (by decide)
  obtain ⟨f37, e37⟩ := c37
  have c38 : CP_38 cy ad (g 38) := hI.1 38 (by decide)
  obtain ⟨x38_2, x38_4, e38, b38_4⟩ := c38
  have c39 : CP_39 cy ad (g 39) := hI.1 39 (by decide)
  obtain ⟨f39, e39⟩ := c39
  have c40 : CP_40 cy ad (g 40) := hI.1 40 (by decide)
  obtain ⟨f40, e40⟩ := c40
  have c41 : CP_41 cy ad (g 41) := hI.1 41 (by decide)
  obtain ⟨f41, e41⟩ := c41
  have c42 : CP_42 cy ad (g 42) := hI.1 42 (by decide)
  have e42 := c42
  have c43 : CP_43 cy ad (g 43) := hI.1 43 (by decide)
  obtain ⟨x43_2, x43_4, e43, b43_4⟩ := c43
  have c47 : CP_47 cy ad (g 47) := hI.1 47 (by decide)
  obtain ⟨x47_2, x47_4, e47, b47_4⟩ := c47
  have c51 : CP_51 cy ad (g 51) := hI.1 51 (by decide)
  obtain ⟨x51_2, x51_4, e51, b51_4⟩ := c51
  have c55 : CP_55 cy ad (g 55) := hI.1 55 (by decide)
  obtain ⟨x55_3, x55_4, e55, b55_3, b55_4⟩ := c55
  have c59 : CP_59 cy ad (g 59) := hI.1 59 (by decide)
  have e59 := c59
  have c60 : CP_60 cy ad (g 60) := hI.1 60 (by decide)
  obtain ⟨f60, e60⟩ := c60
  have c61 : CP_61 cy ad (g 61) := hI.1 61 (by decide)
  obtain ⟨f61, e61⟩ := c61
  have c62 : CP_62 cy ad (g 62) := hI.1 62 (by decide)
  have e62 := c62
  have c63 : CP_63 cy ad (g 63) := hI.1 63 (by decide)
  obtain ⟨f63, e63⟩ := c63
  have c64 : CP_64 cy ad (g 64) := hI.1 64 (by decide)
  obtain ⟨f64, e64⟩ := c64
  have c65 : CP_65 cy ad (g 65) := hI.1 65 (by decide)
  obtain ⟨f65, e65, h65⟩ := c65
  have c66 : CP_66 cy ad (g 66) := hI.1 66 (by decide)
  have e66 := c66
  have c67 : CP_67 cy ad (g 67) := hI.1 67 (by decide)
  obtain ⟨f67, e67⟩ := c67
  have c68 : CP_68 cy ad (g 68) := hI.1 68 (by decide)
  obtain ⟨f68, e68, h68⟩ := c68
  have c69 : CP_69 cy ad (g 69) := hI.1 69 (by decide)
  obtain ⟨f69, e69, h69⟩ := c69
  have c70 : CP_70 cy ad (g 70) := hI.1 70 (by decide)
  obtain ⟨f70, e70⟩ := c70
  have c71 : CP_71 cy ad (g 71) := hI.1 71 (by decide)
  obtain ⟨f71, e71⟩ := c71
  have c72 : CP_72 cy ad (g 72) := hI.1 72 (by decide)
  obtain ⟨f72, e72⟩ := c72
  have c73 : CP_73 cy ad (g 73) := hI.1 73 (by decide)
  obtain ⟨f73, e73⟩ := c73
  have c101 : CP_101 cy ad (g 101) := hI.1 101 (by decide)
  obtain ⟨x101_7, x101_8, x101_11, x101_13, x101_14, x101_15, e101, b101_7, b101_8⟩ := c101
  have zfh := hI.2.2
  have zkh := hI.2.1
  refine ⟨_, k_X11_road l D cy _ _ (c18 := f1) (x0_1 := x0_1) (c4 := f4) (c5 := f5) (c6 := f6) (c7 := f7) (c8 := f8) (x2_5 := x3_5) (c9 := f9) (c10 := f10) (c11 := f11) (c12 := f12) (c13 := f13) (x2_11 := x3_11) (c14 := f14) (c15 := f15) (c16 := f16) (x2_15 := x3_15) (x2_16 := x3_16) (c17 := f18) (x3_1 := x17_1) (x3_2 := x17_2) (x3_3 := x17_3) (u3_4 := .ref (ad 19)) (x1_1 := x2_1) (x1_2 := x2_2) (u1_3 := u2_3) (x1_4 := x2_4) (x1_5 := x2_5) (x1_6 := x2_6) (x1_7 := x2_7) (x1_8 := x2_8) (x1_9 := x2_9) (x1_10 := x2_10) (w1x11 := w2_11) (u19_0 := .ref (ad 22)) (c21 := f23) (c22 := f24) (c23 := f25) (c24 := f26) (x19_5 := x21_5) (u19_6 := .ref (ad 27)) (c25 := f28) (c26 := f29) (c27 := f30) (c28 := f31) (x19_11 := x21_11) (u19_12 := .ref (ad 32)) (c29 := f33) (c30 := f34) (x19_15 := x21_15) (x19_16 := x21_16) (c31 := f36) (x20_1 := x35_1) (x20_2 := x35_2) (x20_3 := x35_3) (c46 := f37) (c35 := f39) (c36 := f40) (x34_2 := x38_2) (c37 := f41) (x34_4 := x38_4) (u41_0 := .ref (ad 44)) (u41_1 := .ref (ad 45)) (u41_2 := .int x43_2) (u41_3 := .ref (ad 46)) (x41_4 := x43_4) (u42_0 := .ref (ad 48)) (u42_1 := .ref (ad 49)) (u42_2 := .int x47_2) (u42_3 := .ref (ad 50)) (x42_4 := x47_4) (u43_0 := .ref (ad 52)) (u43_1 := .ref (ad 53)) (u43_2 := .int x51_2) (u43_3 := .ref (ad 54)) (x43_4 := x51_4) (u38_0 := .ref (ad 56)) (u38_1 := .ref (ad 57)) (u38_2 := .ref (ad 58)) (x38_3 := x55_3) (x38_4 := x55_4) (c33 := f60) (c47 := f61) (c48 := f67) (c49 := f68) (c50 := f69) (c51 := f70) (c52 := f71) (c53 := f72) (c54 := f73) (c55 := f63) (c56 := f64) (c57 := f65) (u0_9 := .ref (ad 74)) (u0_10 := .ref (ad 88)) (u39_0 := .ref (ad 21)) (u39_1 := .ref (ad 110)) (u39_2 := .ref (ad 102)) (u39_3 := .ref (ad 103)) (u39_4 := .ref (ad 104)) (u39_5 := .ref (ad 105)) (u39_6 := .ref (ad 106)) (x39_7 := x101_7) (u39_8 := .int x101_8) (u39_9 := .ref (ad 107)) (u39_10 := .ref (ad 108)) (u39_11 := .int x101_11) (u39_12 := .ref (ad 109)) (u39_13 := .int x101_13) (u39_14 := .int x101_14) (u39_15 := .int x101_15) (u0_12 := .ref (ad 118)) (x0_13 := x0_13) e0 e2 e3 e17 e4 e5 e6 e7 e8 e9 e10 e11 e12 e13 e14 e15 e16 e18 e1 e21 e35 e23 e24 e25 e26 e28 e29 e30 e31 e33 e34 e36 e59 e60 e38 e39 e40 e41 e55 e101 e42 e43 e47 e51 e62 e66 e37 e61 e67 e68 e69 e70 e71 e72 e73 e63 e64 e65 b0_1 b0_13 b2_4 b2_5 b2_7 b3_5 b3_11 b3_16 b17_1 b17_3 h8 h12 h13 b21_5 b21_11 b21_16 b35_1 b35_3 h26 h30 h31 b38_4 b55_3 b55_4 b101_7 b43_4 b47_4 b51_4 h68 h69 h65 hW2, fun r nw l' hw => ?_⟩
  obtain ⟨n_y0_1, n_y0_13, n_y1_1, n_y1_2, n_y1_4, n_y1_5, n_y1_6, n_y1_7, n_y1_8, n_y1_9, n_y1_10, n_w1_11, n_y2_5, n_y2_11, n_y2_15, n_y2_16, n_y3_1, n_y3_2, n_y3_3, n_d4, n_d5, n_d6, n_d7, n_d8, n_d9, n_d10, n_d11, n_d12, n_d13, n_d14, n_d15, n_d16, n_d17, n_y19_5, n_y19_11, n_y19_15, n_y19_16, n_y20_1, n_y20_2, n_y20_3, n_d21, n_d22, n_d23, n_d24, n_d25, n_d26, n_d27, n_d28, n_d29, n_d30, n_d31, n_d33, n_y34_2, n_y34_4, n_d35, n_d36, n_d37, n_y38_3, n_y38_4, n_y39_7, n_y41_4, n_y42_4, n_y43_4, n_d46, n_d47, n_d48, n_d49, n_d50, n_d51, n_d52, n_d53, n_d54, n_d55, n_d56, n_d57, z0, z1, z2, z3, z4, z5, z6, z7, z8, z9, z10, z11, z12, z13, z14, z15, z16, z17, z18, z19, z20, z21, z22, z23, z24, z25, z26, z27, z28, z29, z30, z31, wr0, rfl⟩ := hw
  refine ⟨INV_mrg (lk := [(0, .inr (11, [.ref (ad 1), .int n_y0_1, .ref (ad 2), .ref (ad 21), .ref (ad 38), .ref (ad 42), .ref (ad 55), .ref (ad 59), .ref (ad 62), .ref (ad 74), .ref (ad 88), .ref (ad 101), .ref (ad 118), .int n_y0_13])), (2, .inr (6, [.ref (ad 3), .int n_y1_1, .int n_y1_2, .ref (ad 1), .int n_y1_4, .int n_y1_5, .int n_y1_6, .int n_y1_7, .int n_y1_8, .int n_y1_9, .int n_y1_10, .long n_w1_11])), (3, .inr (7, [.ref (ad 4), .ref (ad 5), .ref (ad 6), .ref (ad 7), .ref (ad 8), .int n_y2_5, .ref (ad 9), .ref (ad 10), .ref (ad 11), .ref (ad 12), .ref (ad 13), .int n_y2_11, .ref (ad 14), .ref (ad 15), .ref (ad 16), .int n_y2_15, .int n_y2_16, .ref (ad 17)])), (17, .inr (4, [.ref (ad 18), .int n_y3_1, .int n_y3_2, .int n_y3_3, .ref (ad 19)])), (4, .inl (cy 1, 5, .inr (.inl n_d4))), (5, .inl (cy 0, 5, .inl n_d5)), (6, .inl (cy 0, 5, .inl n_d6)), (7, .inl (cy 0, 5, .inl n_d7)), (8, .inl (cy 0, 5, .inl n_d8)), (9, .inl (cy 1, 4, .inr (.inl n_d9))), (10, .inl (cy 0, 4, .inl n_d10)), (11, .inl (cy 0, 4, .inl n_d11)), (12, .inl (cy 0, 20, .inl n_d12)), (13, .inl (cy 0, 4, .inl n_d13)), (14, .inl (cy 1, 12, .inr (.inl n_d14))), (15, .inl (cy 0, 12, .inl n_d15)), (16, .inl (cy 0, 12, .inl n_d16)), (18, .inl (cy 0, 300, .inl n_d17)), (21, .inr (7, [.ref (ad 22), .ref (ad 23), .ref (ad 24), .ref (ad 25), .ref (ad 26), .int n_y19_5, .ref (ad 27), .ref (ad 28), .ref (ad 29), .ref (ad 30), .ref (ad 31), .int n_y19_11, .ref (ad 32), .ref (ad 33), .ref (ad 34), .int n_y19_15, .int n_y19_16, .ref (ad 35)])), (35, .inr (4, [.ref (ad 36), .int n_y20_1, .int n_y20_2, .int n_y20_3, .ref (ad 37)])), (23, .inl (cy 0, 5, .inl n_d21)), (24, .inl (cy 0, 5, .inl n_d22)), (25, .inl (cy 0, 5, .inl n_d23)), (26, .inl (cy 0, 5, .inl n_d24)), (28, .inl (cy 0, 4, .inl n_d25)), (29, .inl (cy 0, 4, .inl n_d26)), (30, .inl (cy 0, 20, .inl n_d27)), (31, .inl (cy 0, 4, .inl n_d28)), (33, .inl (cy 0, 12, .inl n_d29)), (34, .inl (cy 0, 12, .inl n_d30)), (36, .inl (cy 0, 300, .inl n_d31)), (60, .inl (cy 0, 80, .inl n_d33)), (38, .inr (9, [.ref (ad 39), .ref (ad 40), .int n_y34_2, .ref (ad 41), .int n_y34_4])), (39, .inl (cy 0, 24, .inl n_d35)), (40, .inl (cy 0, 24, .inl n_d36)), (41, .inl (cy 0, 5, .inl n_d37)), (55, .inr (0, [.ref (ad 56), .ref (ad 57), .ref (ad 58), .int n_y38_3, .int n_y38_4])), (101, .inr (8, [.ref (ad 21), .ref (ad 110), .ref (ad 102), .ref (ad 103), .ref (ad 104), .ref (ad 105), .ref (ad 106), .int n_y39_7, .int x101_8, .ref (ad 107), .ref (ad 108), .int x101_11, .ref (ad 109), .int x101_13, .int x101_14, .int x101_15])), (43, .inr (9, [.ref (ad 44), .ref (ad 45), .int x43_2, .ref (ad 46), .int n_y41_4])), (47, .inr (9, [.ref (ad 48), .ref (ad 49), .int x47_2, .ref (ad 50), .int n_y42_4])), (51, .inr (9, [.ref (ad 52), .ref (ad 53), .int x51_2, .ref (ad 54), .int n_y43_4])), (37, .inl (cy 0, 30, .inl n_d46)), (61, .inl (cy 0, 80, .inl n_d47)), (67, .inl (cy 0, 5, .inl n_d48)), (68, .inl (cy 0, 20, .inl n_d49)), (69, .inl (cy 0, 4, .inl n_d50)), (70, .inl (cy 0, 5, .inl n_d51)), (71, .inl (cy 0, 5, .inl n_d52)), (72, .inl (cy 0, 5, .inl n_d53)), (73, .inl (cy 0, 5, .inl n_d54)), (63, .inl (cy 0, 96, .inl n_d55)), (64, .inl (cy 0, 96, .inl n_d56)), (65, .inl (cy 0, 24, .inl n_d57))]) hI ?_ ?_ ?_ ?_, (fo_mrg rfl (by rw [e101]; rfl)), (fo_mrg rfl rfl)⟩
  · rfl
  · exact (List.forall_mem_cons.mpr ⟨(show CP_0 cy ad _ from ⟨n_y0_1, n_y0_13, rfl, z0, z1⟩), (List.forall_mem_cons.mpr ⟨(show CP_2 cy ad _ from ⟨n_y1_1, n_y1_2, (.ref (ad 1)), n_y1_4, n_y1_5, n_y1_6, n_y1_7, n_y1_8, n_y1_9, n_y1_10, n_w1_11, rfl, z2, z3, z4, wr0⟩), (List.forall_mem_cons.mpr ⟨(show CP_3 cy ad _ from ⟨n_y2_5, n_y2_11, n_y2_15, n_y2_16, rfl, z5, z6, z7⟩), (List.forall_mem_cons.mpr ⟨(show CP_17 cy ad _ from ⟨n_y3_1, n_y3_2, n_y3_3, rfl, z8, z9⟩), (List.forall_mem_cons.mpr ⟨(show CP_4 cy ad _ from ⟨n_d4, rfl⟩), (List.forall_mem_cons.mpr ⟨(show CP_5 cy ad _ from ⟨n_d5, rfl⟩), (List.forall_mem_cons.mpr ⟨(show CP_6 cy ad _ from ⟨n_d6, rfl⟩), (List.forall_mem_cons.mpr ⟨(show CP_7 cy ad _ from ⟨n_d7, rfl⟩), (List.forall_mem_cons.mpr ⟨(show CP_8 cy ad _ from ⟨n_d8, rfl, z10⟩), (List.forall_mem_cons.mpr ⟨(show CP_9 cy ad _ from ⟨n_d9, rfl⟩), (List.forall_mem_cons.mpr ⟨(show CP_10 cy ad _ from ⟨n_d10, rfl⟩), (List.forall_mem_cons.mpr ⟨(show CP_11 cy ad _ from ⟨n_d11, rfl⟩), (List.forall_mem_cons.mpr ⟨(show CP_12 cy ad _ from ⟨n_d12, rfl, z11⟩), (List.forall_mem_cons.mpr ⟨(show CP_13 cy ad _ from ⟨n_d13, rfl, z12⟩), (List.forall_mem_cons.mpr ⟨(show CP_14 cy ad _ from ⟨n_d14, rfl⟩), (List.forall_mem_cons.mpr ⟨(show CP_15 cy ad _ from ⟨n_d15, rfl⟩), (List.forall_mem_cons.mpr ⟨(show CP_16 cy ad _ from ⟨n_d16, rfl⟩), (List.forall_mem_cons.mpr ⟨(show CP_18 cy ad _ from ⟨n_d17, rfl⟩), (List.forall_mem_cons.mpr ⟨(show CP_21 cy ad _ from ⟨n_y19_5, n_y19_11, n_y19_15, n_y19_16, rfl, z13, z14, z15⟩), (List.forall_mem_cons.mpr ⟨(show CP_35 cy ad _ from ⟨n_y20_1, n_y20_2, n_y20_3, rfl, z16, z17⟩), (List.forall_mem_cons.mpr ⟨(show CP_23 cy ad _ from ⟨n_d21, rfl⟩), (List.forall_mem_cons.mpr ⟨(show CP_24 cy ad _ from ⟨n_d22, rfl⟩), (List.forall_mem_cons.mpr ⟨(show CP_25 cy ad _ from ⟨n_d23, rfl⟩), (List.forall_mem_cons.mpr ⟨(show CP_26 cy ad _ from ⟨n_d24, rfl, z18⟩), (List.forall_mem_cons.mpr ⟨(show CP_28 cy ad _ from ⟨n_d25, rfl⟩), (List.forall_mem_cons.mpr ⟨(show CP_29 cy ad _ from ⟨n_d26, rfl⟩), (List.forall_mem_cons.mpr ⟨(show CP_30 cy ad _ from ⟨n_d27, rfl, z19⟩), (List.forall_mem_cons.mpr ⟨(show CP_31 cy ad _ from ⟨n_d28, rfl, z20⟩), (List.forall_mem_cons.mpr ⟨(show CP_33 cy ad _ from ⟨n_d29, rfl⟩), (List.forall_mem_cons.mpr ⟨(show CP_34 cy ad _ from ⟨n_d30, rfl⟩), (List.forall_mem_cons.mpr ⟨(show CP_36 cy ad _ from ⟨n_d31, rfl⟩), (List.forall_mem_cons.mpr ⟨(show CP_60 cy ad _ from ⟨n_d33, rfl⟩), (List.forall_mem_cons.mpr ⟨(show CP_38 cy ad _ from ⟨n_y34_2, n_y34_4, rfl, z21⟩), (List.forall_mem_cons.mpr ⟨(show CP_39 cy ad _ from ⟨n_d35, rfl⟩), (List.forall_mem_cons.mpr ⟨(show CP_40 cy ad _ from ⟨n_d36, rfl⟩), (List.forall_mem_cons.mpr ⟨(show CP_41 cy ad _ from ⟨n_d37, rfl⟩), (List.forall_mem_cons.mpr ⟨(show CP_55 cy ad _ from ⟨n_y38_3, n_y38_4, rfl, z22, z23⟩), (List.forall_mem_cons.mpr ⟨(show CP_101 cy ad _ from ⟨n_y39_7, x101_8, x101_11, x101_13, x101_14, x101_15, rfl, z24, b101_8⟩), (List.forall_mem_cons.mpr ⟨(show CP_43 cy ad _ from ⟨x43_2, n_y41_4, rfl, z25⟩), (List.forall_mem_cons.mpr ⟨(show CP_47 cy ad _ from ⟨x47_2, n_y42_4, rfl, z26⟩), (List.forall_mem_cons.mpr ⟨(show CP_51 cy ad _ from ⟨x51_2, n_y43_4, rfl, z27⟩), (List.forall_mem_cons.mpr ⟨(show CP_37 cy ad _ from ⟨n_d46, rfl⟩), (List.forall_mem_cons.mpr ⟨(show CP_61 cy ad _ from ⟨n_d47, rfl⟩), (List.forall_mem_cons.mpr ⟨(show CP_67 cy ad _ from ⟨n_d48, rfl⟩), (List.forall_mem_cons.mpr ⟨(show CP_68 cy ad _ from ⟨n_d49, rfl, z28⟩), (List.forall_mem_cons.mpr ⟨(show CP_69 cy ad _ from ⟨n_d50, rfl, z29⟩), (List.forall_mem_cons.mpr ⟨(show CP_70 cy ad _ from ⟨n_d51, rfl⟩), (List.forall_mem_cons.mpr ⟨(show CP_71 cy ad _ from ⟨n_d52, rfl⟩), (List.forall_mem_cons.mpr ⟨(show CP_72 cy ad _ from ⟨n_d53, rfl⟩), (List.forall_mem_cons.mpr ⟨(show CP_73 cy ad _ from ⟨n_d54, rfl⟩), (List.forall_mem_cons.mpr ⟨(show CP_63 cy ad _ from ⟨n_d55, rfl⟩), (List.forall_mem_cons.mpr ⟨(show CP_64 cy ad _ from ⟨n_d56, rfl⟩), (List.forall_mem_cons.mpr ⟨(show CP_65 cy ad _ from ⟨n_d57, rfl, z30⟩), (fun _ h => absurd h List.not_mem_nil)⟩)⟩)⟩)⟩)⟩)⟩)⟩)⟩)⟩)⟩)⟩)⟩)⟩)⟩)⟩)⟩)⟩)⟩)⟩)⟩)⟩)⟩)⟩)⟩)⟩)⟩)⟩)⟩)⟩)⟩)⟩)⟩)⟩)⟩)⟩)⟩)⟩)⟩)⟩)⟩)⟩)⟩)⟩)⟩)⟩)⟩)⟩)⟩)⟩)⟩)⟩)⟩)⟩)
  · exact zkh
  · exact zfh

set_option maxHeartbeats 8000000 in
set_option maxRecDepth 100000 in
theorem sm_X12_road {D : va_G} {cy : Nat → ClassId} {ad : Nat → Nat} {g : Nat → va_E} (l : Launch)  (hI : INV cy ad g) : ∃ post : Int32 → (Nat → Nat) → List (Nat × va_E) → Prop, cMi l yX12_road wq_k_X12_road { frames := 7, cells := 0, slots := 0, locals := 149 } 29 0 0 0 D cy (fun i => ad ([119, 138, 142, 136, 120, 121, 122, 123, 124, 125, 129, 126, 127, 128, 130, 131, 132, 133, 134, 135, 137, 139, 140, 141, 143, 144, 145, 147, 172].getD i 0)) (fun i => cup [] g ([119, 138, 142, 136, 120, 121, 122, 123, 124, 125, 129, 126, 127, 128, 130, 131, 132, 133, 134, 135, 137, 139, 140, 141, 143, 144, 145, 147, 172].getD i 0)) [.ref (ad ([119, 138, 142, 136, 120, 121, 122, 123, 124, 125, 129, 126, 127, 128, 130, 131, 132, 133, 134, 135, 137, 139, 140, 141, 143, 144, 145, 147, 172].getD 0 0))] post ∧ ∀ (r : Int32) (nw : Nat → Nat) (l' : List (Nat × va_E)), post r nw l' → INV cy ad (cup (cmrg 173 29 [119, 138, 142, 136, 120, 121, 122, 123, 124, 125, 129, 126, 127, 128, 130, 131, 132, 133, 134, 135, 137, 139, 140, 141, 143, 144, 145, 147, 172] l' []) g) ∧ TK g (cup (cmrg 173 29 [119, 138, 142, 136, 120, 121, 122, 123, 124, 125, 129, 126, 127, 128, 130, 131, 132, 133, 134, 135, 137, 139, 140, 141, 143, 144, 145, 147, 172] l' []) g) := by
  have c119 : CP_119 cy ad (g 119) := hI.1 119 (by decide)
  obtain ⟨x119_2, x119_3, x119_4, x119_5, x119_6, x119_7, x119_8, x119_9, w119_10, x119_36, x119_37, x119_38, x119_39, x119_40, x119_56, x119_57, x119_59, x119_60, x119_62, x119_70, x119_71, e119, b119_2, b119_3, b119_4, b119_6, b119_7, b119_8, b119_36, b119_37, b119_38, b119_39, b119_40, b119_56, b119_59, b119_60, b119_62, b119_70, b119_71, hU119⟩ := c119
  have c120 : CP_120 cy ad (g 120) := hI.1 120 (by decide)
  obtain ⟨f120, e120⟩ := c120
  have c121 : CP_121 cy ad (g 121) := hI.1 121 (by decide)
  obtain ⟨f121, e121⟩ := c121
  have c122 : CP_122 cy ad (g 122) := hI.1 122 (by decide)
  obtain ⟨f122, e122, h122⟩ := c122
  have c123 : CP_123 cy ad (g 123) := hI.1 123 (by decide)
  obtain ⟨f123, e123, h123⟩ := c123
  have c124 : CP_124 cy ad (g 124) := hI.1 124 (by decide)
  obtain ⟨f124, e124, h124⟩ := c124
  have c125 : CP_125 cy ad (g 125) := hI.1 125 (by decide)
  obtain ⟨f125, e125, h125⟩ := c125
  have c126 : CP_126 cy ad (g 126) := hI.1 126 (by decide)
  obtain ⟨f126, e126⟩ := c126
  have c127 : CP_127 cy ad (g 127) := hI.1 127 (by decide)
  obtain ⟨f127, e127⟩ := c127
  have c128 : CP_128 cy ad (g 128) := hI.1 128 (by decide)
  obtain ⟨f128, e128⟩ := c128
  have c129 : CP_129 cy ad (g 129) := hI.1 129 (by decide)
  obtain ⟨f129, e129⟩ := c129
  have c130 : CP_130 cy ad (g 130) := hI.1 130 (by decide)
  obtain ⟨f130, e130⟩ := c130
  have c131 : CP_131 cy ad (g 131) := hI.1 131 (by decide)
  obtain ⟨f131, e131⟩ := c131
  have c132 : CP_132 cy ad (g 132) := hI.1 132 (by decide)
  obtain ⟨f132, e132, h132⟩ := c132
  have c133 : CP_133 cy ad (g 133) := hI.1 133 (by decide)
  obtain ⟨f133, e133, h133⟩ := c133
  have c134 : CP_134 cy ad (g 134) := hI.1 134 (by decide)
  obtain ⟨f134, e134⟩ := c134
  have c135 : CP_135 cy ad (g 135) := hI.1 135 (by decide)
  obtain ⟨f135, e135⟩ := c135
  have c136 : CP_136 cy ad (g 136) := hI.1 136 (by decide)
  obtain ⟨f136, e136, h136⟩ := c136
  have c137 : CP_137 cy ad (g 137) := hI.1 137 (by decide)
  obtain ⟨f137, e137, h137⟩ := c137
  have c138 : CP_138 cy ad (g 138) := hI.1 138 (by decide)
  obtain ⟨f138, e138, h138⟩ := c138
  have c139 : CP_139 cy ad (g 139) := hI.1 139 (by decide)
  obtain ⟨f139, e139⟩ := c139
  have c140 : CP_140 cy ad (g 140) := hI.1 140 (by decide)
  obtain ⟨f140, e140⟩ := c140
  have c141 : CP_141 cy ad (g 141) := hI.1 141 (by decide)
  obtain ⟨f141, e141⟩ := c141
  have c142 : CP_142 cy ad (g 142) := hI.1 142 (by decide)
  obtain ⟨f142, e142⟩ := c142
  have c143 : CP_143 cy ad (g 143) := hI.1 143 (by decide)
  obtain ⟨f143, e143⟩ := c143
  have c144 : CP_144 cy ad (g 144) := hI.1 144 (by decide)
  obtain ⟨f144, e144⟩ := c144
  have c145 : CP_145 cy ad (g 145) := hI.1 145 (by decide)
  obtain ⟨f145, e145⟩ := c145
  have c147 : CP_147 cy ad (g 147) := hI.1 147 (by decide)
  obtain ⟨f147, e147, h147⟩ := c147
  have c172 : CP_172 cy ad (g 172) := hI.1 172 (by decide)
  obtain ⟨f172, e172, h172⟩ := c172
  have zfh := hI.2.2
  rw [e138, e142, e136, e119] at zfh
  have zkh := hI.2.1
  refine ⟨_, k_X12_road l D cy _ _ (c4 := f120) (c5 := f121) (x0_2 := x119_2) (x0_3 := x119_3) (x0_4 := x119_4) (x0_5 := x119_5) (x0_6 := x119_6) (x0_7 := x119_7) (x0_8 := x119_8) (x0_9 := x119_9) (w0x10 := w119_10) (c6 := f122) (c7 := f123) (c8 := f124) (c9 := f125) (c11 := f126) (c12 := f127) (c13 := f128) (c10 := f129) (c14 := f130) (c15 := f131) (c16 := f132) (c17 := f133) (c18 := f134) (c19 := f135) (c3 := f136) (c20 := f137) (c1 := f138) (c21 := f139) (c22 := f140) (c23 := f141) (c2 := f142) (c24 := f143) (c25 := f144) (c26 := f145) (u0_35 := .ref (ad 146)) (x0_36 := x119_36) (x0_37 := x119_37) (x0_38 := x119_38) (x0_39 := x119_39) (x0_40 := x119_40) (c27 := f147) (u0_42 := .ref (ad 148)) (u0_43 := .ref (ad 149)) (u0_44 := .ref (ad 150)) (u0_45 := .ref (ad 151)) (u0_46 := .ref (ad 152)) (u0_47 := .ref (ad 153)) (u0_48 := .ref (ad 154)) (u0_49 := .ref (ad 155)) (u0_50 := .ref (ad 156)) (u0_51 := .ref (ad 157)) (u0_52 := .ref (ad 158)) (u0_53 := .ref (ad 159)) (u0_54 := .ref (ad 160)) (u0_55 := .ref (ad 161)) (u0_56 := .int x119_56) (u0_57 := .int x119_57) (u0_58 := .ref (ad 162)) (x0_59 := x119_59) (x0_60 := x119_60) (u0_61 := .ref (ad 163)) (x0_62 := x119_62) (u0_63 := .ref (ad 164)) (u0_64 := .ref (ad 165)) (u0_65 := .ref (ad 166)) (u0_66 := .ref (ad 167)) (u0_67 := .ref (ad 168)) (u0_68 := .ref (ad 169)) (u0_69 := .ref (ad 170)) (x0_70 := x119_70) (u0_71 := .int x119_71) (u0_72 := .ref (ad 171)) (c28 := f172) e119 e138 e142 e136 e120 e121 e122 e123 e124 e125 e129 e126 e127 e128 e130 e131 e132 e133 e134 e135 e137 e139 e140 e141 e143 e144 e145 e147 e172 b119_2 b119_3 b119_4 b119_6 b119_7 b119_8 b119_36 b119_37 b119_38 b119_39 b119_40 b119_59 b119_60 b119_62 b119_70 h138 h136 h122 h123 h124 h125 h132 h133 h137 h147 h172 hU119 zfh, fun r nw l' hw => ?_⟩
  obtain ⟨n_y0_4, n_y0_5, n_y0_6, n_y0_7, n_y0_8, n_y0_9, n_w0_10, n_y0_36, n_y0_37, n_y0_38, n_y0_39, n_y0_40, n_y0_59, n_y0_60, n_y0_62, n_y0_70, n_d1, n_d2, n_d3, n_d5, n_d6, n_d7, n_d8, n_d9, n_d10, n_d11, n_d12, n_d13, n_d14, n_d15, n_d16, n_d17, n_d18, n_d19, n_d20, n_d21, n_d22, n_d23, n_d24, n_d25, n_d26, n_d27, n_d28, z0, z1, z2, z3, z4, z5, z6, z7, z8, z9, z10, z11, z12, z13, z14, z15, z16, z17, z18, z19, z20, z21, z22, z23, z24, wr0, gp_zb, rfl⟩ := hw
  refine ⟨INV_mrg (lk := [(119, .inr (12, [.ref (ad 120), .ref (ad 121), .int 0, .int x119_2, .int n_y0_4, .int n_y0_5, .int n_y0_6, .int n_y0_7, .int n_y0_8, .int n_y0_9, .long n_w0_10, .ref (ad 122), .ref (ad 123), .ref (ad 124), .ref (ad 125), .ref (ad 126), .ref (ad 127), .ref (ad 128), .ref (ad 129), .ref (ad 130), .ref (ad 131), .ref (ad 132), .ref (ad 133), .ref (ad 134), .ref (ad 135), .ref (ad 136), .ref (ad 137), .ref (ad 138), .ref (ad 139), .ref (ad 140), .ref (ad 141), .ref (ad 142), .ref (ad 143), .ref (ad 144), .ref (ad 145), .ref (ad 146), .int n_y0_36, .int n_y0_37, .int n_y0_38, .int n_y0_39, .int n_y0_40, .ref (ad 147), .ref (ad 148), .ref (ad 149), .ref (ad 150), .ref (ad 151), .ref (ad 152), .ref (ad 153), .ref (ad 154), .ref (ad 155), .ref (ad 156), .ref (ad 157), .ref (ad 158), .ref (ad 159), .ref (ad 160), .ref (ad 161), .int x119_56, .int x119_57, .ref (ad 162), .int n_y0_59, .int n_y0_60, .ref (ad 163), .int n_y0_62, .ref (ad 164), .ref (ad 165), .ref (ad 166), .ref (ad 167), .ref (ad 168), .ref (ad 169), .ref (ad 170), .int n_y0_70, .int x119_71, .ref (ad 171), .ref (ad 172)])), (138, .inl (cy 2, 2, .inl n_d1)), (142, .inl (cy 0, 980, .inl n_d2)), (136, .inl (cy 0, 2, .inl n_d3)), (121, .inl (cy 3, 1600, .inl n_d5)), (122, .inl (cy 0, 2, .inl n_d6)), (123, .inl (cy 0, 2, .inl n_d7)), (124, .inl (cy 0, 2, .inl n_d8)), (125, .inl (cy 0, 2, .inl n_d9)), (129, .inl (cy 0, 10, .inl n_d10)), (126, .inl (cy 0, 10, .inl n_d11)), (127, .inl (cy 0, 10, .inl n_d12)), (128, .inl (cy 0, 10, .inl n_d13)), (130, .inl (cy 0, 8, .inl n_d14)), (131, .inl (cy 0, 8, .inl n_d15)), (132, .inl (cy 0, 8, .inl n_d16)), (133, .inl (cy 0, 40, .inl n_d17)), (134, .inl (cy 0, 24, .inl n_d18)), (135, .inl (cy 0, 24, .inl n_d19)), (137, .inl (cy 2, 24, .inl n_d20)), (139, .inl (cy 1, 10, .inr (.inl n_d21))), (140, .inl (cy 1, 8, .inr (.inl n_d22))), (141, .inl (cy 1, 24, .inr (.inl n_d23))), (143, .inl (cy 0, 980, .inl n_d24)), (144, .inl (cy 0, 90, .inl n_d25)), (145, .inl (cy 0, 90, .inl n_d26)), (147, .inl (cy 0, 80, .inl n_d27)), (172, .inl (cy 2, 3, .inl n_d28))]) hI ?_ ?_ ?_ ?_, (fo_mrg rfl rfl), (fo_mrg rfl (by rw [e119]; rfl))⟩
  · rfl
  · exact (List.forall_mem_cons.mpr ⟨(show CP_119 cy ad _ from ⟨0, x119_2, n_y0_4, n_y0_5, n_y0_6, n_y0_7, n_y0_8, n_y0_9, n_w0_10, n_y0_36, n_y0_37, n_y0_38, n_y0_39, n_y0_40, x119_56, x119_57, n_y0_59, n_y0_60, n_y0_62, n_y0_70, x119_71, rfl, (zi_k rfl), (zi_w b119_2 (by decide)), z0, z1, z2, z3, z4, z5, z6, z7, z8, b119_56, z9, z10, z11, z12, b119_71, wr0⟩), (List.forall_mem_cons.mpr ⟨(show CP_138 cy ad _ from ⟨n_d1, rfl, z13⟩), (List.forall_mem_cons.mpr ⟨(show CP_142 cy ad _ from ⟨n_d2, rfl⟩), (List.forall_mem_cons.mpr ⟨(show CP_136 cy ad _ from ⟨n_d3, rfl, z14⟩), (List.forall_mem_cons.mpr ⟨(show CP_121 cy ad _ from ⟨n_d5, rfl⟩), (List.forall_mem_cons.mpr ⟨(show CP_122 cy ad _ from ⟨n_d6, rfl, z15⟩), (List.forall_mem_cons.mpr ⟨(show CP_123 cy ad _ from ⟨n_d7, rfl, z16⟩), (List.forall_mem_cons.mpr ⟨(show CP_124 cy ad _ from ⟨n_d8, rfl, z17⟩), (List.forall_mem_cons.mpr ⟨(show CP_125 cy ad _ from ⟨n_d9, rfl, z18⟩), (List.forall_mem_cons.mpr ⟨(show CP_129 cy ad _ from ⟨n_d10, rfl⟩), (List.forall_mem_cons.mpr ⟨(show CP_126 cy ad _ from ⟨n_d11, rfl⟩), (List.forall_mem_cons.mpr ⟨(show CP_127 cy ad _ from ⟨n_d12, rfl⟩), (List.forall_mem_cons.mpr ⟨(show CP_128 cy ad _ from ⟨n_d13, rfl⟩), (List.forall_mem_cons.mpr ⟨(show CP_130 cy ad _ from ⟨n_d14, rfl⟩), (List.forall_mem_cons.mpr ⟨(show CP_131 cy ad _ from ⟨n_d15, rfl⟩), (List.forall_mem_cons.mpr ⟨(show CP_132 cy ad _ from ⟨n_d16, rfl, z19⟩), (List.forall_mem_cons.mpr ⟨(show CP_133 cy ad _ from ⟨n_d17, rfl, z20⟩), (List.forall_mem_cons.mpr ⟨(show CP_134 cy ad _ from ⟨n_d18, rfl⟩), (List.forall_mem_cons.mpr ⟨(show CP_135 cy ad _ from ⟨n_d19, rfl⟩), (List.forall_mem_cons.mpr ⟨(show CP_137 cy ad _ from ⟨n_d20, rfl, z21⟩), (List.forall_mem_cons.mpr ⟨(show CP_139 cy ad _ from ⟨n_d21, rfl⟩), (List.forall_mem_cons.mpr ⟨(show CP_140 cy ad _ from ⟨n_d22, rfl⟩), (List.forall_mem_cons.mpr ⟨(show CP_141 cy ad _ from ⟨n_d23, rfl⟩), (List.forall_mem_cons.mpr ⟨(show CP_143 cy ad _ from ⟨n_d24, rfl⟩), (List.forall_mem_cons.mpr ⟨(show CP_144 cy ad _ from ⟨n_d25, rfl⟩), (List.forall_mem_cons.mpr ⟨(show CP_145 cy ad _ from ⟨n_d26, rfl⟩), (List.forall_mem_cons.mpr ⟨(show CP_147 cy ad _ from ⟨n_d27, rfl, z22⟩), (List.forall_mem_cons.mpr ⟨(show CP_172 cy ad _ from ⟨n_d28, rfl, z23⟩), (fun _ h => absurd h List.not_mem_nil)⟩)⟩)⟩)⟩)⟩)⟩)⟩)⟩)⟩)⟩)⟩)⟩)⟩)⟩)⟩)⟩)⟩)⟩)⟩)⟩)⟩)⟩)⟩)⟩)⟩)⟩)⟩)⟩)
  · exact zkh
  · exact gp_zb

set_option maxHeartbeats 8000000 in
set_option maxRecDepth 100000 in
theorem sm_X11_fault {D : va_G} {cy : Nat → ClassId} {ad : Nat → Nat} {g : Nat → va_E} (l : Launch) (what : Int32) (hI : INV cy ad g) : ∃ post : Int32 → (Nat → Nat) → List (Nat × va_E) → Prop, cMi l yX11_fault wq_k_X11_fault { frames := 0, cells := 0, slots := 0, locals := 0 } 2 0 0 0 D cy (fun i => ad ([0, 2].getD i 0)) (fun i => cup [] g ([0, 2].getD i 0)) [.ref (ad ([0, 2].getD 0 0)), .int what] post ∧ ∀ (r : Int32) (nw : Nat → Nat) (l' : List (Nat × va_E)), post r nw l' → INV cy ad (cup (cmrg 173 2 [0, 2] l' []) g) ∧ TK g (cup (cmrg 173 2 [0, 2] l' []) g) := by
  have c0 : CP_0 cy ad (g 0) := hI.1 0 (by decide)
  obtain ⟨x0_1, x0_13, e0, b0_1, b0_13⟩ := c0
  have c2 : CP_2 cy ad (g 2) := hI.1 2 (by decide)
  obtain ⟨x2_1, x2_2, u2_3, x2_4, x2_5, x2_6, x2_7, x2_8, x2_9, x2_10, w2_11, e2, b2_4, b2_5, b2_7, hW2⟩ := c2
  have zfh := hI.2.2
  have zkh := hI.2.1
  refine ⟨_, k_X11_fault l D cy _ _ (u0_0 := .ref (ad 1)) (u0_1 := .int x0_1) (u1_0 := .ref (ad 3)) (x1_1 := x2_1) (x1_2 := x2_2) (u1_3 := u2_3) (u1_4 := .int x2_4) (u1_5 := .int x2_5) (u1_6 := .int x2_6) (u1_7 := .int x2_7) (u1_8 := .int x2_8) (u1_9 := .int x2_9) (u1_10 := .int x2_10) (u1_11 := .long w2_11) (u0_3 := .ref (ad 21)) (u0_4 := .ref (ad 38)) (u0_5 := .ref (ad 42)) (u0_6 := .ref (ad 55)) (u0_7 := .ref (ad 59)) (u0_8 := .ref (ad 62)) (u0_9 := .ref (ad 74)) (u0_10 := .ref (ad 88)) (u0_11 := .ref (ad 101)) (u0_12 := .ref (ad 118)) (u0_13 := .int x0_13) e0 e2, fun r nw l' hw => ?_⟩
  obtain rfl := hw
  refine ⟨INV_mrg (lk := []) hI ?_ ?_ ?_ ?_, (fo_mrg rfl rfl), (fo_mrg rfl rfl)⟩
  · rfl
  · exact (fun _ h => absurd h List.not_mem_nil)
  · exact zkh
  · exact zfh

set_option maxHeartbeats 8000000 in
set_option maxRecDepth 100000 in
theorem sm_X12_fault {D : va_G} {cy : Nat → ClassId} {ad : Nat → Nat} {g : Nat → va_E} (l : Launch) (what : Int32) (hI : INV cy ad g) : ∃ post : Int32 → (Nat → Nat) → List (Nat × va_E) → Prop, cMi l yX12_fault wq_k_X12_fault { frames := 0, cells := 0, slots := 0, locals := 0 } 1 0 0 0 D cy (fun i => ad ([119].getD i 0)) (fun i => cup [] g ([119].getD i 0)) [.ref (ad ([119].getD 0 0)), .int what] post ∧ ∀ (r : Int32) (nw : Nat → Nat) (l' : List (Nat × va_E)), post r nw l' → INV cy ad (cup (cmrg 173 1 [119] l' []) g) ∧ TK g (cup (cmrg 173 1 [119] l' []) g) := by
  have c119 : CP_119 cy ad (g 119) := hI.1 119 (by decide)
  obtain ⟨x119_2, x119_3, x119_4, x119_5, x119_6, x119_7, x119_8, x119_9, w119_10, x119_36, x119_37, x119_38, x119_39, x119_40, x119_56, x119_57, x119_59, x119_60, x119_62, x119_70, x119_71, e119, b119_2, b119_3, b119_4, b119_6, b119_7, b119_8, b119_36, b119_37, b119_38, b119_39, b119_40, b119_56, b119_59, b119_60, b119_62, b119_70, b119_71, hU119⟩ := c119
  have zfh := hI.2.2
  rw [e119] at zfh
  have zkh := hI.2.1
  refine ⟨_, k_X12_fault l D cy _ _ (u0_0 := .ref (ad 120)) (u0_1 := .ref (ad 121)) (u0_2 := .int x119_2) (u0_3 := .int x119_3) (x0_4 := x119_4) (x0_5 := x119_5) (u0_6 := .int x119_6) (u0_7 := .int x119_7) (u0_8 := .int x119_8) (u0_9 := .int x119_9) (u0_10 := .long w119_10) (u0_11 := .ref (ad 122)) (u0_12 := .ref (ad 123)) (u0_13 := .ref (ad 124)) (u0_14 := .ref (ad 125)) (u0_15 := .ref (ad 126)) (u0_16 := .ref (ad 127)) (u0_17 := .ref (ad 128)) (u0_18 := .ref (ad 129)) (u0_19 := .ref (ad 130)) (u0_20 := .ref (ad 131)) (u0_21 := .ref (ad 132)) (u0_22 := .ref (ad 133)) (u0_23 := .ref (ad 134)) (u0_24 := .ref (ad 135)) (u0_25 := .ref (ad 136)) (u0_26 := .ref (ad 137)) (u0_27 := .ref (ad 138)) (u0_28 := .ref (ad 139)) (u0_29 := .ref (ad 140)) (u0_30 := .ref (ad 141)) (u0_31 := .ref (ad 142)) (u0_32 := .ref (ad 143)) (u0_33 := .ref (ad 144)) (u0_34 := .ref (ad 145)) (u0_35 := .ref (ad 146)) (u0_36 := .int x119_36) (u0_37 := .int x119_37) (u0_38 := .int x119_38) (u0_39 := .int x119_39) (u0_40 := .int x119_40) (u0_41 := .ref (ad 147)) (u0_42 := .ref (ad 148)) (u0_43 := .ref (ad 149)) (u0_44 := .ref (ad 150)) (u0_45 := .ref (ad 151)) (u0_46 := .ref (ad 152)) (u0_47 := .ref (ad 153)) (u0_48 := .ref (ad 154)) (u0_49 := .ref (ad 155)) (u0_50 := .ref (ad 156)) (u0_51 := .ref (ad 157)) (u0_52 := .ref (ad 158)) (u0_53 := .ref (ad 159)) (u0_54 := .ref (ad 160)) (u0_55 := .ref (ad 161)) (u0_56 := .int x119_56) (u0_57 := .int x119_57) (u0_58 := .ref (ad 162)) (u0_59 := .int x119_59) (u0_60 := .int x119_60) (u0_61 := .ref (ad 163)) (u0_62 := .int x119_62) (u0_63 := .ref (ad 164)) (u0_64 := .ref (ad 165)) (u0_65 := .ref (ad 166)) (u0_66 := .ref (ad 167)) (u0_67 := .ref (ad 168)) (u0_68 := .ref (ad 169)) (u0_69 := .ref (ad 170)) (u0_70 := .int x119_70) (u0_71 := .int x119_71) (u0_72 := .ref (ad 171)) (u0_73 := .ref (ad 172)) e119 b119_4, fun r nw l' hw => ?_⟩
  obtain rfl := hw
  refine ⟨INV_mrg (lk := []) hI ?_ ?_ ?_ ?_, (fo_mrg rfl rfl), (fo_mrg rfl rfl)⟩
  · rfl
  · exact (fun _ h => absurd h List.not_mem_nil)
  · exact zkh
  · exact zfh

set_option maxHeartbeats 8000000 in
set_option maxRecDepth 100000 in
theorem sm_X11_cart {D : va_G} {cy : Nat → ClassId} {ad : Nat → Nat} {g : Nat → va_E} (l : Launch) (cart what : Int32) (hI : INV cy ad g) : ∃ post : Int32 → (Nat → Nat) → List (Nat × va_E) → Prop, cMi l yX11_cart wq_k_X11_cart { frames := 2, cells := 0, slots := 0, locals := 43 } 7 0 0 0 D cy (fun i => ad ([0, 38, 39, 40, 21, 62, 64].getD i 0)) (fun i => cup [] g ([0, 38, 39, 40, 21, 62, 64].getD i 0)) [.ref (ad ([0, 38, 39, 40, 21, 62, 64].getD 0 0)), .int cart, .int what] post ∧ ∀ (r : Int32) (nw : Nat → Nat) (l' : List (Nat × va_E)), post r nw l' → INV cy ad (cup (cmrg 173 7 [0, 38, 39, 40, 21, 62, 64] l' []) g) ∧ TK g (cup (cmrg 173 7 [0, 38, 39, 40, 21, 62, 64] l' []) g) := by
  have c0 : CP_0 cy ad (g 0) := hI.1 0 (by decide)
  obtain ⟨x0_1, x0_13, e0, b0_1, b0_13⟩ := c0
  have c21 : CP_21 cy ad (g 21) := hI.1 21 (by decide)
  obtain ⟨x21_5, x21_11, x21_15, x21_16, e21, b21_5, b21_11, b21_16⟩ := c21
  have c38 : CP_38 cy ad (g 38) := hI.1 38 (by decide)
  obtain ⟨x38_2, x38_4, e38, b38_4⟩ := c38
  have c39 : CP_39 cy ad (g 39) := hI.1 39 (by decide)
  obtain ⟨f39, e39⟩ := c39
  have c40 : CP_40 cy ad (g 40) := hI.1 40 (by decide)
  obtain ⟨f40, e40⟩ := c40
  have c62 : CP_62 cy ad (g 62) := hI.1 62 (by decide)
  have e62 := c62
  have c64 : CP_64 cy ad (g 64) := hI.1 64 (by decide)
  obtain ⟨f64, e64⟩ := c64
  have zfh := hI.2.2
  have zkh := hI.2.1
  refine ⟨_, k_X11_cart l D cy _ _ (u0_0 := .ref (ad 1)) (u0_1 := .int x0_1) (u0_2 := .ref (ad 2)) (u4_0 := .ref (ad 22)) (u4_1 := .ref (ad 23)) (u4_2 := .ref (ad 24)) (u4_3 := .ref (ad 25)) (u4_4 := .ref (ad 26)) (u4_5 := .int x21_5) (u4_6 := .ref (ad 27)) (u4_7 := .ref (ad 28)) (u4_8 := .ref (ad 29)) (u4_9 := .ref (ad 30)) (u4_10 := .ref (ad 31)) (x4_11 := x21_11) (u4_12 := .ref (ad 32)) (u4_13 := .ref (ad 33)) (u4_14 := .ref (ad 34)) (x4_15 := x21_15) (u4_16 := .int x21_16) (u4_17 := .ref (ad 35)) (c2 := f39) (c3 := f40) (x1_2 := x38_2) (u1_3 := .ref (ad 41)) (x1_4 := x38_4) (u0_5 := .ref (ad 42)) (u0_6 := .ref (ad 55)) (u0_7 := .ref (ad 59)) (u5_1 := .ref (ad 38)) (u5_2 := .ref (ad 59)) (u5_3 := .ref (ad 66)) (u5_4 := .ref (ad 63)) (c6 := f64) (u5_6 := .ref (ad 65)) (u0_9 := .ref (ad 74)) (u0_10 := .ref (ad 88)) (u0_11 := .ref (ad 101)) (u0_12 := .ref (ad 118)) (u0_13 := .int x0_13) e0 e38 e39 e40 e21 e62 e64 b38_4 b21_11, fun r nw l' hw => ?_⟩
  obtain rfl := hw
  refine ⟨INV_mrg (lk := []) hI ?_ ?_ ?_ ?_, (fo_mrg rfl rfl), (fo_mrg rfl rfl)⟩
  · rfl
  · exact (fun _ h => absurd h List.not_mem_nil)
  · exact zkh
  · exact zfh

set_option maxHeartbeats 8000000 in
set_option maxRecDepth 100000 in
theorem sm_X12_cart {D : va_G} {cy : Nat → ClassId} {ad : Nat → Nat} {g : Nat → va_E} (l : Launch) (cx what : Int32) (hI : INV cy ad g) : ∃ post : Int32 → (Nat → Nat) → List (Nat × va_E) → Prop, cMi l yX12_cart wq_k_X12_cart { frames := 5, cells := 0, slots := 0, locals := 117 } 30 0 0 0 D cy (fun i => ad ([119, 147, 124, 137, 123, 127, 128, 130, 131, 132, 133, 136, 138, 142, 143, 146, 148, 149, 150, 151, 152, 153, 154, 155, 156, 157, 158, 159, 160, 161].getD i 0)) (fun i => cup [] g ([119, 147, 124, 137, 123, 127, 128, 130, 131, 132, 133, 136, 138, 142, 143, 146, 148, 149, 150, 151, 152, 153, 154, 155, 156, 157, 158, 159, 160, 161].getD i 0)) [.ref (ad ([119, 147, 124, 137, 123, 127, 128, 130, 131, 132, 133, 136, 138, 142, 143, 146, 148, 149, 150, 151, 152, 153, 154, 155, 156, 157, 158, 159, 160, 161].getD 0 0)), .int cx, .int what] post ∧ ∀ (r : Int32) (nw : Nat → Nat) (l' : List (Nat × va_E)), post r nw l' → INV cy ad (cup (cmrg 173 30 [119, 147, 124, 137, 123, 127, 128, 130, 131, 132, 133, 136, 138, 142, 143, 146, 148, 149, 150, 151, 152, 153, 154, 155, 156, 157, 158, 159, 160, 161] l' []) g) ∧ TK g (cup (cmrg 173 30 [119, 147, 124, 137, 123, 127, 128, 130, 131, 132, 133, 136, 138, 142, 143, 146, 148, 149, 150, 151, 152, 153, 154, 155, 156, 157, 158, 159, 160, 161] l' []) g) := by
  have c119 : CP_119 cy ad (g 119) := hI.1 119 (by decide)
  obtain ⟨x119_2, x119_3, x119_4, x119_5, x119_6, x119_7, x119_8, x119_9, w119_10, x119_36, x119_37, x119_38, x119_39, x119_40, x119_56, x119_57, x119_59, x119_60, x119_62, x119_70, x119_71, e119, b119_2, b119_3, b119_4, b119_6, b119_7, b119_8, b119_36, b119_37, b119_38, b119_39, b119_40, b119_56, b119_59, b119_60, b119_62, b119_70, b119_71, hU119⟩ := c119
  have c123 : CP_123 cy ad (g 123) := hI.1 123 (by decide)
  obtain ⟨f123, e123, h123⟩ := c123
  have c124 : CP_124 cy ad (g 124) := hI.1 124 (by decide)
  obtain ⟨f124, e124, h124⟩ := c124
  have c127 : CP_127 cy ad (g 127) := hI.1 127 (by decide)
  obtain ⟨f127, e127⟩ := c127
  have c128 : CP_128 cy ad (g 128) := hI.1 128 (by decide)
  obtain ⟨f128, e128⟩ := c128
  have c130 : CP_130 cy ad (g 130) := hI.1 130 (by decide)
  obtain ⟨f130, e130⟩ := c130
  have c131 : CP_131 cy ad (g 131) := hI.1 131 (by decide)
  obtain ⟨f131, e131⟩ := c131
  have c132 : CP_132 cy ad (g 132) := hI.1 132 (by decide)
  obtain ⟨f132, e132, h132⟩ := c132
  have c133 : CP_133 cy ad (g 133) := hI.1 133 (by decide)
  obtain ⟨f133, e133, h133⟩ := c133
  have c136 : CP_136 cy ad (g 136) := hI.1 136 (by decide)
  obtain ⟨f136, e136, h136⟩ := c136
  have c137 : CP_137 cy ad (g 137) := hI.1 137 (by decide)
  obtain ⟨f137, e137, h137⟩ := c137
  have c138 : CP_138 cy ad (g 138) := hI.1 138 (by decide)
  obtain ⟨f138, e138, h138⟩ := c138
  have c142 : CP_142 cy ad (g 142) := hI.1 142 (by decide)
  obtain ⟨f142, e142⟩ := c142
  have c143 : CP_143 cy ad (g 143) := hI.1 143 (by decide)
  obtain ⟨f143, e143⟩ := c143
  have c146 : CP_146 cy ad (g 146) := hI.1 146 (by decide)
  obtain ⟨f146, e146⟩ := c146
  have c147 : CP_147 cy ad (g 147) := hI.1 147 (by decide)
  obtain ⟨f147, e147, h147⟩ := c147
  have c148 : CP_148 cy ad (g 148) := hI.1 148 (by decide)
  obtain ⟨f148, e148⟩ := c148
  have c149 : CP_149 cy ad (g 149) := hI.1 149 (by decide)
  obtain ⟨f149, e149⟩ := c149
  have c150 : CP_150 cy ad (g 150) := hI.1 150 (by decide)
  obtain ⟨f150, e150⟩ := c150
  have c151 : CP_151 cy ad (g 151) := hI.1 151 (by decide)
  obtain ⟨f151, e151, h151⟩ := c151
  have c152 : CP_152 cy ad (g 152) := hI.1 152 (by decide)
  obtain ⟨f152, e152, h152⟩ := c152
  have c153 : CP_153 cy ad (g 153) := hI.1 153 (by decide)
  obtain ⟨f153, e153, h153⟩ := c153
  have c154 : CP_154 cy ad (g 154) := hI.1 154 (by decide)
  obtain ⟨f154, e154⟩ := c154
  have c155 : CP_155 cy ad (g 155) := hI.1 155 (by decide)
  obtain ⟨f155, e155⟩ := c155
  have c156 : CP_156 cy ad (g 156) := hI.1 156 (by decide)
  obtain ⟨f156, e156⟩ := c156
  have c157 : CP_157 cy ad (g 157) := hI.1 157 (by decide)
  obtain ⟨f157, e157⟩ := c157
  have c158 : CP_158 cy ad (g 158) := hI.1 158 (by decide)
  obtain ⟨f158, e158⟩ := c158
  have c159 : CP_159 cy ad (g 159) := hI.1 159 (by decide)
  obtain ⟨f159, e159⟩ := c159
  have c160 : CP_160 cy ad (g 160) := hI.1 160 (by decide)
  obtain ⟨f160, e160, h160⟩ := c160
  have c161 : CP_161 cy ad (g 161) := hI.1 161 (by decide)
  obtain ⟨f161, e161, h161⟩ := c161
  have zfh := hI.2.2
  rw [e138, e142, e136, e119] at zfh
  have zkh := hI.2.1
  refine ⟨_, k_X12_cart l D cy _ _ (u0_0 := .ref (ad 120)) (u0_1 := .ref (ad 121)) (u0_2 := .int x119_2) (u0_3 := .int x119_3) (u0_4 := .int x119_4) (u0_5 := .int x119_5) (u0_6 := .int x119_6) (u0_7 := .int x119_7) (u0_8 := .int x119_8) (u0_9 := .int x119_9) (u0_10 := .long w119_10) (u0_11 := .ref (ad 122)) (c4 := f123) (c2 := f124) (u0_14 := .ref (ad 125)) (u0_15 := .ref (ad 126)) (c5 := f127) (c6 := f128) (u0_18 := .ref (ad 129)) (c7 := f130) (c8 := f131) (c9 := f132) (c10 := f133) (u0_23 := .ref (ad 134)) (u0_24 := .ref (ad 135)) (c11 := f136) (c3 := f137) (c12 := f138) (u0_28 := .ref (ad 139)) (u0_29 := .ref (ad 140)) (u0_30 := .ref (ad 141)) (c13 := f142) (c14 := f143) (u0_33 := .ref (ad 144)) (u0_34 := .ref (ad 145)) (c15 := f146) (x0_36 := x119_36) (u0_37 := .int x119_37) (u0_38 := .int x119_38) (u0_39 := .int x119_39) (u0_40 := .int x119_40) (c1 := f147) (c16 := f148) (c17 := f149) (c18 := f150) (c19 := f151) (c20 := f152) (c21 := f153) (c22 := f154) (c23 := f155) (c24 := f156) (c25 := f157) (c26 := f158) (c27 := f159) (c28 := f160) (c29 := f161) (x0_56 := x119_56) (x0_57 := x119_57) (u0_58 := .ref (ad 162)) (u0_59 := .int x119_59) (u0_60 := .int x119_60) (u0_61 := .ref (ad 163)) (u0_62 := .int x119_62) (u0_63 := .ref (ad 164)) (u0_64 := .ref (ad 165)) (u0_65 := .ref (ad 166)) (u0_66 := .ref (ad 167)) (u0_67 := .ref (ad 168)) (u0_68 := .ref (ad 169)) (u0_69 := .ref (ad 170)) (u0_70 := .int x119_70) (u0_71 := .int x119_71) (u0_72 := .ref (ad 171)) (u0_73 := .ref (ad 172)) e119 e147 e124 e137 e123 e127 e128 e130 e131 e132 e133 e136 e138 e142 e143 e146 e148 e149 e150 e151 e152 e153 e154 e155 e156 e157 e158 e159 e160 e161 b119_36 b119_56 h147 h124 h137 h123 h132 h133 h136 h138 h151 h152 h153 h160 h161 zfh, fun r nw l' hw => ?_⟩
  obtain ⟨n_y0_56, n_y0_57, n_d15, n_d16, n_d17, n_d18, n_d19, n_d20, n_d21, n_d22, n_d23, n_d24, n_d25, n_d26, n_d27, n_d28, n_d29, z0, z1, z2, z3, z4, z5, rfl⟩ := hw
  refine ⟨INV_mrg (lk := [(119, .inr (12, [.ref (ad 120), .ref (ad 121), .int x119_2, .int x119_3, .int x119_4, .int x119_5, .int x119_6, .int x119_7, .int x119_8, .int x119_9, .long w119_10, .ref (ad 122), .ref (ad 123), .ref (ad 124), .ref (ad 125), .ref (ad 126), .ref (ad 127), .ref (ad 128), .ref (ad 129), .ref (ad 130), .ref (ad 131), .ref (ad 132), .ref (ad 133), .ref (ad 134), .ref (ad 135), .ref (ad 136), .ref (ad 137), .ref (ad 138), .ref (ad 139), .ref (ad 140), .ref (ad 141), .ref (ad 142), .ref (ad 143), .ref (ad 144), .ref (ad 145), .ref (ad 146), .int x119_36, .int x119_37, .int x119_38, .int x119_39, .int x119_40, .ref (ad 147), .ref (ad 148), .ref (ad 149), .ref (ad 150), .ref (ad 151), .ref (ad 152), .ref (ad 153), .ref (ad 154), .ref (ad 155), .ref (ad 156), .ref (ad 157), .ref (ad 158), .ref (ad 159), .ref (ad 160), .ref (ad 161), .int n_y0_56, .int n_y0_57, .ref (ad 162), .int x119_59, .int x119_60, .ref (ad 163), .int x119_62, .ref (ad 164), .ref (ad 165), .ref (ad 166), .ref (ad 167), .ref (ad 168), .ref (ad 169), .ref (ad 170), .int x119_70, .int x119_71, .ref (ad 171), .ref (ad 172)])), (146, .inl (cy 0, 60, .inl n_d15)), (148, .inl (cy 0, 30, .inl n_d16)), (149, .inl (cy 0, 30, .inl n_d17)), (150, .inl (cy 0, 5, .inl n_d18)), (151, .inl (cy 0, 4, .inl n_d19)), (152, .inl (cy 0, 20, .inl n_d20)), (153, .inl (cy 0, 30, .inl n_d21)), (154, .inl (cy 0, 120, .inl n_d22)), (155, .inl (cy 0, 120, .inl n_d23)), (156, .inl (cy 0, 5, .inl n_d24)), (157, .inl (cy 0, 5, .inl n_d25)), (158, .inl (cy 0, 5, .inl n_d26)), (159, .inl (cy 0, 5, .inl n_d27)), (160, .inl (cy 2, 30, .inl n_d28)), (161, .inl (cy 2, 5, .inl n_d29))]) hI ?_ ?_ ?_ ?_, (fo_mrg rfl rfl), (fo_mrg rfl (by rw [e119]; rfl))⟩
  · rfl
  · exact (List.forall_mem_cons.mpr ⟨(show CP_119 cy ad _ from ⟨x119_2, x119_3, x119_4, x119_5, x119_6, x119_7, x119_8, x119_9, w119_10, x119_36, x119_37, x119_38, x119_39, x119_40, n_y0_56, n_y0_57, x119_59, x119_60, x119_62, x119_70, x119_71, rfl, b119_2, b119_3, b119_4, b119_6, b119_7, b119_8, b119_36, b119_37, b119_38, b119_39, b119_40, z0, b119_59, b119_60, b119_62, b119_70, b119_71, hU119⟩), (List.forall_mem_cons.mpr ⟨(show CP_146 cy ad _ from ⟨n_d15, rfl⟩), (List.forall_mem_cons.mpr ⟨(show CP_148 cy ad _ from ⟨n_d16, rfl⟩), (List.forall_mem_cons.mpr ⟨(show CP_149 cy ad _ from ⟨n_d17, rfl⟩), (List.forall_mem_cons.mpr ⟨(show CP_150 cy ad _ from ⟨n_d18, rfl⟩), (List.forall_mem_cons.mpr ⟨(show CP_151 cy ad _ from ⟨n_d19, rfl, z1⟩), (List.forall_mem_cons.mpr ⟨(show CP_152 cy ad _ from ⟨n_d20, rfl, z2⟩), (List.forall_mem_cons.mpr ⟨(show CP_153 cy ad _ from ⟨n_d21, rfl, z3⟩), (List.forall_mem_cons.mpr ⟨(show CP_154 cy ad _ from ⟨n_d22, rfl⟩), (List.forall_mem_cons.mpr ⟨(show CP_155 cy ad _ from ⟨n_d23, rfl⟩), (List.forall_mem_cons.mpr ⟨(show CP_156 cy ad _ from ⟨n_d24, rfl⟩), (List.forall_mem_cons.mpr ⟨(show CP_157 cy ad _ from ⟨n_d25, rfl⟩), (List.forall_mem_cons.mpr ⟨(show CP_158 cy ad _ from ⟨n_d26, rfl⟩), (List.forall_mem_cons.mpr ⟨(show CP_159 cy ad _ from ⟨n_d27, rfl⟩), (List.forall_mem_cons.mpr ⟨(show CP_160 cy ad _ from ⟨n_d28, rfl, z4⟩), (List.forall_mem_cons.mpr ⟨(show CP_161 cy ad _ from ⟨n_d29, rfl, z5⟩), (fun _ h => absurd h List.not_mem_nil)⟩)⟩)⟩)⟩)⟩)⟩)⟩)⟩)⟩)⟩)⟩)⟩)⟩)⟩)⟩)⟩)
  · exact zkh
  · exact zfh

set_option maxHeartbeats 8000000 in
set_option maxRecDepth 100000 in
theorem sm_X11_counter {D : va_G} {cy : Nat → ClassId} {ad : Nat → Nat} {g : Nat → va_E} (l : Launch) (cart post : Int32) (hI : INV cy ad g) : ∃ post : Int32 → (Nat → Nat) → List (Nat × va_E) → Prop, cMi l yX11_counter wq_k_X11_counter { frames := 2, cells := 0, slots := 0, locals := 43 } 5 0 0 0 D cy (fun i => ad ([0, 38, 21, 62, 63].getD i 0)) (fun i => cup [] g ([0, 38, 21, 62, 63].getD i 0)) [.ref (ad ([0, 38, 21, 62, 63].getD 0 0)), .int cart, .int post] post ∧ ∀ (r : Int32) (nw : Nat → Nat) (l' : List (Nat × va_E)), post r nw l' → INV cy ad (cup (cmrg 173 5 [0, 38, 21, 62, 63] l' []) g) ∧ TK g (cup (cmrg 173 5 [0, 38, 21, 62, 63] l' []) g) := by
  have c0 : CP_0 cy ad (g 0) := hI.1 0 (by decide)
  obtain ⟨x0_1, x0_13, e0, b0_1, b0_13⟩ := c0
  have c21 : CP_21 cy ad (g 21) := hI.1 21 (by decide)
  obtain ⟨x21_5, x21_11, x21_15, x21_16, e21, b21_5, b21_11, b21_16⟩ := c21
  have c38 : CP_38 cy ad (g 38) := hI.1 38 (by decide)
  obtain ⟨x38_2, x38_4, e38, b38_4⟩ := c38
  have c62 : CP_62 cy ad (g 62) := hI.1 62 (by decide)
  have e62 := c62
  have c63 : CP_63 cy ad (g 63) := hI.1 63 (by decide)
  obtain ⟨f63, e63⟩ := c63
  have zfh := hI.2.2
  have zkh := hI.2.1
  refine ⟨_, k_X11_counter l D cy _ _ (u0_0 := .ref (ad 1)) (u0_1 := .int x0_1) (u0_2 := .ref (ad 2)) (u2_0 := .ref (ad 22)) (u2_1 := .ref (ad 23)) (u2_2 := .ref (ad 24)) (u2_3 := .ref (ad 25)) (u2_4 := .ref (ad 26)) (u2_5 := .int x21_5) (u2_6 := .ref (ad 27)) (u2_7 := .ref (ad 28)) (u2_8 := .ref (ad 29)) (u2_9 := .ref (ad 30)) (u2_10 := .ref (ad 31)) (x2_11 := x21_11) (u2_12 := .ref (ad 32)) (u2_13 := .ref (ad 33)) (u2_14 := .ref (ad 34)) (u2_15 := .int x21_15) (u2_16 := .int x21_16) (u2_17 := .ref (ad 35)) (u1_0 := .ref (ad 39)) (u1_1 := .ref (ad 40)) (u1_2 := .int x38_2) (u1_3 := .ref (ad 41)) (x1_4 := x38_4) (u0_5 := .ref (ad 42)) (u0_6 := .ref (ad 55)) (u0_7 := .ref (ad 59)) (u3_0 := .ref (ad 21)) (u3_1 := .ref (ad 38)) (u3_2 := .ref (ad 59)) (u3_3 := .ref (ad 66)) (c4 := f63) (u3_5 := .ref (ad 64)) (u3_6 := .ref (ad 65)) (u0_9 := .ref (ad 74)) (u0_10 := .ref (ad 88)) (u0_11 := .ref (ad 101)) (u0_12 := .ref (ad 118)) (u0_13 := .int x0_13) e0 e38 e21 e62 e63 b38_4 b21_11, fun r nw l' hw => ?_⟩
  obtain rfl := hw
  refine ⟨INV_mrg (lk := []) hI ?_ ?_ ?_ ?_, (fo_mrg rfl rfl), (fo_mrg rfl rfl)⟩
  · rfl
  · exact (fun _ h => absurd h List.not_mem_nil)
  · exact zkh
  · exact zfh

set_option maxHeartbeats 8000000 in
set_option maxRecDepth 100000 in
theorem sm_X12_counter {D : va_G} {cy : Nat → ClassId} {ad : Nat → Nat} {g : Nat → va_E} (l : Launch) (cx px : Int32) (hI : INV cy ad g) : ∃ post : Int32 → (Nat → Nat) → List (Nat × va_E) → Prop, cMi l yX12_counter wq_k_X12_counter { frames := 5, cells := 0, slots := 0, locals := 117 } 28 0 0 0 D cy (fun i => ad ([119, 147, 123, 127, 128, 130, 131, 132, 133, 136, 138, 142, 143, 146, 148, 149, 150, 151, 152, 153, 154, 155, 156, 157, 158, 159, 160, 161].getD i 0)) (fun i => cup [] g ([119, 147, 123, 127, 128, 130, 131, 132, 133, 136, 138, 142, 143, 146, 148, 149, 150, 151, 152, 153, 154, 155, 156, 157, 158, 159, 160, 161].getD i 0)) [.ref (ad ([119, 147, 123, 127, 128, 130, 131, 132, 133, 136, 138, 142, 143, 146, 148, 149, 150, 151, 152, 153, 154, 155, 156, 157, 158, 159, 160, 161].getD 0 0)), .int cx, .int px] post ∧ ∀ (r : Int32) (nw : Nat → Nat) (l' : List (Nat × va_E)), post r nw l' → INV cy ad (cup (cmrg 173 28 [119, 147, 123, 127, 128, 130, 131, 132, 133, 136, 138, 142, 143, 146, 148, 149, 150, 151, 152, 153, 154, 155, 156, 157, 158, 159, 160, 161] l' []) g) ∧ TK g (cup (cmrg 173 28 [119, 147, 123, 127, 128, 130, 131, 132, 133, 136, 138, 142, 143, 146, 148, 149, 150, 151, 152, 153, 154, 155, 156, 157, 158, 159, 160, 161] l' []) g) := by
  have c119 : CP_119 cy ad (g 119) := hI.1 119 (by decide)
  obtain ⟨x119_2, x119_3, x119_4, x119_5, x119_6, x119_7, x119_8, x119_9, w119_10, x119_36, x119_37, x119_38, x119_39, x119_40, x119_56, x119_57, x119_59, x119_60, x119_62, x119_70, x119_71, e119, b119_2, b119_3, b119_4, b119_6, b119_7, b119_8, b119_36, b119_37, b119_38, b119_39, b119_40, b119_56, b119_59, b119_60, b119_62, b119_70, b119_71, hU119⟩ := c119
  have c123 : CP_123 cy ad (g 123) := hI.1 123 (by decide)
  obtain ⟨f123, e123, h123⟩ := c123
  have c127 : CP_127 cy ad (g 127) := hI.1 127 (by decide)
  obtain ⟨f127, e127⟩ := c127
  have c128 : CP_128 cy ad (g 128) := hI.1 128 (by decide)
  obtain ⟨f128, e128⟩ := c128
  have c130 : CP_130 cy ad (g 130) := hI.1 130 (by decide)
  obtain ⟨f130, e130⟩ := c130
  have c131 : CP_131 cy ad (g 131) := hI.1 131 (by decide)
  obtain ⟨f131, e131⟩ := c131
  have c132 : CP_132 cy ad (g 132) := hI.1 132 (by decide)
  obtain ⟨f132, e132, h132⟩ := c132
  have c133 : CP_133 cy ad (g 133) := hI.1 133 (by decide)
  obtain ⟨f133, e133, h133⟩ := c133
  have c136 : CP_136 cy ad (g 136) := hI.1 136 (by decide)
  obtain ⟨f136, e136, h136⟩ := c136
  have c138 : CP_138 cy ad (g 138) := hI.1 138 (by decide)
  obtain ⟨f138, e138, h138⟩ := c138
  have c142 : CP_142 cy ad (g 142) := hI.1 142 (by decide)
  obtain ⟨f142, e142⟩ := c142
  have c143 : CP_143 cy ad (g 143) := hI.1 143 (by decide)
  obtain ⟨f143, e143⟩ := c143
  have c146 : CP_146 cy ad (g 146) := hI.1 146 (by decide)
  obtain ⟨f146, e146⟩ := c146
  have c147 : CP_147 cy ad (g 147) := hI.1 147 (by decide)
  obtain ⟨f147, e147, h147⟩ := c147
  have c148 : CP_148 cy ad (g 148) := hI.1 148 (by decide)
  obtain ⟨f148, e148⟩ := c148
  have c149 : CP_149 cy ad (g 149) := hI.1 149 (by decide)
  obtain ⟨f149, e149⟩ := c149
  have c150 : CP_150 cy ad (g 150) := hI.1 150 (by decide)
  obtain ⟨f150, e150⟩ := c150
  have c151 : CP_151 cy ad (g 151) := hI.1 151 (by decide)
  obtain ⟨f151, e151, h151⟩ := c151
  have c152 : CP_152 cy ad (g 152) := hI.1 152 (by decide)
  obtain ⟨f152, e152, h152⟩ := c152
  have c153 : CP_153 cy ad (g 153) := hI.1 153 (by decide)
  obtain ⟨f153, e153, h153⟩ := c153
  have c154 : CP_154 cy ad (g 154) := hI.1 154 (by decide)
  obtain ⟨f154, e154⟩ := c154
  have c155 : CP_155 cy ad (g 155) := hI.1 155 (by decide)
  obtain ⟨f155, e155⟩ := c155
  have c156 : CP_156 cy ad (g 156) := hI.1 156 (by decide)
  obtain ⟨f156, e156⟩ := c156
  have c157 : CP_157 cy ad (g 157) := hI.1 157 (by decide)
  obtain ⟨f157, e157⟩ := c157
  have c158 : CP_158 cy ad (g 158) := hI.1 158 (by decide)
  obtain ⟨f158, e158⟩ := c158
  have c159 : CP_159 cy ad (g 159) := hI.1 159 (by decide)
  obtain ⟨f159, e159⟩ := c159
  have c160 : CP_160 cy ad (g 160) := hI.1 160 (by decide)
  obtain ⟨f160, e160, h160⟩ := c160
  have c161 : CP_161 cy ad (g 161) := hI.1 161 (by decide)
  obtain ⟨f161, e161, h161⟩ := c161
  have zfh := hI.2.2
  rw [e138, e142, e136, e119] at zfh
  have zkh := hI.2.1
  refine ⟨_, k_X12_counter l D cy _ _ (u0_0 := .ref (ad 120)) (u0_1 := .ref (ad 121)) (u0_2 := .int x119_2) (u0_3 := .int x119_3) (u0_4 := .int x119_4) (u0_5 := .int x119_5) (u0_6 := .int x119_6) (u0_7 := .int x119_7) (u0_8 := .int x119_8) (u0_9 := .int x119_9) (u0_10 := .long w119_10) (u0_11 := .ref (ad 122)) (c2 := f123) (u0_13 := .ref (ad 124)) (u0_14 := .ref (ad 125)) (u0_15 := .ref (ad 126)) (c3 := f127) (c4 := f128) (u0_18 := .ref (ad 129)) (c5 := f130) (c6 := f131) (c7 := f132) (c8 := f133) (u0_23 := .ref (ad 134)) (u0_24 := .ref (ad 135)) (c9 := f136) (u0_26 := .ref (ad 137)) (c10 := f138) (u0_28 := .ref (ad 139)) (u0_29 := .ref (ad 140)) (u0_30 := .ref (ad 141)) (c11 := f142) (c12 := f143) (u0_33 := .ref (ad 144)) (u0_34 := .ref (ad 145)) (c13 := f146) (x0_36 := x119_36) (u0_37 := .int x119_37) (u0_38 := .int x119_38) (u0_39 := .int x119_39) (u0_40 := .int x119_40) (c1 := f147) (c14 := f148) (c15 := f149) (c16 := f150) (c17 := f151) (c18 := f152) (c19 := f153) (c20 := f154) (c21 := f155) (c22 := f156) (c23 := f157) (c24 := f158) (c25 := f159) (c26 := f160) (c27 := f161) (x0_56 := x119_56) (x0_57 := x119_57) (u0_58 := .ref (ad 162)) (u0_59 := .int x119_59) (u0_60 := .int x119_60) (u0_61 := .ref (ad 163)) (u0_62 := .int x119_62) (u0_63 := .ref (ad 164)) (u0_64 := .ref (ad 165)) (u0_65 := .ref (ad 166)) (u0_66 := .ref (ad 167)) (u0_67 := .ref (ad 168)) (u0_68 := .ref (ad 169)) (u0_69 := .ref (ad 170)) (u0_70 := .int x119_70) (u0_71 := .int x119_71) (u0_72 := .ref (ad 171)) (u0_73 := .ref (ad 172)) e119 e147 e123 e127 e128 e130 e131 e132 e133 e136 e138 e142 e143 e146 e148 e149 e150 e151 e152 e153 e154 e155 e156 e157 e158 e159 e160 e161 b119_36 b119_56 h147 h123 h132 h133 h136 h138 h151 h152 h153 h160 h161 zfh, fun r nw l' hw => ?_⟩
  obtain ⟨n_y0_56, n_y0_57, n_d13, n_d14, n_d15, n_d16, n_d17, n_d18, n_d19, n_d20, n_d21, n_d22, n_d23, n_d24, n_d25, n_d26, n_d27, z0, z1, z2, z3, z4, z5, rfl⟩ := hw
  refine ⟨INV_mrg (lk := [(119, .inr (12, [.ref (ad 120), .ref (ad 121), .int x119_2, .int x119_3, .int x119_4, .int x119_5, .int x119_6, .int x119_7, .int x119_8, .int x119_9, .long w119_10, .ref (ad 122), .ref (ad 123), .ref (ad 124), .ref (ad 125), .ref (ad 126), .ref (ad 127), .ref (ad 128), .ref (ad 129), .ref (ad 130), .ref (ad 131), .ref (ad 132), .ref (ad 133), .ref (ad 134), .ref (ad 135), .ref (ad 136), .ref (ad 137), .ref (ad 138), .ref (ad 139), .ref (ad 140), .ref (ad 141), .ref (ad 142), .ref (ad 143), .ref (ad 144), .ref (ad 145), .ref (ad 146), .int x119_36, .int x119_37, .int x119_38, .int x119_39, .int x119_40, .ref (ad 147), .ref (ad 148), .ref (ad 149), .ref (ad 150), .ref (ad 151), .ref (ad 152), .ref (ad 153), .ref (ad 154), .ref (ad 155), .ref (ad 156), .ref (ad 157), .ref (ad 158), .ref (ad 159), .ref (ad 160), .ref (ad 161), .int n_y0_56, .int n_y0_57, .ref (ad 162), .int x119_59, .int x119_60, .ref (ad 163), .int x119_62, .ref (ad 164), .ref (ad 165), .ref (ad 166), .ref (ad 167), .ref (ad 168), .ref (ad 169), .ref (ad 170), .int x119_70, .int x119_71, .ref (ad 171), .ref (ad 172)])), (146, .inl (cy 0, 60, .inl n_d13)), (148, .inl (cy 0, 30, .inl n_d14)), (149, .inl (cy 0, 30, .inl n_d15)), (150, .inl (cy 0, 5, .inl n_d16)), (151, .inl (cy 0, 4, .inl n_d17)), (152, .inl (cy 0, 20, .inl n_d18)), (153, .inl (cy 0, 30, .inl n_d19)), (154, .inl (cy 0, 120, .inl n_d20)), (155, .inl (cy 0, 120, .inl n_d21)), (156, .inl (cy 0, 5, .inl n_d22)), (157, .inl (cy 0, 5, .inl n_d23)), (158, .inl (cy 0, 5, .inl n_d24)), (159, .inl (cy 0, 5, .inl n_d25)), (160, .inl (cy 2, 30, .inl n_d26)), (161, .inl (cy 2, 5, .inl n_d27))]) hI ?_ ?_ ?_ ?_, (fo_mrg rfl rfl), (fo_mrg rfl (by rw [e119]; rfl))⟩
  · rfl
  · exact (List.forall_mem_cons.mpr ⟨(show CP_119 cy ad _ from ⟨x119_2, x119_3, x119_4, x119_5, x119_6, x119_7, x119_8, x119_9, w119_10, x119_36, x119_37, x119_38, x119_39, x119_40, n_y0_56, n_y0_57, x119_59, x119_60, x119_62, x119_70, x119_71, rfl, b119_2, b119_3, b119_4, b119_6, b119_7, b119_8, b119_36, b119_37, b119_38, b119_39, b119_40, z0, b119_59, b119_60, b119_62, b119_70, b119_71, hU119⟩), (List.forall_mem_cons.mpr ⟨(show CP_146 cy ad _ from ⟨n_d13, rfl⟩), (List.forall_mem_cons.mpr ⟨(show CP_148 cy ad _ from ⟨n_d14, rfl⟩), (List.forall_mem_cons.mpr ⟨(show CP_149 cy ad _ from ⟨n_d15, rfl⟩), (List.forall_mem_cons.mpr ⟨(show CP_150 cy ad _ from ⟨n_d16, rfl⟩), (List.forall_mem_cons.mpr ⟨(show CP_151 cy ad _ from ⟨n_d17, rfl, z1⟩), (List.forall_mem_cons.mpr ⟨(show CP_152 cy ad _ from ⟨n_d18, rfl, z2⟩), (List.forall_mem_cons.mpr ⟨(show CP_153 cy ad _ from ⟨n_d19, rfl, z3⟩), (List.forall_mem_cons.mpr ⟨(show CP_154 cy ad _ from ⟨n_d20, rfl⟩), (List.forall_mem_cons.mpr ⟨(show CP_155 cy ad _ from ⟨n_d21, rfl⟩), (List.forall_mem_cons.mpr ⟨(show CP_156 cy ad _ from ⟨n_d22, rfl⟩), (List.forall_mem_cons.mpr ⟨(show CP_157 cy ad _ from ⟨n_d23, rfl⟩), (List.forall_mem_cons.mpr ⟨(show CP_158 cy ad _ from ⟨n_d24, rfl⟩), (List.forall_mem_cons.mpr ⟨(show CP_159 cy ad _ from ⟨n_d25, rfl⟩), (List.forall_mem_cons.mpr ⟨(show CP_160 cy ad _ from ⟨n_d26, rfl, z4⟩), (List.forall_mem_cons.mpr ⟨(show CP_161 cy ad _ from ⟨n_d27, rfl, z5⟩), (fun _ h => absurd h List.not_mem_nil)⟩)⟩)⟩)⟩)⟩)⟩)⟩)⟩)⟩)⟩)⟩)⟩)⟩)⟩)⟩)⟩)
  · exact zkh
  · exact zfh

set_option maxHeartbeats 8000000 in
set_option maxRecDepth 100000 in
theorem sm_X11_pays {D : va_G} {cy : Nat → ClassId} {ad : Nat → Nat} {g : Nat → va_E} (l : Launch) (cart post : Int32) (hI : INV cy ad g) : ∃ post : Int32 → (Nat → Nat) → List (Nat × va_E) → Prop, cMi l yX11_pays wq_k_X11_pays { frames := 2, cells := 0, slots := 0, locals := 43 } 5 0 0 0 D cy (fun i => ad ([0, 38, 21, 62, 64].getD i 0)) (fun i => cup [] g ([0, 38, 21, 62, 64].getD i 0)) [.ref (ad ([0, 38, 21, 62, 64].getD 0 0)), .int cart, .int post] post ∧ ∀ (r : Int32) (nw : Nat → Nat) (l' : List (Nat × va_E)), post r nw l' → INV cy ad (cup (cmrg 173 5 [0, 38, 21, 62, 64] l' []) g) ∧ TK g (cup (cmrg 173 5 [0, 38, 21, 62, 64] l' []) g) := by
  have c0 : CP_0 cy ad (g 0) := hI.1 0 (by decide)
  obtain ⟨x0_1, x0_13, e0, b0_1, b0_13⟩ := c0
  have c21 : CP_21 cy ad (g 21) := hI.1 21 (by decide)
  obtain ⟨x21_5, x21_11, x21_15, x21_16, e21, b21_5, b21_11, b21_16⟩ := c21
  have c38 : CP_38 cy ad (g 38) := hI.1 38 (by decide)
  obtain ⟨x38_2, x38_4, e38, b38_4⟩ := c38
  have c62 : CP_62 cy ad (g 62) := hI.1 62 (by decide)
  have e62 := c62
  have c64 : CP_64 cy ad (g 64) := hI.1 64 (by decide)
  obtain ⟨f64, e64⟩ := c64
  have zfh := hI.2.2
  have zkh := hI.2.1
  refine ⟨_, k_X11_pays l D cy _ _ (u0_0 := .ref (ad 1)) (u0_1 := .int x0_1) (u0_2 := .ref (ad 2)) (u2_0 := .ref (ad 22)) (u2_1 := .ref (ad 23)) (u2_2 := .ref (ad 24)) (u2_3 := .ref (ad 25)) (u2_4 := .ref (ad 26)) (u2_5 := .int x21_5) (u2_6 := .ref (ad 27)) (u2_7 := .ref (ad 28)) (u2_8 := .ref (ad 29)) (u2_9 := .ref (ad 30)) (u2_10 := .ref (ad 31)) (x2_11 := x21_11) (u2_12 := .ref (ad 32)) (u2_13 := .ref (ad 33)) (u2_14 := .ref (ad 34)) (u2_15 := .int x21_15) (u2_16 := .int x21_16) (u2_17 := .ref (ad 35)) (u1_0 := .ref (ad 39)) (u1_1 := .ref (ad 40)) (u1_2 := .int x38_2) (u1_3 := .ref (ad 41)) (x1_4 := x38_4) (u0_5 := .ref (ad 42)) (u0_6 := .ref (ad 55)) (u0_7 := .ref (ad 59)) (u3_0 := .ref (ad 21)) (u3_1 := .ref (ad 38)) (u3_2 := .ref (ad 59)) (u3_3 := .ref (ad 66)) (u3_4 := .ref (ad 63)) (c4 := f64) (u3_6 := .ref (ad 65)) (u0_9 := .ref (ad 74)) (u0_10 := .ref (ad 88)) (u0_11 := .ref (ad 101)) (u0_12 := .ref (ad 118)) (u0_13 := .int x0_13) e0 e38 e21 e62 e64 b38_4 b21_11, fun r nw l' hw => ?_⟩
  obtain rfl := hw
  refine ⟨INV_mrg (lk := []) hI ?_ ?_ ?_ ?_, (fo_mrg rfl rfl), (fo_mrg rfl rfl)⟩
  · rfl
  · exact (fun _ h => absurd h List.not_mem_nil)
  · exact zkh
  · exact zfh

set_option maxHeartbeats 8000000 in
set_option maxRecDepth 100000 in
theorem sm_X12_pays {D : va_G} {cy : Nat → ClassId} {ad : Nat → Nat} {g : Nat → va_E} (l : Launch) (cx px : Int32) (hI : INV cy ad g) : ∃ post : Int32 → (Nat → Nat) → List (Nat × va_E) → Prop, cMi l yX12_pays wq_k_X12_pays { frames := 5, cells := 0, slots := 0, locals := 117 } 28 0 0 0 D cy (fun i => ad ([119, 147, 123, 127, 128, 130, 131, 132, 133, 136, 138, 142, 143, 146, 148, 149, 150, 151, 152, 153, 154, 155, 156, 157, 158, 159, 160, 161].getD i 0)) (fun i => cup [] g ([119, 147, 123, 127, 128, 130, 131, 132, 133, 136, 138, 142, 143, 146, 148, 149, 150, 151, 152, 153, 154, 155, 156, 157, 158, 159, 160, 161].getD i 0)) [.ref (ad ([119, 147, 123, 127, 128, 130, 131, 132, 133, 136, 138, 142, 143, 146, 148, 149, 150, 151, 152, 153, 154, 155, 156, 157, 158, 159, 160, 161].getD 0 0)), .int cx, .int px] post ∧ ∀ (r : Int32) (nw : Nat → Nat) (l' : List (Nat × va_E)), post r nw l' → INV cy ad (cup (cmrg 173 28 [119, 147, 123, 127, 128, 130, 131, 132, 133, 136, 138, 142, 143, 146, 148, 149, 150, 151, 152, 153, 154, 155, 156, 157, 158, 159, 160, 161] l' []) g) ∧ TK g (cup (cmrg 173 28 [119, 147, 123, 127, 128, 130, 131, 132, 133, 136, 138, 142, 143, 146, 148, 149, 150, 151, 152, 153, 154, 155, 156, 157, 158, 159, 160, 161] l' []) g) := by
  have c119 : CP_119 cy ad (g 119) := hI.1 119 (by decide)
  obtain ⟨x119_2, x119_3, x119_4, x119_5, x119_6, x119_7, x119_8, x119_9, w119_10, x119_36, x119_37, x119_38, x119_39, x119_40, x119_56, x119_57, x119_59, x119_60, x119_62, x119_70, x119_71, e119, b119_2, b119_3, b119_4, b119_6, b119_7, b119_8, b119_36, b119_37, b119_38, b119_39, b119_40, b119_56, b119_59, b119_60, b119_62, b119_70, b119_71, hU119⟩ := c119
  have c123 : CP_123 cy ad (g 123) := hI.1 123 (by decide)
  obtain ⟨f123, e123, h123⟩ := c123
  have c127 : CP_127 cy ad (g 127) := hI.1 127 (by decide)
  obtain ⟨f127, e127⟩ := c127
  have c128 : CP_128 cy ad (g 128) := hI.1 128 (by decide)
  obtain ⟨f128, e128⟩ := c128
  have c130 : CP_130 cy ad (g 130) := hI.1 130 (by decide)
  obtain ⟨f130, e130⟩ := c130
  have c131 : CP_131 cy ad (g 131) := hI.1 131 (by decide)
  obtain ⟨f131, e131⟩ := c131
  have c132 : CP_132 cy ad (g 132) := hI.1 132 (by decide)
  obtain ⟨f132, e132, h132⟩ := c132
  have c133 : CP_133 cy ad (g 133) := hI.1 133 (by decide)
  obtain ⟨f133, e133, h133⟩ := c133
  have c136 : CP_136 cy ad (g 136) := hI.1 136 (by decide)
  obtain ⟨f136, e136, h136⟩ := c136
  have c138 : CP_138 cy ad (g 138) := hI.1 138 (by decide)
  obtain ⟨f138, e138, h138⟩ := c138
  have c142 : CP_142 cy ad (g 142) := hI.1 142 (by decide)
  obtain ⟨f142, e142⟩ := c142
  have c143 : CP_143 cy ad (g 143) := hI.1 143 (by decide)
  obtain ⟨f143, e143⟩ := c143
  have c146 : CP_146 cy ad (g 146) := hI.1 146 (by decide)
  obtain ⟨f146, e146⟩ := c146
  have c147 : CP_147 cy ad (g 147) := hI.1 147 (by decide)
  obtain ⟨f147, e147, h147⟩ := c147
  have c148 : CP_148 cy ad (g 148) := hI.1 148 (by decide)
  obtain ⟨f148, e148⟩ := c148
  have c149 : CP_149 cy ad (g 149) := hI.1 149 (by decide)
  obtain ⟨f149, e149⟩ := c149
  have c150 : CP_150 cy ad (g 150) := hI.1 150 (by decide)
  obtain ⟨f150, e150⟩ := c150
  have c151 : CP_151 cy ad (g 151) := hI.1 151 (by decide)
  obtain ⟨f151, e151, h151⟩ := c151
  have c152 : CP_152 cy ad (g 152) := hI.1 152 (by decide)
  obtain ⟨f152, e152, h152⟩ := c152
  have c153 : CP_153 cy ad (g 153) := hI.1 153 (by decide)
  obtain ⟨f153, e153, h153⟩ := c153
  have c154 : CP_154 cy ad (g 154) := hI.1 154 (by decide)
  obtain ⟨f154, e154⟩ := c154
  have c155 : CP_155 cy ad (g 155) := hI.1 155 (by decide)
  obtain ⟨f155, e155⟩ := c155
  have c156 : CP_156 cy ad (g 156) := hI.1 156 (by decide)
  obtain ⟨f156, e156⟩ := c156
  have c157 : CP_157 cy ad (g 157) := hI.1 157 (by decide)
  obtain ⟨f157, e157⟩ := c157
  have c158 : CP_158 cy ad (g 158) := hI.1 158 (by decide)
  obtain ⟨f158, e158⟩ := c158
  have c159 : CP_159 cy ad (g 159) := hI.1 159 (by decide)
  obtain ⟨f159, e159⟩ := c159
  have c160 : CP_160 cy ad (g 160) := hI.1 160 (by decide)
  obtain ⟨f160, e160, h160⟩ := c160
  have c161 : CP_161 cy ad (g 161) := hI.1 161 (by decide)
  obtain ⟨f161, e161, h161⟩ := c161
  have zfh := hI.2.2
  rw [e138, e142, e136, e119] at zfh
  have zkh := hI.2.1
  refine ⟨_, k_X12_pays l D cy _ _ (u0_0 := .ref (ad 120)) (u0_1 := .ref (ad 121)) (u0_2 := .int x119_2) (u0_3 := .int x119_3) (u0_4 := .int x119_4) (u0_5 := .int x119_5) (u0_6 := .int x119_6) (u0_7 := .int x119_7) (u0_8 := .int x119_8) (u0_9 := .int x119_9) (u0_10 := .long w119_10) (u0_11 := .ref (ad 122)) (c2 := f123) (u0_13 := .ref (ad 124)) (u0_14 := .ref (ad 125)) (u0_15 := .ref (ad 126)) (c3 := f127) (c4 := f128) (u0_18 := .ref (ad 129)) (c5 := f130) (c6 := f131) (c7 := f132) (c8 := f133) (u0_23 := .ref (ad 134)) (u0_24 := .ref (ad 135)) (c9 := f136) (u0_26 := .ref (ad 137)) (c10 := f138) (u0_28 := .ref (ad 139)) (u0_29 := .ref (ad 140)) (u0_30 := .ref (ad 141)) (c11 := f142) (c12 := f143) (u0_33 := .ref (ad 144)) (u0_34 := .ref (ad 145)) (c13 := f146) (x0_36 := x119_36) (u0_37 := .int x119_37) (u0_38 := .int x119_38) (u0_39 := .int x119_39) (u0_40 := .int x119_40) (c1 := f147) (c14 := f148) (c15 := f149) (c16 := f150) (c17 := f151) (c18 := f152) (c19 := f153) (c20 := f154) (c21 := f155) (c22 := f156) (c23 := f157) (c24 := f158) (c25 := f159) (c26 := f160) (c27 := f161) (x0_56 := x119_56) (x0_57 := x119_57) (u0_58 := .ref (ad 162)) (u0_59 := .int x119_59) (u0_60 := .int x119_60) (u0_61 := .ref (ad 163)) (u0_62 := .int x119_62) (u0_63 := .ref (ad 164)) (u0_64 := .ref (ad 165)) (u0_65 := .ref (ad 166)) (u0_66 := .ref (ad 167)) (u0_67 := .ref (ad 168)) (u0_68 := .ref (ad 169)) (u0_69 := .ref (ad 170)) (u0_70 := .int x119_70) (u0_71 := .int x119_71) (u0_72 := .ref (ad 171)) (u0_73 := .ref (ad 172)) e119 e147 e123 e127 e128 e130 e131 e132 e133 e136 e138 e142 e143 e146 e148 e149 e150 e151 e152 e153 e154 e155 e156 e157 e158 e159 e160 e161 b119_36 b119_56 h147 h123 h132 h133 h136 h138 h151 h152 h153 h160 h161 zfh, fun r nw l' hw => ?_⟩
  obtain ⟨n_y0_56, n_y0_57, n_d13, n_d14, n_d15, n_d16, n_d17, n_d18, n_d19, n_d20, n_d21, n_d22, n_d23, n_d24, n_d25, n_d26, n_d27, z0, z1, z2, z3, z4, z5, rfl⟩ := hw
  refine ⟨INV_mrg (lk := [(119, .inr (12, [.ref (ad 120), .ref (ad 121), .int x119_2, .int x119_3, .int x119_4, .int x119_5, .int x119_6, .int x119_7, .int x119_8, .int x119_9, .long w119_10, .ref (ad 122), .ref (ad 123), .ref (ad 124), .ref (ad 125), .ref (ad 126), .ref (ad 127), .ref (ad 128), .ref (ad 129), .ref (ad 130), .ref (ad 131), .ref (ad 132), .ref (ad 133), .ref (ad 134), .ref (ad 135), .ref (ad 136), .ref (ad 137), .ref (ad 138), .ref (ad 139), .ref (ad 140), .ref (ad 141), .ref (ad 142), .ref (ad 143), .ref (ad 144), .ref (ad 145), .ref (ad 146), .int x119_36, .int x119_37, .int x119_38, .int x119_39, .int x119_40, .ref (ad 147), .ref (ad 148), .ref (ad 149), .ref (ad 150), .ref (ad 151), .ref (ad 152), .ref (ad 153), .ref (ad 154), .ref (ad 155), .ref (ad 156), .ref (ad 157), .ref (ad 158), .ref (ad 159), .ref (ad 160), .ref (ad 161), .int n_y0_56, .int n_y0_57, .ref (ad 162), .int x119_59, .int x119_60, .ref (ad 163), .int x119_62, .ref (ad 164), .ref (ad 165), .ref (ad 166), .ref (ad 167), .ref (ad 168), .ref (ad 169), .ref (ad 170), .int x119_70, .int x119_71, .ref (ad 171), .ref (ad 172)])), (146, .inl (cy 0, 60, .inl n_d13)), (148, .inl (cy 0, 30, .inl n_d14)), (149, .inl (cy 0, 30, .inl n_d15)), (150, .inl (cy 0, 5, .inl n_d16)), (151, .inl (cy 0, 4, .inl n_d17)), (152, .inl (cy 0, 20, .inl n_d18)), (153, .inl (cy 0, 30, .inl n_d19)), (154, .inl (cy 0, 120, .inl n_d20)), (155, .inl (cy 0, 120, .inl n_d21)), (156, .inl (cy 0, 5, .inl n_d22)), (157, .inl (cy 0, 5, .inl n_d23)), (158, .inl (cy 0, 5, .inl n_d24)), (159, .inl (cy 0, 5, .inl n_d25)), (160, .inl (cy 2, 30, .inl n_d26)), (161, .inl (cy 2, 5, .inl n_d27))]) hI ?_ ?_ ?_ ?_, (fo_mrg rfl rfl), (fo_mrg rfl (by rw [e119]; rfl))⟩
  · rfl
  · exact (List.forall_mem_cons.mpr ⟨(show CP_119 cy ad _ from ⟨x119_2, x119_3, x119_4, x119_5, x119_6, x119_7, x119_8, x119_9, w119_10, x119_36, x119_37, x119_38, x119_39, x119_40, n_y0_56, n_y0_57, x119_59, x119_60, x119_62, x119_70, x119_71, rfl, b119_2, b119_3, b119_4, b119_6, b119_7, b119_8, b119_36, b119_37, b119_38, b119_39, b119_40, z0, b119_59, b119_60, b119_62, b119_70, b119_71, hU119⟩), (List.forall_mem_cons.mpr ⟨(show CP_146 cy ad _ from ⟨n_d13, rfl⟩), (List.forall_mem_cons.mpr ⟨(show CP_148 cy ad _ from ⟨n_d14, rfl⟩), (List.forall_mem_cons.mpr ⟨(show CP_149 cy ad _ from ⟨n_d15, rfl⟩), (List.forall_mem_cons.mpr ⟨(show CP_150 cy ad _ from ⟨n_d16, rfl⟩), (List.forall_mem_cons.mpr ⟨(show CP_151 cy ad _ from ⟨n_d17, rfl, z1⟩), (List.forall_mem_cons.mpr ⟨(show CP_152 cy ad _ from ⟨n_d18, rfl, z2⟩), (List.forall_mem_cons.mpr ⟨(show CP_153 cy ad _ from ⟨n_d19, rfl, z3⟩), (List.forall_mem_cons.mpr ⟨(show CP_154 cy ad _ from ⟨n_d20, rfl⟩), (List.forall_mem_cons.mpr ⟨(show CP_155 cy ad _ from ⟨n_d21, rfl⟩), (List.forall_mem_cons.mpr ⟨(show CP_156 cy ad _ from ⟨n_d22, rfl⟩), (List.forall_mem_cons.mpr ⟨(show CP_157 cy ad _ from ⟨n_d23, rfl⟩), (List.forall_mem_cons.mpr ⟨(show CP_158 cy ad _ from ⟨n_d24, rfl⟩), (List.forall_mem_cons.mpr ⟨(show CP_159 cy ad _ from ⟨n_d25, rfl⟩), (List.forall_mem_cons.mpr ⟨(show CP_160 cy ad _ from ⟨n_d26, rfl, z4⟩), (List.forall_mem_cons.mpr ⟨(show CP_161 cy ad _ from ⟨n_d27, rfl, z5⟩), (fun _ h => absurd h List.not_mem_nil)⟩)⟩)⟩)⟩)⟩)⟩)⟩)⟩)⟩)⟩)⟩)⟩)⟩)⟩)⟩)⟩)
  · exact zkh
  · exact zfh

set_option maxHeartbeats 8000000 in
set_option maxRecDepth 100000 in
theorem sm_X11_bird {D : va_G} {cy : Nat → ClassId} {ad : Nat → Nat} {g : Nat → va_E} (l : Launch) (bird what : Int32) (hI : INV cy ad g) : ∃ post : Int32 → (Nat → Nat) → List (Nat × va_E) → Prop, cMi l yX11_bird wq_k_X11_bird { frames := 2, cells := 0, slots := 0, locals := 43 } 9 0 0 0 D cy (fun i => ad ([0, 21, 38, 41, 26, 62, 66, 70, 71].getD i 0)) (fun i => cup [] g ([0, 21, 38, 41, 26, 62, 66, 70, 71].getD i 0)) [.ref (ad ([0, 21, 38, 41, 26, 62, 66, 70, 71].getD 0 0)), .int bird, .int what] post ∧ ∀ (r : Int32) (nw : Nat → Nat) (l' : List (Nat × va_E)), post r nw l' → INV cy ad (cup (cmrg 173 9 [0, 21, 38, 41, 26, 62, 66, 70, 71] l' []) g) ∧ TK g (cup (cmrg 173 9 [0, 21, 38, 41, 26, 62, 66, 70, 71] l' []) g) := by
  have c0 : CP_0 cy ad (g 0) := hI.1 0 (by decide)
  obtain ⟨x0_1, x0_13, e0, b0_1, b0_13⟩ := c0
  have c21 : CP_21 cy ad (g 21) := hI.1 21 (by decide)
  obtain ⟨x21_5, x21_11, x21_15, x21_16, e21, b21_5, b21_11, b21_16⟩ := c21
  have c26 : CP_26 cy ad (g 26) := hI.1 26 (by decide)
  obtain ⟨f26, e26, h26⟩ := c26
  have c38 : CP_38 cy ad (g 38) := hI.1 38 (by decide)
  obtain ⟨x38_2, x38_4, e38, b38_4⟩ := c38
  have c41 : CP_41 cy ad (g 41) := hI.1 41 (by decide)
  obtain ⟨f41, e41⟩ := c41
  have c62 : CP_62 cy ad (g 62) := hI.1 62 (by decide)
  have e62 := c62
  have c66 : CP_66 cy ad (g 66) := hI.1 66 (by decide)
  have e66 := c66
  have c70 : CP_70 cy ad (g 70) := hI.1 70 (by decide)
  obtain ⟨f70, e70⟩ := c70
  have c71 : CP_71 cy ad (g 71) := hI.1 71 (by decide)
  obtain ⟨f71, e71⟩ := c71
  have zfh := hI.2.2
  have zkh := hI.2.1
  refine ⟨_, k_X11_bird l D cy _ _ (u0_0 := .ref (ad 1)) (u0_1 := .int x0_1) (u0_2 := .ref (ad 2)) (u1_0 := .ref (ad 22)) (u1_1 := .ref (ad 23)) (u1_2 := .ref (ad 24)) (u1_3 := .ref (ad 25)) (c4 := f26) (x1_5 := x21_5) (u1_6 := .ref (ad 27)) (u1_7 := .ref (ad 28)) (u1_8 := .ref (ad 29)) (u1_9 := .ref (ad 30)) (u1_10 := .ref (ad 31)) (u1_11 := .int x21_11) (u1_12 := .ref (ad 32)) (u1_13 := .ref (ad 33)) (u1_14 := .ref (ad 34)) (u1_15 := .int x21_15) (u1_16 := .int x21_16) (u1_17 := .ref (ad 35)) (u2_0 := .ref (ad 39)) (u2_1 := .ref (ad 40)) (u2_2 := .int x38_2) (c3 := f41) (u2_4 := .int x38_4) (u0_5 := .ref (ad 42)) (u0_6 := .ref (ad 55)) (u0_7 := .ref (ad 59)) (u5_0 := .ref (ad 21)) (u5_1 := .ref (ad 38)) (u5_2 := .ref (ad 59)) (u6_0 := .ref (ad 21)) (u6_1 := .ref (ad 67)) (u6_2 := .ref (ad 68)) (u6_3 := .ref (ad 69)) (c7 := f70) (c8 := f71) (u6_6 := .ref (ad 72)) (u6_7 := .ref (ad 73)) (u5_4 := .ref (ad 63)) (u5_5 := .ref (ad 64)) (u5_6 := .ref (ad 65)) (u0_9 := .ref (ad 74)) (u0_10 := .ref (ad 88)) (u0_11 := .ref (ad 101)) (u0_12 := .ref (ad 118)) (u0_13 := .int x0_13) e0 e21 e38 e41 e26 e62 e66 e70 e71 b21_5 h26, fun r nw l' hw => ?_⟩
  obtain rfl := hw
  refine ⟨INV_mrg (lk := []) hI ?_ ?_ ?_ ?_, (fo_mrg rfl rfl), (fo_mrg rfl rfl)⟩
  · rfl
  · exact (fun _ h => absurd h List.not_mem_nil)
  · exact zkh
  · exact zfh

set_option maxHeartbeats 8000000 in
set_option maxRecDepth 100000 in
theorem sm_X12_bird {D : va_G} {cy : Nat → ClassId} {ad : Nat → Nat} {g : Nat → va_E} (l : Launch) (bx what : Int32) (hI : INV cy ad g) : ∃ post : Int32 → (Nat → Nat) → List (Nat × va_E) → Prop, cMi l yX12_bird wq_k_X12_bird { frames := 5, cells := 0, slots := 0, locals := 117 } 30 0 0 0 D cy (fun i => ad ([119, 122, 123, 127, 128, 130, 131, 132, 133, 136, 138, 142, 143, 146, 147, 148, 149, 150, 151, 152, 153, 154, 155, 156, 157, 158, 159, 160, 161, 129].getD i 0)) (fun i => cup [] g ([119, 122, 123, 127, 128, 130, 131, 132, 133, 136, 138, 142, 143, 146, 147, 148, 149, 150, 151, 152, 153, 154, 155, 156, 157, 158, 159, 160, 161, 129].getD i 0)) [.ref (ad ([119, 122, 123, 127, 128, 130, 131, 132, 133, 136, 138, 142, 143, 146, 147, 148, 149, 150, 151, 152, 153, 154, 155, 156, 157, 158, 159, 160, 161, 129].getD 0 0)), .int bx, .int what] post ∧ ∀ (r : Int32) (nw : Nat → Nat) (l' : List (Nat × va_E)), post r nw l' → INV cy ad (cup (cmrg 173 30 [119, 122, 123, 127, 128, 130, 131, 132, 133, 136, 138, 142, 143, 146, 147, 148, 149, 150, 151, 152, 153, 154, 155, 156, 157, 158, 159, 160, 161, 129] l' []) g) ∧ TK g (cup (cmrg 173 30 [119, 122, 123, 127, 128, 130, 131, 132, 133, 136, 138, 142, 143, 146, 147, 148, 149, 150, 151, 152, 153, 154, 155, 156, 157, 158, 159, 160, 161, 129] l' []) g) := by
  have c119 : CP_119 cy ad (g 119) := hI.1 119 (by decide)
  obtain ⟨x119_2, x119_3, x119_4, x119_5, x119_6, x119_7, x119_8, x119_9, w119_10, x119_36, x119_37, x119_38, x119_39, x119_40, x119_56, x119_57, x119_59, x119_60, x119_62, x119_70, x119_71, e119, b119_2, b119_3, b119_4, b119_6, b119_7, b119_8, b119_36, b119_37, b119_38, b119_39, b119_40, b119_56, b119_59, b119_60, b119_62, b119_70, b119_71, hU119⟩ := c119
  have c122 : CP_122 cy ad (g 122) := hI.1 122 (by decide)
  obtain ⟨f122, e122, h122⟩ := c122
  have c123 : CP_123 cy ad (g 123) := hI.1 123 (by decide)
  obtain ⟨f123, e123, h123⟩ := c123
  have c127 : CP_127 cy ad (g 127) := hI.1 127 (by decide)
  obtain ⟨f127, e127⟩ := c127
  have c128 : CP_128 cy ad (g 128) := hI.1 128 (by decide)
  obtain ⟨f128, e128⟩ := c128
  have c129 : CP_129 cy ad (g 129) := hI.1 129 (by decide)
  obtain ⟨f129, e129⟩ := c129
  have c130 : CP_130 cy ad (g 130) := hI.1 130 (by decide)
  obtain ⟨f130, e130⟩ := c130
  have c131 : CP_131 cy ad (g 131) := hI.1 131 (by decide)
  obtain ⟨f131, e131⟩ := c131
  have c132 : CP_132 cy ad (g 132) := hI.1 132 (by decide)
  obtain ⟨f132, e132, h132⟩ := c132
  have c133 : CP_133 cy ad (g 133) := hI.1 133 (by decide)
  obtain ⟨f133, e133, h133⟩ := c133
  have c136 : CP_136 cy ad (g 136) := hI.1 136 (by decide)
  obtain ⟨f136, e136, h136⟩ := c136
  have c138 : CP_138 cy ad (g 138) := hI.1 138 (by decide)
  obtain ⟨f138, e138, h138⟩ := c138
  have c142 : CP_142 cy ad (g 142) := hI.1 142 (by decide)
  obtain ⟨f142, e142⟩ := c142
  have c143 : CP_143 cy ad (g 143) := hI.1 143 (by decide)
  obtain ⟨f143, e143⟩ := c143
  have c146 : CP_146 cy ad (g 146) := hI.1 146 (by decide)
  obtain ⟨f146, e146⟩ := c146
  have c147 : CP_147 cy ad (g 147) := hI.1 147 (by decide)
  obtain ⟨f147, e147, h147⟩ := c147
  have c148 : CP_148 cy ad (g 148) := hI.1 148 (by decide)
  obtain ⟨f148, e148⟩ := c148
  have c149 : CP_149 cy ad (g 149) := hI.1 149 (by decide)
  obtain ⟨f149, e149⟩ := c149
  have c150 : CP_150 cy ad (g 150) := hI.1 150 (by decide)
  obtain ⟨f150, e150⟩ := c150
  have c151 : CP_151 cy ad (g 151) := hI.1 151 (by decide)
  obtain ⟨f151, e151, h151⟩ := c151
  have c152 : CP_152 cy ad (g 152) := hI.1 152 (by decide)
  obtain ⟨f152, e152, h152⟩ := c152
  have c153 : CP_153 cy ad (g 153) := hI.1 153 (by decide)
  obtain ⟨f153, e153, h153⟩ := c153
  have c154 : CP_154 cy ad (g 154) := hI.1 154 (by decide)
  obtain ⟨f154, e154⟩ := c154
  have c155 : CP_155 cy ad (g 155) := hI.1 155 (by decide)
  obtain ⟨f155, e155⟩ := c155
  have c156 : CP_156 cy ad (g 156) := hI.1 156 (by decide)
  obtain ⟨f156, e156⟩ := c156
  have c157 : CP_157 cy ad (g 157) := hI.1 157 (by decide)
  obtain ⟨f157, e157⟩ := c157
  have c158 : CP_158 cy ad (g 158) := hI.1 158 (by decide)
  obtain ⟨f158, e158⟩ := c158
  have c159 : CP_159 cy ad (g 159) := hI.1 159 (by decide)
  obtain ⟨f159, e159⟩ := c159
  have c160 : CP_160 cy ad (g 160) := hI.1 160 (by decide)
  obtain ⟨f160, e160, h160⟩ := c160
  have c161 : CP_161 cy ad (g 161) := hI.1 161 (by decide)
  obtain ⟨f161, e161, h161⟩ := c161
  have zfh := hI.2.2
  rw [e138, e142, e136, e119] at zfh
  have zkh := hI.2.1
  refine ⟨_, k_X12_bird l D cy _ _ (u0_0 := .ref (ad 120)) (u0_1 := .ref (ad 121)) (u0_2 := .int x119_2) (u0_3 := .int x119_3) (u0_4 := .int x119_4) (u0_5 := .int x119_5) (u0_6 := .int x119_6) (u0_7 := .int x119_7) (u0_8 := .int x119_8) (u0_9 := .int x119_9) (u0_10 := .long w119_10) (c1 := f122) (c2 := f123) (u0_13 := .ref (ad 124)) (u0_14 := .ref (ad 125)) (u0_15 := .ref (ad 126)) (c3 := f127) (c4 := f128) (c29 := f129) (c5 := f130) (c6 := f131) (c7 := f132) (c8 := f133) (u0_23 := .ref (ad 134)) (u0_24 := .ref (ad 135)) (c9 := f136) (u0_26 := .ref (ad 137)) (c10 := f138) (u0_28 := .ref (ad 139)) (u0_29 := .ref (ad 140)) (u0_30 := .ref (ad 141)) (c11 := f142) (c12 := f143) (u0_33 := .ref (ad 144)) (u0_34 := .ref (ad 145)) (c13 := f146) (x0_36 := x119_36) (u0_37 := .int x119_37) (u0_38 := .int x119_38) (u0_39 := .int x119_39) (u0_40 := .int x119_40) (c14 := f147) (c15 := f148) (c16 := f149) (c17 := f150) (c18 := f151) (c19 := f152) (c20 := f153) (c21 := f154) (c22 := f155) (c23 := f156) (c24 := f157) (c25 := f158) (c26 := f159) (c27 := f160) (c28 := f161) (x0_56 := x119_56) (x0_57 := x119_57) (u0_58 := .ref (ad 162)) (u0_59 := .int x119_59) (u0_60 := .int x119_60) (u0_61 := .ref (ad 163)) (u0_62 := .int x119_62) (u0_63 := .ref (ad 164)) (u0_64 := .ref (ad 165)) (u0_65 := .ref (ad 166)) (u0_66 := .ref (ad 167)) (u0_67 := .ref (ad 168)) (u0_68 := .ref (ad 169)) (u0_69 := .ref (ad 170)) (u0_70 := .int x119_70) (u0_71 := .int x119_71) (u0_72 := .ref (ad 171)) (u0_73 := .ref (ad 172)) e119 e122 e123 e127 e128 e130 e131 e132 e133 e136 e138 e142 e143 e146 e147 e148 e149 e150 e151 e152 e153 e154 e155 e156 e157 e158 e159 e160 e161 e129 b119_36 b119_56 h122 h123 h132 h133 h136 h138 h147 h151 h152 h153 h160 h161 zfh, fun r nw l' hw => ?_⟩
  obtain ⟨n_y0_56, n_y0_57, n_d13, n_d15, n_d16, n_d17, n_d18, n_d19, n_d20, n_d21, n_d22, n_d23, n_d24, n_d25, n_d26, n_d27, n_d28, z0, z1, z2, z3, z4, z5, rfl⟩ := hw
  refine ⟨INV_mrg (lk := [(119, .inr (12, [.ref (ad 120), .ref (ad 121), .int x119_2, .int x119_3, .int x119_4, .int x119_5, .int x119_6, .int x119_7, .int x119_8, .int x119_9, .long w119_10, .ref (ad 122), .ref (ad 123), .ref (ad 124), .ref (ad 125), .ref (ad 126), .ref (ad 127), .ref (ad 128), .ref (ad 129), .ref (ad 130), .ref (ad 131), .ref (ad 132), .ref (ad 133), .ref (ad 134), .ref (ad 135), .ref (ad 136), .ref (ad 137), .ref (ad 138), .ref (ad 139), .ref (ad 140), .ref (ad 141), .ref (ad 142), .ref (ad 143), .ref (ad 144), .ref (ad 145), .ref (ad 146), .int x119_36, .int x119_37, .int x119_38, .int x119_39, .int x119_40, .ref (ad 147), .ref (ad 148), .ref (ad 149), .ref (ad 150), .ref (ad 151), .ref (ad 152), .ref (ad 153), .ref (ad 154), .ref (ad 155), .ref (ad 156), .ref (ad 157), .ref (ad 158), .ref (ad 159), .ref (ad 160), .ref (ad 161), .int n_y0_56, .int n_y0_57, .ref (ad 162), .int x119_59, .int x119_60, .ref (ad 163), .int x119_62, .ref (ad 164), .ref (ad 165), .ref (ad 166), .ref (ad 167), .ref (ad 168), .ref (ad 169), .ref (ad 170), .int x119_70, .int x119_71, .ref (ad 171), .ref (ad 172)])), (146, .inl (cy 0, 60, .inl n_d13)), (148, .inl (cy 0, 30, .inl n_d15)), (149, .inl (cy 0, 30, .inl n_d16)), (150, .inl (cy 0, 5, .inl n_d17)), (151, .inl (cy 0, 4, .inl n_d18)), (152, .inl (cy 0, 20, .inl n_d19)), (153, .inl (cy 0, 30, .inl n_d20)), (154, .inl (cy 0, 120, .inl n_d21)), (155, .inl (cy 0, 120, .inl n_d22)), (156, .inl (cy 0, 5, .inl n_d23)), (157, .inl (cy 0, 5, .inl n_d24)), (158, .inl (cy 0, 5, .inl n_d25)), (159, .inl (cy 0, 5, .inl n_d26)), (160, .inl (cy 2, 30, .inl n_d27)), (161, .inl (cy 2, 5, .inl n_d28))]) hI ?_ ?_ ?_ ?_, (fo_mrg rfl rfl), (fo_mrg rfl (by rw [e119]; rfl))⟩
  · rfl
  · exact (List.forall_mem_cons.mpr ⟨(show CP_119 cy ad _ from ⟨x119_2, x119_3, x119_4, x119_5, x119_6, x119_7, x119_8, x119_9, w119_10, x119_36, x119_37, x119_38, x119_39, x119_40, n_y0_56, n_y0_57, x119_59, x119_60, x119_62, x119_70, x119_71, rfl, b119_2, b119_3, b119_4, b119_6, b119_7, b119_8, b119_36, b119_37, b119_38, b119_39, b119_40, z0, b119_59, b119_60, b119_62, b119_70, b119_71, hU119⟩), (List.forall_mem_cons.mpr ⟨(show CP_146 cy ad _ from ⟨n_d13, rfl⟩), (List.forall_mem_cons.mpr ⟨(show CP_148 cy ad _ from ⟨n_d15, rfl⟩), (List.forall_mem_cons.mpr ⟨(show CP_149 cy ad _ from ⟨n_d16, rfl⟩), (List.forall_mem_cons.mpr ⟨(show CP_150 cy ad _ from ⟨n_d17, rfl⟩), (List.forall_mem_cons.mpr ⟨(show CP_151 cy ad _ from ⟨n_d18, rfl, z1⟩), (List.forall_mem_cons.mpr ⟨(show CP_152 cy ad _ from ⟨n_d19, rfl, z2⟩), (List.forall_mem_cons.mpr ⟨(show CP_153 cy ad _ from ⟨n_d20, rfl, z3⟩), (List.forall_mem_cons.mpr ⟨(show CP_154 cy ad _ from ⟨n_d21, rfl⟩), (List.forall_mem_cons.mpr ⟨(show CP_155 cy ad _ from ⟨n_d22, rfl⟩), (List.forall_mem_cons.mpr ⟨(show CP_156 cy ad _ from ⟨n_d23, rfl⟩), (List.forall_mem_cons.mpr ⟨(show CP_157 cy ad _ from ⟨n_d24, rfl⟩), (List.forall_mem_cons.mpr ⟨(show CP_158 cy ad _ from ⟨n_d25, rfl⟩), (List.forall_mem_cons.mpr ⟨(show CP_159 cy ad _ from ⟨n_d26, rfl⟩), (List.forall_mem_cons.mpr ⟨(show CP_160 cy ad _ from ⟨n_d27, rfl, z4⟩), (List.forall_mem_cons.mpr ⟨(show CP_161 cy ad _ from ⟨n_d28, rfl, z5⟩), (fun _ h => absurd h List.not_mem_nil)⟩)⟩)⟩)⟩)⟩)⟩)⟩)⟩)⟩)⟩)⟩)⟩)⟩)⟩)⟩)⟩)
  · exact zkh
  · exact zfh

set_option maxHeartbeats 8000000 in
set_option maxRecDepth 100000 in
theorem sm_X11_income {D : va_G} {cy : Nat → ClassId} {ad : Nat → Nat} {g : Nat → va_E} (l : Launch) (post : Int32) (hI : INV cy ad g) : ∃ post : Int32 → (Nat → Nat) → List (Nat × va_E) → Prop, cMi l yX11_income wq_k_X11_income { frames := 2, cells := 0, slots := 0, locals := 45 } 5 0 0 0 D cy (fun i => ad ([0, 21, 62, 38, 64].getD i 0)) (fun i => cup [] g ([0, 21, 62, 38, 64].getD i 0)) [.ref (ad ([0, 21, 62, 38, 64].getD 0 0)), .int post] post ∧ ∀ (r : Int32) (nw : Nat → Nat) (l' : List (Nat × va_E)), post r nw l' → INV cy ad (cup (cmrg 173 5 [0, 21, 62, 38, 64] l' []) g) ∧ TK g (cup (cmrg 173 5 [0, 21, 62, 38, 64] l' []) g) := by
  have c0 : CP_0 cy ad (g 0) := hI.1 0 (by decide)
  obtain ⟨x0_1, x0_13, e0, b0_1, b0_13⟩ := c0
  have c21 : CP_21 cy ad (g 21) := hI.1 21 (by decide)
  obtain ⟨x21_5, x21_11, x21_15, x21_16, e21, b21_5, b21_11, b21_16⟩ := c21
  have c38 : CP_38 cy ad (g 38) := hI.1 38 (by decide)
  obtain ⟨x38_2, x38_4, e38, b38_4⟩ := c38
  have c62 : CP_62 cy ad (g 62) := hI.1 62 (by decide)
  have e62 := c62
  have c64 : CP_64 cy ad (g 64) := hI.1 64 (by decide)
  obtain ⟨f64, e64⟩ := c64
  have zfh := hI.2.2
  have zkh := hI.2.1
  refine ⟨_, k_X11_income l D cy _ _ (u0_0 := .ref (ad 1)) (u0_1 := .int x0_1) (u0_2 := .ref (ad 2)) (u1_0 := .ref (ad 22)) (u1_1 := .ref (ad 23)) (u1_2 := .ref (ad 24)) (u1_3 := .ref (ad 25)) (u1_4 := .ref (ad 26)) (u1_5 := .int x21_5) (u1_6 := .ref (ad 27)) (u1_7 := .ref (ad 28)) (u1_8 := .ref (ad 29)) (u1_9 := .ref (ad 30)) (u1_10 := .ref (ad 31)) (x1_11 := x21_11) (u1_12 := .ref (ad 32)) (u1_13 := .ref (ad 33)) (u1_14 := .ref (ad 34)) (u1_15 := .int x21_15) (u1_16 := .int x21_16) (u1_17 := .ref (ad 35)) (u0_4 := .ref (ad 38)) (u0_5 := .ref (ad 42)) (u0_6 := .ref (ad 55)) (u0_7 := .ref (ad 59)) (u3_0 := .ref (ad 39)) (u3_1 := .ref (ad 40)) (u3_2 := .int x38_2) (u3_3 := .ref (ad 41)) (x3_4 := x38_4) (u2_2 := .ref (ad 59)) (u2_3 := .ref (ad 66)) (u2_4 := .ref (ad 63)) (c4 := f64) (u2_6 := .ref (ad 65)) (u0_9 := .ref (ad 74)) (u0_10 := .ref (ad 88)) (u0_11 := .ref (ad 101)) (u0_12 := .ref (ad 118)) (u0_13 := .int x0_13) e0 e21 e62 e38 e64 b21_11 b38_4, fun r nw l' hw => ?_⟩
  obtain rfl := hw
  refine ⟨INV_mrg (lk := []) hI ?_ ?_ ?_ ?_, (fo_mrg rfl rfl), (fo_mrg rfl rfl)⟩
  · rfl
  · exact (fun _ h => absurd h List.not_mem_nil)
  · exact zkh
  · exact zfh

set_option maxHeartbeats 8000000 in
set_option maxRecDepth 100000 in
theorem sm_X12_income {D : va_G} {cy : Nat → ClassId} {ad : Nat → Nat} {g : Nat → va_E} (l : Launch) (px : Int32) (hI : INV cy ad g) : ∃ post : Int32 → (Nat → Nat) → List (Nat × va_E) → Prop, cMi l yX12_income wq_k_X12_income { frames := 5, cells := 0, slots := 0, locals := 117 } 28 0 0 0 D cy (fun i => ad ([119, 123, 127, 128, 130, 131, 132, 133, 136, 138, 142, 143, 146, 147, 148, 149, 150, 151, 152, 153, 154, 155, 156, 157, 158, 159, 160, 161].getD i 0)) (fun i => cup [] g ([119, 123, 127, 128, 130, 131, 132, 133, 136, 138, 142, 143, 146, 147, 148, 149, 150, 151, 152, 153, 154, 155, 156, 157, 158, 159, 160, 161].getD i 0)) [.ref (ad ([119, 123, 127, 128, 130, 131, 132, 133, 136, 138, 142, 143, 146, 147, 148, 149, 150, 151, 152, 153, 154, 155, 156, 157, 158, 159, 160, 161].getD 0 0)), .int px] post ∧ ∀ (r : Int32) (nw : Nat → Nat) (l' : List (Nat × va_E)), post r nw l' → INV cy ad (cup (cmrg 173 28 [119, 123, 127, 128, 130, 131, 132, 133, 136, 138, 142, 143, 146, 147, 148, 149, 150, 151, 152, 153, 154, 155, 156, 157, 158, 159, 160, 161] l' []) g) ∧ TK g (cup (cmrg 173 28 [119, 123, 127, 128, 130, 131, 132, 133, 136, 138, 142, 143, 146, 147, 148, 149, 150, 151, 152, 153, 154, 155, 156, 157, 158, 159, 160, 161] l' []) g) := by
  have c119 : CP_119 cy ad (g 119) := hI.1 119 (by decide)
  obtain ⟨x119_2, x119_3, x119_4, x119_5, x119_6, x119_7, x119_8, x119_9, w119_10, x119_36, x119_37, x119_38, x119_39, x119_40, x119_56, x119_57, x119_59, x119_60, x119_62, x119_70, x119_71, e119, b119_2, b119_3, b119_4, b119_6, b119_7, b119_8, b119_36, b119_37, b119_38, b119_39, b119_40, b119_56, b119_59, b119_60, b119_62, b119_70, b119_71, hU119⟩ := c119
  have c123 : CP_123 cy ad (g 123) := hI.1 123 (by decide)
  obtain ⟨f123, e123, h123⟩ := c123
  have c127 : CP_127 cy ad (g 127) := hI.1 127 (by decide)
  obtain ⟨f127, e127⟩ := c127
  have c128 : CP_128 cy ad (g 128) := hI.1 128 (by decide)
  obtain ⟨f128, e128⟩ := c128
  have c130 : CP_130 cy ad (g 130) := hI.1 130 (by decide)
  obtain ⟨f130, e130⟩ := c130
  have c131 : CP_131 cy ad (g 131) := hI.1 131 (by decide)
  obtain ⟨f131, e131⟩ := c131
  have c132 : CP_132 cy ad (g 132) := hI.1 132 (by decide)
  obtain ⟨f132, e132, h132⟩ := c132
  have c133 : CP_133 cy ad (g 133) := hI.1 133 (by decide)
  obtain ⟨f133, e133, h133⟩ := c133
  have c136 : CP_136 cy ad (g 136) := hI.1 136 (by decide)
  obtain ⟨f136, e136, h136⟩ := c136
  have c138 : CP_138 cy ad (g 138) := hI.1 138 (by decide)
  obtain ⟨f138, e138, h138⟩ := c138
  have c142 : CP_142 cy ad (g 142) := hI.1 142 (by decide)
  obtain ⟨f142, e142⟩ := c142
  have c143 : CP_143 cy ad (g 143) := hI.1 143 (by decide)
  obtain ⟨f143, e143⟩ := c143
  have c146 : CP_146 cy ad (g 146) := hI.1 146 (by decide)
  obtain ⟨f146, e146⟩ := c146
  have c147 : CP_147 cy ad (g 147) := hI.1 147 (by decide)
  obtain ⟨f147, e147, h147⟩ := c147
  have c148 : CP_148 cy ad (g 148) := hI.1 148 (by decide)
  obtain ⟨f148, e148⟩ := c148
  have c149 : CP_149 cy ad (g 149) := hI.1 149 (by decide)
  obtain ⟨f149, e149⟩ := c149
  have c150 : CP_150 cy ad (g 150) := hI.1 150 (by decide)
  obtain ⟨f150, e150⟩ := c150
  have c151 : CP_151 cy ad (g 151) := hI.1 151 (by decide)
  obtain ⟨f151, e151, h151⟩ := c151
  have c152 : CP_152 cy ad (g 152) := hI.1 152 (by decide)
  obtain ⟨f152, e152, h152⟩ := c152
  have c153 : CP_153 cy ad (g 153) := hI.1 153 (by decide)
  obtain ⟨f153, e153, h153⟩ := c153
  have c154 : CP_154 cy ad (g 154) := hI.1 154 (by decide)
  obtain ⟨f154, e154⟩ := c154
  have c155 : CP_155 cy ad (g 155) := hI.1 155 (by decide)
  obtain ⟨f155, e155⟩ := c155
  have c156 : CP_156 cy ad (g 156) := hI.1 156 (by decide)
  obtain ⟨f156, e156⟩ := c156
  have c157 : CP_157 cy ad (g 157) := hI.1 157 (by decide)
  obtain ⟨f157, e157⟩ := c157
  have c158 : CP_158 cy ad (g 158) := hI.1 158 (by decide)
  obtain ⟨f158, e158⟩ := c158
  have c159 : CP_159 cy ad (g 159) := hI.1 159 (by decide)
  obtain ⟨f159, e159⟩ := c159
  have c160 : CP_160 cy ad (g 160) := hI.1 160 (by decide)
  obtain ⟨f160, e160, h160⟩ := c160
  have c161 : CP_161 cy ad (g 161) := hI.1 161 (by decide)
  obtain ⟨f161, e161, h161⟩ := c161
  have zfh := hI.2.2
  rw [e138, e142, e136, e119] at zfh
  have zkh := hI.2.1
  refine ⟨_, k_X12_income l D cy _ _ (u0_0 := .ref (ad 120)) (u0_1 := .ref (ad 121)) (u0_2 := .int x119_2) (u0_3 := .int x119_3) (u0_4 := .int x119_4) (u0_5 := .int x119_5) (u0_6 := .int x119_6) (u0_7 := .int x119_7) (u0_8 := .int x119_8) (u0_9 := .int x119_9) (u0_10 := .long w119_10) (u0_11 := .ref (ad 122)) (c1 := f123) (u0_13 := .ref (ad 124)) (u0_14 := .ref (ad 125)) (u0_15 := .ref (ad 126)) (c2 := f127) (c3 := f128) (u0_18 := .ref (ad 129)) (c4 := f130) (c5 := f131) (c6 := f132) (c7 := f133) (u0_23 := .ref (ad 134)) (u0_24 := .ref (ad 135)) (c8 := f136) (u0_26 := .ref (ad 137)) (c9 := f138) (u0_28 := .ref (ad 139)) (u0_29 := .ref (ad 140)) (u0_30 := .ref (ad 141)) (c10 := f142) (c11 := f143) (u0_33 := .ref (ad 144)) (u0_34 := .ref (ad 145)) (c12 := f146) (x0_36 := x119_36) (u0_37 := .int x119_37) (u0_38 := .int x119_38) (u0_39 := .int x119_39) (u0_40 := .int x119_40) (c13 := f147) (c14 := f148) (c15 := f149) (c16 := f150) (c17 := f151) (c18 := f152) (c19 := f153) (c20 := f154) (c21 := f155) (c22 := f156) (c23 := f157) (c24 := f158) (c25 := f159) (c26 := f160) (c27 := f161) (x0_56 := x119_56) (x0_57 := x119_57) (u0_58 := .ref (ad 162)) (u0_59 := .int x119_59) (u0_60 := .int x119_60) (u0_61 := .ref (ad 163)) (u0_62 := .int x119_62) (u0_63 := .ref (ad 164)) (u0_64 := .ref (ad 165)) (u0_65 := .ref (ad 166)) (u0_66 := .ref (ad 167)) (u0_67 := .ref (ad 168)) (u0_68 := .ref (ad 169)) (u0_69 := .ref (ad 170)) (u0_70 := .int x119_70) (u0_71 := .int x119_71) (u0_72 := .ref (ad 171)) (u0_73 := .ref (ad 172)) e119 e123 e127 e128 e130 e131 e132 e133 e136 e138 e142 e143 e146 e147 e148 e149 e150 e151 e152 e153 e154 e155 e156 e157 e158 e159 e160 e161 b119_36 b119_56 h123 h132 h133 h136 h138 h147 h151 h152 h153 h160 h161 zfh, fun r nw l' hw => ?_⟩
  obtain ⟨n_y0_56, n_y0_57, n_d12, n_d14, n_d15, n_d16, n_d17, n_d18, n_d19, n_d20, n_d21, n_d22, n_d23, n_d24, n_d25, n_d26, n_d27, z0, z1, z2, z3, z4, z5, rfl⟩ := hw
  refine ⟨INV_mrg (lk := [(119, .inr (12, [.ref (ad 120), .ref (ad 121), .int x119_2, .int x119_3, .int x119_4, .int x119_5, .int x119_6, .int x119_7, .int x119_8, .int x119_9, .long w119_10, .ref (ad 122), .ref (ad 123), .ref (ad 124), .ref (ad 125), .ref (ad 126), .ref (ad 127), .ref (ad 128), .ref (ad 129), .ref (ad 130), .ref (ad 131), .ref (ad 132), .ref (ad 133), .ref (ad 134), .ref (ad 135), .ref (ad 136), .ref (ad 137), .ref (ad 138), .ref (ad 139), .ref (ad 140), .ref (ad 141), .ref (ad 142), .ref (ad 143), .ref (ad 144), .ref (ad 145), .ref (ad 146), .int x119_36, .int x119_37, .int x119_38, .int x119_39, .int x119_40, .ref (ad 147), .ref (ad 148), .ref (ad 149), .ref (ad 150), .ref (ad 151), .ref (ad 152), .ref (ad 153), .ref (ad 154), .ref (ad 155), .ref (ad 156), .ref (ad 157), .ref (ad 158), .ref (ad 159), .ref (ad 160), .ref (ad 161), .int n_y0_56, .int n_y0_57, .ref (ad 162), .int x119_59, .int x119_60, .ref (ad 163), .int x119_62, .ref (ad 164), .ref (ad 165), .ref (ad 166), .ref (ad 167), .ref (ad 168), .ref (ad 169), .ref (ad 170), .int x119_70, .int x119_71, .ref (ad 171), .ref (ad 172)])), (146, .inl (cy 0, 60, .inl n_d12)), (148, .inl (cy 0, 30, .inl n_d14)), (149, .inl (cy 0, 30, .inl n_d15)), (150, .inl (cy 0, 5, .inl n_d16)), (151, .inl (cy 0, 4, .inl n_d17)), (152, .inl (cy 0, 20, .inl n_d18)), (153, .inl (cy 0, 30, .inl n_d19)), (154, .inl (cy 0, 120, .inl n_d20)), (155, .inl (cy 0, 120, .inl n_d21)), (156, .inl (cy 0, 5, .inl n_d22)), (157, .inl (cy 0, 5, .inl n_d23)), (158, .inl (cy 0, 5, .inl n_d24)), (159, .inl (cy 0, 5, .inl n_d25)), (160, .inl (cy 2, 30, .inl n_d26)), (161, .inl (cy 2, 5, .inl n_d27))]) hI ?_ ?_ ?_ ?_, (fo_mrg rfl rfl), (fo_mrg rfl (by rw [e119]; rfl))⟩
  · rfl
  · exact (List.forall_mem_cons.mpr ⟨(show CP_119 cy ad _ from ⟨x119_2, x119_3, x119_4, x119_5, x119_6, x119_7, x119_8, x119_9, w119_10, x119_36, x119_37, x119_38, x119_39, x119_40, n_y0_56, n_y0_57, x119_59, x119_60, x119_62, x119_70, x119_71, rfl, b119_2, b119_3, b119_4, b119_6, b119_7, b119_8, b119_36, b119_37, b119_38, b119_39, b119_40, z0, b119_59, b119_60, b119_62, b119_70, b119_71, hU119⟩), (List.forall_mem_cons.mpr ⟨(show CP_146 cy ad _ from ⟨n_d12, rfl⟩), (List.forall_mem_cons.mpr ⟨(show CP_148 cy ad _ from ⟨n_d14, rfl⟩), (List.forall_mem_cons.mpr ⟨(show CP_149 cy ad _ from ⟨n_d15, rfl⟩), (List.forall_mem_cons.mpr ⟨(show CP_150 cy ad _ from ⟨n_d16, rfl⟩), (List.forall_mem_cons.mpr ⟨(show CP_151 cy ad _ from ⟨n_d17, rfl, z1⟩), (List.forall_mem_cons.mpr ⟨(show CP_152 cy ad _ from ⟨n_d18, rfl, z2⟩), (List.forall_mem_cons.mpr ⟨(show CP_153 cy ad _ from ⟨n_d19, rfl, z3⟩), (List.forall_mem_cons.mpr ⟨(show CP_154 cy ad _ from ⟨n_d20, rfl⟩), (List.forall_mem_cons.mpr ⟨(show CP_155 cy ad _ from ⟨n_d21, rfl⟩), (List.forall_mem_cons.mpr ⟨(show CP_156 cy ad _ from ⟨n_d22, rfl⟩), (List.forall_mem_cons.mpr ⟨(show CP_157 cy ad _ from ⟨n_d23, rfl⟩), (List.forall_mem_cons.mpr ⟨(show CP_158 cy ad _ from ⟨n_d24, rfl⟩), (List.forall_mem_cons.mpr ⟨(show CP_159 cy ad _ from ⟨n_d25, rfl⟩), (List.forall_mem_cons.mpr ⟨(show CP_160 cy ad _ from ⟨n_d26, rfl, z4⟩), (List.forall_mem_cons.mpr ⟨(show CP_161 cy ad _ from ⟨n_d27, rfl, z5⟩), (fun _ h => absurd h List.not_mem_nil)⟩)⟩)⟩)⟩)⟩)⟩)⟩)⟩)⟩)⟩)⟩)⟩)⟩)⟩)⟩)⟩)
  · exact zkh
  · exact zfh

set_option maxHeartbeats 8000000 in
set_option maxRecDepth 100000 in
theorem sm_X11_come {D : va_G} {cy : Nat → ClassId} {ad : Nat → Nat} {g : Nat → va_E} (l : Launch) (minute sacks : Int32) (hI : INV cy ad g) : ∃ post : Int32 → (Nat → Nat) → List (Nat × va_E) → Prop, cMi l yX11_come wq_k_X11_come { frames := 5, cells := 0, slots := 0, locals := 129 } 34 0 0 0 D cy (fun i => ad ([0, 38, 55, 62, 21, 35, 59, 66, 39, 40, 41, 56, 57, 58, 24, 25, 28, 29, 30, 31, 36, 37, 60, 61, 67, 68, 69, 70, 71, 72, 73, 63, 64, 65].getD i 0)) (fun i => cup [] g ([0, 38, 55, 62, 21, 35, 59, 66, 39, 40, 41, 56, 57, 58, 24, 25, 28, 29, 30, 31, 36, 37, 60, 61, 67, 68, 69, 70, 71, 72, 73, 63, 64, 65].getD i 0)) [.ref (ad ([0, 38, 55, 62, 21, 35, 59, 66, 39, 40, 41, 56, 57, 58, 24, 25, 28, 29, 30, 31, 36, 37, 60, 61, 67, 68, 69, 70, 71, 72, 73, 63, 64, 65].getD 0 0)), .int minute, .int sacks] post ∧ ∀ (r : Int32) (nw : Nat → Nat) (l' : List (Nat × va_E)), post r nw l' → INV cy ad (cup (cmrg 173 34 [0, 38, 55, 62, 21, 35, 59, 66, 39, 40, 41, 56, 57, 58, 24, 25, 28, 29, 30, 31, 36, 37, 60, 61, 67, 68, 69, 70, 71, 72, 73, 63, 64, 65] l' []) g) ∧ TK g (cup (cmrg 173 34 [0, 38, 55, 62, 21, 35, 59, 66, 39, 40, 41, 56, 57, 58, 24, 25, 28, 29, 30, 31, 36, 37, 60, 61, 67, 68, 69, 70, 71, 72, 73, 63, 64, 65] l' []) g) := by
  have c0 : CP_0 cy ad (g 0) := hI.1 0 (by decide)
  obtain ⟨x0_1, x0_13, e0, b0_1, b0_13⟩ := c0
  have c21 : CP_21 cy ad (g 21) := hI.1 21 (by decide)
  obtain ⟨x21_5, x21_11, x21_15, x21_16, e21, b21_5, b21_11, b21_16⟩ := c21
  have c24 : CP_24 cy ad (g 24) := hI.1 24 (by decide)
  obtain ⟨f24, e24⟩ := c24
  have c25 : CP_25 cy ad (g 25) := hI.1 25 (by decide)
  obtain ⟨f25, e25⟩ := c25
  have c28 : CP_28 cy ad (g 28) := hI.1 28 (by decide)
  obtain ⟨f28, e28⟩ := c28
  have c29 : CP_29 cy ad (g 29) := hI.1 29 (by decide)
  obtain ⟨f29, e29⟩ := c29
  have c30 : CP_30 cy ad (g 30) := hI.1 30 (by decide)
  obtain ⟨f30, e30, h30⟩ := c30
  have c31 : CP_31 cy ad (g 31) := hI.1 31 (by decide)
  obtain ⟨f31, e31, h31⟩ := c31
  have c35 : CP_35 cy ad (g 35) := hI.1 35 (by decide)
  obtain ⟨x35_1, x35_2, x35_3, e35, b35_1, b35_3⟩ := c35
  have c36 : CP_36 cy ad (g 36) := hI.1 36 (by decide)
  obtain ⟨f36, e36⟩ := c36
  have c37 : CP_37 cy ad (g 37) := hI.1 37 (by decide)
  obtain ⟨f37, e37⟩ := c37
  have c38 : CP_38 cy ad (g 38) := hI.1 38 (by decide)
  obtain ⟨x38_2, x38_4, e38, b38_4⟩ := c38
  have c39 : CP_39 cy ad (g 39) := hI.1 39 (by decide)
  obtain ⟨f39, e39⟩ := c39
  have c40 : CP_40 cy ad (g 40) := hI.1 40 (by decide)
  obtain ⟨f40, e40⟩ := c40
  have c41 : CP_41 cy ad (g 41) := hI.1 41 (by decide)
  obtain ⟨f41, e41⟩ := c41
  have c55 : CP_55 cy ad (g 55) := hI.1 55 (by decide)
  obtain ⟨x55_3, x55_4, e55, b55_3, b55_4⟩ := c55
  have c56 : CP_56 cy ad (g 56) := hI.1 56 (by decide)
  obtain ⟨f56, e56⟩ := c56
  have c57 : CP_57 cy ad (g 57) := hI.1 57 (by decide)
  obtain ⟨f57, e57⟩ := c57
  have c58 : CP_58 cy ad (g 58) := hI.1 58 (by decide)
  obtain ⟨f58, e58⟩ := c58
  have c59 : CP_59 cy ad (g 59) := hI.1 59 (by decide)
  have e59 := c59
  have c60 : CP_60 cy ad (g 60) := hI.1 60 (by decide)
  obtain ⟨f60, e60⟩ := c60
  have c61 : CP_61 cy ad (g 61) := hI.1 61 (by decide)
  obtain ⟨f61, e61⟩ := c61
  have c62 : CP_62 cy ad (g 62) := hI.1 62 (by decide)
  have e62 := c62
  have c63 : CP_63 cy ad (g 63) := hI.1 63 (by decide)
  obtain ⟨f63, e63⟩ := c63
  have c64 : CP_64 cy ad (g 64) := hI.1 64 (by decide)
  obtain ⟨f64, e64⟩ := c64
  have c65 : CP_65 cy ad (g 65) := hI.1 65 (by decide)
  obtain ⟨f65, e65, h65⟩ := c65
  have c66 : CP_66 cy ad (g 66) := hI.1 66 (by decide)
  have e66 := c66
  have c67 : CP_67 cy ad (g 67) := hI.1 67 (by decide)
  obtain ⟨f67, e67⟩ := c67
  have c68 : CP_68 cy ad (g 68) := hI.1 68 (by decide)
  obtain ⟨f68, e68, h68⟩ := c68
  have c69 : CP_69 cy ad (g 69) := hI.1 69 (by decide)
  obtain ⟨f69, e69, h69⟩ := c69
  have c70 : CP_70 cy ad (g 70) := hI.1 70 (by decide)
  obtain ⟨f70, e70⟩ := c70
  have c71 : CP_71 cy ad (g 71) := hI.1 71 (by decide)
  obtain ⟨f71, e71⟩ := c71
  have c72 : CP_72 cy ad (g 72) := hI.1 72 (by decide)
  obtain ⟨f72, e72⟩ := c72
  have c73 : CP_73 cy ad (g 73) := hI.1 73 (by decide)
  obtain ⟨f73, e73⟩ := c73
  have zfh := hI.2.2
  have zkh := hI.2.1
  rw [e56, e57] at zkh
  refine ⟨_, k_X11_come l D cy _ _ (u0_0 := .ref (ad 1)) (u0_1 := .int x0_1) (u0_2 := .ref (ad 2)) (u0_3 := .ref (ad 21)) (c8 := f39) (c9 := f40) (x1_2 := x38_2) (c10 := f41) (x1_4 := x38_4) (u0_5 := .ref (ad 42)) (c11 := f56) (c12 := f57) (c13 := f58) (x2_3 := x55_3) (x2_4 := x55_4) (u0_7 := .ref (ad 59)) (u4_0 := .ref (ad 22)) (u4_1 := .ref (ad 23)) (c14 := f24) (c15 := f25) (u4_4 := .ref (ad 26)) (u4_5 := .int x21_5) (u4_6 := .ref (ad 27)) (c16 := f28) (c17 := f29) (c18 := f30) (c19 := f31) (x4_11 := x21_11) (u4_12 := .ref (ad 32)) (u4_13 := .ref (ad 33)) (u4_14 := .ref (ad 34)) (u4_15 := .int x21_15) (u4_16 := .int x21_16) (c20 := f36) (x5_1 := x35_1) (u5_2 := .int x35_2) (x5_3 := x35_3) (c21 := f37) (c22 := f60) (c23 := f61) (c24 := f67) (c25 := f68) (c26 := f69) (c27 := f70) (c28 := f71) (c29 := f72) (c30 := f73) (c31 := f63) (c32 := f64) (c33 := f65) (u0_9 := .ref (ad 74)) (u0_10 := .ref (ad 88)) (u0_11 := .ref (ad 101)) (u0_12 := .ref (ad 118)) (u0_13 := .int x0_13) e0 e38 e55 e62 e21 e35 e59 e66 e39 e40 e41 e56 e57 e58 e24 e25 e28 e29 e30 e31 e36 e37 e60 e61 e67 e68 e69 e70 e71 e72 e73 e63 e64 e65 b38_4 b55_3 b55_4 b21_11 b35_1 b35_3 h30 h31 h68 h69 h65 zkh, fun r nw l' hw => ?_⟩
  obtain ⟨n_y1_2, n_y1_4, n_y2_3, n_y2_4, n_d8, n_d9, n_d10, n_d11, n_d12, n_d13, n_d21, n_d22, n_d23, n_d24, n_d25, n_d26, n_d27, n_d28, n_d29, n_d30, n_d31, n_d32, n_d33, z0, z1, z2, z3, z4, z5, z6, pr, rfl⟩ := hw
  refine ⟨INV_mrg (lk := [(38, .inr (9, [.ref (ad 39), .ref (ad 40), .int n_y1_2, .ref (ad 41), .int n_y1_4])), (55, .inr (0, [.ref (ad 56), .ref (ad 57), .ref (ad 58), .int n_y2_3, .int n_y2_4])), (39, .inl (cy 0, 24, .inl n_d8)), (40, .inl (cy 0, 24, .inl n_d9)), (41, .inl (cy 0, 5, .inl n_d10)), (56, .inl (cy 0, 40, .inl n_d11)), (57, .inl (cy 0, 40, .inl n_d12)), (58, .inl (cy 0, 40, .inl n_d13)), (37, .inl (cy 0, 30, .inl n_d21)), (60, .inl (cy 0, 80, .inl n_d22)), (61, .inl (cy 0, 80, .inl n_d23)), (67, .inl (cy 0, 5, .inl n_d24)), (68, .inl (cy 0, 20, .inl n_d25)), (69, .inl (cy 0, 4, .inl n_d26)), (70, .inl (cy 0, 5, .inl n_d27)), (71, .inl (cy 0, 5, .inl n_d28)), (72, .inl (cy 0, 5, .inl n_d29)), (73, .inl (cy 0, 5, .inl n_d30)), (63, .inl (cy 0, 96, .inl n_d31)), (64, .inl (cy 0, 96, .inl n_d32)), (65, .inl (cy 0, 24, .inl n_d33))]) hI ?_ ?_ ?_ ?_, (fo_mrg rfl rfl), (fo_mrg rfl rfl)⟩
  · rfl
  · exact (List.forall_mem_cons.mpr ⟨(show CP_38 cy ad _ from ⟨n_y1_2, n_y1_4, rfl, z0⟩), (List.forall_mem_cons.mpr ⟨(show CP_55 cy ad _ from ⟨n_y2_3, n_y2_4, rfl, z1, z2⟩), (List.forall_mem_cons.mpr ⟨(show CP_39 cy ad _ from ⟨n_d8, rfl⟩), (List.forall_mem_cons.mpr ⟨(show CP_40 cy ad _ from ⟨n_d9, rfl⟩), (List.forall_mem_cons.mpr ⟨(show CP_41 cy ad _ from ⟨n_d10, rfl⟩), (List.forall_mem_cons.mpr ⟨(show CP_56 cy ad _ from ⟨n_d11, rfl⟩), (List.forall_mem_cons.mpr ⟨(show CP_57 cy ad _ from ⟨n_d12, rfl⟩), (List.forall_mem_cons.mpr ⟨(show CP_58 cy ad _ from ⟨n_d13, rfl⟩), (List.forall_mem_cons.mpr ⟨(show CP_37 cy ad _ from ⟨n_d21, rfl⟩), (List.forall_mem_cons.mpr ⟨(show CP_60 cy ad _ from ⟨n_d22, rfl⟩), (List.forall_mem_cons.mpr ⟨(show CP_61 cy ad _ from ⟨n_d23, rfl⟩), (List.forall_mem_cons.mpr ⟨(show CP_67 cy ad _ from ⟨n_d24, rfl⟩), (List.forall_mem_cons.mpr ⟨(show CP_68 cy ad _ from ⟨n_d25, rfl, z3⟩), (List.forall_mem_cons.mpr ⟨(show CP_69 cy ad _ from ⟨n_d26, rfl, z4⟩), (List.forall_mem_cons.mpr ⟨(show CP_70 cy ad _ from ⟨n_d27, rfl⟩), (List.forall_mem_cons.mpr ⟨(show CP_71 cy ad _ from ⟨n_d28, rfl⟩), (List.forall_mem_cons.mpr ⟨(show CP_72 cy ad _ from ⟨n_d29, rfl⟩), (List.forall_mem_cons.mpr ⟨(show CP_73 cy ad _ from ⟨n_d30, rfl⟩), (List.forall_mem_cons.mpr ⟨(show CP_63 cy ad _ from ⟨n_d31, rfl⟩), (List.forall_mem_cons.mpr ⟨(show CP_64 cy ad _ from ⟨n_d32, rfl⟩), (List.forall_mem_cons.mpr ⟨(show CP_65 cy ad _ from ⟨n_d33, rfl, z5⟩), (fun _ h => absurd h List.not_mem_nil)⟩)⟩)⟩)⟩)⟩)⟩)⟩)⟩)⟩)⟩)⟩)⟩)⟩)⟩)⟩)⟩)⟩)⟩)⟩)⟩)⟩)
  · exact pr
  · exact zfh

