set_option maxHeartbeats 8000000 in
set_option maxRecDepth 100000 in
theorem sm_X11_feed {D : va_G} {cy : Nat → ClassId} {ad : Nat → Nat} {g : Nat → va_E} (l : Launch) (ax bx cx dx ex : Int32) (hI : INV cy ad g) : ∃ pst_ : Int32 → (Nat → Nat) → List (Nat × va_E) → Prop, cMi l yX11_feed wq_k_X11_feed { frames := 1, cells := 0, slots := 0, locals := 22 } 2 0 0 0 D cy (fun i => ad ([0, 1].getD i 0)) (fun i => cup [] g ([0, 1].getD i 0)) [.ref (ad ([0, 1].getD 0 0)), .int ax, .int bx, .int cx, .int dx, .int ex] pst_ ∧ ∀ (r : Int32) (nw : Nat → Nat) (l' : List (Nat × va_E)), pst_ r nw l' → INV cy ad (cup (cmrg 173 2 [0, 1] l' []) g) ∧ TK g (cup (cmrg 173 2 [0, 1] l' []) g) := by
  have c0 := cp_0 hI
  obtain ⟨x0_1, x0_13, e0, b0_1, b0_13⟩ := c0
  have c1 := cp_1 hI
  obtain ⟨f1, e1⟩ := c1
  refine ⟨_, k_X11_feed l D cy _ _ (c1 := f1) (x0_1 := x0_1) (u0_2 := .ref (ad 2)) (u0_3 := .ref (ad 21)) (u0_4 := .ref (ad 38)) (u0_5 := .ref (ad 42)) (u0_6 := .ref (ad 55)) (u0_7 := .ref (ad 59)) (u0_8 := .ref (ad 62)) (u0_9 := .ref (ad 74)) (u0_10 := .ref (ad 88)) (u0_11 := .ref (ad 101)) (u0_12 := .ref (ad 118)) (u0_13 := .int x0_13) e0 e1 b0_1, fun r nw l' hw => ?_⟩
  obtain ⟨n_y0_1, n_d1, z0, z1, rfl⟩ := hw
  refine mrg_case (P := fun g1 => INV cy ad g1 ∧ TK g g1) (lk := [(0, .inr (11, [.ref (ad 1), .int n_y0_1, .ref (ad 2), .ref (ad 21), .ref (ad 38), .ref (ad 42), .ref (ad 55), .ref (ad 59), .ref (ad 62), .ref (ad 74), .ref (ad 88), .ref (ad 101), .ref (ad 118), .int x0_13])), (1, .inl (cy 0, 1600, .inl n_d1))]) ?_ ?_
  · rfl
  refine ⟨INV_up hI ?_ ?_ ?_, (by rw [cup_far rfl]), (by rw [cup_far rfl])⟩
  · exact (List.forall_mem_cons.mpr ⟨(cs_0 ⟨n_y0_1, x0_13, rfl, z0, b0_13⟩), (List.forall_mem_cons.mpr ⟨(cs_1 ⟨n_d1, rfl⟩), (fun _ h => absurd h List.not_mem_nil)⟩)⟩)
  · exact (by rw [cup_far (S := 56) rfl, cup_far (S := 57) rfl]; exact hI.2.1)
  · exact (by have z := hI.2.2; rw [cup_far (S := 138) rfl, cup_far (S := 142) rfl, cup_far (S := 136) rfl, cup_far (S := 119) rfl]; exact z)

set_option maxHeartbeats 8000000 in
set_option maxRecDepth 100000 in
theorem sm_X12_feed {D : va_G} {cy : Nat → ClassId} {ad : Nat → Nat} {g : Nat → va_E} (l : Launch) (ax bx cx dx ex : Int32) (hI : INV cy ad g) : ∃ pst_ : Int32 → (Nat → Nat) → List (Nat × va_E) → Prop, cMi l yX12_feed wq_k_X12_feed { frames := 0, cells := 0, slots := 0, locals := 0 } 2 0 0 0 D cy (fun i => ad ([119, 120].getD i 0)) (fun i => cup [] g ([119, 120].getD i 0)) [.ref (ad ([119, 120].getD 0 0)), .int ax, .int bx, .int cx, .int dx, .int ex] pst_ ∧ ∀ (r : Int32) (nw : Nat → Nat) (l' : List (Nat × va_E)), pst_ r nw l' → INV cy ad (cup (cmrg 173 2 [119, 120] l' []) g) ∧ TK g (cup (cmrg 173 2 [119, 120] l' []) g) := by
  have c119 := cp_119 hI
  obtain ⟨x119_2, x119_3, x119_4, x119_5, x119_6, x119_7, x119_8, x119_9, w119_10, x119_36, x119_37, x119_38, x119_39, x119_40, x119_56, x119_57, x119_59, x119_60, x119_62, x119_70, x119_71, e119, b119_2, b119_3, b119_4, b119_6, b119_7, b119_8, b119_36, b119_37, b119_38, b119_39, b119_40, b119_56, b119_59, b119_60, b119_62, b119_70, b119_71, hU119⟩ := c119
  have c120 := cp_120 hI
  obtain ⟨f120, e120⟩ := c120
  refine ⟨_, k_X12_feed l D cy _ _ (c1 := f120) (u0_1 := .ref (ad 121)) (x0_2 := x119_2) (u0_3 := .int x119_3) (u0_4 := .int x119_4) (u0_5 := .int x119_5) (u0_6 := .int x119_6) (u0_7 := .int x119_7) (u0_8 := .int x119_8) (u0_9 := .int x119_9) (u0_10 := .long w119_10) (u0_11 := .ref (ad 122)) (u0_12 := .ref (ad 123)) (u0_13 := .ref (ad 124)) (u0_14 := .ref (ad 125)) (u0_15 := .ref (ad 126)) (u0_16 := .ref (ad 127)) (u0_17 := .ref (ad 128)) (u0_18 := .ref (ad 129)) (u0_19 := .ref (ad 130)) (u0_20 := .ref (ad 131)) (u0_21 := .ref (ad 132)) (u0_22 := .ref (ad 133)) (u0_23 := .ref (ad 134)) (u0_24 := .ref (ad 135)) (u0_25 := .ref (ad 136)) (u0_26 := .ref (ad 137)) (u0_27 := .ref (ad 138)) (u0_28 := .ref (ad 139)) (u0_29 := .ref (ad 140)) (u0_30 := .ref (ad 141)) (u0_31 := .ref (ad 142)) (u0_32 := .ref (ad 143)) (u0_33 := .ref (ad 144)) (u0_34 := .ref (ad 145)) (u0_35 := .ref (ad 146)) (u0_36 := .int x119_36) (u0_37 := .int x119_37) (u0_38 := .int x119_38) (u0_39 := .int x119_39) (u0_40 := .int x119_40) (u0_41 := .ref (ad 147)) (u0_42 := .ref (ad 148)) (u0_43 := .ref (ad 149)) (u0_44 := .ref (ad 150)) (u0_45 := .ref (ad 151)) (u0_46 := .ref (ad 152)) (u0_47 := .ref (ad 153)) (u0_48 := .ref (ad 154)) (u0_49 := .ref (ad 155)) (u0_50 := .ref (ad 156)) (u0_51 := .ref (ad 157)) (u0_52 := .ref (ad 158)) (u0_53 := .ref (ad 159)) (u0_54 := .ref (ad 160)) (u0_55 := .ref (ad 161)) (u0_56 := .int x119_56) (u0_57 := .int x119_57) (u0_58 := .ref (ad 162)) (u0_59 := .int x119_59) (u0_60 := .int x119_60) (u0_61 := .ref (ad 163)) (u0_62 := .int x119_62) (u0_63 := .ref (ad 164)) (u0_64 := .ref (ad 165)) (u0_65 := .ref (ad 166)) (u0_66 := .ref (ad 167)) (u0_67 := .ref (ad 168)) (u0_68 := .ref (ad 169)) (u0_69 := .ref (ad 170)) (u0_70 := .int x119_70) (u0_71 := .int x119_71) (u0_72 := .ref (ad 171)) (u0_73 := .ref (ad 172)) e119 e120 b119_2, fun r nw l' hw => ?_⟩
  obtain ⟨n_y0_2, n_d1, z0, z1, rfl⟩ := hw
  refine mrg_case (P := fun g1 => INV cy ad g1 ∧ TK g g1) (lk := [(119, .inr (12, [.ref (ad 120), .ref (ad 121), .int n_y0_2, .int x119_3, .int x119_4, .int x119_5, .int x119_6, .int x119_7, .int x119_8, .int x119_9, .long w119_10, .ref (ad 122), .ref (ad 123), .ref (ad 124), .ref (ad 125), .ref (ad 126), .ref (ad 127), .ref (ad 128), .ref (ad 129), .ref (ad 130), .ref (ad 131), .ref (ad 132), .ref (ad 133), .ref (ad 134), .ref (ad 135), .ref (ad 136), .ref (ad 137), .ref (ad 138), .ref (ad 139), .ref (ad 140), .ref (ad 141), .ref (ad 142), .ref (ad 143), .ref (ad 144), .ref (ad 145), .ref (ad 146), .int x119_36, .int x119_37, .int x119_38, .int x119_39, .int x119_40, .ref (ad 147), .ref (ad 148), .ref (ad 149), .ref (ad 150), .ref (ad 151), .ref (ad 152), .ref (ad 153), .ref (ad 154), .ref (ad 155), .ref (ad 156), .ref (ad 157), .ref (ad 158), .ref (ad 159), .ref (ad 160), .ref (ad 161), .int x119_56, .int x119_57, .ref (ad 162), .int x119_59, .int x119_60, .ref (ad 163), .int x119_62, .ref (ad 164), .ref (ad 165), .ref (ad 166), .ref (ad 167), .ref (ad 168), .ref (ad 169), .ref (ad 170), .int x119_70, .int x119_71, .ref (ad 171), .ref (ad 172)])), (120, .inl (cy 3, 1620, .inl n_d1))]) ?_ ?_
  · rfl
  refine ⟨INV_up hI ?_ ?_ ?_, (by rw [cup_far rfl]), (by rw [e119]; rfl)⟩
  · exact (List.forall_mem_cons.mpr ⟨(cs_119 ⟨n_y0_2, x119_3, x119_4, x119_5, x119_6, x119_7, x119_8, x119_9, w119_10, x119_36, x119_37, x119_38, x119_39, x119_40, x119_56, x119_57, x119_59, x119_60, x119_62, x119_70, x119_71, rfl, (zi_w z0 (by decide)), b119_3, b119_4, b119_6, b119_7, b119_8, b119_36, b119_37, b119_38, b119_39, b119_40, b119_56, b119_59, b119_60, b119_62, b119_70, b119_71, hU119⟩), (List.forall_mem_cons.mpr ⟨(cs_120 ⟨n_d1, rfl⟩), (fun _ h => absurd h List.not_mem_nil)⟩)⟩)
  · exact (by rw [cup_far (S := 56) rfl, cup_far (S := 57) rfl]; exact hI.2.1)
  · exact (by have z := hI.2.2; rw [e119] at z; rw [cup_far (S := 138) rfl, cup_far (S := 142) rfl, cup_far (S := 136) rfl]; exact z)

set_option maxHeartbeats 8000000 in
set_option maxRecDepth 100000 in
theorem sm_X11_end {D : va_G} {cy : Nat → ClassId} {ad : Nat → Nat} {g : Nat → va_E} (l : Launch) (n : Int32) (hI : INV cy ad g) : ∃ pst_ : Int32 → (Nat → Nat) → List (Nat × va_E) → Prop, cMi l yX11_end wq_k_X11_end { frames := 1, cells := 0, slots := 0, locals := 22 } 1 0 0 0 D cy (fun i => ad ([0].getD i 0)) (fun i => cup [] g ([0].getD i 0)) [.ref (ad ([0].getD 0 0)), .int n] pst_ ∧ ∀ (r : Int32) (nw : Nat → Nat) (l' : List (Nat × va_E)), pst_ r nw l' → INV cy ad (cup (cmrg 173 1 [0] l' []) g) ∧ TK g (cup (cmrg 173 1 [0] l' []) g) := by
  have c0 := cp_0 hI
  obtain ⟨x0_1, x0_13, e0, b0_1, b0_13⟩ := c0
  refine ⟨_, k_X11_end l D cy _ _ (u0_0 := .ref (ad 1)) (x0_1 := x0_1) (u0_2 := .ref (ad 2)) (u0_3 := .ref (ad 21)) (u0_4 := .ref (ad 38)) (u0_5 := .ref (ad 42)) (u0_6 := .ref (ad 55)) (u0_7 := .ref (ad 59)) (u0_8 := .ref (ad 62)) (u0_9 := .ref (ad 74)) (u0_10 := .ref (ad 88)) (u0_11 := .ref (ad 101)) (u0_12 := .ref (ad 118)) (u0_13 := .int x0_13) e0 b0_1, fun r nw l' hw => ?_⟩
  obtain ⟨n_y0_1, z0, z1, rfl⟩ := hw
  refine mrg_case (P := fun g1 => INV cy ad g1 ∧ TK g g1) (lk := [(0, .inr (11, [.ref (ad 1), .int n_y0_1, .ref (ad 2), .ref (ad 21), .ref (ad 38), .ref (ad 42), .ref (ad 55), .ref (ad 59), .ref (ad 62), .ref (ad 74), .ref (ad 88), .ref (ad 101), .ref (ad 118), .int x0_13]))]) ?_ ?_
  · rfl
  refine ⟨INV_up hI ?_ ?_ ?_, (by rw [cup_far rfl]), (by rw [cup_far rfl])⟩
  · exact (List.forall_mem_cons.mpr ⟨(cs_0 ⟨n_y0_1, x0_13, rfl, z0, b0_13⟩), (fun _ h => absurd h List.not_mem_nil)⟩)
  · exact (by rw [cup_far (S := 56) rfl, cup_far (S := 57) rfl]; exact hI.2.1)
  · exact (by have z := hI.2.2; rw [cup_far (S := 138) rfl, cup_far (S := 142) rfl, cup_far (S := 136) rfl, cup_far (S := 119) rfl]; exact z)

set_option maxHeartbeats 8000000 in
set_option maxRecDepth 100000 in
theorem sm_X12_end {D : va_G} {cy : Nat → ClassId} {ad : Nat → Nat} {g : Nat → va_E} (l : Launch) (n : Int32) (hI : INV cy ad g) : ∃ pst_ : Int32 → (Nat → Nat) → List (Nat × va_E) → Prop, cMi l yX12_end wq_k_X12_end { frames := 0, cells := 0, slots := 0, locals := 0 } 1 0 0 0 D cy (fun i => ad ([119].getD i 0)) (fun i => cup [] g ([119].getD i 0)) [.ref (ad ([119].getD 0 0)), .int n] pst_ ∧ ∀ (r : Int32) (nw : Nat → Nat) (l' : List (Nat × va_E)), pst_ r nw l' → INV cy ad (cup (cmrg 173 1 [119] l' []) g) ∧ TK g (cup (cmrg 173 1 [119] l' []) g) := by
  have c119 := cp_119 hI
  obtain ⟨x119_2, x119_3, x119_4, x119_5, x119_6, x119_7, x119_8, x119_9, w119_10, x119_36, x119_37, x119_38, x119_39, x119_40, x119_56, x119_57, x119_59, x119_60, x119_62, x119_70, x119_71, e119, b119_2, b119_3, b119_4, b119_6, b119_7, b119_8, b119_36, b119_37, b119_38, b119_39, b119_40, b119_56, b119_59, b119_60, b119_62, b119_70, b119_71, hU119⟩ := c119
  refine ⟨_, k_X12_end l D cy _ _ (u0_0 := .ref (ad 120)) (u0_1 := .ref (ad 121)) (x0_2 := x119_2) (u0_3 := .int x119_3) (u0_4 := .int x119_4) (u0_5 := .int x119_5) (u0_6 := .int x119_6) (u0_7 := .int x119_7) (u0_8 := .int x119_8) (u0_9 := .int x119_9) (u0_10 := .long w119_10) (u0_11 := .ref (ad 122)) (u0_12 := .ref (ad 123)) (u0_13 := .ref (ad 124)) (u0_14 := .ref (ad 125)) (u0_15 := .ref (ad 126)) (u0_16 := .ref (ad 127)) (u0_17 := .ref (ad 128)) (u0_18 := .ref (ad 129)) (u0_19 := .ref (ad 130)) (u0_20 := .ref (ad 131)) (u0_21 := .ref (ad 132)) (u0_22 := .ref (ad 133)) (u0_23 := .ref (ad 134)) (u0_24 := .ref (ad 135)) (u0_25 := .ref (ad 136)) (u0_26 := .ref (ad 137)) (u0_27 := .ref (ad 138)) (u0_28 := .ref (ad 139)) (u0_29 := .ref (ad 140)) (u0_30 := .ref (ad 141)) (u0_31 := .ref (ad 142)) (u0_32 := .ref (ad 143)) (u0_33 := .ref (ad 144)) (u0_34 := .ref (ad 145)) (u0_35 := .ref (ad 146)) (u0_36 := .int x119_36) (u0_37 := .int x119_37) (u0_38 := .int x119_38) (u0_39 := .int x119_39) (u0_40 := .int x119_40) (u0_41 := .ref (ad 147)) (u0_42 := .ref (ad 148)) (u0_43 := .ref (ad 149)) (u0_44 := .ref (ad 150)) (u0_45 := .ref (ad 151)) (u0_46 := .ref (ad 152)) (u0_47 := .ref (ad 153)) (u0_48 := .ref (ad 154)) (u0_49 := .ref (ad 155)) (u0_50 := .ref (ad 156)) (u0_51 := .ref (ad 157)) (u0_52 := .ref (ad 158)) (u0_53 := .ref (ad 159)) (u0_54 := .ref (ad 160)) (u0_55 := .ref (ad 161)) (u0_56 := .int x119_56) (u0_57 := .int x119_57) (u0_58 := .ref (ad 162)) (u0_59 := .int x119_59) (u0_60 := .int x119_60) (u0_61 := .ref (ad 163)) (u0_62 := .int x119_62) (u0_63 := .ref (ad 164)) (u0_64 := .ref (ad 165)) (u0_65 := .ref (ad 166)) (u0_66 := .ref (ad 167)) (u0_67 := .ref (ad 168)) (u0_68 := .ref (ad 169)) (u0_69 := .ref (ad 170)) (u0_70 := .int x119_70) (u0_71 := .int x119_71) (u0_72 := .ref (ad 171)) (u0_73 := .ref (ad 172)) e119 b119_2, fun r nw l' hw => ?_⟩
  obtain ⟨n_y0_2, z0, z1, rfl⟩ := hw
  refine mrg_case (P := fun g1 => INV cy ad g1 ∧ TK g g1) (lk := [(119, .inr (12, [.ref (ad 120), .ref (ad 121), .int n_y0_2, .int x119_3, .int x119_4, .int x119_5, .int x119_6, .int x119_7, .int x119_8, .int x119_9, .long w119_10, .ref (ad 122), .ref (ad 123), .ref (ad 124), .ref (ad 125), .ref (ad 126), .ref (ad 127), .ref (ad 128), .ref (ad 129), .ref (ad 130), .ref (ad 131), .ref (ad 132), .ref (ad 133), .ref (ad 134), .ref (ad 135), .ref (ad 136), .ref (ad 137), .ref (ad 138), .ref (ad 139), .ref (ad 140), .ref (ad 141), .ref (ad 142), .ref (ad 143), .ref (ad 144), .ref (ad 145), .ref (ad 146), .int x119_36, .int x119_37, .int x119_38, .int x119_39, .int x119_40, .ref (ad 147), .ref (ad 148), .ref (ad 149), .ref (ad 150), .ref (ad 151), .ref (ad 152), .ref (ad 153), .ref (ad 154), .ref (ad 155), .ref (ad 156), .ref (ad 157), .ref (ad 158), .ref (ad 159), .ref (ad 160), .ref (ad 161), .int x119_56, .int x119_57, .ref (ad 162), .int x119_59, .int x119_60, .ref (ad 163), .int x119_62, .ref (ad 164), .ref (ad 165), .ref (ad 166), .ref (ad 167), .ref (ad 168), .ref (ad 169), .ref (ad 170), .int x119_70, .int x119_71, .ref (ad 171), .ref (ad 172)]))]) ?_ ?_
  · rfl
  refine ⟨INV_up hI ?_ ?_ ?_, (by rw [cup_far rfl]), (by rw [e119]; rfl)⟩
  · exact (List.forall_mem_cons.mpr ⟨(cs_119 ⟨n_y0_2, x119_3, x119_4, x119_5, x119_6, x119_7, x119_8, x119_9, w119_10, x119_36, x119_37, x119_38, x119_39, x119_40, x119_56, x119_57, x119_59, x119_60, x119_62, x119_70, x119_71, rfl, z0, b119_3, b119_4, b119_6, b119_7, b119_8, b119_36, b119_37, b119_38, b119_39, b119_40, b119_56, b119_59, b119_60, b119_62, b119_70, b119_71, hU119⟩), (fun _ h => absurd h List.not_mem_nil)⟩)
  · exact (by rw [cup_far (S := 56) rfl, cup_far (S := 57) rfl]; exact hI.2.1)
  · exact (by have z := hI.2.2; rw [e119] at z; rw [cup_far (S := 138) rfl, cup_far (S := 142) rfl, cup_far (S := 136) rfl]; exact z)

set_option maxHeartbeats 8000000 in
set_option maxRecDepth 100000 in
theorem sm_X11_fault {D : va_G} {cy : Nat → ClassId} {ad : Nat → Nat} {g : Nat → va_E} (l : Launch) (what : Int32) (hI : INV cy ad g) : ∃ pst_ : Int32 → (Nat → Nat) → List (Nat × va_E) → Prop, cMi l yX11_fault wq_k_X11_fault { frames := 0, cells := 0, slots := 0, locals := 0 } 2 0 0 0 D cy (fun i => ad ([0, 2].getD i 0)) (fun i => cup [] g ([0, 2].getD i 0)) [.ref (ad ([0, 2].getD 0 0)), .int what] pst_ ∧ ∀ (r : Int32) (nw : Nat → Nat) (l' : List (Nat × va_E)), pst_ r nw l' → INV cy ad (cup (cmrg 173 2 [0, 2] l' []) g) ∧ TK g (cup (cmrg 173 2 [0, 2] l' []) g) := by
  have c0 := cp_0 hI
  obtain ⟨x0_1, x0_13, e0, b0_1, b0_13⟩ := c0
  have c2 := cp_2 hI
  obtain ⟨x2_1, x2_2, u2_3, x2_4, x2_5, x2_6, x2_7, x2_8, x2_9, x2_10, w2_11, e2, b2_4, b2_5, b2_7, hW2⟩ := c2
  refine ⟨_, k_X11_fault l D cy _ _ (u0_0 := .ref (ad 1)) (u0_1 := .int x0_1) (u1_0 := .ref (ad 3)) (x1_1 := x2_1) (x1_2 := x2_2) (u1_3 := u2_3) (u1_4 := .int x2_4) (u1_5 := .int x2_5) (u1_6 := .int x2_6) (u1_7 := .int x2_7) (u1_8 := .int x2_8) (u1_9 := .int x2_9) (u1_10 := .int x2_10) (u1_11 := .long w2_11) (u0_3 := .ref (ad 21)) (u0_4 := .ref (ad 38)) (u0_5 := .ref (ad 42)) (u0_6 := .ref (ad 55)) (u0_7 := .ref (ad 59)) (u0_8 := .ref (ad 62)) (u0_9 := .ref (ad 74)) (u0_10 := .ref (ad 88)) (u0_11 := .ref (ad 101)) (u0_12 := .ref (ad 118)) (u0_13 := .int x0_13) e0 e2, fun r nw l' hw => ?_⟩
  obtain rfl := hw
  refine mrg_case (P := fun g1 => INV cy ad g1 ∧ TK g g1) (lk := []) ?_ ?_
  · rfl
  refine ⟨INV_up hI ?_ ?_ ?_, (by rw [cup_far rfl]), (by rw [cup_far rfl])⟩
  · exact (fun _ h => absurd h List.not_mem_nil)
  · exact (by rw [cup_far (S := 56) rfl, cup_far (S := 57) rfl]; exact hI.2.1)
  · exact (by have z := hI.2.2; rw [cup_far (S := 138) rfl, cup_far (S := 142) rfl, cup_far (S := 136) rfl, cup_far (S := 119) rfl]; exact z)

set_option maxHeartbeats 8000000 in
set_option maxRecDepth 100000 in
theorem sm_X12_fault {D : va_G} {cy : Nat → ClassId} {ad : Nat → Nat} {g : Nat → va_E} (l : Launch) (what : Int32) (hI : INV cy ad g) : ∃ pst_ : Int32 → (Nat → Nat) → List (Nat × va_E) → Prop, cMi l yX12_fault wq_k_X12_fault { frames := 0, cells := 0, slots := 0, locals := 0 } 1 0 0 0 D cy (fun i => ad ([119].getD i 0)) (fun i => cup [] g ([119].getD i 0)) [.ref (ad ([119].getD 0 0)), .int what] pst_ ∧ ∀ (r : Int32) (nw : Nat → Nat) (l' : List (Nat × va_E)), pst_ r nw l' → INV cy ad (cup (cmrg 173 1 [119] l' []) g) ∧ TK g (cup (cmrg 173 1 [119] l' []) g) := by
  have c119 := cp_119 hI
  obtain ⟨x119_2, x119_3, x119_4, x119_5, x119_6, x119_7, x119_8, x119_9, w119_10, x119_36, x119_37, x119_38, x119_39, x119_40, x119_56, x119_57, x119_59, x119_60, x119_62, x119_70, x119_71, e119, b119_2, b119_3, b119_4, b119_6, b119_7, b119_8, b119_36, b119_37, b119_38, b119_39, b119_40, b119_56, b119_59, b119_60, b119_62, b119_70, b119_71, hU119⟩ := c119
  refine ⟨_, k_X12_fault l D cy _ _ (u0_0 := .ref (ad 120)) (u0_1 := .ref (ad 121)) (u0_2 := .int x119_2) (u0_3 := .int x119_3) (x0_4 := x119_4) (x0_5 := x119_5) (u0_6 := .int x119_6) (u0_7 := .int x119_7) (u0_8 := .int x119_8) (u0_9 := .int x119_9) (u0_10 := .long w119_10) (u0_11 := .ref (ad 122)) (u0_12 := .ref (ad 123)) (u0_13 := .ref (ad 124)) (u0_14 := .ref (ad 125)) (u0_15 := .ref (ad 126)) (u0_16 := .ref (ad 127)) (u0_17 := .ref (ad 128)) (u0_18 := .ref (ad 129)) (u0_19 := .ref (ad 130)) (u0_20 := .ref (ad 131)) (u0_21 := .ref (ad 132)) (u0_22 := .ref (ad 133)) (u0_23 := .ref (ad 134)) (u0_24 := .ref (ad 135)) (u0_25 := .ref (ad 136)) (u0_26 := .ref (ad 137)) (u0_27 := .ref (ad 138)) (u0_28 := .ref (ad 139)) (u0_29 := .ref (ad 140)) (u0_30 := .ref (ad 141)) (u0_31 := .ref (ad 142)) (u0_32 := .ref (ad 143)) (u0_33 := .ref (ad 144)) (u0_34 := .ref (ad 145)) (u0_35 := .ref (ad 146)) (u0_36 := .int x119_36) (u0_37 := .int x119_37) (u0_38 := .int x119_38) (u0_39 := .int x119_39) (u0_40 := .int x119_40) (u0_41 := .ref (ad 147)) (u0_42 := .ref (ad 148)) (u0_43 := .ref (ad 149)) (u0_44 := .ref (ad 150)) (u0_45 := .ref (ad 151)) (u0_46 := .ref (ad 152)) (u0_47 := .ref (ad 153)) (u0_48 := .ref (ad 154)) (u0_49 := .ref (ad 155)) (u0_50 := .ref (ad 156)) (u0_51 := .ref (ad 157)) (u0_52 := .ref (ad 158)) (u0_53 := .ref (ad 159)) (u0_54 := .ref (ad 160)) (u0_55 := .ref (ad 161)) (u0_56 := .int x119_56) (u0_57 := .int x119_57) (u0_58 := .ref (ad 162)) (u0_59 := .int x119_59) (u0_60 := .int x119_60) (u0_61 := .ref (ad 163)) (u0_62 := .int x119_62) (u0_63 := .ref (ad 164)) (u0_64 := .ref (ad 165)) (u0_65 := .ref (ad 166)) (u0_66 := .ref (ad 167)) (u0_67 := .ref (ad 168)) (u0_68 := .ref (ad 169)) (u0_69 := .ref (ad 170)) (u0_70 := .int x119_70) (u0_71 := .int x119_71) (u0_72 := .ref (ad 171)) (u0_73 := .ref (ad 172)) e119 b119_4, fun r nw l' hw => ?_⟩
  obtain rfl := hw
  refine mrg_case (P := fun g1 => INV cy ad g1 ∧ TK g g1) (lk := []) ?_ ?_
  · rfl
  refine ⟨INV_up hI ?_ ?_ ?_, (by rw [cup_far rfl]), (by rw [cup_far rfl])⟩
  · exact (fun _ h => absurd h List.not_mem_nil)
  · exact (by rw [cup_far (S := 56) rfl, cup_far (S := 57) rfl]; exact hI.2.1)
  · exact (by have z := hI.2.2; rw [cup_far (S := 138) rfl, cup_far (S := 142) rfl, cup_far (S := 136) rfl, cup_far (S := 119) rfl]; exact z)

set_option maxHeartbeats 8000000 in
set_option maxRecDepth 100000 in
theorem sm_X11_cart {D : va_G} {cy : Nat → ClassId} {ad : Nat → Nat} {g : Nat → va_E} (l : Launch) (cart what : Int32) (hI : INV cy ad g) : ∃ pst_ : Int32 → (Nat → Nat) → List (Nat × va_E) → Prop, cMi l yX11_cart wq_k_X11_cart { frames := 2, cells := 0, slots := 0, locals := 43 } 7 0 0 0 D cy (fun i => ad ([0, 38, 39, 40, 21, 62, 64].getD i 0)) (fun i => cup [] g ([0, 38, 39, 40, 21, 62, 64].getD i 0)) [.ref (ad ([0, 38, 39, 40, 21, 62, 64].getD 0 0)), .int cart, .int what] pst_ ∧ ∀ (r : Int32) (nw : Nat → Nat) (l' : List (Nat × va_E)), pst_ r nw l' → INV cy ad (cup (cmrg 173 7 [0, 38, 39, 40, 21, 62, 64] l' []) g) ∧ TK g (cup (cmrg 173 7 [0, 38, 39, 40, 21, 62, 64] l' []) g) := by
  have c0 := cp_0 hI
  obtain ⟨x0_1, x0_13, e0, b0_1, b0_13⟩ := c0
  have c21 := cp_21 hI
  obtain ⟨x21_5, x21_11, x21_15, x21_16, e21, b21_5, b21_11, b21_16⟩ := c21
  have c38 := cp_38 hI
  obtain ⟨x38_2, x38_4, e38, b38_4⟩ := c38
  have c39 := cp_39 hI
  obtain ⟨f39, e39⟩ := c39
  have c40 := cp_40 hI
  obtain ⟨f40, e40⟩ := c40
  have c62 := cp_62 hI
  have e62 := c62
  have c64 := cp_64 hI
  obtain ⟨f64, e64⟩ := c64
  refine ⟨_, k_X11_cart l D cy _ _ (u0_0 := .ref (ad 1)) (u0_1 := .int x0_1) (u0_2 := .ref (ad 2)) (u4_0 := .ref (ad 22)) (u4_1 := .ref (ad 23)) (u4_2 := .ref (ad 24)) (u4_3 := .ref (ad 25)) (u4_4 := .ref (ad 26)) (u4_5 := .int x21_5) (u4_6 := .ref (ad 27)) (u4_7 := .ref (ad 28)) (u4_8 := .ref (ad 29)) (u4_9 := .ref (ad 30)) (u4_10 := .ref (ad 31)) (x4_11 := x21_11) (u4_12 := .ref (ad 32)) (u4_13 := .ref (ad 33)) (u4_14 := .ref (ad 34)) (x4_15 := x21_15) (u4_16 := .int x21_16) (u4_17 := .ref (ad 35)) (c2 := f39) (c3 := f40) (x1_2 := x38_2) (u1_3 := .ref (ad 41)) (x1_4 := x38_4) (u0_5 := .ref (ad 42)) (u0_6 := .ref (ad 55)) (u0_7 := .ref (ad 59)) (u5_1 := .ref (ad 38)) (u5_2 := .ref (ad 59)) (u5_3 := .ref (ad 66)) (u5_4 := .ref (ad 63)) (c6 := f64) (u5_6 := .ref (ad 65)) (u0_9 := .ref (ad 74)) (u0_10 := .ref (ad 88)) (u0_11 := .ref (ad 101)) (u0_12 := .ref (ad 118)) (u0_13 := .int x0_13) e0 e38 e39 e40 e21 e62 e64 b38_4 b21_11, fun r nw l' hw => ?_⟩
  obtain rfl := hw
  refine mrg_case (P := fun g1 => INV cy ad g1 ∧ TK g g1) (lk := []) ?_ ?_
  · rfl
  refine ⟨INV_up hI ?_ ?_ ?_, (by rw [cup_far rfl]), (by rw [cup_far rfl])⟩
  · exact (fun _ h => absurd h List.not_mem_nil)
  · exact (by rw [cup_far (S := 56) rfl, cup_far (S := 57) rfl]; exact hI.2.1)
  · exact (by have z := hI.2.2; rw [cup_far (S := 138) rfl, cup_far (S := 142) rfl, cup_far (S := 136) rfl, cup_far (S := 119) rfl]; exact z)

set_option maxHeartbeats 8000000 in
set_option maxRecDepth 100000 in
theorem sm_X12_cart {D : va_G} {cy : Nat → ClassId} {ad : Nat → Nat} {g : Nat → va_E} (l : Launch) (cx what : Int32) (hI : INV cy ad g) : ∃ pst_ : Int32 → (Nat → Nat) → List (Nat × va_E) → Prop, cMi l yX12_cart wq_k_X12_cart { frames := 5, cells := 0, slots := 0, locals := 117 } 30 0 0 0 D cy (fun i => ad ([119, 147, 124, 137, 123, 127, 128, 130, 131, 132, 133, 136, 138, 142, 143, 146, 148, 149, 150, 151, 152, 153, 154, 155, 156, 157, 158, 159, 160, 161].getD i 0)) (fun i => cup [] g ([119, 147, 124, 137, 123, 127, 128, 130, 131, 132, 133, 136, 138, 142, 143, 146, 148, 149, 150, 151, 152, 153, 154, 155, 156, 157, 158, 159, 160, 161].getD i 0)) [.ref (ad ([119, 147, 124, 137, 123, 127, 128, 130, 131, 132, 133, 136, 138, 142, 143, 146, 148, 149, 150, 151, 152, 153, 154, 155, 156, 157, 158, 159, 160, 161].getD 0 0)), .int cx, .int what] pst_ ∧ ∀ (r : Int32) (nw : Nat → Nat) (l' : List (Nat × va_E)), pst_ r nw l' → INV cy ad (cup (cmrg 173 30 [119, 147, 124, 137, 123, 127, 128, 130, 131, 132, 133, 136, 138, 142, 143, 146, 148, 149, 150, 151, 152, 153, 154, 155, 156, 157, 158, 159, 160, 161] l' []) g) ∧ TK g (cup (cmrg 173 30 [119, 147, 124, 137, 123, 127, 128, 130, 131, 132, 133, 136, 138, 142, 143, 146, 148, 149, 150, 151, 152, 153, 154, 155, 156, 157, 158, 159, 160, 161] l' []) g) := by
  have c119 := cp_119 hI
  obtain ⟨x119_2, x119_3, x119_4, x119_5, x119_6, x119_7, x119_8, x119_9, w119_10, x119_36, x119_37, x119_38, x119_39, x119_40, x119_56, x119_57, x119_59, x119_60, x119_62, x119_70, x119_71, e119, b119_2, b119_3, b119_4, b119_6, b119_7, b119_8, b119_36, b119_37, b119_38, b119_39, b119_40, b119_56, b119_59, b119_60, b119_62, b119_70, b119_71, hU119⟩ := c119
  have c123 := cp_123 hI
  obtain ⟨f123, e123, h123⟩ := c123
  have c124 := cp_124 hI
  obtain ⟨f124, e124, h124⟩ := c124
  have c127 := cp_127 hI
  obtain ⟨f127, e127⟩ := c127
  have c128 := cp_128 hI
  obtain ⟨f128, e128⟩ := c128
  have c130 := cp_130 hI
  obtain ⟨f130, e130⟩ := c130
  have c131 := cp_131 hI
  obtain ⟨f131, e131⟩ := c131
  have c132 := cp_132 hI
  obtain ⟨f132, e132, h132⟩ := c132
  have c133 := cp_133 hI
  obtain ⟨f133, e133, h133⟩ := c133
  have c136 := cp_136 hI
  obtain ⟨f136, e136, h136⟩ := c136
  have c137 := cp_137 hI
  obtain ⟨f137, e137, h137⟩ := c137
  have c138 := cp_138 hI
  obtain ⟨f138, e138, h138⟩ := c138
  have c142 := cp_142 hI
  obtain ⟨f142, e142⟩ := c142
  have c143 := cp_143 hI
  obtain ⟨f143, e143⟩ := c143
  have c146 := cp_146 hI
  obtain ⟨f146, e146⟩ := c146
  have c147 := cp_147 hI
  obtain ⟨f147, e147, h147⟩ := c147
  have c148 := cp_148 hI
  obtain ⟨f148, e148⟩ := c148
  have c149 := cp_149 hI
  obtain ⟨f149, e149⟩ := c149
  have c150 := cp_150 hI
  obtain ⟨f150, e150⟩ := c150
  have c151 := cp_151 hI
  obtain ⟨f151, e151, h151⟩ := c151
  have c152 := cp_152 hI
  obtain ⟨f152, e152, h152⟩ := c152
  have c153 := cp_153 hI
  obtain ⟨f153, e153, h153⟩ := c153
  have c154 := cp_154 hI
  obtain ⟨f154, e154⟩ := c154
  have c155 := cp_155 hI
  obtain ⟨f155, e155⟩ := c155
  have c156 := cp_156 hI
  obtain ⟨f156, e156⟩ := c156
  have c157 := cp_157 hI
  obtain ⟨f157, e157⟩ := c157
  have c158 := cp_158 hI
  obtain ⟨f158, e158⟩ := c158
  have c159 := cp_159 hI
  obtain ⟨f159, e159⟩ := c159
  have c160 := cp_160 hI
  obtain ⟨f160, e160, h160⟩ := c160
  have c161 := cp_161 hI
  obtain ⟨f161, e161, h161⟩ := c161
  have zfh := hI.2.2
  rw [e138, e142, e136, e119] at zfh
  refine ⟨_, k_X12_cart l D cy _ _ (u0_0 := .ref (ad 120)) (u0_1 := .ref (ad 121)) (u0_2 := .int x119_2) (u0_3 := .int x119_3) (u0_4 := .int x119_4) (u0_5 := .int x119_5) (u0_6 := .int x119_6) (u0_7 := .int x119_7) (u0_8 := .int x119_8) (u0_9 := .int x119_9) (u0_10 := .long w119_10) (u0_11 := .ref (ad 122)) (c4 := f123) (c2 := f124) (u0_14 := .ref (ad 125)) (u0_15 := .ref (ad 126)) (c5 := f127) (c6 := f128) (u0_18 := .ref (ad 129)) (c7 := f130) (c8 := f131) (c9 := f132) (c10 := f133) (u0_23 := .ref (ad 134)) (u0_24 := .ref (ad 135)) (c11 := f136) (c3 := f137) (c12 := f138) (u0_28 := .ref (ad 139)) (u0_29 := .ref (ad 140)) (u0_30 := .ref (ad 141)) (c13 := f142) (c14 := f143) (u0_33 := .ref (ad 144)) (u0_34 := .ref (ad 145)) (c15 := f146) (x0_36 := x119_36) (u0_37 := .int x119_37) (u0_38 := .int x119_38) (u0_39 := .int x119_39) (u0_40 := .int x119_40) (c1 := f147) (c16 := f148) (c17 := f149) (c18 := f150) (c19 := f151) (c20 := f152) (c21 := f153) (c22 := f154) (c23 := f155) (c24 := f156) (c25 := f157) (c26 := f158) (c27 := f159) (c28 := f160) (c29 := f161) (x0_56 := x119_56) (x0_57 := x119_57) (u0_58 := .ref (ad 162)) (u0_59 := .int x119_59) (u0_60 := .int x119_60) (u0_61 := .ref (ad 163)) (u0_62 := .int x119_62) (u0_63 := .ref (ad 164)) (u0_64 := .ref (ad 165)) (u0_65 := .ref (ad 166)) (u0_66 := .ref (ad 167)) (u0_67 := .ref (ad 168)) (u0_68 := .ref (ad 169)) (u0_69 := .ref (ad 170)) (u0_70 := .int x119_70) (u0_71 := .int x119_71) (u0_72 := .ref (ad 171)) (u0_73 := .ref (ad 172)) e119 e147 e124 e137 e123 e127 e128 e130 e131 e132 e133 e136 e138 e142 e143 e146 e148 e149 e150 e151 e152 e153 e154 e155 e156 e157 e158 e159 e160 e161 b119_36 b119_56 h147 h124 h137 h123 h132 h133 h136 h138 h151 h152 h153 h160 h161 zfh, fun r nw l' hw => ?_⟩
  obtain ⟨n_y0_56, n_y0_57, n_d15, n_d16, n_d17, n_d18, n_d19, n_d20, n_d21, n_d22, n_d23, n_d24, n_d25, n_d26, n_d27, n_d28, n_d29, z0, z1, z2, z3, z4, z5, rfl⟩ := hw
  refine mrg_case (P := fun g1 => INV cy ad g1 ∧ TK g g1) (lk := [(119, .inr (12, [.ref (ad 120), .ref (ad 121), .int x119_2, .int x119_3, .int x119_4, .int x119_5, .int x119_6, .int x119_7, .int x119_8, .int x119_9, .long w119_10, .ref (ad 122), .ref (ad 123), .ref (ad 124), .ref (ad 125), .ref (ad 126), .ref (ad 127), .ref (ad 128), .ref (ad 129), .ref (ad 130), .ref (ad 131), .ref (ad 132), .ref (ad 133), .ref (ad 134), .ref (ad 135), .ref (ad 136), .ref (ad 137), .ref (ad 138), .ref (ad 139), .ref (ad 140), .ref (ad 141), .ref (ad 142), .ref (ad 143), .ref (ad 144), .ref (ad 145), .ref (ad 146), .int x119_36, .int x119_37, .int x119_38, .int x119_39, .int x119_40, .ref (ad 147), .ref (ad 148), .ref (ad 149), .ref (ad 150), .ref (ad 151), .ref (ad 152), .ref (ad 153), .ref (ad 154), .ref (ad 155), .ref (ad 156), .ref (ad 157), .ref (ad 158), .ref (ad 159), .ref (ad 160), .ref (ad 161), .int n_y0_56, .int n_y0_57, .ref (ad 162), .int x119_59, .int x119_60, .ref (ad 163), .int x119_62, .ref (ad 164), .ref (ad 165), .ref (ad 166), .ref (ad 167), .ref (ad 168), .ref (ad 169), .ref (ad 170), .int x119_70, .int x119_71, .ref (ad 171), .ref (ad 172)])), (146, .inl (cy 0, 60, .inl n_d15)), (148, .inl (cy 0, 30, .inl n_d16)), (149, .inl (cy 0, 30, .inl n_d17)), (150, .inl (cy 0, 5, .inl n_d18)), (151, .inl (cy 0, 4, .inl n_d19)), (152, .inl (cy 0, 20, .inl n_d20)), (153, .inl (cy 0, 30, .inl n_d21)), (154, .inl (cy 0, 120, .inl n_d22)), (155, .inl (cy 0, 120, .inl n_d23)), (156, .inl (cy 0, 5, .inl n_d24)), (157, .inl (cy 0, 5, .inl n_d25)), (158, .inl (cy 0, 5, .inl n_d26)), (159, .inl (cy 0, 5, .inl n_d27)), (160, .inl (cy 2, 30, .inl n_d28)), (161, .inl (cy 2, 5, .inl n_d29))]) ?_ ?_
  · rfl
  refine ⟨INV_up hI ?_ ?_ ?_, (by rw [cup_far rfl]), (by rw [e119]; rfl)⟩
  · exact (List.forall_mem_cons.mpr ⟨(cs_119 ⟨x119_2, x119_3, x119_4, x119_5, x119_6, x119_7, x119_8, x119_9, w119_10, x119_36, x119_37, x119_38, x119_39, x119_40, n_y0_56, n_y0_57, x119_59, x119_60, x119_62, x119_70, x119_71, rfl, b119_2, b119_3, b119_4, b119_6, b119_7, b119_8, b119_36, b119_37, b119_38, b119_39, b119_40, z0, b119_59, b119_60, b119_62, b119_70, b119_71, hU119⟩), (List.forall_mem_cons.mpr ⟨(cs_146 ⟨n_d15, rfl⟩), (List.forall_mem_cons.mpr ⟨(cs_148 ⟨n_d16, rfl⟩), (List.forall_mem_cons.mpr ⟨(cs_149 ⟨n_d17, rfl⟩), (List.forall_mem_cons.mpr ⟨(cs_150 ⟨n_d18, rfl⟩), (List.forall_mem_cons.mpr ⟨(cs_151 ⟨n_d19, rfl, z1⟩), (List.forall_mem_cons.mpr ⟨(cs_152 ⟨n_d20, rfl, z2⟩), (List.forall_mem_cons.mpr ⟨(cs_153 ⟨n_d21, rfl, z3⟩), (List.forall_mem_cons.mpr ⟨(cs_154 ⟨n_d22, rfl⟩), (List.forall_mem_cons.mpr ⟨(cs_155 ⟨n_d23, rfl⟩), (List.forall_mem_cons.mpr ⟨(cs_156 ⟨n_d24, rfl⟩), (List.forall_mem_cons.mpr ⟨(cs_157 ⟨n_d25, rfl⟩), (List.forall_mem_cons.mpr ⟨(cs_158 ⟨n_d26, rfl⟩), (List.forall_mem_cons.mpr ⟨(cs_159 ⟨n_d27, rfl⟩), (List.forall_mem_cons.mpr ⟨(cs_160 ⟨n_d28, rfl, z4⟩), (List.forall_mem_cons.mpr ⟨(cs_161 ⟨n_d29, rfl, z5⟩), (fun _ h => absurd h List.not_mem_nil)⟩)⟩)⟩)⟩)⟩)⟩)⟩)⟩)⟩)⟩)⟩)⟩)⟩)⟩)⟩)⟩)
  · exact (by rw [cup_far (S := 56) rfl, cup_far (S := 57) rfl]; exact hI.2.1)
  · exact (by have z := hI.2.2; rw [e119] at z; rw [cup_far (S := 138) rfl, cup_far (S := 142) rfl, cup_far (S := 136) rfl]; exact z)

set_option maxHeartbeats 8000000 in
set_option maxRecDepth 100000 in
theorem sm_X11_counter {D : va_G} {cy : Nat → ClassId} {ad : Nat → Nat} {g : Nat → va_E} (l : Launch) (cart post : Int32) (hI : INV cy ad g) : ∃ pst_ : Int32 → (Nat → Nat) → List (Nat × va_E) → Prop, cMi l yX11_counter wq_k_X11_counter { frames := 2, cells := 0, slots := 0, locals := 43 } 5 0 0 0 D cy (fun i => ad ([0, 38, 21, 62, 63].getD i 0)) (fun i => cup [] g ([0, 38, 21, 62, 63].getD i 0)) [.ref (ad ([0, 38, 21, 62, 63].getD 0 0)), .int cart, .int post] pst_ ∧ ∀ (r : Int32) (nw : Nat → Nat) (l' : List (Nat × va_E)), pst_ r nw l' → INV cy ad (cup (cmrg 173 5 [0, 38, 21, 62, 63] l' []) g) ∧ TK g (cup (cmrg 173 5 [0, 38, 21, 62, 63] l' []) g) := by
  have c0 := cp_0 hI
  obtain ⟨x0_1, x0_13, e0, b0_1, b0_13⟩ := c0
  have c21 := cp_21 hI
  obtain ⟨x21_5, x21_11, x21_15, x21_16, e21, b21_5, b21_11, b21_16⟩ := c21
  have c38 := cp_38 hI
  obtain ⟨x38_2, x38_4, e38, b38_4⟩ := c38
  have c62 := cp_62 hI
  have e62 := c62
  have c63 := cp_63 hI
  obtain ⟨f63, e63⟩ := c63
  refine ⟨_, k_X11_counter l D cy _ _ (u0_0 := .ref (ad 1)) (u0_1 := .int x0_1) (u0_2 := .ref (ad 2)) (u2_0 := .ref (ad 22)) (u2_1 := .ref (ad 23)) (u2_2 := .ref (ad 24)) (u2_3 := .ref (ad 25)) (u2_4 := .ref (ad 26)) (u2_5 := .int x21_5) (u2_6 := .ref (ad 27)) (u2_7 := .ref (ad 28)) (u2_8 := .ref (ad 29)) (u2_9 := .ref (ad 30)) (u2_10 := .ref (ad 31)) (x2_11 := x21_11) (u2_12 := .ref (ad 32)) (u2_13 := .ref (ad 33)) (u2_14 := .ref (ad 34)) (u2_15 := .int x21_15) (u2_16 := .int x21_16) (u2_17 := .ref (ad 35)) (u1_0 := .ref (ad 39)) (u1_1 := .ref (ad 40)) (u1_2 := .int x38_2) (u1_3 := .ref (ad 41)) (x1_4 := x38_4) (u0_5 := .ref (ad 42)) (u0_6 := .ref (ad 55)) (u0_7 := .ref (ad 59)) (u3_0 := .ref (ad 21)) (u3_1 := .ref (ad 38)) (u3_2 := .ref (ad 59)) (u3_3 := .ref (ad 66)) (c4 := f63) (u3_5 := .ref (ad 64)) (u3_6 := .ref (ad 65)) (u0_9 := .ref (ad 74)) (u0_10 := .ref (ad 88)) (u0_11 := .ref (ad 101)) (u0_12 := .ref (ad 118)) (u0_13 := .int x0_13) e0 e38 e21 e62 e63 b38_4 b21_11, fun r nw l' hw => ?_⟩
  obtain rfl := hw
  refine mrg_case (P := fun g1 => INV cy ad g1 ∧ TK g g1) (lk := []) ?_ ?_
  · rfl
  refine ⟨INV_up hI ?_ ?_ ?_, (by rw [cup_far rfl]), (by rw [cup_far rfl])⟩
  · exact (fun _ h => absurd h List.not_mem_nil)
  · exact (by rw [cup_far (S := 56) rfl, cup_far (S := 57) rfl]; exact hI.2.1)
  · exact (by have z := hI.2.2; rw [cup_far (S := 138) rfl, cup_far (S := 142) rfl, cup_far (S := 136) rfl, cup_far (S := 119) rfl]; exact z)

set_option maxHeartbeats 8000000 in
set_option maxRecDepth 100000 in
theorem sm_X12_counter {D : va_G} {cy : Nat → ClassId} {ad : Nat → Nat} {g : Nat → va_E} (l : Launch) (cx px : Int32) (hI : INV cy ad g) : ∃ pst_ : Int32 → (Nat → Nat) → List (Nat × va_E) → Prop, cMi l yX12_counter wq_k_X12_counter { frames := 5, cells := 0, slots := 0, locals := 117 } 28 0 0 0 D cy (fun i => ad ([119, 147, 123, 127, 128, 130, 131, 132, 133, 136, 138, 142, 143, 146, 148, 149, 150, 151, 152, 153, 154, 155, 156, 157, 158, 159, 160, 161].getD i 0)) (fun i => cup [] g ([119, 147, 123, 127, 128, 130, 131, 132, 133, 136, 138, 142, 143, 146, 148, 149, 150, 151, 152, 153, 154, 155, 156, 157, 158, 159, 160, 161].getD i 0)) [.ref (ad ([119, 147, 123, 127, 128, 130, 131, 132, 133, 136, 138, 142, 143, 146, 148, 149, 150, 151, 152, 153, 154, 155, 156, 157, 158, 159, 160, 161].getD 0 0)), .int cx, .int px] pst_ ∧ ∀ (r : Int32) (nw : Nat → Nat) (l' : List (Nat × va_E)), pst_ r nw l' → INV cy ad (cup (cmrg 173 28 [119, 147, 123, 127, 128, 130, 131, 132, 133, 136, 138, 142, 143, 146, 148, 149, 150, 151, 152, 153, 154, 155, 156, 157, 158, 159, 160, 161] l' []) g) ∧ TK g (cup (cmrg 173 28 [119, 147, 123, 127, 128, 130, 131, 132, 133, 136, 138, 142, 143, 146, 148, 149, 150, 151, 152, 153, 154, 155, 156, 157, 158, 159, 160, 161] l' []) g) := by
  have c119 := cp_119 hI
  obtain ⟨x119_2, x119_3, x119_4, x119_5, x119_6, x119_7, x119_8, x119_9, w119_10, x119_36, x119_37, x119_38, x119_39, x119_40, x119_56, x119_57, x119_59, x119_60, x119_62, x119_70, x119_71, e119, b119_2, b119_3, b119_4, b119_6, b119_7, b119_8, b119_36, b119_37, b119_38, b119_39, b119_40, b119_56, b119_59, b119_60, b119_62, b119_70, b119_71, hU119⟩ := c119
  have c123 := cp_123 hI
  obtain ⟨f123, e123, h123⟩ := c123
  have c127 := cp_127 hI
  obtain ⟨f127, e127⟩ := c127
  have c128 := cp_128 hI
  obtain ⟨f128, e128⟩ := c128
  have c130 := cp_130 hI
  obtain ⟨f130, e130⟩ := c130
  have c131 := cp_131 hI
  obtain ⟨f131, e131⟩ := c131
  have c132 := cp_132 hI
  obtain ⟨f132, e132, h132⟩ := c132
  have c133 := cp_133 hI
  obtain ⟨f133, e133, h133⟩ := c133
  have c136 := cp_136 hI
  obtain ⟨f136, e136, h136⟩ := c136
  have c138 := cp_138 hI
  obtain ⟨f138, e138, h138⟩ := c138
  have c142 := cp_142 hI
  obtain ⟨f142, e142⟩ := c142
  have c143 := cp_143 hI
  obtain ⟨f143, e143⟩ := c143
  have c146 := cp_146 hI
  obtain ⟨f146, e146⟩ := c146
  have c147 := cp_147 hI
  obtain ⟨f147, e147, h147⟩ := c147
  have c148 := cp_148 hI
  obtain ⟨f148, e148⟩ := c148
  have c149 := cp_149 hI
  obtain ⟨f149, e149⟩ := c149
  have c150 := cp_150 hI
  obtain ⟨f150, e150⟩ := c150
  have c151 := cp_151 hI
  obtain ⟨f151, e151, h151⟩ := c151
  have c152 := cp_152 hI
  obtain ⟨f152, e152, h152⟩ := c152
  have c153 := cp_153 hI
  obtain ⟨f153, e153, h153⟩ := c153
  have c154 := cp_154 hI
  obtain ⟨f154, e154⟩ := c154
  have c155 := cp_155 hI
  obtain ⟨f155, e155⟩ := c155
  have c156 := cp_156 hI
  obtain ⟨f156, e156⟩ := c156
  have c157 := cp_157 hI
  obtain ⟨f157, e157⟩ := c157
  have c158 := cp_158 hI
  obtain ⟨f158, e158⟩ := c158
  have c159 := cp_159 hI
  obtain ⟨f159, e159⟩ := c159
  have c160 := cp_160 hI
  obtain ⟨f160, e160, h160⟩ := c160
  have c161 := cp_161 hI
  obtain ⟨f161, e161, h161⟩ := c161
  have zfh := hI.2.2
  rw [e138, e142, e136, e119] at zfh
  refine ⟨_, k_X12_counter l D cy _ _ (u0_0 := .ref (ad 120)) (u0_1 := .ref (ad 121)) (u0_2 := .int x119_2) (u0_3 := .int x119_3) (u0_4 := .int x119_4) (u0_5 := .int x119_5) (u0_6 := .int x119_6) (u0_7 := .int x119_7) (u0_8 := .int x119_8) (u0_9 := .int x119_9) (u0_10 := .long w119_10) (u0_11 := .ref (ad 122)) (c2 := f123) (u0_13 := .ref (ad 124)) (u0_14 := .ref (ad 125)) (u0_15 := .ref (ad 126)) (c3 := f127) (c4 := f128) (u0_18 := .ref (ad 129)) (c5 := f130) (c6 := f131) (c7 := f132) (c8 := f133) (u0_23 := .ref (ad 134)) (u0_24 := .ref (ad 135)) (c9 := f136) (u0_26 := .ref (ad 137)) (c10 := f138) (u0_28 := .ref (ad 139)) (u0_29 := .ref (ad 140)) (u0_30 := .ref (ad 141)) (c11 := f142) (c12 := f143) (u0_33 := .ref (ad 144)) (u0_34 := .ref (ad 145)) (c13 := f146) (x0_36 := x119_36) (u0_37 := .int x119_37) (u0_38 := .int x119_38) (u0_39 := .int x119_39) (u0_40 := .int x119_40) (c1 := f147) (c14 := f148) (c15 := f149) (c16 := f150) (c17 := f151) (c18 := f152) (c19 := f153) (c20 := f154) (c21 := f155) (c22 := f156) (c23 := f157) (c24 := f158) (c25 := f159) (c26 := f160) (c27 := f161) (x0_56 := x119_56) (x0_57 := x119_57) (u0_58 := .ref (ad 162)) (u0_59 := .int x119_59) (u0_60 := .int x119_60) (u0_61 := .ref (ad 163)) (u0_62 := .int x119_62) (u0_63 := .ref (ad 164)) (u0_64 := .ref (ad 165)) (u0_65 := .ref (ad 166)) (u0_66 := .ref (ad 167)) (u0_67 := .ref (ad 168)) (u0_68 := .ref (ad 169)) (u0_69 := .ref (ad 170)) (u0_70 := .int x119_70) (u0_71 := .int x119_71) (u0_72 := .ref (ad 171)) (u0_73 := .ref (ad 172)) e119 e147 e123 e127 e128 e130 e131 e132 e133 e136 e138 e142 e143 e146 e148 e149 e150 e151 e152 e153 e154 e155 e156 e157 e158 e159 e160 e161 b119_36 b119_56 h147 h123 h132 h133 h136 h138 h151 h152 h153 h160 h161 zfh, fun r nw l' hw => ?_⟩
  obtain ⟨n_y0_56, n_y0_57, n_d13, n_d14, n_d15, n_d16, n_d17, n_d18, n_d19, n_d20, n_d21, n_d22, n_d23, n_d24, n_d25, n_d26, n_d27, z0, z1, z2, z3, z4, z5, rfl⟩ := hw
  refine mrg_case (P := fun g1 => INV cy ad g1 ∧ TK g g1) (lk := [(119, .inr (12, [.ref (ad 120), .ref (ad 121), .int x119_2, .int x119_3, .int x119_4, .int x119_5, .int x119_6, .int x119_7, .int x119_8, .int x119_9, .long w119_10, .ref (ad 122), .ref (ad 123), .ref (ad 124), .ref (ad 125), .ref (ad 126), .ref (ad 127), .ref (ad 128), .ref (ad 129), .ref (ad 130), .ref (ad 131), .ref (ad 132), .ref (ad 133), .ref (ad 134), .ref (ad 135), .ref (ad 136), .ref (ad 137), .ref (ad 138), .ref (ad 139), .ref (ad 140), .ref (ad 141), .ref (ad 142), .ref (ad 143), .ref (ad 144), .ref (ad 145), .ref (ad 146), .int x119_36, .int x119_37, .int x119_38, .int x119_39, .int x119_40, .ref (ad 147), .ref (ad 148), .ref (ad 149), .ref (ad 150), .ref (ad 151), .ref (ad 152), .ref (ad 153), .ref (ad 154), .ref (ad 155), .ref (ad 156), .ref (ad 157), .ref (ad 158), .ref (ad 159), .ref (ad 160), .ref (ad 161), .int n_y0_56, .int n_y0_57, .ref (ad 162), .int x119_59, .int x119_60, .ref (ad 163), .int x119_62, .ref (ad 164), .ref (ad 165), .ref (ad 166), .ref (ad 167), .ref (ad 168), .ref (ad 169), .ref (ad 170), .int x119_70, .int x119_71, .ref (ad 171), .ref (ad 172)])), (146, .inl (cy 0, 60, .inl n_d13)), (148, .inl (cy 0, 30, .inl n_d14)), (149, .inl (cy 0, 30, .inl n_d15)), (150, .inl (cy 0, 5, .inl n_d16)), (151, .inl (cy 0, 4, .inl n_d17)), (152, .inl (cy 0, 20, .inl n_d18)), (153, .inl (cy 0, 30, .inl n_d19)), (154, .inl (cy 0, 120, .inl n_d20)), (155, .inl (cy 0, 120, .inl n_d21)), (156, .inl (cy 0, 5, .inl n_d22)), (157, .inl (cy 0, 5, .inl n_d23)), (158, .inl (cy 0, 5, .inl n_d24)), (159, .inl (cy 0, 5, .inl n_d25)), (160, .inl (cy 2, 30, .inl n_d26)), (161, .inl (cy 2, 5, .inl n_d27))]) ?_ ?_
  · rfl
  refine ⟨INV_up hI ?_ ?_ ?_, (by rw [cup_far rfl]), (by rw [e119]; rfl)⟩
  · exact (List.forall_mem_cons.mpr ⟨(cs_119 ⟨x119_2, x119_3, x119_4, x119_5, x119_6, x119_7, x119_8, x119_9, w119_10, x119_36, x119_37, x119_38, x119_39, x119_40, n_y0_56, n_y0_57, x119_59, x119_60, x119_62, x119_70, x119_71, rfl, b119_2, b119_3, b119_4, b119_6, b119_7, b119_8, b119_36, b119_37, b119_38, b119_39, b119_40, z0, b119_59, b119_60, b119_62, b119_70, b119_71, hU119⟩), (List.forall_mem_cons.mpr ⟨(cs_146 ⟨n_d13, rfl⟩), (List.forall_mem_cons.mpr ⟨(cs_148 ⟨n_d14, rfl⟩), (List.forall_mem_cons.mpr ⟨(cs_149 ⟨n_d15, rfl⟩), (List.forall_mem_cons.mpr ⟨(cs_150 ⟨n_d16, rfl⟩), (List.forall_mem_cons.mpr ⟨(cs_151 ⟨n_d17, rfl, z1⟩), (List.forall_mem_cons.mpr ⟨(cs_152 ⟨n_d18, rfl, z2⟩), (List.forall_mem_cons.mpr ⟨(cs_153 ⟨n_d19, rfl, z3⟩), (List.forall_mem_cons.mpr ⟨(cs_154 ⟨n_d20, rfl⟩), (List.forall_mem_cons.mpr ⟨(cs_155 ⟨n_d21, rfl⟩), (List.forall_mem_cons.mpr ⟨(cs_156 ⟨n_d22, rfl⟩), (List.forall_mem_cons.mpr ⟨(cs_157 ⟨n_d23, rfl⟩), (List.forall_mem_cons.mpr ⟨(cs_158 ⟨n_d24, rfl⟩), (List.forall_mem_cons.mpr ⟨(cs_159 ⟨n_d25, rfl⟩), (List.forall_mem_cons.mpr ⟨(cs_160 ⟨n_d26, rfl, z4⟩), (List.forall_mem_cons.mpr ⟨(cs_161 ⟨n_d27, rfl, z5⟩), (fun _ h => absurd h List.not_mem_nil)⟩)⟩)⟩)⟩)⟩)⟩)⟩)⟩)⟩)⟩)⟩)⟩)⟩)⟩)⟩)⟩)
  · exact (by rw [cup_far (S := 56) rfl, cup_far (S := 57) rfl]; exact hI.2.1)
  · exact (by have z := hI.2.2; rw [e119] at z; rw [cup_far (S := 138) rfl, cup_far (S := 142) rfl, cup_far (S := 136) rfl]; exact z)

set_option maxHeartbeats 8000000 in
set_option maxRecDepth 100000 in
theorem sm_X11_pays {D : va_G} {cy : Nat → ClassId} {ad : Nat → Nat} {g : Nat → va_E} (l : Launch) (cart post : Int32) (hI : INV cy ad g) : ∃ pst_ : Int32 → (Nat → Nat) → List (Nat × va_E) → Prop, cMi l yX11_pays wq_k_X11_pays { frames := 2, cells := 0, slots := 0, locals := 43 } 5 0 0 0 D cy (fun i => ad ([0, 38, 21, 62, 64].getD i 0)) (fun i => cup [] g ([0, 38, 21, 62, 64].getD i 0)) [.ref (ad ([0, 38, 21, 62, 64].getD 0 0)), .int cart, .int post] pst_ ∧ ∀ (r : Int32) (nw : Nat → Nat) (l' : List (Nat × va_E)), pst_ r nw l' → INV cy ad (cup (cmrg 173 5 [0, 38, 21, 62, 64] l' []) g) ∧ TK g (cup (cmrg 173 5 [0, 38, 21, 62, 64] l' []) g) := by
  have c0 := cp_0 hI
  obtain ⟨x0_1, x0_13, e0, b0_1, b0_13⟩ := c0
  have c21 := cp_21 hI
  obtain ⟨x21_5, x21_11, x21_15, x21_16, e21, b21_5, b21_11, b21_16⟩ := c21
  have c38 := cp_38 hI
  obtain ⟨x38_2, x38_4, e38, b38_4⟩ := c38
  have c62 := cp_62 hI
  have e62 := c62
  have c64 := cp_64 hI
  obtain ⟨f64, e64⟩ := c64
  refine ⟨_, k_X11_pays l D cy _ _ (u0_0 := .ref (ad 1)) (u0_1 := .int x0_1) (u0_2 := .ref (ad 2)) (u2_0 := .ref (ad 22)) (u2_1 := .ref (ad 23)) (u2_2 := .ref (ad 24)) (u2_3 := .ref (ad 25)) (u2_4 := .ref (ad 26)) (u2_5 := .int x21_5) (u2_6 := .ref (ad 27)) (u2_7 := .ref (ad 28)) (u2_8 := .ref (ad 29)) (u2_9 := .ref (ad 30)) (u2_10 := .ref (ad 31)) (x2_11 := x21_11) (u2_12 := .ref (ad 32)) (u2_13 := .ref (ad 33)) (u2_14 := .ref (ad 34)) (u2_15 := .int x21_15) (u2_16 := .int x21_16) (u2_17 := .ref (ad 35)) (u1_0 := .ref (ad 39)) (u1_1 := .ref (ad 40)) (u1_2 := .int x38_2) (u1_3 := .ref (ad 41)) (x1_4 := x38_4) (u0_5 := .ref (ad 42)) (u0_6 := .ref (ad 55)) (u0_7 := .ref (ad 59)) (u3_0 := .ref (ad 21)) (u3_1 := .ref (ad 38)) (u3_2 := .ref (ad 59)) (u3_3 := .ref (ad 66)) (u3_4 := .ref (ad 63)) (c4 := f64) (u3_6 := .ref (ad 65)) (u0_9 := .ref (ad 74)) (u0_10 := .ref (ad 88)) (u0_11 := .ref (ad 101)) (u0_12 := .ref (ad 118)) (u0_13 := .int x0_13) e0 e38 e21 e62 e64 b38_4 b21_11, fun r nw l' hw => ?_⟩
  obtain rfl := hw
  refine mrg_case (P := fun g1 => INV cy ad g1 ∧ TK g g1) (lk := []) ?_ ?_
  · rfl
  refine ⟨INV_up hI ?_ ?_ ?_, (by rw [cup_far rfl]), (by rw [cup_far rfl])⟩
  · exact (fun _ h => absurd h List.not_mem_nil)
  · exact (by rw [cup_far (S := 56) rfl, cup_far (S := 57) rfl]; exact hI.2.1)
  · exact (by have z := hI.2.2; rw [cup_far (S := 138) rfl, cup_far (S := 142) rfl, cup_far (S := 136) rfl, cup_far (S := 119) rfl]; exact z)

set_option maxHeartbeats 8000000 in
set_option maxRecDepth 100000 in
theorem sm_X12_pays {D : va_G} {cy : Nat → ClassId} {ad : Nat → Nat} {g : Nat → va_E} (l : Launch) (cx px : Int32) (hI : INV cy ad g) : ∃ pst_ : Int32 → (Nat → Nat) → List (Nat × va_E) → Prop, cMi l yX12_pays wq_k_X12_pays { frames := 5, cells := 0, slots := 0, locals := 117 } 28 0 0 0 D cy (fun i => ad ([119, 147, 123, 127, 128, 130, 131, 132, 133, 136, 138, 142, 143, 146, 148, 149, 150, 151, 152, 153, 154, 155, 156, 157, 158, 159, 160, 161].getD i 0)) (fun i => cup [] g ([119, 147, 123, 127, 128, 130, 131, 132, 133, 136, 138, 142, 143, 146, 148, 149, 150, 151, 152, 153, 154, 155, 156, 157, 158, 159, 160, 161].getD i 0)) [.ref (ad ([119, 147, 123, 127, 128, 130, 131, 132, 133, 136, 138, 142, 143, 146, 148, 149, 150, 151, 152, 153, 154, 155, 156, 157, 158, 159, 160, 161].getD 0 0)), .int cx, .int px] pst_ ∧ ∀ (r : Int32) (nw : Nat → Nat) (l' : List (Nat × va_E)), pst_ r nw l' → INV cy ad (cup (cmrg 173 28 [119, 147, 123, 127, 128, 130, 131, 132, 133, 136, 138, 142, 143, 146, 148, 149, 150, 151, 152, 153, 154, 155, 156, 157, 158, 159, 160, 161] l' []) g) ∧ TK g (cup (cmrg 173 28 [119, 147, 123, 127, 128, 130, 131, 132, 133, 136, 138, 142, 143, 146, 148, 149, 150, 151, 152, 153, 154, 155, 156, 157, 158, 159, 160, 161] l' []) g) := by
  have c119 := cp_119 hI
  obtain ⟨x119_2, x119_3, x119_4, x119_5, x119_6, x119_7, x119_8, x119_9, w119_10, x119_36, x119_37, x119_38, x119_39, x119_40, x119_56, x119_57, x119_59, x119_60, x119_62, x119_70, x119_71, e119, b119_2, b119_3, b119_4, b119_6, b119_7, b119_8, b119_36, b119_37, b119_38, b119_39, b119_40, b119_56, b119_59, b119_60, b119_62, b119_70, b119_71, hU119⟩ := c119
  have c123 := cp_123 hI
  obtain ⟨f123, e123, h123⟩ := c123
  have c127 := cp_127 hI
  obtain ⟨f127, e127⟩ := c127
  have c128 := cp_128 hI
  obtain ⟨f128, e128⟩ := c128
  have c130 := cp_130 hI
  obtain ⟨f130, e130⟩ := c130
  have c131 := cp_131 hI
  obtain ⟨f131, e131⟩ := c131
  have c132 := cp_132 hI
  obtain ⟨f132, e132, h132⟩ := c132
  have c133 := cp_133 hI
  obtain ⟨f133, e133, h133⟩ := c133
  have c136 := cp_136 hI
  obtain ⟨f136, e136, h136⟩ := c136
  have c138 := cp_138 hI
  obtain ⟨f138, e138, h138⟩ := c138
  have c142 := cp_142 hI
  obtain ⟨f142, e142⟩ := c142
  have c143 := cp_143 hI
  obtain ⟨f143, e143⟩ := c143
  have c146 := cp_146 hI
  obtain ⟨f146, e146⟩ := c146
  have c147 := cp_147 hI
  obtain ⟨f147, e147, h147⟩ := c147
  have c148 := cp_148 hI
  obtain ⟨f148, e148⟩ := c148
  have c149 := cp_149 hI
  obtain ⟨f149, e149⟩ := c149
  have c150 := cp_150 hI
  obtain ⟨f150, e150⟩ := c150
  have c151 := cp_151 hI
  obtain ⟨f151, e151, h151⟩ := c151
  have c152 := cp_152 hI
  obtain ⟨f152, e152, h152⟩ := c152
  have c153 := cp_153 hI
  obtain ⟨f153, e153, h153⟩ := c153
  have c154 := cp_154 hI
  obtain ⟨f154, e154⟩ := c154
  have c155 := cp_155 hI
  obtain ⟨f155, e155⟩ := c155
  have c156 := cp_156 hI
  obtain ⟨f156, e156⟩ := c156
  have c157 := cp_157 hI
  obtain ⟨f157, e157⟩ := c157
  have c158 := cp_158 hI
  obtain ⟨f158, e158⟩ := c158
  have c159 := cp_159 hI
  obtain ⟨f159, e159⟩ := c159
  have c160 := cp_160 hI
  obtain ⟨f160, e160, h160⟩ := c160
  have c161 := cp_161 hI
  obtain ⟨f161, e161, h161⟩ := c161
  have zfh := hI.2.2
  rw [e138, e142, e136, e119] at zfh
  refine ⟨_, k_X12_pays l D cy _ _ (u0_0 := .ref (ad 120)) (u0_1 := .ref (ad 121)) (u0_2 := .int x119_2) (u0_3 := .int x119_3) (u0_4 := .int x119_4) (u0_5 := .int x119_5) (u0_6 := .int x119_6) (u0_7 := .int x119_7) (u0_8 := .int x119_8) (u0_9 := .int x119_9) (u0_10 := .long w119_10) (u0_11 := .ref (ad 122)) (c2 := f123) (u0_13 := .ref (ad 124)) (u0_14 := .ref (ad 125)) (u0_15 := .ref (ad 126)) (c3 := f127) (c4 := f128) (u0_18 := .ref (ad 129)) (c5 := f130) (c6 := f131) (c7 := f132) (c8 := f133) (u0_23 := .ref (ad 134)) (u0_24 := .ref (ad 135)) (c9 := f136) (u0_26 := .ref (ad 137)) (c10 := f138) (u0_28 := .ref (ad 139)) (u0_29 := .ref (ad 140)) (u0_30 := .ref (ad 141)) (c11 := f142) (c12 := f143) (u0_33 := .ref (ad 144)) (u0_34 := .ref (ad 145)) (c13 := f146) (x0_36 := x119_36) (u0_37 := .int x119_37) (u0_38 := .int x119_38) (u0_39 := .int x119_39) (u0_40 := .int x119_40) (c1 := f147) (c14 := f148) (c15 := f149) (c16 := f150) (c17 := f151) (c18 := f152) (c19 := f153) (c20 := f154) (c21 := f155) (c22 := f156) (c23 := f157) (c24 := f158) (c25 := f159) (c26 := f160) (c27 := f161) (x0_56 := x119_56) (x0_57 := x119_57) (u0_58 := .ref (ad 162)) (u0_59 := .int x119_59) (u0_60 := .int x119_60) (u0_61 := .ref (ad 163)) (u0_62 := .int x119_62) (u0_63 := .ref (ad 164)) (u0_64 := .ref (ad 165)) (u0_65 := .ref (ad 166)) (u0_66 := .ref (ad 167)) (u0_67 := .ref (ad 168)) (u0_68 := .ref (ad 169)) (u0_69 := .ref (ad 170)) (u0_70 := .int x119_70) (u0_71 := .int x119_71) (u0_72 := .ref (ad 171)) (u0_73 := .ref (ad 172)) e119 e147 e123 e127 e128 e130 e131 e132 e133 e136 e138 e142 e143 e146 e148 e149 e150 e151 e152 e153 e154 e155 e156 e157 e158 e159 e160 e161 b119_36 b119_56 h147 h123 h132 h133 h136 h138 h151 h152 h153 h160 h161 zfh, fun r nw l' hw => ?_⟩
  obtain ⟨n_y0_56, n_y0_57, n_d13, n_d14, n_d15, n_d16, n_d17, n_d18, n_d19, n_d20, n_d21, n_d22, n_d23, n_d24, n_d25, n_d26, n_d27, z0, z1, z2, z3, z4, z5, rfl⟩ := hw
  refine mrg_case (P := fun g1 => INV cy ad g1 ∧ TK g g1) (lk := [(119, .inr (12, [.ref (ad 120), .ref (ad 121), .int x119_2, .int x119_3, .int x119_4, .int x119_5, .int x119_6, .int x119_7, .int x119_8, .int x119_9, .long w119_10, .ref (ad 122), .ref (ad 123), .ref (ad 124), .ref (ad 125), .ref (ad 126), .ref (ad 127), .ref (ad 128), .ref (ad 129), .ref (ad 130), .ref (ad 131), .ref (ad 132), .ref (ad 133), .ref (ad 134), .ref (ad 135), .ref (ad 136), .ref (ad 137), .ref (ad 138), .ref (ad 139), .ref (ad 140), .ref (ad 141), .ref (ad 142), .ref (ad 143), .ref (ad 144), .ref (ad 145), .ref (ad 146), .int x119_36, .int x119_37, .int x119_38, .int x119_39, .int x119_40, .ref (ad 147), .ref (ad 148), .ref (ad 149), .ref (ad 150), .ref (ad 151), .ref (ad 152), .ref (ad 153), .ref (ad 154), .ref (ad 155), .ref (ad 156), .ref (ad 157), .ref (ad 158), .ref (ad 159), .ref (ad 160), .ref (ad 161), .int n_y0_56, .int n_y0_57, .ref (ad 162), .int x119_59, .int x119_60, .ref (ad 163), .int x119_62, .ref (ad 164), .ref (ad 165), .ref (ad 166), .ref (ad 167), .ref (ad 168), .ref (ad 169), .ref (ad 170), .int x119_70, .int x119_71, .ref (ad 171), .ref (ad 172)])), (146, .inl (cy 0, 60, .inl n_d13)), (148, .inl (cy 0, 30, .inl n_d14)), (149, .inl (cy 0, 30, .inl n_d15)), (150, .inl (cy 0, 5, .inl n_d16)), (151, .inl (cy 0, 4, .inl n_d17)), (152, .inl (cy 0, 20, .inl n_d18)), (153, .inl (cy 0, 30, .inl n_d19)), (154, .inl (cy 0, 120, .inl n_d20)), (155, .inl (cy 0, 120, .inl n_d21)), (156, .inl (cy 0, 5, .inl n_d22)), (157, .inl (cy 0, 5, .inl n_d23)), (158, .inl (cy 0, 5, .inl n_d24)), (159, .inl (cy 0, 5, .inl n_d25)), (160, .inl (cy 2, 30, .inl n_d26)), (161, .inl (cy 2, 5, .inl n_d27))]) ?_ ?_
  · rfl
  refine ⟨INV_up hI ?_ ?_ ?_, (by rw [cup_far rfl]), (by rw [e119]; rfl)⟩
  · exact (List.forall_mem_cons.mpr ⟨(cs_119 ⟨x119_2, x119_3, x119_4, x119_5, x119_6, x119_7, x119_8, x119_9, w119_10, x119_36, x119_37, x119_38, x119_39, x119_40, n_y0_56, n_y0_57, x119_59, x119_60, x119_62, x119_70, x119_71, rfl, b119_2, b119_3, b119_4, b119_6, b119_7, b119_8, b119_36, b119_37, b119_38, b119_39, b119_40, z0, b119_59, b119_60, b119_62, b119_70, b119_71, hU119⟩), (List.forall_mem_cons.mpr ⟨(cs_146 ⟨n_d13, rfl⟩), (List.forall_mem_cons.mpr ⟨(cs_148 ⟨n_d14, rfl⟩), (List.forall_mem_cons.mpr ⟨(cs_149 ⟨n_d15, rfl⟩), (List.forall_mem_cons.mpr ⟨(cs_150 ⟨n_d16, rfl⟩), (List.forall_mem_cons.mpr ⟨(cs_151 ⟨n_d17, rfl, z1⟩), (List.forall_mem_cons.mpr ⟨(cs_152 ⟨n_d18, rfl, z2⟩), (List.forall_mem_cons.mpr ⟨(cs_153 ⟨n_d19, rfl, z3⟩), (List.forall_mem_cons.mpr ⟨(cs_154 ⟨n_d20, rfl⟩), (List.forall_mem_cons.mpr ⟨(cs_155 ⟨n_d21, rfl⟩), (List.forall_mem_cons.mpr ⟨(cs_156 ⟨n_d22, rfl⟩), (List.forall_mem_cons.mpr ⟨(cs_157 ⟨n_d23, rfl⟩), (List.forall_mem_cons.mpr ⟨(cs_158 ⟨n_d24, rfl⟩), (List.forall_mem_cons.mpr ⟨(cs_159 ⟨n_d25, rfl⟩), (List.forall_mem_cons.mpr ⟨(cs_160 ⟨n_d26, rfl, z4⟩), (List.forall_mem_cons.mpr ⟨(cs_161 ⟨n_d27, rfl, z5⟩), (fun _ h => absurd h List.not_mem_nil)⟩)⟩)⟩)⟩)⟩)⟩)⟩)⟩)⟩)⟩)⟩)⟩)⟩)⟩)⟩)⟩)
  · exact (by rw [cup_far (S := 56) rfl, cup_far (S := 57) rfl]; exact hI.2.1)
  · exact (by have z := hI.2.2; rw [e119] at z; rw [cup_far (S := 138) rfl, cup_far (S := 142) rfl, cup_far (S := 136) rfl]; exact z)

set_option maxHeartbeats 8000000 in
set_option maxRecDepth 100000 in
theorem sm_X11_bird {D : va_G} {cy : Nat → ClassId} {ad : Nat → Nat} {g : Nat → va_E} (l : Launch) (bird what : Int32) (hI : INV cy ad g) : ∃ pst_ : Int32 → (Nat → Nat) → List (Nat × va_E) → Prop, cMi l yX11_bird wq_k_X11_bird { frames := 2, cells := 0, slots := 0, locals := 43 } 9 0 0 0 D cy (fun i => ad ([0, 21, 38, 41, 26, 62, 66, 70, 71].getD i 0)) (fun i => cup [] g ([0, 21, 38, 41, 26, 62, 66, 70, 71].getD i 0)) [.ref (ad ([0, 21, 38, 41, 26, 62, 66, 70, 71].getD 0 0)), .int bird, .int what] pst_ ∧ ∀ (r : Int32) (nw : Nat → Nat) (l' : List (Nat × va_E)), pst_ r nw l' → INV cy ad (cup (cmrg 173 9 [0, 21, 38, 41, 26, 62, 66, 70, 71] l' []) g) ∧ TK g (cup (cmrg 173 9 [0, 21, 38, 41, 26, 62, 66, 70, 71] l' []) g) := by
  have c0 := cp_0 hI
  obtain ⟨x0_1, x0_13, e0, b0_1, b0_13⟩ := c0
  have c21 := cp_21 hI
  obtain ⟨x21_5, x21_11, x21_15, x21_16, e21, b21_5, b21_11, b21_16⟩ := c21
  have c26 := cp_26 hI
  obtain ⟨f26, e26, h26⟩ := c26
  have c38 := cp_38 hI
  obtain ⟨x38_2, x38_4, e38, b38_4⟩ := c38
  have c41 := cp_41 hI
  obtain ⟨f41, e41⟩ := c41
  have c62 := cp_62 hI
  have e62 := c62
  have c66 := cp_66 hI
  have e66 := c66
  have c70 := cp_70 hI
  obtain ⟨f70, e70⟩ := c70
  have c71 := cp_71 hI
  obtain ⟨f71, e71⟩ := c71
  refine ⟨_, k_X11_bird l D cy _ _ (u0_0 := .ref (ad 1)) (u0_1 := .int x0_1) (u0_2 := .ref (ad 2)) (u1_0 := .ref (ad 22)) (u1_1 := .ref (ad 23)) (u1_2 := .ref (ad 24)) (u1_3 := .ref (ad 25)) (c4 := f26) (x1_5 := x21_5) (u1_6 := .ref (ad 27)) (u1_7 := .ref (ad 28)) (u1_8 := .ref (ad 29)) (u1_9 := .ref (ad 30)) (u1_10 := .ref (ad 31)) (u1_11 := .int x21_11) (u1_12 := .ref (ad 32)) (u1_13 := .ref (ad 33)) (u1_14 := .ref (ad 34)) (u1_15 := .int x21_15) (u1_16 := .int x21_16) (u1_17 := .ref (ad 35)) (u2_0 := .ref (ad 39)) (u2_1 := .ref (ad 40)) (u2_2 := .int x38_2) (c3 := f41) (u2_4 := .int x38_4) (u0_5 := .ref (ad 42)) (u0_6 := .ref (ad 55)) (u0_7 := .ref (ad 59)) (u5_0 := .ref (ad 21)) (u5_1 := .ref (ad 38)) (u5_2 := .ref (ad 59)) (u6_0 := .ref (ad 21)) (u6_1 := .ref (ad 67)) (u6_2 := .ref (ad 68)) (u6_3 := .ref (ad 69)) (c7 := f70) (c8 := f71) (u6_6 := .ref (ad 72)) (u6_7 := .ref (ad 73)) (u5_4 := .ref (ad 63)) (u5_5 := .ref (ad 64)) (u5_6 := .ref (ad 65)) (u0_9 := .ref (ad 74)) (u0_10 := .ref (ad 88)) (u0_11 := .ref (ad 101)) (u0_12 := .ref (ad 118)) (u0_13 := .int x0_13) e0 e21 e38 e41 e26 e62 e66 e70 e71 b21_5 h26, fun r nw l' hw => ?_⟩
  obtain rfl := hw
  refine mrg_case (P := fun g1 => INV cy ad g1 ∧ TK g g1) (lk := []) ?_ ?_
  · rfl
  refine ⟨INV_up hI ?_ ?_ ?_, (by rw [cup_far rfl]), (by rw [cup_far rfl])⟩
  · exact (fun _ h => absurd h List.not_mem_nil)
  · exact (by rw [cup_far (S := 56) rfl, cup_far (S := 57) rfl]; exact hI.2.1)
  · exact (by have z := hI.2.2; rw [cup_far (S := 138) rfl, cup_far (S := 142) rfl, cup_far (S := 136) rfl, cup_far (S := 119) rfl]; exact z)

