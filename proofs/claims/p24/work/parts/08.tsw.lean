theorem tsw_out_m10_m1 (x : Int32) (h0 : ¬ x = (-10)) (h1 : ¬ x = (-9)) (h2 : ¬ x = (-8)) (h3 : ¬ x = (-7)) (h4 : ¬ x = (-6)) (h5 : ¬ x = (-5)) (h6 : ¬ x = (-4)) (h7 : ¬ x = (-3)) (h8 : ¬ x = (-2)) (h9 : ¬ x = (-1)) : x.toInt < (-10) ∨ (-1) < x.toInt := by
  have a0 : ¬ x.toInt = (-10) := lv_neT h0 rfl
  have a1 : ¬ x.toInt = (-9) := lv_neT h1 rfl
  have a2 : ¬ x.toInt = (-8) := lv_neT h2 rfl
  have a3 : ¬ x.toInt = (-7) := lv_neT h3 rfl
  have a4 : ¬ x.toInt = (-6) := lv_neT h4 rfl
  have a5 : ¬ x.toInt = (-5) := lv_neT h5 rfl
  have a6 : ¬ x.toInt = (-4) := lv_neT h6 rfl
  have a7 : ¬ x.toInt = (-3) := lv_neT h7 rfl
  have a8 : ¬ x.toInt = (-2) := lv_neT h8 rfl
  have a9 : ¬ x.toInt = (-1) := lv_neT h9 rfl
  omega
theorem tsw_out_0_3 (x : Int32) (h0 : ¬ x = 0) (h1 : ¬ x = 1) (h2 : ¬ x = 2) (h3 : ¬ x = 3) : x.toInt < 0 ∨ 3 < x.toInt := by
  have a0 : ¬ x.toInt = 0 := lv_neT h0 rfl
  have a1 : ¬ x.toInt = 1 := lv_neT h1 rfl
  have a2 : ¬ x.toInt = 2 := lv_neT h2 rfl
  have a3 : ¬ x.toInt = 3 := lv_neT h3 rfl
  omega
theorem tsw_out_0_4 (x : Int32) (h0 : ¬ x = 0) (h1 : ¬ x = 1) (h2 : ¬ x = 2) (h3 : ¬ x = 3) (h4 : ¬ x = 4) : x.toInt < 0 ∨ 4 < x.toInt := by
  have a0 : ¬ x.toInt = 0 := lv_neT h0 rfl
  have a1 : ¬ x.toInt = 1 := lv_neT h1 rfl
  have a2 : ¬ x.toInt = 2 := lv_neT h2 rfl
  have a3 : ¬ x.toInt = 3 := lv_neT h3 rfl
  have a4 : ¬ x.toInt = 4 := lv_neT h4 rfl
  omega
