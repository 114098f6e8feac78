abbrev rng (x y z : Int32) : Prop := y ≤ x ∧ x ≤ z
theorem upd_step {i : Nat} {f : Nat → Int32} {x : Int32} (h : ∀ j, j < i → f j = x) : ∀ j, j < i + 1 → upd f i x j = x := by
  intro j hj
  by_cases e : j = i
  · simp [upd, e]
  · simp only [upd, if_neg e]
    exact h j (by omega)
theorem rng_nat {x lo hi : Int32} {n : Nat} (h : rng x lo hi) (hlo : (0 : Int32) ≤ lo) (hhi : hi.toInt = n) : ∃ j : Nat, j ≤ n ∧ x = nI j := nI_of2 hhi (Int32.not_lt.mpr (Int32.le_trans hlo h.1)) h.2
theorem rng_0 {x : Int32} : rng x 0 0 ↔ x = 0 := ⟨fun h => Int32.le_antisymm h.2 h.1, fun h => by subst h; exact ⟨Int32.le_refl _, Int32.le_refl _⟩⟩
theorem tsw_out_0_1 (x : Int32) (h0 : ¬ x = 0) (h1 : ¬ x = 1) : x.toInt < 0 ∨ 1 < x.toInt := by
  have a0 : ¬ x.toInt = 0 := lv_neT h0 rfl
  have a1 : ¬ x.toInt = 1 := lv_neT h1 rfl
  omega
theorem cmin {a b c : Nat} (ha : a < 2 ^ 31) (hb : b < 2 ^ 31) (hc : (c = b ∧ b ≤ a) ∨ (c = a ∧ a ≤ b)) : (if nI b < nI a then nI b else nI a) = nI c := by
  by_cases h : b < a
  · rw [if_pos ((nI_ltI hb ha).mpr h)]
    rcases hc with hc | hc
    · rw [hc.1]
    · omega
  · rw [if_neg (fun z => h ((nI_ltI hb ha).mp z))]
    rcases hc with hc | hc
    · rw [hc.1, show b = a by omega]
    · rw [hc.1]
abbrev ans_end (n : Int32) : Int32 := if rng n 0 0 then n else -1
abbrev ans_fault (n : Int32) : Int32 := if n = 0 then 0 else -1
abbrev ans_income (n : Int32) : Int32 := if n = -1 then 0 else -2
abbrev ans_come (a b : Int32) : Int32 := if rng a 0 600 ∧ rng b 1 99 then 0 else -1
abbrev ans_party (a b c d e : Int32) : Int32 := if rng a 1 3 ∧ rng b 1 99 ∧ rng c 0 600 ∧ rng d 0 20 ∧ rng e 0 99 then 0 else -1
abbrev ans_heaps (a b c : Int32) : Int32 := if rng a 1 99 ∧ rng b 0 600 ∧ rng c 0 1 then (if c = 0 then 1 else 0) else -1
abbrev ans_teach (n : Int32) : Int32 := if n = 0 then 0 else -1
abbrev ans_later (n : Int32) : Int32 := if rng n 0 1000 then n else -1
abbrev ans_came (n : Int32) : Int32 := if rng n 0 2 then (if n = 0 then 1 else 0) else -1
abbrev ans_image (n : Int32) : Int32 := if rng n 0 2 then 0 else -1
abbrev ans_about (n : Int32) : Int32 := if rng n 0 9 then 0 else -1
theorem rng_cases9 {n : Int32} (h : rng n 0 9) : n = 0 ∨ n = 1 ∨ n = 2 ∨ n = 3 ∨ n = 4 ∨ n = 5 ∨ n = 6 ∨ n = 7 ∨ n = 8 ∨ n = 9 := by
  obtain ⟨j, hj, rfl⟩ := rng_nat (n := 9) h (by decide) rfl
  rcases (show j = 0 ∨ j = 1 ∨ j = 2 ∨ j = 3 ∨ j = 4 ∨ j = 5 ∨ j = 6 ∨ j = 7 ∨ j = 8 ∨ j = 9 by omega) with rfl | rfl | rfl | rfl | rfl | rfl | rfl | rfl | rfl | rfl <;> decide
theorem tsw_out_0_9 (x : Int32) (h0 : ¬ x = 0) (h1 : ¬ x = 1) (h2 : ¬ x = 2) (h3 : ¬ x = 3) (h4 : ¬ x = 4) (h5 : ¬ x = 5) (h6 : ¬ x = 6) (h7 : ¬ x = 7) (h8 : ¬ x = 8) (h9 : ¬ x = 9) : x.toInt < 0 ∨ 9 < x.toInt := by
  have a0 : ¬ x.toInt = 0 := lv_neT h0 rfl
  have a1 : ¬ x.toInt = 1 := lv_neT h1 rfl
  have a2 : ¬ x.toInt = 2 := lv_neT h2 rfl
  have a3 : ¬ x.toInt = 3 := lv_neT h3 rfl
  have a4 : ¬ x.toInt = 4 := lv_neT h4 rfl
  have a5 : ¬ x.toInt = 5 := lv_neT h5 rfl
  have a6 : ¬ x.toInt = 6 := lv_neT h6 rfl
  have a7 : ¬ x.toInt = 7 := lv_neT h7 rfl
  have a8 : ¬ x.toInt = 8 := lv_neT h8 rfl
  have a9 : ¬ x.toInt = 9 := lv_neT h9 rfl
  omega
theorem tsw_out_0_26 (x : Int32) (h0 : ¬ x = 0) (h1 : ¬ x = 1) (h2 : ¬ x = 2) (h3 : ¬ x = 3) (h4 : ¬ x = 4) (h5 : ¬ x = 5) (h6 : ¬ x = 6) (h7 : ¬ x = 7) (h8 : ¬ x = 8) (h9 : ¬ x = 9) (h10 : ¬ x = 10) (h11 : ¬ x = 11) (h12 : ¬ x = 12) (h13 : ¬ x = 13) (h14 : ¬ x = 14) (h15 : ¬ x = 15) (h16 : ¬ x = 16) (h17 : ¬ x = 17) (h18 : ¬ x = 18) (h19 : ¬ x = 19) (h20 : ¬ x = 20) (h21 : ¬ x = 21) (h22 : ¬ x = 22) (h23 : ¬ x = 23) (h24 : ¬ x = 24) (h25 : ¬ x = 25) (h26 : ¬ x = 26) : x.toInt < 0 ∨ 26 < x.toInt := by
  have a0 : ¬ x.toInt = 0 := lv_neT h0 rfl
  have a1 : ¬ x.toInt = 1 := lv_neT h1 rfl
  have a2 : ¬ x.toInt = 2 := lv_neT h2 rfl
  have a3 : ¬ x.toInt = 3 := lv_neT h3 rfl
  have a4 : ¬ x.toInt = 4 := lv_neT h4 rfl
  have a5 : ¬ x.toInt = 5 := lv_neT h5 rfl
  have a6 : ¬ x.toInt = 6 := lv_neT h6 rfl
  have a7 : ¬ x.toInt = 7 := lv_neT h7 rfl
  have a8 : ¬ x.toInt = 8 := lv_neT h8 rfl
  have a9 : ¬ x.toInt = 9 := lv_neT h9 rfl
  have a10 : ¬ x.toInt = 10 := lv_neT h10 rfl
  have a11 : ¬ x.toInt = 11 := lv_neT h11 rfl
  have a12 : ¬ x.toInt = 12 := lv_neT h12 rfl
  have a13 : ¬ x.toInt = 13 := lv_neT h13 rfl
  have a14 : ¬ x.toInt = 14 := lv_neT h14 rfl
  have a15 : ¬ x.toInt = 15 := lv_neT h15 rfl
  have a16 : ¬ x.toInt = 16 := lv_neT h16 rfl
  have a17 : ¬ x.toInt = 17 := lv_neT h17 rfl
  have a18 : ¬ x.toInt = 18 := lv_neT h18 rfl
  have a19 : ¬ x.toInt = 19 := lv_neT h19 rfl
  have a20 : ¬ x.toInt = 20 := lv_neT h20 rfl
  have a21 : ¬ x.toInt = 21 := lv_neT h21 rfl
  have a22 : ¬ x.toInt = 22 := lv_neT h22 rfl
  have a23 : ¬ x.toInt = 23 := lv_neT h23 rfl
  have a24 : ¬ x.toInt = 24 := lv_neT h24 rfl
  have a25 : ¬ x.toInt = 25 := lv_neT h25 rfl
  have a26 : ¬ x.toInt = 26 := lv_neT h26 rfl
  omega
theorem nestL_mem_0 : (("CrowToll", 19, (⟨"CrowToll$Reader", "<init>", "()V"⟩ : MethodName), "CrowToll") : String × Nat × MethodName × String) ∈ nestL := List.mem_of_getElem? (i := 0) rfl
theorem nestL_mem_1 : (("CrowToll$Reader", 11, (⟨"CrowToll$Road", "<init>", "()V"⟩ : MethodName), "CrowToll") : String × Nat × MethodName × String) ∈ nestL := List.mem_of_getElem? (i := 1) rfl
theorem nestL_mem_2 : (("CrowToll$Road", 54, (⟨"CrowToll$Law", "<init>", "()V"⟩ : MethodName), "CrowToll") : String × Nat × MethodName × String) ∈ nestL := List.mem_of_getElem? (i := 2) rfl
theorem nestL_mem_3 : (("CrowToll", 26, (⟨"CrowToll$Road", "<init>", "()V"⟩ : MethodName), "CrowToll") : String × Nat × MethodName × String) ∈ nestL := List.mem_of_getElem? (i := 3) rfl
theorem nestL_mem_4 : (("CrowToll", 36, (⟨"CrowToll$Stand", "<init>", "()V"⟩ : MethodName), "CrowToll") : String × Nat × MethodName × String) ∈ nestL := List.mem_of_getElem? (i := 4) rfl
theorem nestL_mem_5 : (("CrowToll", 54, (⟨"CrowToll$Acts", "<init>", "()V"⟩ : MethodName), "CrowToll") : String × Nat × MethodName × String) ∈ nestL := List.mem_of_getElem? (i := 5) rfl
theorem nestL_mem_6 : (("CrowToll$Reader", 208, (⟨"CrowToll", "within", "(III)Z"⟩ : MethodName), "CrowToll") : String × Nat × MethodName × String) ∈ nestL := List.mem_of_getElem? (i := 6) rfl
theorem nestL_mem_7 : (("CrowToll$Stand", 47, (⟨"CrowToll", "has", "(II)Z"⟩ : MethodName), "CrowToll") : String × Nat × MethodName × String) ∈ nestL := List.mem_of_getElem? (i := 7) rfl
theorem nestL_mem_8 : (("CrowToll$Day", 57, (⟨"CrowToll", "putByMinutes", "([II[I)V"⟩ : MethodName), "CrowToll") : String × Nat × MethodName × String) ∈ nestL := List.mem_of_getElem? (i := 8) rfl
theorem nestL_mem_9 : (("CrowToll$Drivers", 77, (⟨"CrowToll", "putByMinutes", "([II[I)V"⟩ : MethodName), "CrowToll") : String × Nat × MethodName × String) ∈ nestL := List.mem_of_getElem? (i := 9) rfl
theorem nestL_mem_10 : (("CrowToll$Keepers", 106, (⟨"CrowToll", "putByMinutes", "([II[I)V"⟩ : MethodName), "CrowToll") : String × Nat × MethodName × String) ∈ nestL := List.mem_of_getElem? (i := 10) rfl
theorem nestL_mem_11 : (("CrowToll$Keepers", 54, (⟨"CrowToll", "power", "(II)I"⟩ : MethodName), "CrowToll") : String × Nat × MethodName × String) ∈ nestL := List.mem_of_getElem? (i := 11) rfl
theorem nestL_mem_12 : (("CrowToll$Keepers", 58, (⟨"CrowToll", "spread", "(III[I)V"⟩ : MethodName), "CrowToll") : String × Nat × MethodName × String) ∈ nestL := List.mem_of_getElem? (i := 12) rfl
theorem nestL_mem_13 : (("CrowToll$Watch", 50, (⟨"CrowToll", "has", "(II)Z"⟩ : MethodName), "CrowToll") : String × Nat × MethodName × String) ∈ nestL := List.mem_of_getElem? (i := 13) rfl
theorem nestL_mem_14 : (("CrowToll$Sights", 56, (⟨"CrowToll", "within", "(III)Z"⟩ : MethodName), "CrowToll") : String × Nat × MethodName × String) ∈ nestL := List.mem_of_getElem? (i := 14) rfl
theorem nestL_mem_15 : (("CrowToll$Sights", 66, (⟨"CrowToll", "putByMinutes", "([II[I)V"⟩ : MethodName), "CrowToll") : String × Nat × MethodName × String) ∈ nestL := List.mem_of_getElem? (i := 15) rfl
theorem nestL_mem_16 : (("CrowToll$Sights", 110, (⟨"CrowToll", "has", "(II)Z"⟩ : MethodName), "CrowToll") : String × Nat × MethodName × String) ∈ nestL := List.mem_of_getElem? (i := 16) rfl
theorem dv_X0 : ∀ j, j < 5 → defaultValue (tyX0 j) = vp_V [.null, .null, .null, .int 0, .int 0] j := fun j hj => by match j, hj with | 0, _ => rfl | 1, _ => rfl | 2, _ => rfl | 3, _ => rfl | 4, _ => rfl | (q + 5), h => exact absurd h (by omega)
theorem dv_X1 : ∀ j, j < 7 → defaultValue (tyX1 j) = vp_V [.null, .null, .null, .null, .null, .null, .null] j := fun j hj => by match j, hj with | 0, _ => rfl | 1, _ => rfl | 2, _ => rfl | 3, _ => rfl | 4, _ => rfl | 5, _ => rfl | 6, _ => rfl | (q + 7), h => exact absurd h (by omega)
theorem dv_X2 : ∀ j, j < 11 → defaultValue (tyX2 j) = vp_V [.null, .null, .null, .null, .null, .int 0, .null, .null, .null, .null, .int 0] j := fun j hj => by match j, hj with | 0, _ => rfl | 1, _ => rfl | 2, _ => rfl | 3, _ => rfl | 4, _ => rfl | 5, _ => rfl | 6, _ => rfl | 7, _ => rfl | 8, _ => rfl | 9, _ => rfl | 10, _ => rfl | (q + 11), h => exact absurd h (by omega)
theorem dv_X3 : ∀ j, j < 9 → defaultValue (tyX3 j) = vp_V [.null, .null, .null, .null, .null, .int 0, .null, .null, .null] j := fun j hj => by match j, hj with | 0, _ => rfl | 1, _ => rfl | 2, _ => rfl | 3, _ => rfl | 4, _ => rfl | 5, _ => rfl | 6, _ => rfl | 7, _ => rfl | 8, _ => rfl | (q + 9), h => exact absurd h (by omega)
theorem dv_X4 : ∀ j, j < 5 → defaultValue (tyX4 j) = vp_V [.null, .int 0, .int 0, .int 0, .null] j := fun j hj => by match j, hj with | 0, _ => rfl | 1, _ => rfl | 2, _ => rfl | 3, _ => rfl | 4, _ => rfl | (q + 5), h => exact absurd h (by omega)
theorem dv_X5 : ∀ j, j < 3 → defaultValue (tyX5 j) = vp_V [.null, .null, .null] j := fun j hj => by match j, hj with | 0, _ => rfl | 1, _ => rfl | 2, _ => rfl | (q + 3), h => exact absurd h (by omega)
theorem dv_X6 : ∀ j, j < 12 → defaultValue (tyX6 j) = vp_V [.null, .int 0, .int 0, .null, .int 0, .int 0, .int 0, .int 0, .int 0, .int 0, .int 0, .long 0] j := fun j hj => by match j, hj with | 0, _ => rfl | 1, _ => rfl | 2, _ => rfl | 3, _ => rfl | 4, _ => rfl | 5, _ => rfl | 6, _ => rfl | 7, _ => rfl | 8, _ => rfl | 9, _ => rfl | 10, _ => rfl | 11, _ => rfl | (q + 12), h => exact absurd h (by omega)
theorem dv_X7 : ∀ j, j < 18 → defaultValue (tyX7 j) = vp_V [.null, .null, .null, .null, .null, .int 0, .null, .null, .null, .null, .null, .int 0, .null, .null, .null, .int 0, .int 0, .null] j := fun j hj => by match j, hj with | 0, _ => rfl | 1, _ => rfl | 2, _ => rfl | 3, _ => rfl | 4, _ => rfl | 5, _ => rfl | 6, _ => rfl | 7, _ => rfl | 8, _ => rfl | 9, _ => rfl | 10, _ => rfl | 11, _ => rfl | 12, _ => rfl | 13, _ => rfl | 14, _ => rfl | 15, _ => rfl | 16, _ => rfl | 17, _ => rfl | (q + 18), h => exact absurd h (by omega)
theorem dv_X8 : ∀ j, j < 16 → defaultValue (tyX8 j) = vp_V [.null, .null, .null, .null, .null, .null, .null, .int 0, .int 0, .null, .null, .int 0, .null, .int 0, .int 0, .int 0] j := fun j hj => by match j, hj with | 0, _ => rfl | 1, _ => rfl | 2, _ => rfl | 3, _ => rfl | 4, _ => rfl | 5, _ => rfl | 6, _ => rfl | 7, _ => rfl | 8, _ => rfl | 9, _ => rfl | 10, _ => rfl | 11, _ => rfl | 12, _ => rfl | 13, _ => rfl | 14, _ => rfl | 15, _ => rfl | (q + 16), h => exact absurd h (by omega)
theorem dv_X9 : ∀ j, j < 5 → defaultValue (tyX9 j) = vp_V [.null, .null, .int 0, .null, .int 0] j := fun j hj => by match j, hj with | 0, _ => rfl | 1, _ => rfl | 2, _ => rfl | 3, _ => rfl | 4, _ => rfl | (q + 5), h => exact absurd h (by omega)
theorem dv_X10 : ∀ j, j < 8 → defaultValue (tyX10 j) = vp_V [.null, .null, .null, .null, .null, .null, .null, .null] j := fun j hj => by match j, hj with | 0, _ => rfl | 1, _ => rfl | 2, _ => rfl | 3, _ => rfl | 4, _ => rfl | 5, _ => rfl | 6, _ => rfl | 7, _ => rfl | (q + 8), h => exact absurd h (by omega)
theorem dv_X11 : ∀ j, j < 14 → defaultValue (tyX11 j) = vp_V [.null, .int 0, .null, .null, .null, .null, .null, .null, .null, .null, .null, .null, .null, .int 0] j := fun j hj => by match j, hj with | 0, _ => rfl | 1, _ => rfl | 2, _ => rfl | 3, _ => rfl | 4, _ => rfl | 5, _ => rfl | 6, _ => rfl | 7, _ => rfl | 8, _ => rfl | 9, _ => rfl | 10, _ => rfl | 11, _ => rfl | 12, _ => rfl | 13, _ => rfl | (q + 14), h => exact absurd h (by omega)
theorem dv_X12 : ∀ j, j < 74 → defaultValue (tyX12 j) = vp_V [.null, .null, .int 0, .int 0, .int 0, .int 0, .int 0, .int 0, .int 0, .int 0, .long 0, .null, .null, .null, .null, .null, .null, .null, .null, .null, .null, .null, .null, .null, .null, .null, .null, .null, .null, .null, .null, .null, .null, .null, .null, .null, .int 0, .int 0, .int 0, .int 0, .int 0, .null, .null, .null, .null, .null, .null, .null, .null, .null, .null, .null, .null, .null, .null, .null, .int 0, .int 0, .null, .int 0, .int 0, .null, .int 0, .null, .null, .null, .null, .null, .null, .null, .int 0, .int 0, .null, .null] j := fun j hj => by match j, hj with | 0, _ => rfl | 1, _ => rfl | 2, _ => rfl | 3, _ => rfl | 4, _ => rfl | 5, _ => rfl | 6, _ => rfl | 7, _ => rfl | 8, _ => rfl | 9, _ => rfl | 10, _ => rfl | 11, _ => rfl | 12, _ => rfl | 13, _ => rfl | 14, _ => rfl | 15, _ => rfl | 16, _ => rfl | 17, _ => rfl | 18, _ => rfl | 19, _ => rfl | 20, _ => rfl | 21, _ => rfl | 22, _ => rfl | 23, _ => rfl | 24, _ => rfl | 25, _ => rfl | 26, _ => rfl | 27, _ => rfl | 28, _ => rfl | 29, _ => rfl | 30, _ => rfl | 31, _ => rfl | 32, _ => rfl | 33, _ => rfl | 34, _ => rfl | 35, _ => rfl | 36, _ => rfl | 37, _ => rfl | 38, _ => rfl | 39, _ => rfl | 40, _ => rfl | 41, _ => rfl | 42, _ => rfl | 43, _ => rfl | 44, _ => rfl | 45, _ => rfl | 46, _ => rfl | 47, _ => rfl | 48, _ => rfl | 49, _ => rfl | 50, _ => rfl | 51, _ => rfl | 52, _ => rfl | 53, _ => rfl | 54, _ => rfl | 55, _ => rfl | 56, _ => rfl | 57, _ => rfl | 58, _ => rfl | 59, _ => rfl | 60, _ => rfl | 61, _ => rfl | 62, _ => rfl | 63, _ => rfl | 64, _ => rfl | 65, _ => rfl | 66, _ => rfl | 67, _ => rfl | 68, _ => rfl | 69, _ => rfl | 70, _ => rfl | 71, _ => rfl | 72, _ => rfl | 73, _ => rfl | (q + 74), h => exact absurd h (by omega)
theorem gw_X0 : List.all wsX00 goodWord = true := by decide +kernel
theorem gw_X1 : List.all wsX10 goodWord = true := by decide +kernel
theorem gw_X2 : List.all wsX20 goodWord = true := by decide +kernel
theorem gw_X3 : List.all wsX30 goodWord = true := by decide +kernel
theorem gw_X4 : List.all wsX40 goodWord = true := by decide +kernel
theorem gw_X5 : List.all wsX50 goodWord = true := by decide +kernel
theorem gw_X6 : List.all wsX60 goodWord = true := by decide +kernel
theorem gw_X7 : List.all wsX70 goodWord = true := by decide +kernel
theorem gw_X8 : List.all wsX80 goodWord = true := by decide +kernel
theorem gw_X9 : List.all wsX90 goodWord = true := by decide +kernel
theorem gw_X10 : List.all wsX100 goodWord = true := by decide +kernel
theorem gw_X11 : List.all wsX110 goodWord = true := by decide +kernel
theorem gw_X12 : List.all wsX120 goodWord = true := by decide +kernel
