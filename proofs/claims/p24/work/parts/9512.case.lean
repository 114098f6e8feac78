set_option maxHeartbeats 8000000 in
set_option maxRecDepth 100000 in
theorem lc_back {p : Program} {e : Env} {s : State} {m : MethodId} {below : List Frame} {meth : Method} {c : Code} (l : Launch) {b L : Nat} {xs : Nat → Int32} {D : va_G} {cy : Nat → ClassId} {ad : Nat → Nat} {g : Nat → va_E} {H : Heap} {locs : List Loc} {cells slots : Nat} {ls : Array Slot} {v : Int32} (hC : CallFix p m c code 4 s #[Value.ref b] lw_tbl RL) (hX : va_X b L xs s s.heap) (hbl : b < s.heap.size) (hL : L ≤ 3072) (hv : 0 ≤ v.toInt ∧ v.toInt + 6 ≤ L) (hI : INV cy ad g) (hT : TE g) (hO : cO D cy (fun q : Nat => s.heap.size ≤ q) s.heap s 173 ad (cup [] g) H locs) (hce : cells + 0 ≤ 600000) (hsl : slots + 0 ≤ 7302250) (hl : lv_has ls 4 [(0, .ref b), (1, .ref (ad 0)), (2, .ref (ad 119)), (3, .int v)]) (K : ∀ (g1 : Nat → va_E) (H1 : Heap) (locs1 : List Loc), INV cy ad g1 → TE g1 → cO D cy (fun q : Nat => s.heap.size ≤ q) s.heap s 173 ad (cup [] g1) H1 locs1 → W p l e room_1 s m #[Value.ref b] below meth c H1 locs1 cells slots (lw_Z below #[Value.ref b] s) (F0 m 917 ls [])) : W p l e room_1 s m #[Value.ref b] below meth c H locs cells slots (lw_Z below #[Value.ref b] s) (F0 m 871 ls []) := by
  obtain ⟨hx, hb, hml, hown, hts⟩ := id hC
  refine lv_aload_n hx hb dL_law_871 rfl (lv_at hl 1 rfl) ?_
  refine lv_aload_n hx hb dL_law_872 rfl (lv_at hl 0 rfl) ?_
  refine lv_iload_n hx hb dL_law_873 rfl (lv_at hl 3 rfl) ?_
  refine lv_iconst (v := 1) hx hb dL_law_874 (by decide) ?_
  refine lv_iadd hx hb dL_law_875 ?_
  refine va_sld hx hb hX hbl (Nat.not_le.mpr hbl) hO.2.2.2.1 (sc_in hv hL (c := 1) (by decide)) dL_law_876 ?_
  refine lv_topi (fun a876_1 ea876_1 => ?_)
  obtain ⟨post0, hM0, hP0⟩ := sm_X11_back (D := D) l a876_1 hI
  have hR0 : ∃ fs, g 0 = .inr (11, fs) := INV_obj11 hI
  obtain ⟨fs0, hE0⟩ := hR0
  refine cg_Vi (As := [.int a876_1]) (rest := []) (mc := 0) (ms := 0) (rm := { frames := 4, cells := 0, slots := 0, locals := 106 }) hC hl.1 hO [0, 42, 43, 38, 39, 40, 41, 44, 45, 46, 55, 62, 21, 35, 59, 66, 24, 25, 28, 29, 30, 31, 36, 37, 60, 61, 67, 68, 69, 70, 71, 72, 73, 63, 64, 65, 47, 48, 49, 50, 51, 52, 53, 54] (by decide +kernel) hM0 gL_k_X11_back rfl rfl rfl 1 (by decide +kernel) ⟨Nat.le_of_ble_eq_true rfl, Nat.le_of_ble_eq_true rfl⟩ rfl (by decide) hE0 rfl rfl (Nat.le_of_ble_eq_true rfl) dL_law_877 ⟨hce, hsl⟩ (fun r0 nw0 l0 H locs hw hO => ?_)
  obtain ⟨hI, hK0⟩ := hP0 _ _ _ hw
  have hT := hK0.te hT
  obtain ⟨g0, hg0⟩ : ∃ z : Nat → va_E, z = cup (cmrg 173 44 [0, 42, 43, 38, 39, 40, 41, 44, 45, 46, 55, 62, 21, 35, 59, 66, 24, 25, 28, 29, 30, 31, 36, 37, 60, 61, 67, 68, 69, 70, 71, 72, 73, 63, 64, 65, 47, 48, 49, 50, 51, 52, 53, 54] l0 []) g := ⟨_, rfl⟩
  rw [← hg0] at hI hO hT
  have hO : cO D cy (fun q : Nat => s.heap.size ≤ q) s.heap s 173 ad (cup [] g0) H locs := hO
  clear hg0 hK0 hw hP0 hM0 hE0
  refine lv_pop hx hb dL_law_880 rfl ?_
  refine lv_aload_n hx hb dL_law_881 rfl (lv_at hl 2 rfl) ?_
  refine lv_aload_n hx hb dL_law_882 rfl (lv_at hl 0 rfl) ?_
  refine lv_iload_n hx hb dL_law_883 rfl (lv_at hl 3 rfl) ?_
  refine lv_iconst (v := 1) hx hb dL_law_884 (by decide) ?_
  refine lv_iadd hx hb dL_law_885 ?_
  refine va_sld hx hb hX hbl (Nat.not_le.mpr hbl) hO.2.2.2.1 (sc_in hv hL (c := 1) (by decide)) dL_law_886 ?_
  refine lv_topi (fun a886_1 ea886_1 => ?_)
  obtain ⟨post1, hM1, hP1⟩ := sm_X12_back (D := D) l a886_1 hI
  have hR1 : ∃ fs, g0 119 = .inr (12, fs) := INV_obj12 hI
  obtain ⟨fs1, hE1⟩ := hR1
  refine cg_Vi (As := [.int a886_1]) (rest := []) (mc := 0) (ms := 0) (rm := { frames := 1, cells := 0, slots := 0, locals := 22 }) hC hl.1 hO [119, 172, 171, 147] (by decide +kernel) hM1 gL_k_X12_back rfl rfl rfl 1 (by decide +kernel) ⟨Nat.le_of_ble_eq_true rfl, Nat.le_of_ble_eq_true rfl⟩ rfl (by decide) hE1 rfl rfl (Nat.le_of_ble_eq_true rfl) dL_law_887 ⟨hce, hsl⟩ (fun r1 nw1 l1 H locs hw hO => ?_)
  obtain ⟨hI, hK1⟩ := hP1 _ _ _ hw
  have hT := hK1.te hT
  obtain ⟨g1, hg1⟩ : ∃ z : Nat → va_E, z = cup (cmrg 173 4 [119, 172, 171, 147] l1 []) g0 := ⟨_, rfl⟩
  rw [← hg1] at hI hO hT
  have hO : cO D cy (fun q : Nat => s.heap.size ≤ q) s.heap s 173 ad (cup [] g1) H locs := hO
  refine lv_pop hx hb dL_law_890 rfl ?_
  refine lv_goto (tgt := 917) hx hb dL_law_891 (by decide) ?_
  exact K _ _ _ hI hT hO

set_option maxHeartbeats 8000000 in
set_option maxRecDepth 100000 in
theorem lc_about {p : Program} {e : Env} {s : State} {m : MethodId} {below : List Frame} {meth : Method} {c : Code} (l : Launch) {b L : Nat} {xs : Nat → Int32} {D : va_G} {cy : Nat → ClassId} {ad : Nat → Nat} {g : Nat → va_E} {H : Heap} {locs : List Loc} {cells slots : Nat} {ls : Array Slot} {v : Int32} (hC : CallFix p m c code 4 s #[Value.ref b] lw_tbl RL) (hX : va_X b L xs s s.heap) (hbl : b < s.heap.size) (hL : L ≤ 3072) (hv : 0 ≤ v.toInt ∧ v.toInt + 6 ≤ L) (hI : INV cy ad g) (hT : TE g) (hO : cO D cy (fun q : Nat => s.heap.size ≤ q) s.heap s 173 ad (cup [] g) H locs) (hce : cells + 0 ≤ 600000) (hsl : slots + 0 ≤ 7302250) (hl : lv_has ls 4 [(0, .ref b), (1, .ref (ad 0)), (2, .ref (ad 119)), (3, .int v)]) (K : ∀ (g1 : Nat → va_E) (H1 : Heap) (locs1 : List Loc), INV cy ad g1 → TE g1 → cO D cy (fun q : Nat => s.heap.size ≤ q) s.heap s 173 ad (cup [] g1) H1 locs1 → W p l e room_1 s m #[Value.ref b] below meth c H1 locs1 cells slots (lw_Z below #[Value.ref b] s) (F0 m 917 ls [])) : W p l e room_1 s m #[Value.ref b] below meth c H locs cells slots (lw_Z below #[Value.ref b] s) (F0 m 894 ls []) := by
  obtain ⟨hx, hb, hml, hown, hts⟩ := id hC
  refine lv_aload_n hx hb dL_law_894 rfl (lv_at hl 1 rfl) ?_
  refine lv_aload_n hx hb dL_law_895 rfl (lv_at hl 0 rfl) ?_
  refine lv_iload_n hx hb dL_law_896 rfl (lv_at hl 3 rfl) ?_
  refine lv_iconst (v := 1) hx hb dL_law_897 (by decide) ?_
  refine lv_iadd hx hb dL_law_898 ?_
  refine va_sld hx hb hX hbl (Nat.not_le.mpr hbl) hO.2.2.2.1 (sc_in hv hL (c := 1) (by decide)) dL_law_899 ?_
  refine lv_topi (fun a899_1 ea899_1 => ?_)
  obtain ⟨post0, hM0, hP0⟩ := sm_X11_about (D := D) l a899_1 hI
  have hR0 : ∃ fs, g 0 = .inr (11, fs) := INV_obj11 hI
  obtain ⟨fs0, hE0⟩ := hR0
  refine cg_Vi (As := [.int a899_1]) (rest := []) (mc := 0) (ms := 0) (rm := { frames := 0, cells := 0, slots := 0, locals := 0 }) hC hl.1 hO [0, 21, 38, 55, 101, 35] (by decide +kernel) hM0 gL_k_X11_about rfl rfl rfl 1 (by decide +kernel) ⟨Nat.le_of_ble_eq_true rfl, Nat.le_of_ble_eq_true rfl⟩ rfl (by decide) hE0 rfl rfl (Nat.le_of_ble_eq_true rfl) dL_law_900 ⟨hce, hsl⟩ (fun r0 nw0 l0 H locs hw hO => ?_)
  obtain ⟨hI, hK0⟩ := hP0 _ _ _ hw
  have hT := hK0.te hT
  obtain ⟨g0, hg0⟩ : ∃ z : Nat → va_E, z = cup (cmrg 173 6 [0, 21, 38, 55, 101, 35] l0 []) g := ⟨_, rfl⟩
  rw [← hg0] at hI hO hT
  have hO : cO D cy (fun q : Nat => s.heap.size ≤ q) s.heap s 173 ad (cup [] g0) H locs := hO
  clear hg0 hK0 hw hP0 hM0 hE0
  refine lv_pop hx hb dL_law_903 rfl ?_
  refine lv_aload_n hx hb dL_law_904 rfl (lv_at hl 2 rfl) ?_
  refine lv_aload_n hx hb dL_law_905 rfl (lv_at hl 0 rfl) ?_
  refine lv_iload_n hx hb dL_law_906 rfl (lv_at hl 3 rfl) ?_
  refine lv_iconst (v := 1) hx hb dL_law_907 (by decide) ?_
  refine lv_iadd hx hb dL_law_908 ?_
  refine va_sld hx hb hX hbl (Nat.not_le.mpr hbl) hO.2.2.2.1 (sc_in hv hL (c := 1) (by decide)) dL_law_909 ?_
  refine lv_topi (fun a909_1 ea909_1 => ?_)
  obtain ⟨post1, hM1, hP1⟩ := sm_X12_about (D := D) l a909_1 hI
  have hR1 : ∃ fs, g0 119 = .inr (12, fs) := INV_obj12 hI
  obtain ⟨fs1, hE1⟩ := hR1
  refine cg_Vi (As := [.int a909_1]) (rest := []) (mc := 0) (ms := 0) (rm := { frames := 1, cells := 0, slots := 0, locals := 20 }) hC hl.1 hO [119, 122, 123, 147, 125] (by decide +kernel) hM1 gL_k_X12_about rfl rfl rfl 1 (by decide +kernel) ⟨Nat.le_of_ble_eq_true rfl, Nat.le_of_ble_eq_true rfl⟩ rfl (by decide) hE1 rfl rfl (Nat.le_of_ble_eq_true rfl) dL_law_910 ⟨hce, hsl⟩ (fun r1 nw1 l1 H locs hw hO => ?_)
  obtain ⟨hI, hK1⟩ := hP1 _ _ _ hw
  have hT := hK1.te hT
  obtain ⟨g1, hg1⟩ : ∃ z : Nat → va_E, z = cup (cmrg 173 5 [119, 122, 123, 147, 125] l1 []) g0 := ⟨_, rfl⟩
  rw [← hg1] at hI hO hT
  have hO : cO D cy (fun q : Nat => s.heap.size ≤ q) s.heap s 173 ad (cup [] g1) H locs := hO
  refine lv_pop hx hb dL_law_913 rfl ?_
  refine lv_goto (tgt := 917) hx hb dL_law_914 (by decide) ?_
  exact K _ _ _ hI hT hO

