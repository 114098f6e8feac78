set_option maxHeartbeats 8000000 in
set_option maxRecDepth 100000 in
theorem lc_feed {p : Program} {e : Env} {s : State} {m : MethodId} {below : List Frame} {meth : Method} {c : Code} (l : Launch) {b L : Nat} {xs : Nat → Int32} {D : va_G} {cy : Nat → ClassId} {ad : Nat → Nat} {g : Nat → va_E} {H : Heap} {locs : List Loc} {cells slots : Nat} {ls : Array Slot} {v : Int32} (hC : CallFix p m c code 4 s #[Value.ref b] lw_tbl RL) (hX : va_X b L xs s s.heap) (hbl : b < s.heap.size) (hL : L ≤ 3072) (hv : 0 ≤ v.toInt ∧ v.toInt + 6 ≤ L) (hI : INV cy ad g) (hT : TE g) (hO : cO D cy (fun q : Nat => s.heap.size ≤ q) s.heap s 173 ad (cup [] g) H locs) (hce : cells + 0 ≤ 600000) (hsl : slots + 0 ≤ 7302250) (hl : lv_has ls 4 [(0, .ref b), (1, .ref (ad 0)), (2, .ref (ad 119)), (3, .int v)]) (K : ∀ (g1 : Nat → va_E) (H1 : Heap) (locs1 : List Loc), INV cy ad g1 → TE g1 → cO D cy (fun q : Nat => s.heap.size ≤ q) s.heap s 173 ad (cup [] g1) H1 locs1 → W p l e room_1 s m #[Value.ref b] below meth c H1 locs1 cells slots (lw_Z below #[Value.ref b] s) (F0 m 917 ls [])) : W p l e room_1 s m #[Value.ref b] below meth c H locs cells slots (lw_Z below #[Value.ref b] s) (F0 m 156 ls []) := by
  obtain ⟨hx, hb, hml, hown, hts⟩ := id hC
  refine lv_aload_n hx hb dL_law_156 rfl (lv_at hl 1 rfl) ?_
  refine lv_aload_n hx hb dL_law_157 rfl (lv_at hl 0 rfl) ?_
  refine lv_iload_n hx hb dL_law_158 rfl (lv_at hl 3 rfl) ?_
  refine lv_iconst (v := 1) hx hb dL_law_159 (by decide) ?_
  refine lv_iadd hx hb dL_law_160 ?_
  refine va_sld hx hb hX hbl (Nat.not_le.mpr hbl) hO.2.2.2.1 (sc_in hv hL (c := 1) (by decide)) dL_law_161 ?_
  refine lv_topi (fun a161_1 ea161_1 => ?_)
  refine lv_aload_n hx hb dL_law_162 rfl (lv_at hl 0 rfl) ?_
  refine lv_iload_n hx hb dL_law_163 rfl (lv_at hl 3 rfl) ?_
  refine lv_iconst (v := 2) hx hb dL_law_164 (by decide) ?_
  refine lv_iadd hx hb dL_law_165 ?_
  refine va_sld hx hb hX hbl (Nat.not_le.mpr hbl) hO.2.2.2.1 (sc_in hv hL (c := 2) (by decide)) dL_law_166 ?_
  refine lv_topi (fun a166_2 ea166_2 => ?_)
  refine lv_aload_n hx hb dL_law_167 rfl (lv_at hl 0 rfl) ?_
  refine lv_iload_n hx hb dL_law_168 rfl (lv_at hl 3 rfl) ?_
  refine lv_iconst (v := 3) hx hb dL_law_169 (by decide) ?_
  refine lv_iadd hx hb dL_law_170 ?_
  refine va_sld hx hb hX hbl (Nat.not_le.mpr hbl) hO.2.2.2.1 (sc_in hv hL (c := 3) (by decide)) dL_law_171 ?_
  refine lv_topi (fun a171_3 ea171_3 => ?_)
  refine lv_aload_n hx hb dL_law_172 rfl (lv_at hl 0 rfl) ?_
  refine lv_iload_n hx hb dL_law_173 rfl (lv_at hl 3 rfl) ?_
  refine lv_iconst (v := 4) hx hb dL_law_174 (by decide) ?_
  refine lv_iadd hx hb dL_law_175 ?_
  refine va_sld hx hb hX hbl (Nat.not_le.mpr hbl) hO.2.2.2.1 (sc_in hv hL (c := 4) (by decide)) dL_law_176 ?_
  refine lv_topi (fun a176_4 ea176_4 => ?_)
  refine lv_aload_n hx hb dL_law_177 rfl (lv_at hl 0 rfl) ?_
  refine lv_iload_n hx hb dL_law_178 rfl (lv_at hl 3 rfl) ?_
  refine lv_iconst (v := 5) hx hb dL_law_179 (by decide) ?_
  refine lv_iadd hx hb dL_law_180 ?_
  refine va_sld hx hb hX hbl (Nat.not_le.mpr hbl) hO.2.2.2.1 (sc_in hv hL (c := 5) (by decide)) dL_law_181 ?_
  refine lv_topi (fun a181_5 ea181_5 => ?_)
  obtain ⟨post0, hM0, hP0⟩ := sm_X11_feed (D := D) l a161_1 a166_2 a171_3 a176_4 a181_5 hI
  have hR0 : ∃ fs, g 0 = .inr (11, fs) := INV_obj11 hI
  obtain ⟨fs0, hE0⟩ := hR0
  refine cg_Vi (As := [.int a161_1, .int a166_2, .int a171_3, .int a176_4, .int a181_5]) (rest := []) (mc := 0) (ms := 0) (rm := { frames := 1, cells := 0, slots := 0, locals := 22 }) hC hl.1 hO [0, 1] (by decide +kernel) hM0 gL_k_X11_feed rfl rfl rfl 5 (by decide +kernel) ⟨Nat.le_of_ble_eq_true rfl, Nat.le_of_ble_eq_true rfl⟩ rfl (by decide) hE0 rfl rfl (Nat.le_of_ble_eq_true rfl) dL_law_182 ⟨hce, hsl⟩ (fun r0 nw0 l0 H locs hw hO => ?_)
  obtain ⟨hI, hK0⟩ := hP0 _ _ _ hw
  have hT := hK0.te hT
  obtain ⟨g0, hg0⟩ : ∃ z : Nat → va_E, z = cup (cmrg 173 2 [0, 1] l0 []) g := ⟨_, rfl⟩
  rw [← hg0] at hI hO hT
  have hO : cO D cy (fun q : Nat => s.heap.size ≤ q) s.heap s 173 ad (cup [] g0) H locs := hO
  clear hg0 hK0 hw hP0 hM0 hE0
  refine lv_pop hx hb dL_law_185 rfl ?_
  refine lv_aload_n hx hb dL_law_186 rfl (lv_at hl 2 rfl) ?_
  refine lv_aload_n hx hb dL_law_187 rfl (lv_at hl 0 rfl) ?_
  refine lv_iload_n hx hb dL_law_188 rfl (lv_at hl 3 rfl) ?_
  refine lv_iconst (v := 1) hx hb dL_law_189 (by decide) ?_
  refine lv_iadd hx hb dL_law_190 ?_
  refine va_sld hx hb hX hbl (Nat.not_le.mpr hbl) hO.2.2.2.1 (sc_in hv hL (c := 1) (by decide)) dL_law_191 ?_
  refine lv_topi (fun a191_1 ea191_1 => ?_)
  refine lv_aload_n hx hb dL_law_192 rfl (lv_at hl 0 rfl) ?_
  refine lv_iload_n hx hb dL_law_193 rfl (lv_at hl 3 rfl) ?_
  refine lv_iconst (v := 2) hx hb dL_law_194 (by decide) ?_
  refine lv_iadd hx hb dL_law_195 ?_
  refine va_sld hx hb hX hbl (Nat.not_le.mpr hbl) hO.2.2.2.1 (sc_in hv hL (c := 2) (by decide)) dL_law_196 ?_
  refine lv_topi (fun a196_2 ea196_2 => ?_)
  refine lv_aload_n hx hb dL_law_197 rfl (lv_at hl 0 rfl) ?_
  refine lv_iload_n hx hb dL_law_198 rfl (lv_at hl 3 rfl) ?_
  refine lv_iconst (v := 3) hx hb dL_law_199 (by decide) ?_
  refine lv_iadd hx hb dL_law_200 ?_
  refine va_sld hx hb hX hbl (Nat.not_le.mpr hbl) hO.2.2.2.1 (sc_in hv hL (c := 3) (by decide)) dL_law_201 ?_
  refine lv_topi (fun a201_3 ea201_3 => ?_)
  refine lv_aload_n hx hb dL_law_202 rfl (lv_at hl 0 rfl) ?_
  refine lv_iload_n hx hb dL_law_203 rfl (lv_at hl 3 rfl) ?_
  refine lv_iconst (v := 4) hx hb dL_law_204 (by decide) ?_
  refine lv_iadd hx hb dL_law_205 ?_
  refine va_sld hx hb hX hbl (Nat.not_le.mpr hbl) hO.2.2.2.1 (sc_in hv hL (c := 4) (by decide)) dL_law_206 ?_
  refine lv_topi (fun a206_4 ea206_4 => ?_)
  refine lv_aload_n hx hb dL_law_207 rfl (lv_at hl 0 rfl) ?_
  refine lv_iload_n hx hb dL_law_208 rfl (lv_at hl 3 rfl) ?_
  refine lv_iconst (v := 5) hx hb dL_law_209 (by decide) ?_
  refine lv_iadd hx hb dL_law_210 ?_
  refine va_sld hx hb hX hbl (Nat.not_le.mpr hbl) hO.2.2.2.1 (sc_in hv hL (c := 5) (by decide)) dL_law_211 ?_
  refine lv_topi (fun a211_5 ea211_5 => ?_)
  obtain ⟨post1, hM1, hP1⟩ := sm_X12_feed (D := D) l a191_1 a196_2 a201_3 a206_4 a211_5 hI
  have hR1 : ∃ fs, g0 119 = .inr (12, fs) := INV_obj12 hI
  obtain ⟨fs1, hE1⟩ := hR1
  refine cg_Vi (As := [.int a191_1, .int a196_2, .int a201_3, .int a206_4, .int a211_5]) (rest := []) (mc := 0) (ms := 0) (rm := { frames := 0, cells := 0, slots := 0, locals := 0 }) hC hl.1 hO [119, 120] (by decide +kernel) hM1 gL_k_X12_feed rfl rfl rfl 5 (by decide +kernel) ⟨Nat.le_of_ble_eq_true rfl, Nat.le_of_ble_eq_true rfl⟩ rfl (by decide) hE1 rfl rfl (Nat.le_of_ble_eq_true rfl) dL_law_212 ⟨hce, hsl⟩ (fun r1 nw1 l1 H locs hw hO => ?_)
  obtain ⟨hI, hK1⟩ := hP1 _ _ _ hw
  have hT := hK1.te hT
  obtain ⟨g1, hg1⟩ : ∃ z : Nat → va_E, z = cup (cmrg 173 2 [119, 120] l1 []) g0 := ⟨_, rfl⟩
  rw [← hg1] at hI hO hT
  have hO : cO D cy (fun q : Nat => s.heap.size ≤ q) s.heap s 173 ad (cup [] g1) H locs := hO
  refine lv_pop hx hb dL_law_215 rfl ?_
  refine lv_goto (tgt := 917) hx hb dL_law_216 (by decide) ?_
  exact K _ _ _ hI hT hO

set_option maxHeartbeats 8000000 in
set_option maxRecDepth 100000 in
theorem lc_end {p : Program} {e : Env} {s : State} {m : MethodId} {below : List Frame} {meth : Method} {c : Code} (l : Launch) {b L : Nat} {xs : Nat → Int32} {D : va_G} {cy : Nat → ClassId} {ad : Nat → Nat} {g : Nat → va_E} {H : Heap} {locs : List Loc} {cells slots : Nat} {ls : Array Slot} {v : Int32} (hC : CallFix p m c code 4 s #[Value.ref b] lw_tbl RL) (hX : va_X b L xs s s.heap) (hbl : b < s.heap.size) (hL : L ≤ 3072) (hv : 0 ≤ v.toInt ∧ v.toInt + 6 ≤ L) (hI : INV cy ad g) (hT : TE g) (hO : cO D cy (fun q : Nat => s.heap.size ≤ q) s.heap s 173 ad (cup [] g) H locs) (hce : cells + 0 ≤ 600000) (hsl : slots + 0 ≤ 7302250) (hl : lv_has ls 4 [(0, .ref b), (1, .ref (ad 0)), (2, .ref (ad 119)), (3, .int v)]) (K : ∀ (g1 : Nat → va_E) (H1 : Heap) (locs1 : List Loc), INV cy ad g1 → TE g1 → cO D cy (fun q : Nat => s.heap.size ≤ q) s.heap s 173 ad (cup [] g1) H1 locs1 → W p l e room_1 s m #[Value.ref b] below meth c H1 locs1 cells slots (lw_Z below #[Value.ref b] s) (F0 m 917 ls [])) : W p l e room_1 s m #[Value.ref b] below meth c H locs cells slots (lw_Z below #[Value.ref b] s) (F0 m 219 ls []) := by
  obtain ⟨hx, hb, hml, hown, hts⟩ := id hC
  refine lv_aload_n hx hb dL_law_219 rfl (lv_at hl 1 rfl) ?_
  refine lv_aload_n hx hb dL_law_220 rfl (lv_at hl 0 rfl) ?_
  refine lv_iload_n hx hb dL_law_221 rfl (lv_at hl 3 rfl) ?_
  refine lv_iconst (v := 1) hx hb dL_law_222 (by decide) ?_
  refine lv_iadd hx hb dL_law_223 ?_
  refine va_sld hx hb hX hbl (Nat.not_le.mpr hbl) hO.2.2.2.1 (sc_in hv hL (c := 1) (by decide)) dL_law_224 ?_
  refine lv_topi (fun a224_1 ea224_1 => ?_)
  obtain ⟨post0, hM0, hP0⟩ := sm_X11_end (D := D) l a224_1 hI
  have hR0 : ∃ fs, g 0 = .inr (11, fs) := INV_obj11 hI
  obtain ⟨fs0, hE0⟩ := hR0
  refine cg_Vi (As := [.int a224_1]) (rest := []) (mc := 0) (ms := 0) (rm := { frames := 1, cells := 0, slots := 0, locals := 22 }) hC hl.1 hO [0] (by decide +kernel) hM0 gL_k_X11_end rfl rfl rfl 1 (by decide +kernel) ⟨Nat.le_of_ble_eq_true rfl, Nat.le_of_ble_eq_true rfl⟩ rfl (by decide) hE0 rfl rfl (Nat.le_of_ble_eq_true rfl) dL_law_225 ⟨hce, hsl⟩ (fun r0 nw0 l0 H locs hw hO => ?_)
  obtain ⟨hI, hK0⟩ := hP0 _ _ _ hw
  have hT := hK0.te hT
  obtain ⟨g0, hg0⟩ : ∃ z : Nat → va_E, z = cup (cmrg 173 1 [0] l0 []) g := ⟨_, rfl⟩
  rw [← hg0] at hI hO hT
  have hO : cO D cy (fun q : Nat => s.heap.size ≤ q) s.heap s 173 ad (cup [] g0) H locs := hO
  clear hg0 hK0 hw hP0 hM0 hE0
  refine lv_pop hx hb dL_law_228 rfl ?_
  refine lv_aload_n hx hb dL_law_229 rfl (lv_at hl 2 rfl) ?_
  refine lv_aload_n hx hb dL_law_230 rfl (lv_at hl 0 rfl) ?_
  refine lv_iload_n hx hb dL_law_231 rfl (lv_at hl 3 rfl) ?_
  refine lv_iconst (v := 1) hx hb dL_law_232 (by decide) ?_
  refine lv_iadd hx hb dL_law_233 ?_
  refine va_sld hx hb hX hbl (Nat.not_le.mpr hbl) hO.2.2.2.1 (sc_in hv hL (c := 1) (by decide)) dL_law_234 ?_
  refine lv_topi (fun a234_1 ea234_1 => ?_)
  obtain ⟨post1, hM1, hP1⟩ := sm_X12_end (D := D) l a234_1 hI
  have hR1 : ∃ fs, g0 119 = .inr (12, fs) := INV_obj12 hI
  obtain ⟨fs1, hE1⟩ := hR1
  refine cg_Vi (As := [.int a234_1]) (rest := []) (mc := 0) (ms := 0) (rm := { frames := 0, cells := 0, slots := 0, locals := 0 }) hC hl.1 hO [119] (by decide +kernel) hM1 gL_k_X12_end rfl rfl rfl 1 (by decide +kernel) ⟨Nat.le_of_ble_eq_true rfl, Nat.le_of_ble_eq_true rfl⟩ rfl (by decide) hE1 rfl rfl (Nat.le_of_ble_eq_true rfl) dL_law_235 ⟨hce, hsl⟩ (fun r1 nw1 l1 H locs hw hO => ?_)
  obtain ⟨hI, hK1⟩ := hP1 _ _ _ hw
  have hT := hK1.te hT
  obtain ⟨g1, hg1⟩ : ∃ z : Nat → va_E, z = cup (cmrg 173 1 [119] l1 []) g0 := ⟨_, rfl⟩
  rw [← hg1] at hI hO hT
  have hO : cO D cy (fun q : Nat => s.heap.size ≤ q) s.heap s 173 ad (cup [] g1) H locs := hO
  refine lv_pop hx hb dL_law_238 rfl ?_
  refine lv_goto (tgt := 917) hx hb dL_law_239 (by decide) ?_
  exact K _ _ _ hI hT hO

set_option maxHeartbeats 8000000 in
set_option maxRecDepth 100000 in
theorem lc_road {p : Program} {e : Env} {s : State} {m : MethodId} {below : List Frame} {meth : Method} {c : Code} (l : Launch) {b L : Nat} {xs : Nat → Int32} {D : va_G} {cy : Nat → ClassId} {ad : Nat → Nat} {g : Nat → va_E} {H : Heap} {locs : List Loc} {cells slots : Nat} {ls : Array Slot} {v : Int32} (hC : CallFix p m c code 4 s #[Value.ref b] lw_tbl RL) (hX : va_X b L xs s s.heap) (hbl : b < s.heap.size) (hL : L ≤ 3072) (hv : 0 ≤ v.toInt ∧ v.toInt + 6 ≤ L) (hI : INV cy ad g) (hT : TE g) (hO : cO D cy (fun q : Nat => s.heap.size ≤ q) s.heap s 173 ad (cup [] g) H locs) (hce : cells + 0 ≤ 600000) (hsl : slots + 0 ≤ 7302250) (hl : lv_has ls 4 [(0, .ref b), (1, .ref (ad 0)), (2, .ref (ad 119)), (3, .int v)]) (K : ∀ (g1 : Nat → va_E) (H1 : Heap) (locs1 : List Loc), INV cy ad g1 → TE g1 → cO D cy (fun q : Nat => s.heap.size ≤ q) s.heap s 173 ad (cup [] g1) H1 locs1 → W p l e room_1 s m #[Value.ref b] below meth c H1 locs1 cells slots (lw_Z below #[Value.ref b] s) (F0 m 917 ls [])) : W p l e room_1 s m #[Value.ref b] below meth c H locs cells slots (lw_Z below #[Value.ref b] s) (F0 m 242 ls []) := by
  obtain ⟨hx, hb, hml, hown, hts⟩ := id hC
  refine lv_aload_n hx hb dL_law_242 rfl (lv_at hl 1 rfl) ?_
  obtain ⟨post0, hM0, hP0⟩ := sm_X11_road (D := D) l  hI
  have hR0 : ∃ fs, g 0 = .inr (11, fs) := INV_obj11 hI
  obtain ⟨fs0, hE0⟩ := hR0
  refine cg_Vi (As := []) (rest := []) (mc := 0) (ms := 0) (rm := { frames := 63, cells := 0, slots := 0, locals := 1531 }) hC hl.1 hO [0, 2, 3, 17, 4, 5, 6, 7, 8, 9, 10, 11, 12, 13, 14, 15, 16, 18, 1, 21, 35, 23, 24, 25, 26, 28, 29, 30, 31, 33, 34, 36, 59, 60, 38, 39, 40, 41, 55, 101, 42, 43, 47, 51, 62, 66, 37, 61, 67, 68, 69, 70, 71, 72, 73, 63, 64, 65] (by decide +kernel) hM0 gL_k_X11_road rfl rfl rfl 0 (by decide +kernel) ⟨Nat.le_of_ble_eq_true rfl, Nat.le_of_ble_eq_true rfl⟩ rfl (by decide) hE0 rfl rfl (Nat.le_of_ble_eq_true rfl) dL_law_243 ⟨hce, hsl⟩ (fun r0 nw0 l0 H locs hw hO => ?_)
  obtain ⟨hI, hK0⟩ := hP0 _ _ _ hw
  have hT := hK0.te hT
  obtain ⟨g0, hg0⟩ : ∃ z : Nat → va_E, z = cup (cmrg 173 58 [0, 2, 3, 17, 4, 5, 6, 7, 8, 9, 10, 11, 12, 13, 14, 15, 16, 18, 1, 21, 35, 23, 24, 25, 26, 28, 29, 30, 31, 33, 34, 36, 59, 60, 38, 39, 40, 41, 55, 101, 42, 43, 47, 51, 62, 66, 37, 61, 67, 68, 69, 70, 71, 72, 73, 63, 64, 65] l0 []) g := ⟨_, rfl⟩
  rw [← hg0] at hI hO hT
  have hO : cO D cy (fun q : Nat => s.heap.size ≤ q) s.heap s 173 ad (cup [] g0) H locs := hO
  clear hg0 hK0 hw hP0 hM0 hE0
  refine lv_pop hx hb dL_law_246 rfl ?_
  refine lv_aload_n hx hb dL_law_247 rfl (lv_at hl 2 rfl) ?_
  obtain ⟨post1, hM1, hP1⟩ := sm_X12_road (D := D) l  hI
  have hR1 : ∃ fs, g0 119 = .inr (12, fs) := INV_obj12 hI
  obtain ⟨fs1, hE1⟩ := hR1
  refine cg_Vi (As := []) (rest := []) (mc := 0) (ms := 0) (rm := { frames := 7, cells := 0, slots := 0, locals := 149 }) hC hl.1 hO [119, 138, 142, 136, 120, 121, 122, 123, 124, 125, 129, 126, 127, 128, 130, 131, 132, 133, 134, 135, 137, 139, 140, 141, 143, 144, 145, 147, 172] (by decide +kernel) hM1 gL_k_X12_road rfl rfl rfl 0 (by decide +kernel) ⟨Nat.le_of_ble_eq_true rfl, Nat.le_of_ble_eq_true rfl⟩ rfl (by decide) hE1 rfl rfl (Nat.le_of_ble_eq_true rfl) dL_law_248 ⟨hce, hsl⟩ (fun r1 nw1 l1 H locs hw hO => ?_)
  obtain ⟨hI, hK1⟩ := hP1 _ _ _ hw
  have hT := hK1.te hT
  obtain ⟨g1, hg1⟩ : ∃ z : Nat → va_E, z = cup (cmrg 173 29 [119, 138, 142, 136, 120, 121, 122, 123, 124, 125, 129, 126, 127, 128, 130, 131, 132, 133, 134, 135, 137, 139, 140, 141, 143, 144, 145, 147, 172] l1 []) g0 := ⟨_, rfl⟩
  rw [← hg1] at hI hO hT
  have hO : cO D cy (fun q : Nat => s.heap.size ≤ q) s.heap s 173 ad (cup [] g1) H locs := hO
  refine lv_pop hx hb dL_law_251 rfl ?_
  refine lv_goto (tgt := 917) hx hb dL_law_252 (by decide) ?_
  exact K _ _ _ hI hT hO

set_option maxHeartbeats 8000000 in
set_option maxRecDepth 100000 in
theorem lc_fault {p : Program} {e : Env} {s : State} {m : MethodId} {below : List Frame} {meth : Method} {c : Code} (l : Launch) {b L : Nat} {xs : Nat → Int32} {D : va_G} {cy : Nat → ClassId} {ad : Nat → Nat} {g : Nat → va_E} {H : Heap} {locs : List Loc} {cells slots : Nat} {ls : Array Slot} {v : Int32} (hC : CallFix p m c code 4 s #[Value.ref b] lw_tbl RL) (hX : va_X b L xs s s.heap) (hbl : b < s.heap.size) (hL : L ≤ 3072) (hv : 0 ≤ v.toInt ∧ v.toInt + 6 ≤ L) (hI : INV cy ad g) (hT : TE g) (hO : cO D cy (fun q : Nat => s.heap.size ≤ q) s.heap s 173 ad (cup [] g) H locs) (hce : cells + 0 ≤ 600000) (hsl : slots + 0 ≤ 7302250) (hl : lv_has ls 4 [(0, .ref b), (1, .ref (ad 0)), (2, .ref (ad 119)), (3, .int v)]) (K : ∀ (g1 : Nat → va_E) (H1 : Heap) (locs1 : List Loc), INV cy ad g1 → TE g1 → cO D cy (fun q : Nat => s.heap.size ≤ q) s.heap s 173 ad (cup [] g1) H1 locs1 → W p l e room_1 s m #[Value.ref b] below meth c H1 locs1 cells slots (lw_Z below #[Value.ref b] s) (F0 m 917 ls [])) : W p l e room_1 s m #[Value.ref b] below meth c H locs cells slots (lw_Z below #[Value.ref b] s) (F0 m 255 ls []) := by
  obtain ⟨hx, hb, hml, hown, hts⟩ := id hC
  refine lv_aload_n hx hb dL_law_255 rfl (lv_at hl 1 rfl) ?_
  refine lv_aload_n hx hb dL_law_256 rfl (lv_at hl 0 rfl) ?_
  refine lv_iload_n hx hb dL_law_257 rfl (lv_at hl 3 rfl) ?_
  refine lv_iconst (v := 1) hx hb dL_law_258 (by decide) ?_
  refine lv_iadd hx hb dL_law_259 ?_
  refine va_sld hx hb hX hbl (Nat.not_le.mpr hbl) hO.2.2.2.1 (sc_in hv hL (c := 1) (by decide)) dL_law_260 ?_
  refine lv_topi (fun a260_1 ea260_1 => ?_)
  obtain ⟨post0, hM0, hP0⟩ := sm_X11_fault (D := D) l a260_1 hI
  have hR0 : ∃ fs, g 0 = .inr (11, fs) := INV_obj11 hI
  obtain ⟨fs0, hE0⟩ := hR0
  refine cg_Vi (As := [.int a260_1]) (rest := []) (mc := 0) (ms := 0) (rm := { frames := 0, cells := 0, slots := 0, locals := 0 }) hC hl.1 hO [0, 2] (by decide +kernel) hM0 gL_k_X11_fault rfl rfl rfl 1 (by decide +kernel) ⟨Nat.le_of_ble_eq_true rfl, Nat.le_of_ble_eq_true rfl⟩ rfl (by decide) hE0 rfl rfl (Nat.le_of_ble_eq_true rfl) dL_law_261 ⟨hce, hsl⟩ (fun r0 nw0 l0 H locs hw hO => ?_)
  obtain ⟨hI, hK0⟩ := hP0 _ _ _ hw
  have hT := hK0.te hT
  obtain ⟨g0, hg0⟩ : ∃ z : Nat → va_E, z = cup (cmrg 173 2 [0, 2] l0 []) g := ⟨_, rfl⟩
  rw [← hg0] at hI hO hT
  have hO : cO D cy (fun q : Nat => s.heap.size ≤ q) s.heap s 173 ad (cup [] g0) H locs := hO
  clear hg0 hK0 hw hP0 hM0 hE0
  refine lv_pop hx hb dL_law_264 rfl ?_
  refine lv_aload_n hx hb dL_law_265 rfl (lv_at hl 2 rfl) ?_
  refine lv_aload_n hx hb dL_law_266 rfl (lv_at hl 0 rfl) ?_
  refine lv_iload_n hx hb dL_law_267 rfl (lv_at hl 3 rfl) ?_
  refine lv_iconst (v := 1) hx hb dL_law_268 (by decide) ?_
  refine lv_iadd hx hb dL_law_269 ?_
  refine va_sld hx hb hX hbl (Nat.not_le.mpr hbl) hO.2.2.2.1 (sc_in hv hL (c := 1) (by decide)) dL_law_270 ?_
  refine lv_topi (fun a270_1 ea270_1 => ?_)
  obtain ⟨post1, hM1, hP1⟩ := sm_X12_fault (D := D) l a270_1 hI
  have hR1 : ∃ fs, g0 119 = .inr (12, fs) := INV_obj12 hI
  obtain ⟨fs1, hE1⟩ := hR1
  refine cg_Vi (As := [.int a270_1]) (rest := []) (mc := 0) (ms := 0) (rm := { frames := 0, cells := 0, slots := 0, locals := 0 }) hC hl.1 hO [119] (by decide +kernel) hM1 gL_k_X12_fault rfl rfl rfl 1 (by decide +kernel) ⟨Nat.le_of_ble_eq_true rfl, Nat.le_of_ble_eq_true rfl⟩ rfl (by decide) hE1 rfl rfl (Nat.le_of_ble_eq_true rfl) dL_law_271 ⟨hce, hsl⟩ (fun r1 nw1 l1 H locs hw hO => ?_)
  obtain ⟨hI, hK1⟩ := hP1 _ _ _ hw
  have hT := hK1.te hT
  obtain ⟨g1, hg1⟩ : ∃ z : Nat → va_E, z = cup (cmrg 173 1 [119] l1 []) g0 := ⟨_, rfl⟩
  rw [← hg1] at hI hO hT
  have hO : cO D cy (fun q : Nat => s.heap.size ≤ q) s.heap s 173 ad (cup [] g1) H locs := hO
  refine lv_pop hx hb dL_law_274 rfl ?_
  refine lv_goto (tgt := 917) hx hb dL_law_275 (by decide) ?_
  exact K _ _ _ hI hT hO

set_option maxHeartbeats 8000000 in
set_option maxRecDepth 100000 in
theorem lc_cart {p : Program} {e : Env} {s : State} {m : MethodId} {below : List Frame} {meth : Method} {c : Code} (l : Launch) {b L : Nat} {xs : Nat → Int32} {D : va_G} {cy : Nat → ClassId} {ad : Nat → Nat} {g : Nat → va_E} {H : Heap} {locs : List Loc} {cells slots : Nat} {ls : Array Slot} {v : Int32} (hC : CallFix p m c code 4 s #[Value.ref b] lw_tbl RL) (hX : va_X b L xs s s.heap) (hbl : b < s.heap.size) (hL : L ≤ 3072) (hv : 0 ≤ v.toInt ∧ v.toInt + 6 ≤ L) (hI : INV cy ad g) (hT : TE g) (hO : cO D cy (fun q : Nat => s.heap.size ≤ q) s.heap s 173 ad (cup [] g) H locs) (hce : cells + 0 ≤ 600000) (hsl : slots + 0 ≤ 7302250) (hl : lv_has ls 4 [(0, .ref b), (1, .ref (ad 0)), (2, .ref (ad 119)), (3, .int v)]) (K : ∀ (g1 : Nat → va_E) (H1 : Heap) (locs1 : List Loc), INV cy ad g1 → TE g1 → cO D cy (fun q : Nat => s.heap.size ≤ q) s.heap s 173 ad (cup [] g1) H1 locs1 → W p l e room_1 s m #[Value.ref b] below meth c H1 locs1 cells slots (lw_Z below #[Value.ref b] s) (F0 m 917 ls [])) : W p l e room_1 s m #[Value.ref b] below meth c H locs cells slots (lw_Z below #[Value.ref b] s) (F0 m 278 ls []) := by
  obtain ⟨hx, hb, hml, hown, hts⟩ := id hC
  refine lv_aload_n hx hb dL_law_278 rfl (lv_at hl 1 rfl) ?_
  refine lv_aload_n hx hb dL_law_279 rfl (lv_at hl 0 rfl) ?_
  refine lv_iload_n hx hb dL_law_280 rfl (lv_at hl 3 rfl) ?_
  refine lv_iconst (v := 1) hx hb dL_law_281 (by decide) ?_
  refine lv_iadd hx hb dL_law_282 ?_
  refine va_sld hx hb hX hbl (Nat.not_le.mpr hbl) hO.2.2.2.1 (sc_in hv hL (c := 1) (by decide)) dL_law_283 ?_
  refine lv_topi (fun a283_1 ea283_1 => ?_)
  refine lv_aload_n hx hb dL_law_284 rfl (lv_at hl 0 rfl) ?_
  refine lv_iload_n hx hb dL_law_285 rfl (lv_at hl 3 rfl) ?_
  refine lv_iconst (v := 2) hx hb dL_law_286 (by decide) ?_
  refine lv_iadd hx hb dL_law_287 ?_
  refine va_sld hx hb hX hbl (Nat.not_le.mpr hbl) hO.2.2.2.1 (sc_in hv hL (c := 2) (by decide)) dL_law_288 ?_
  refine lv_topi (fun a288_2 ea288_2 => ?_)
  obtain ⟨post0, hM0, hP0⟩ := sm_X11_cart (D := D) l a283_1 a288_2 hI
  have hR0 : ∃ fs, g 0 = .inr (11, fs) := INV_obj11 hI
  obtain ⟨fs0, hE0⟩ := hR0
  refine cg_Vi (As := [.int a283_1, .int a288_2]) (rest := []) (mc := 0) (ms := 0) (rm := { frames := 2, cells := 0, slots := 0, locals := 43 }) hC hl.1 hO [0, 38, 39, 40, 21, 62, 64] (by decide +kernel) hM0 gL_k_X11_cart rfl rfl rfl 2 (by decide +kernel) ⟨Nat.le_of_ble_eq_true rfl, Nat.le_of_ble_eq_true rfl⟩ rfl (by decide) hE0 rfl rfl (Nat.le_of_ble_eq_true rfl) dL_law_289 ⟨hce, hsl⟩ (fun r0 nw0 l0 H locs hw hO => ?_)
  obtain ⟨hI, hK0⟩ := hP0 _ _ _ hw
  have hT := hK0.te hT
  obtain ⟨g0, hg0⟩ : ∃ z : Nat → va_E, z = cup (cmrg 173 7 [0, 38, 39, 40, 21, 62, 64] l0 []) g := ⟨_, rfl⟩
  rw [← hg0] at hI hO hT
  have hO : cO D cy (fun q : Nat => s.heap.size ≤ q) s.heap s 173 ad (cup [] g0) H locs := hO
  clear hg0 hK0 hw hP0 hM0 hE0
  refine lv_pop hx hb dL_law_292 rfl ?_
  refine lv_aload_n hx hb dL_law_293 rfl (lv_at hl 2 rfl) ?_
  refine lv_aload_n hx hb dL_law_294 rfl (lv_at hl 0 rfl) ?_
  refine lv_iload_n hx hb dL_law_295 rfl (lv_at hl 3 rfl) ?_
  refine lv_iconst (v := 1) hx hb dL_law_296 (by decide) ?_
  refine lv_iadd hx hb dL_law_297 ?_
  refine va_sld hx hb hX hbl (Nat.not_le.mpr hbl) hO.2.2.2.1 (sc_in hv hL (c := 1) (by decide)) dL_law_298 ?_
  refine lv_topi (fun a298_1 ea298_1 => ?_)
  refine lv_aload_n hx hb dL_law_299 rfl (lv_at hl 0 rfl) ?_
  refine lv_iload_n hx hb dL_law_300 rfl (lv_at hl 3 rfl) ?_
  refine lv_iconst (v := 2) hx hb dL_law_301 (by decide) ?_
  refine lv_iadd hx hb dL_law_302 ?_
  refine va_sld hx hb hX hbl (Nat.not_le.mpr hbl) hO.2.2.2.1 (sc_in hv hL (c := 2) (by decide)) dL_law_303 ?_
  refine lv_topi (fun a303_2 ea303_2 => ?_)
  obtain ⟨post1, hM1, hP1⟩ := sm_X12_cart (D := D) l a298_1 a303_2 hI
  have hR1 : ∃ fs, g0 119 = .inr (12, fs) := INV_obj12 hI
  obtain ⟨fs1, hE1⟩ := hR1
  refine cg_Vi (As := [.int a298_1, .int a303_2]) (rest := []) (mc := 0) (ms := 0) (rm := { frames := 5, cells := 0, slots := 0, locals := 117 }) hC hl.1 hO [119, 147, 124, 137, 123, 127, 128, 130, 131, 132, 133, 136, 138, 142, 143, 146, 148, 149, 150, 151, 152, 153, 154, 155, 156, 157, 158, 159, 160, 161] (by decide +kernel) hM1 gL_k_X12_cart rfl rfl rfl 2 (by decide +kernel) ⟨Nat.le_of_ble_eq_true rfl, Nat.le_of_ble_eq_true rfl⟩ rfl (by decide) hE1 rfl rfl (Nat.le_of_ble_eq_true rfl) dL_law_304 ⟨hce, hsl⟩ (fun r1 nw1 l1 H locs hw hO => ?_)
  obtain ⟨hI, hK1⟩ := hP1 _ _ _ hw
  have hT := hK1.te hT
  obtain ⟨g1, hg1⟩ : ∃ z : Nat → va_E, z = cup (cmrg 173 30 [119, 147, 124, 137, 123, 127, 128, 130, 131, 132, 133, 136, 138, 142, 143, 146, 148, 149, 150, 151, 152, 153, 154, 155, 156, 157, 158, 159, 160, 161] l1 []) g0 := ⟨_, rfl⟩
  rw [← hg1] at hI hO hT
  have hO : cO D cy (fun q : Nat => s.heap.size ≤ q) s.heap s 173 ad (cup [] g1) H locs := hO
  refine lv_pop hx hb dL_law_307 rfl ?_
  refine lv_goto (tgt := 917) hx hb dL_law_308 (by decide) ?_
  exact K _ _ _ hI hT hO

set_option maxHeartbeats 8000000 in
set_option maxRecDepth 100000 in
theorem lc_counter {p : Program} {e : Env} {s : State} {m : MethodId} {below : List Frame} {meth : Method} {c : Code} (l : Launch) {b L : Nat} {xs : Nat → Int32} {D : va_G} {cy : Nat → ClassId} {ad : Nat → Nat} {g : Nat → va_E} {H : Heap} {locs : List Loc} {cells slots : Nat} {ls : Array Slot} {v : Int32} (hC : CallFix p m c code 4 s #[Value.ref b] lw_tbl RL) (hX : va_X b L xs s s.heap) (hbl : b < s.heap.size) (hL : L ≤ 3072) (hv : 0 ≤ v.toInt ∧ v.toInt + 6 ≤ L) (hI : INV cy ad g) (hT : TE g) (hO : cO D cy (fun q : Nat => s.heap.size ≤ q) s.heap s 173 ad (cup [] g) H locs) (hce : cells + 0 ≤ 600000) (hsl : slots + 0 ≤ 7302250) (hl : lv_has ls 4 [(0, .ref b), (1, .ref (ad 0)), (2, .ref (ad 119)), (3, .int v)]) (K : ∀ (g1 : Nat → va_E) (H1 : Heap) (locs1 : List Loc), INV cy ad g1 → TE g1 → cO D cy (fun q : Nat => s.heap.size ≤ q) s.heap s 173 ad (cup [] g1) H1 locs1 → W p l e room_1 s m #[Value.ref b] below meth c H1 locs1 cells slots (lw_Z below #[Value.ref b] s) (F0 m 917 ls [])) : W p l e room_1 s m #[Value.ref b] below meth c H locs cells slots (lw_Z below #[Value.ref b] s) (F0 m 311 ls []) := by
  obtain ⟨hx, hb, hml, hown, hts⟩ := id hC
  refine lv_aload_n hx hb dL_law_311 rfl (lv_at hl 1 rfl) ?_
  refine lv_aload_n hx hb dL_law_312 rfl (lv_at hl 0 rfl) ?_
  refine lv_iload_n hx hb dL_law_313 rfl (lv_at hl 3 rfl) ?_
  refine lv_iconst (v := 1) hx hb dL_law_314 (by decide) ?_
  refine lv_iadd hx hb dL_law_315 ?_
  refine va_sld hx hb hX hbl (Nat.not_le.mpr hbl) hO.2.2.2.1 (sc_in hv hL (c := 1) (by decide)) dL_law_316 ?_
  refine lv_topi (fun a316_1 ea316_1 => ?_)
  refine lv_aload_n hx hb dL_law_317 rfl (lv_at hl 0 rfl) ?_
  refine lv_iload_n hx hb dL_law_318 rfl (lv_at hl 3 rfl) ?_
  refine lv_iconst (v := 2) hx hb dL_law_319 (by decide) ?_
  refine lv_iadd hx hb dL_law_320 ?_
  refine va_sld hx hb hX hbl (Nat.not_le.mpr hbl) hO.2.2.2.1 (sc_in hv hL (c := 2) (by decide)) dL_law_321 ?_
  refine lv_topi (fun a321_2 ea321_2 => ?_)
  obtain ⟨post0, hM0, hP0⟩ := sm_X11_counter (D := D) l a316_1 a321_2 hI
  have hR0 : ∃ fs, g 0 = .inr (11, fs) := INV_obj11 hI
  obtain ⟨fs0, hE0⟩ := hR0
  refine cg_Vi (As := [.int a316_1, .int a321_2]) (rest := []) (mc := 0) (ms := 0) (rm := { frames := 2, cells := 0, slots := 0, locals := 43 }) hC hl.1 hO [0, 38, 21, 62, 63] (by decide +kernel) hM0 gL_k_X11_counter rfl rfl rfl 2 (by decide +kernel) ⟨Nat.le_of_ble_eq_true rfl, Nat.le_of_ble_eq_true rfl⟩ rfl (by decide) hE0 rfl rfl (Nat.le_of_ble_eq_true rfl) dL_law_322 ⟨hce, hsl⟩ (fun r0 nw0 l0 H locs hw hO => ?_)
  obtain ⟨hI, hK0⟩ := hP0 _ _ _ hw
  have hT := hK0.te hT
  obtain ⟨g0, hg0⟩ : ∃ z : Nat → va_E, z = cup (cmrg 173 5 [0, 38, 21, 62, 63] l0 []) g := ⟨_, rfl⟩
  rw [← hg0] at hI hO hT
  have hO : cO D cy (fun q : Nat => s.heap.size ≤ q) s.heap s 173 ad (cup [] g0) H locs := hO
  clear hg0 hK0 hw hP0 hM0 hE0
  refine lv_pop hx hb dL_law_325 rfl ?_
  refine lv_aload_n hx hb dL_law_326 rfl (lv_at hl 2 rfl) ?_
  refine lv_aload_n hx hb dL_law_327 rfl (lv_at hl 0 rfl) ?_
  refine lv_iload_n hx hb dL_law_328 rfl (lv_at hl 3 rfl) ?_
  refine lv_iconst (v := 1) hx hb dL_law_329 (by decide) ?_
  refine lv_iadd hx hb dL_law_330 ?_
  refine va_sld hx hb hX hbl (Nat.not_le.mpr hbl) hO.2.2.2.1 (sc_in hv hL (c := 1) (by decide)) dL_law_331 ?_
  refine lv_topi (fun a331_1 ea331_1 => ?_)
  refine lv_aload_n hx hb dL_law_332 rfl (lv_at hl 0 rfl) ?_
  refine lv_iload_n hx hb dL_law_333 rfl (lv_at hl 3 rfl) ?_
  refine lv_iconst (v := 2) hx hb dL_law_334 (by decide) ?_
  refine lv_iadd hx hb dL_law_335 ?_
  refine va_sld hx hb hX hbl (Nat.not_le.mpr hbl) hO.2.2.2.1 (sc_in hv hL (c := 2) (by decide)) dL_law_336 ?_
  refine lv_topi (fun a336_2 ea336_2 => ?_)
  obtain ⟨post1, hM1, hP1⟩ := sm_X12_counter (D := D) l a331_1 a336_2 hI
  have hR1 : ∃ fs, g0 119 = .inr (12, fs) := INV_obj12 hI
  obtain ⟨fs1, hE1⟩ := hR1
  refine cg_Vi (As := [.int a331_1, .int a336_2]) (rest := []) (mc := 0) (ms := 0) (rm := { frames := 5, cells := 0, slots := 0, locals := 117 }) hC hl.1 hO [119, 147, 123, 127, 128, 130, 131, 132, 133, 136, 138, 142, 143, 146, 148, 149, 150, 151, 152, 153, 154, 155, 156, 157, 158, 159, 160, 161] (by decide +kernel) hM1 gL_k_X12_counter rfl rfl rfl 2 (by decide +kernel) ⟨Nat.le_of_ble_eq_true rfl, Nat.le_of_ble_eq_true rfl⟩ rfl (by decide) hE1 rfl rfl (Nat.le_of_ble_eq_true rfl) dL_law_337 ⟨hce, hsl⟩ (fun r1 nw1 l1 H locs hw hO => ?_)
  obtain ⟨hI, hK1⟩ := hP1 _ _ _ hw
  have hT := hK1.te hT
  obtain ⟨g1, hg1⟩ : ∃ z : Nat → va_E, z = cup (cmrg 173 28 [119, 147, 123, 127, 128, 130, 131, 132, 133, 136, 138, 142, 143, 146, 148, 149, 150, 151, 152, 153, 154, 155, 156, 157, 158, 159, 160, 161] l1 []) g0 := ⟨_, rfl⟩
  rw [← hg1] at hI hO hT
  have hO : cO D cy (fun q : Nat => s.heap.size ≤ q) s.heap s 173 ad (cup [] g1) H locs := hO
  refine lv_pop hx hb dL_law_340 rfl ?_
  refine lv_goto (tgt := 917) hx hb dL_law_341 (by decide) ?_
  exact K _ _ _ hI hT hO

set_option maxHeartbeats 8000000 in
set_option maxRecDepth 100000 in
theorem lc_pays {p : Program} {e : Env} {s : State} {m : MethodId} {below : List Frame} {meth : Method} {c : Code} (l : Launch) {b L : Nat} {xs : Nat → Int32} {D : va_G} {cy : Nat → ClassId} {ad : Nat → Nat} {g : Nat → va_E} {H : Heap} {locs : List Loc} {cells slots : Nat} {ls : Array Slot} {v : Int32} (hC : CallFix p m c code 4 s #[Value.ref b] lw_tbl RL) (hX : va_X b L xs s s.heap) (hbl : b < s.heap.size) (hL : L ≤ 3072) (hv : 0 ≤ v.toInt ∧ v.toInt + 6 ≤ L) (hI : INV cy ad g) (hT : TE g) (hO : cO D cy (fun q : Nat => s.heap.size ≤ q) s.heap s 173 ad (cup [] g) H locs) (hce : cells + 0 ≤ 600000) (hsl : slots + 0 ≤ 7302250) (hl : lv_has ls 4 [(0, .ref b), (1, .ref (ad 0)), (2, .ref (ad 119)), (3, .int v)]) (K : ∀ (g1 : Nat → va_E) (H1 : Heap) (locs1 : List Loc), INV cy ad g1 → TE g1 → cO D cy (fun q : Nat => s.heap.size ≤ q) s.heap s 173 ad (cup [] g1) H1 locs1 → W p l e room_1 s m #[Value.ref b] below meth c H1 locs1 cells slots (lw_Z below #[Value.ref b] s) (F0 m 917 ls [])) : W p l e room_1 s m #[Value.ref b] below meth c H locs cells slots (lw_Z below #[Value.ref b] s) (F0 m 344 ls []) := by
  obtain ⟨hx, hb, hml, hown, hts⟩ := id hC
  refine lv_aload_n hx hb dL_law_344 rfl (lv_at hl 1 rfl) ?_
  refine lv_aload_n hx hb dL_law_345 rfl (lv_at hl 0 rfl) ?_
  refine lv_iload_n hx hb dL_law_346 rfl (lv_at hl 3 rfl) ?_
  refine lv_iconst (v := 1) hx hb dL_law_347 (by decide) ?_
  refine lv_iadd hx hb dL_law_348 ?_
  refine va_sld hx hb hX hbl (Nat.not_le.mpr hbl) hO.2.2.2.1 (sc_in hv hL (c := 1) (by decide)) dL_law_349 ?_
  refine lv_topi (fun a349_1 ea349_1 => ?_)
  refine lv_aload_n hx hb dL_law_350 rfl (lv_at hl 0 rfl) ?_
  refine lv_iload_n hx hb dL_law_351 rfl (lv_at hl 3 rfl) ?_
  refine lv_iconst (v := 2) hx hb dL_law_352 (by decide) ?_
  refine lv_iadd hx hb dL_law_353 ?_
  refine va_sld hx hb hX hbl (Nat.not_le.mpr hbl) hO.2.2.2.1 (sc_in hv hL (c := 2) (by decide)) dL_law_354 ?_
  refine lv_topi (fun a354_2 ea354_2 => ?_)
  obtain ⟨post0, hM0, hP0⟩ := sm_X11_pays (D := D) l a349_1 a354_2 hI
  have hR0 : ∃ fs, g 0 = .inr (11, fs) := INV_obj11 hI
  obtain ⟨fs0, hE0⟩ := hR0
  refine cg_Vi (As := [.int a349_1, .int a354_2]) (rest := []) (mc := 0) (ms := 0) (rm := { frames := 2, cells := 0, slots := 0, locals := 43 }) hC hl.1 hO [0, 38, 21, 62, 64] (by decide +kernel) hM0 gL_k_X11_pays rfl rfl rfl 2 (by decide +kernel) ⟨Nat.le_of_ble_eq_true rfl, Nat.le_of_ble_eq_true rfl⟩ rfl (by decide) hE0 rfl rfl (Nat.le_of_ble_eq_true rfl) dL_law_355 ⟨hce, hsl⟩ (fun r0 nw0 l0 H locs hw hO => ?_)
  obtain ⟨hI, hK0⟩ := hP0 _ _ _ hw
  have hT := hK0.te hT
  obtain ⟨g0, hg0⟩ : ∃ z : Nat → va_E, z = cup (cmrg 173 5 [0, 38, 21, 62, 64] l0 []) g := ⟨_, rfl⟩
  rw [← hg0] at hI hO hT
  have hO : cO D cy (fun q : Nat => s.heap.size ≤ q) s.heap s 173 ad (cup [] g0) H locs := hO
  clear hg0 hK0 hw hP0 hM0 hE0
  refine lv_pop hx hb dL_law_358 rfl ?_
  refine lv_aload_n hx hb dL_law_359 rfl (lv_at hl 2 rfl) ?_
  refine lv_aload_n hx hb dL_law_360 rfl (lv_at hl 0 rfl) ?_
  refine lv_iload_n hx hb dL_law_361 rfl (lv_at hl 3 rfl) ?_
  refine lv_iconst (v := 1) hx hb dL_law_362 (by decide) ?_
  refine lv_iadd hx hb dL_law_363 ?_
  refine va_sld hx hb hX hbl (Nat.not_le.mpr hbl) hO.2.2.2.1 (sc_in hv hL (c := 1) (by decide)) dL_law_364 ?_
  refine lv_topi (fun a364_1 ea364_1 => ?_)
  refine lv_aload_n hx hb dL_law_365 rfl (lv_at hl 0 rfl) ?_
  refine lv_iload_n hx hb dL_law_366 rfl (lv_at hl 3 rfl) ?_
  refine lv_iconst (v := 2) hx hb dL_law_367 (by decide) ?_
  refine lv_iadd hx hb dL_law_368 ?_
  refine va_sld hx hb hX hbl (Nat.not_le.mpr hbl) hO.2.2.2.1 (sc_in hv hL (c := 2) (by decide)) dL_law_369 ?_
  refine lv_topi (fun a369_2 ea369_2 => ?_)
  obtain ⟨post1, hM1, hP1⟩ := sm_X12_pays (D := D) l a364_1 a369_2 hI
  have hR1 : ∃ fs, g0 119 = .inr (12, fs) := INV_obj12 hI
  obtain ⟨fs1, hE1⟩ := hR1
  refine cg_Vi (As := [.int a364_1, .int a369_2]) (rest := []) (mc := 0) (ms := 0) (rm := { frames := 5, cells := 0, slots := 0, locals := 117 }) hC hl.1 hO [119, 147, 123, 127, 128, 130, 131, 132, 133, 136, 138, 142, 143, 146, 148, 149, 150, 151, 152, 153, 154, 155, 156, 157, 158, 159, 160, 161] (by decide +kernel) hM1 gL_k_X12_pays rfl rfl rfl 2 (by decide +kernel) ⟨Nat.le_of_ble_eq_true rfl, Nat.le_of_ble_eq_true rfl⟩ rfl (by decide) hE1 rfl rfl (Nat.le_of_ble_eq_true rfl) dL_law_370 ⟨hce, hsl⟩ (fun r1 nw1 l1 H locs hw hO => ?_)
  obtain ⟨hI, hK1⟩ := hP1 _ _ _ hw
  have hT := hK1.te hT
  obtain ⟨g1, hg1⟩ : ∃ z : Nat → va_E, z = cup (cmrg 173 28 [119, 147, 123, 127, 128, 130, 131, 132, 133, 136, 138, 142, 143, 146, 148, 149, 150, 151, 152, 153, 154, 155, 156, 157, 158, 159, 160, 161] l1 []) g0 := ⟨_, rfl⟩
  rw [← hg1] at hI hO hT
  have hO : cO D cy (fun q : Nat => s.heap.size ≤ q) s.heap s 173 ad (cup [] g1) H locs := hO
  refine lv_pop hx hb dL_law_373 rfl ?_
  refine lv_goto (tgt := 917) hx hb dL_law_374 (by decide) ?_
  exact K _ _ _ hI hT hO

set_option maxHeartbeats 8000000 in
set_option maxRecDepth 100000 in
theorem lc_bird {p : Program} {e : Env} {s : State} {m : MethodId} {below : List Frame} {meth : Method} {c : Code} (l : Launch) {b L : Nat} {xs : Nat → Int32} {D : va_G} {cy : Nat → ClassId} {ad : Nat → Nat} {g : Nat → va_E} {H : Heap} {locs : List Loc} {cells slots : Nat} {ls : Array Slot} {v : Int32} (hC : CallFix p m c code 4 s #[Value.ref b] lw_tbl RL) (hX : va_X b L xs s s.heap) (hbl : b < s.heap.size) (hL : L ≤ 3072) (hv : 0 ≤ v.toInt ∧ v.toInt + 6 ≤ L) (hI : INV cy ad g) (hT : TE g) (hO : cO D cy (fun q : Nat => s.heap.size ≤ q) s.heap s 173 ad (cup [] g) H locs) (hce : cells + 0 ≤ 600000) (hsl : slots + 0 ≤ 7302250) (hl : lv_has ls 4 [(0, .ref b), (1, .ref (ad 0)), (2, .ref (ad 119)), (3, .int v)]) (K : ∀ (g1 : Nat → va_E) (H1 : Heap) (locs1 : List Loc), INV cy ad g1 → TE g1 → cO D cy (fun q : Nat => s.heap.size ≤ q) s.heap s 173 ad (cup [] g1) H1 locs1 → W p l e room_1 s m #[Value.ref b] below meth c H1 locs1 cells slots (lw_Z below #[Value.ref b] s) (F0 m 917 ls [])) : W p l e room_1 s m #[Value.ref b] below meth c H locs cells slots (lw_Z below #[Value.ref b] s) (F0 m 377 ls []) := by
  obtain ⟨hx, hb, hml, hown, hts⟩ := id hC
  refine lv_aload_n hx hb dL_law_377 rfl (lv_at hl 1 rfl) ?_
  refine lv_aload_n hx hb dL_law_378 rfl (lv_at hl 0 rfl) ?_
  refine lv_iload_n hx hb dL_law_379 rfl (lv_at hl 3 rfl) ?_
  refine lv_iconst (v := 1) hx hb dL_law_380 (by decide) ?_
  refine lv_iadd hx hb dL_law_381 ?_
  refine va_sld hx hb hX hbl (Nat.not_le.mpr hbl) hO.2.2.2.1 (sc_in hv hL (c := 1) (by decide)) dL_law_382 ?_
  refine lv_topi (fun a382_1 ea382_1 => ?_)
  refine lv_aload_n hx hb dL_law_383 rfl (lv_at hl 0 rfl) ?_
  refine lv_iload_n hx hb dL_law_384 rfl (lv_at hl 3 rfl) ?_
  refine lv_iconst (v := 2) hx hb dL_law_385 (by decide) ?_
  refine lv_iadd hx hb dL_law_386 ?_
  refine va_sld hx hb hX hbl (Nat.not_le.mpr hbl) hO.2.2.2.1 (sc_in hv hL (c := 2) (by decide)) dL_law_387 ?_
  refine lv_topi (fun a387_2 ea387_2 => ?_)
  obtain ⟨post0, hM0, hP0⟩ := sm_X11_bird (D := D) l a382_1 a387_2 hI
  have hR0 : ∃ fs, g 0 = .inr (11, fs) := INV_obj11 hI
  obtain ⟨fs0, hE0⟩ := hR0
  refine cg_Vi (As := [.int a382_1, .int a387_2]) (rest := []) (mc := 0) (ms := 0) (rm := { frames := 2, cells := 0, slots := 0, locals := 43 }) hC hl.1 hO [0, 21, 38, 41, 26, 62, 66, 70, 71] (by decide +kernel) hM0 gL_k_X11_bird rfl rfl rfl 2 (by decide +kernel) ⟨Nat.le_of_ble_eq_true rfl, Nat.le_of_ble_eq_true rfl⟩ rfl (by decide) hE0 rfl rfl (Nat.le_of_ble_eq_true rfl) dL_law_388 ⟨hce, hsl⟩ (fun r0 nw0 l0 H locs hw hO => ?_)
  obtain ⟨hI, hK0⟩ := hP0 _ _ _ hw
  have hT := hK0.te hT
  obtain ⟨g0, hg0⟩ : ∃ z : Nat → va_E, z = cup (cmrg 173 9 [0, 21, 38, 41, 26, 62, 66, 70, 71] l0 []) g := ⟨_, rfl⟩
  rw [← hg0] at hI hO hT
  have hO : cO D cy (fun q : Nat => s.heap.size ≤ q) s.heap s 173 ad (cup [] g0) H locs := hO
  clear hg0 hK0 hw hP0 hM0 hE0
  refine lv_pop hx hb dL_law_391 rfl ?_
  refine lv_aload_n hx hb dL_law_392 rfl (lv_at hl 2 rfl) ?_
  refine lv_aload_n hx hb dL_law_393 rfl (lv_at hl 0 rfl) ?_
  refine lv_iload_n hx hb dL_law_394 rfl (lv_at hl 3 rfl) ?_
  refine lv_iconst (v := 1) hx hb dL_law_395 (by decide) ?_
  refine lv_iadd hx hb dL_law_396 ?_
  refine va_sld hx hb hX hbl (Nat.not_le.mpr hbl) hO.2.2.2.1 (sc_in hv hL (c := 1) (by decide)) dL_law_397 ?_
  refine lv_topi (fun a397_1 ea397_1 => ?_)
  refine lv_aload_n hx hb dL_law_398 rfl (lv_at hl 0 rfl) ?_
  refine lv_iload_n hx hb dL_law_399 rfl (lv_at hl 3 rfl) ?_
  refine lv_iconst (v := 2) hx hb dL_law_400 (by decide) ?_
  refine lv_iadd hx hb dL_law_401 ?_
  refine va_sld hx hb hX hbl (Nat.not_le.mpr hbl) hO.2.2.2.1 (sc_in hv hL (c := 2) (by decide)) dL_law_402 ?_
  refine lv_topi (fun a402_2 ea402_2 => ?_)
  obtain ⟨post1, hM1, hP1⟩ := sm_X12_bird (D := D) l a397_1 a402_2 hI
  have hR1 : ∃ fs, g0 119 = .inr (12, fs) := INV_obj12 hI
  obtain ⟨fs1, hE1⟩ := hR1
  refine cg_Vi (As := [.int a397_1, .int a402_2]) (rest := []) (mc := 0) (ms := 0) (rm := { frames := 5, cells := 0, slots := 0, locals := 117 }) hC hl.1 hO [119, 122, 123, 127, 128, 130, 131, 132, 133, 136, 138, 142, 143, 146, 147, 148, 149, 150, 151, 152, 153, 154, 155, 156, 157, 158, 159, 160, 161, 129] (by decide +kernel) hM1 gL_k_X12_bird rfl rfl rfl 2 (by decide +kernel) ⟨Nat.le_of_ble_eq_true rfl, Nat.le_of_ble_eq_true rfl⟩ rfl (by decide) hE1 rfl rfl (Nat.le_of_ble_eq_true rfl) dL_law_403 ⟨hce, hsl⟩ (fun r1 nw1 l1 H locs hw hO => ?_)
  obtain ⟨hI, hK1⟩ := hP1 _ _ _ hw
  have hT := hK1.te hT
  obtain ⟨g1, hg1⟩ : ∃ z : Nat → va_E, z = cup (cmrg 173 30 [119, 122, 123, 127, 128, 130, 131, 132, 133, 136, 138, 142, 143, 146, 147, 148, 149, 150, 151, 152, 153, 154, 155, 156, 157, 158, 159, 160, 161, 129] l1 []) g0 := ⟨_, rfl⟩
  rw [← hg1] at hI hO hT
  have hO : cO D cy (fun q : Nat => s.heap.size ≤ q) s.heap s 173 ad (cup [] g1) H locs := hO
  refine lv_pop hx hb dL_law_406 rfl ?_
  refine lv_goto (tgt := 917) hx hb dL_law_407 (by decide) ?_
  exact K _ _ _ hI hT hO

set_option maxHeartbeats 8000000 in
set_option maxRecDepth 100000 in
theorem lc_income {p : Program} {e : Env} {s : State} {m : MethodId} {below : List Frame} {meth : Method} {c : Code} (l : Launch) {b L : Nat} {xs : Nat → Int32} {D : va_G} {cy : Nat → ClassId} {ad : Nat → Nat} {g : Nat → va_E} {H : Heap} {locs : List Loc} {cells slots : Nat} {ls : Array Slot} {v : Int32} (hC : CallFix p m c code 4 s #[Value.ref b] lw_tbl RL) (hX : va_X b L xs s s.heap) (hbl : b < s.heap.size) (hL : L ≤ 3072) (hv : 0 ≤ v.toInt ∧ v.toInt + 6 ≤ L) (hI : INV cy ad g) (hT : TE g) (hO : cO D cy (fun q : Nat => s.heap.size ≤ q) s.heap s 173 ad (cup [] g) H locs) (hce : cells + 0 ≤ 600000) (hsl : slots + 0 ≤ 7302250) (hl : lv_has ls 4 [(0, .ref b), (1, .ref (ad 0)), (2, .ref (ad 119)), (3, .int v)]) (K : ∀ (g1 : Nat → va_E) (H1 : Heap) (locs1 : List Loc), INV cy ad g1 → TE g1 → cO D cy (fun q : Nat => s.heap.size ≤ q) s.heap s 173 ad (cup [] g1) H1 locs1 → W p l e room_1 s m #[Value.ref b] below meth c H1 locs1 cells slots (lw_Z below #[Value.ref b] s) (F0 m 917 ls [])) : W p l e room_1 s m #[Value.ref b] below meth c H locs cells slots (lw_Z below #[Value.ref b] s) (F0 m 410 ls []) := by
  obtain ⟨hx, hb, hml, hown, hts⟩ := id hC
  refine lv_aload_n hx hb dL_law_410 rfl (lv_at hl 1 rfl) ?_
  refine lv_aload_n hx hb dL_law_411 rfl (lv_at hl 0 rfl) ?_
  refine lv_iload_n hx hb dL_law_412 rfl (lv_at hl 3 rfl) ?_
  refine lv_iconst (v := 1) hx hb dL_law_413 (by decide) ?_
  refine lv_iadd hx hb dL_law_414 ?_
  refine va_sld hx hb hX hbl (Nat.not_le.mpr hbl) hO.2.2.2.1 (sc_in hv hL (c := 1) (by decide)) dL_law_415 ?_
  refine lv_topi (fun a415_1 ea415_1 => ?_)
  obtain ⟨post0, hM0, hP0⟩ := sm_X11_income (D := D) l a415_1 hI
  have hR0 : ∃ fs, g 0 = .inr (11, fs) := INV_obj11 hI
  obtain ⟨fs0, hE0⟩ := hR0
  refine cg_Vi (As := [.int a415_1]) (rest := []) (mc := 0) (ms := 0) (rm := { frames := 2, cells := 0, slots := 0, locals := 45 }) hC hl.1 hO [0, 21, 62, 38, 64] (by decide +kernel) hM0 gL_k_X11_income rfl rfl rfl 1 (by decide +kernel) ⟨Nat.le_of_ble_eq_true rfl, Nat.le_of_ble_eq_true rfl⟩ rfl (by decide) hE0 rfl rfl (Nat.le_of_ble_eq_true rfl) dL_law_416 ⟨hce, hsl⟩ (fun r0 nw0 l0 H locs hw hO => ?_)
  obtain ⟨hI, hK0⟩ := hP0 _ _ _ hw
  have hT := hK0.te hT
  obtain ⟨g0, hg0⟩ : ∃ z : Nat → va_E, z = cup (cmrg 173 5 [0, 21, 62, 38, 64] l0 []) g := ⟨_, rfl⟩
  rw [← hg0] at hI hO hT
  have hO : cO D cy (fun q : Nat => s.heap.size ≤ q) s.heap s 173 ad (cup [] g0) H locs := hO
  clear hg0 hK0 hw hP0 hM0 hE0
  refine lv_pop hx hb dL_law_419 rfl ?_
  refine lv_aload_n hx hb dL_law_420 rfl (lv_at hl 2 rfl) ?_
  refine lv_aload_n hx hb dL_law_421 rfl (lv_at hl 0 rfl) ?_
  refine lv_iload_n hx hb dL_law_422 rfl (lv_at hl 3 rfl) ?_
  refine lv_iconst (v := 1) hx hb dL_law_423 (by decide) ?_
  refine lv_iadd hx hb dL_law_424 ?_
  refine va_sld hx hb hX hbl (Nat.not_le.mpr hbl) hO.2.2.2.1 (sc_in hv hL (c := 1) (by decide)) dL_law_425 ?_
  refine lv_topi (fun a425_1 ea425_1 => ?_)
  obtain ⟨post1, hM1, hP1⟩ := sm_X12_income (D := D) l a425_1 hI
  have hR1 : ∃ fs, g0 119 = .inr (12, fs) := INV_obj12 hI
  obtain ⟨fs1, hE1⟩ := hR1
  refine cg_Vi (As := [.int a425_1]) (rest := []) (mc := 0) (ms := 0) (rm := { frames := 5, cells := 0, slots := 0, locals := 117 }) hC hl.1 hO [119, 123, 127, 128, 130, 131, 132, 133, 136, 138, 142, 143, 146, 147, 148, 149, 150, 151, 152, 153, 154, 155, 156, 157, 158, 159, 160, 161] (by decide +kernel) hM1 gL_k_X12_income rfl rfl rfl 1 (by decide +kernel) ⟨Nat.le_of_ble_eq_true rfl, Nat.le_of_ble_eq_true rfl⟩ rfl (by decide) hE1 rfl rfl (Nat.le_of_ble_eq_true rfl) dL_law_426 ⟨hce, hsl⟩ (fun r1 nw1 l1 H locs hw hO => ?_)
  obtain ⟨hI, hK1⟩ := hP1 _ _ _ hw
  have hT := hK1.te hT
  obtain ⟨g1, hg1⟩ : ∃ z : Nat → va_E, z = cup (cmrg 173 28 [119, 123, 127, 128, 130, 131, 132, 133, 136, 138, 142, 143, 146, 147, 148, 149, 150, 151, 152, 153, 154, 155, 156, 157, 158, 159, 160, 161] l1 []) g0 := ⟨_, rfl⟩
  rw [← hg1] at hI hO hT
  have hO : cO D cy (fun q : Nat => s.heap.size ≤ q) s.heap s 173 ad (cup [] g1) H locs := hO
  refine lv_pop hx hb dL_law_429 rfl ?_
  refine lv_goto (tgt := 917) hx hb dL_law_430 (by decide) ?_
  exact K _ _ _ hI hT hO

set_option maxHeartbeats 8000000 in
set_option maxRecDepth 100000 in
theorem lc_come {p : Program} {e : Env} {s : State} {m : MethodId} {below : List Frame} {meth : Method} {c : Code} (l : Launch) {b L : Nat} {xs : Nat → Int32} {D : va_G} {cy : Nat → ClassId} {ad : Nat → Nat} {g : Nat → va_E} {H : Heap} {locs : List Loc} {cells slots : Nat} {ls : Array Slot} {v : Int32} (hC : CallFix p m c code 4 s #[Value.ref b] lw_tbl RL) (hX : va_X b L xs s s.heap) (hbl : b < s.heap.size) (hL : L ≤ 3072) (hv : 0 ≤ v.toInt ∧ v.toInt + 6 ≤ L) (hI : INV cy ad g) (hT : TE g) (hO : cO D cy (fun q : Nat => s.heap.size ≤ q) s.heap s 173 ad (cup [] g) H locs) (hce : cells + 0 ≤ 600000) (hsl : slots + 0 ≤ 7302250) (hl : lv_has ls 4 [(0, .ref b), (1, .ref (ad 0)), (2, .ref (ad 119)), (3, .int v)]) (K : ∀ (g1 : Nat → va_E) (H1 : Heap) (locs1 : List Loc), INV cy ad g1 → TE g1 → cO D cy (fun q : Nat => s.heap.size ≤ q) s.heap s 173 ad (cup [] g1) H1 locs1 → W p l e room_1 s m #[Value.ref b] below meth c H1 locs1 cells slots (lw_Z below #[Value.ref b] s) (F0 m 917 ls [])) : W p l e room_1 s m #[Value.ref b] below meth c H locs cells slots (lw_Z below #[Value.ref b] s) (F0 m 433 ls []) := by
  obtain ⟨hx, hb, hml, hown, hts⟩ := id hC
  refine lv_aload_n hx hb dL_law_433 rfl (lv_at hl 1 rfl) ?_
  refine lv_aload_n hx hb dL_law_434 rfl (lv_at hl 0 rfl) ?_
  refine lv_iload_n hx hb dL_law_435 rfl (lv_at hl 3 rfl) ?_
  refine lv_iconst (v := 1) hx hb dL_law_436 (by decide) ?_
  refine lv_iadd hx hb dL_law_437 ?_
  refine va_sld hx hb hX hbl (Nat.not_le.mpr hbl) hO.2.2.2.1 (sc_in hv hL (c := 1) (by decide)) dL_law_438 ?_
  refine lv_topi (fun a438_1 ea438_1 => ?_)
  refine lv_aload_n hx hb dL_law_439 rfl (lv_at hl 0 rfl) ?_
  refine lv_iload_n hx hb dL_law_440 rfl (lv_at hl 3 rfl) ?_
  refine lv_iconst (v := 2) hx hb dL_law_441 (by decide) ?_
  refine lv_iadd hx hb dL_law_442 ?_
  refine va_sld hx hb hX hbl (Nat.not_le.mpr hbl) hO.2.2.2.1 (sc_in hv hL (c := 2) (by decide)) dL_law_443 ?_
  refine lv_topi (fun a443_2 ea443_2 => ?_)
  obtain ⟨post0, hM0, hP0⟩ := sm_X11_come (D := D) l a438_1 a443_2 hI
  have hR0 : ∃ fs, g 0 = .inr (11, fs) := INV_obj11 hI
  obtain ⟨fs0, hE0⟩ := hR0
  refine cg_Vi (As := [.int a438_1, .int a443_2]) (rest := []) (mc := 0) (ms := 0) (rm := { frames := 5, cells := 0, slots := 0, locals := 129 }) hC hl.1 hO [0, 38, 55, 62, 21, 35, 59, 66, 39, 40, 41, 56, 57, 58, 24, 25, 28, 29, 30, 31, 36, 37, 60, 61, 67, 68, 69, 70, 71, 72, 73, 63, 64, 65] (by decide +kernel) hM0 gL_k_X11_come rfl rfl rfl 2 (by decide +kernel) ⟨Nat.le_of_ble_eq_true rfl, Nat.le_of_ble_eq_true rfl⟩ rfl (by decide) hE0 rfl rfl (Nat.le_of_ble_eq_true rfl) dL_law_444 ⟨hce, hsl⟩ (fun r0 nw0 l0 H locs hw hO => ?_)
  obtain ⟨hI, hK0⟩ := hP0 _ _ _ hw
  have hT := hK0.te hT
  obtain ⟨g0, hg0⟩ : ∃ z : Nat → va_E, z = cup (cmrg 173 34 [0, 38, 55, 62, 21, 35, 59, 66, 39, 40, 41, 56, 57, 58, 24, 25, 28, 29, 30, 31, 36, 37, 60, 61, 67, 68, 69, 70, 71, 72, 73, 63, 64, 65] l0 []) g := ⟨_, rfl⟩
  rw [← hg0] at hI hO hT
  have hO : cO D cy (fun q : Nat => s.heap.size ≤ q) s.heap s 173 ad (cup [] g0) H locs := hO
  clear hg0 hK0 hw hP0 hM0 hE0
  refine lv_pop hx hb dL_law_447 rfl ?_
  refine lv_aload_n hx hb dL_law_448 rfl (lv_at hl 2 rfl) ?_
  refine lv_aload_n hx hb dL_law_449 rfl (lv_at hl 0 rfl) ?_
  refine lv_iload_n hx hb dL_law_450 rfl (lv_at hl 3 rfl) ?_
  refine lv_iconst (v := 1) hx hb dL_law_451 (by decide) ?_
  refine lv_iadd hx hb dL_law_452 ?_
  refine va_sld hx hb hX hbl (Nat.not_le.mpr hbl) hO.2.2.2.1 (sc_in hv hL (c := 1) (by decide)) dL_law_453 ?_
  refine lv_topi (fun a453_1 ea453_1 => ?_)
  refine lv_aload_n hx hb dL_law_454 rfl (lv_at hl 0 rfl) ?_
  refine lv_iload_n hx hb dL_law_455 rfl (lv_at hl 3 rfl) ?_
  refine lv_iconst (v := 2) hx hb dL_law_456 (by decide) ?_
  refine lv_iadd hx hb dL_law_457 ?_
  refine va_sld hx hb hX hbl (Nat.not_le.mpr hbl) hO.2.2.2.1 (sc_in hv hL (c := 2) (by decide)) dL_law_458 ?_
  refine lv_topi (fun a458_2 ea458_2 => ?_)
  obtain ⟨post1, hM1, hP1⟩ := sm_X12_come (D := D) l a453_1 a458_2 hI
  have hR1 : ∃ fs, g0 119 = .inr (12, fs) := INV_obj12 hI
  obtain ⟨fs1, hE1⟩ := hR1
  refine cg_Vi (As := [.int a453_1, .int a458_2]) (rest := []) (mc := 0) (ms := 0) (rm := { frames := 1, cells := 0, slots := 0, locals := 22 }) hC hl.1 hO [119, 147, 162] (by decide +kernel) hM1 gL_k_X12_come rfl rfl rfl 2 (by decide +kernel) ⟨Nat.le_of_ble_eq_true rfl, Nat.le_of_ble_eq_true rfl⟩ rfl (by decide) hE1 rfl rfl (Nat.le_of_ble_eq_true rfl) dL_law_459 ⟨hce, hsl⟩ (fun r1 nw1 l1 H locs hw hO => ?_)
  obtain ⟨hI, hK1⟩ := hP1 _ _ _ hw
  have hT := hK1.te hT
  obtain ⟨g1, hg1⟩ : ∃ z : Nat → va_E, z = cup (cmrg 173 3 [119, 147, 162] l1 []) g0 := ⟨_, rfl⟩
  rw [← hg1] at hI hO hT
  have hO : cO D cy (fun q : Nat => s.heap.size ≤ q) s.heap s 173 ad (cup [] g1) H locs := hO
  refine lv_pop hx hb dL_law_462 rfl ?_
  refine lv_goto (tgt := 917) hx hb dL_law_463 (by decide) ?_
  exact K _ _ _ hI hT hO

set_option maxHeartbeats 8000000 in
set_option maxRecDepth 100000 in
theorem lc_doubt {p : Program} {e : Env} {s : State} {m : MethodId} {below : List Frame} {meth : Method} {c : Code} (l : Launch) {b L : Nat} {xs : Nat → Int32} {D : va_G} {cy : Nat → ClassId} {ad : Nat → Nat} {g : Nat → va_E} {H : Heap} {locs : List Loc} {cells slots : Nat} {ls : Array Slot} {v : Int32} (hC : CallFix p m c code 4 s #[Value.ref b] lw_tbl RL) (hX : va_X b L xs s s.heap) (hbl : b < s.heap.size) (hL : L ≤ 3072) (hv : 0 ≤ v.toInt ∧ v.toInt + 6 ≤ L) (hI : INV cy ad g) (hT : TE g) (hO : cO D cy (fun q : Nat => s.heap.size ≤ q) s.heap s 173 ad (cup [] g) H locs) (hce : cells + 0 ≤ 600000) (hsl : slots + 0 ≤ 7302250) (hl : lv_has ls 4 [(0, .ref b), (1, .ref (ad 0)), (2, .ref (ad 119)), (3, .int v)]) (K : ∀ (g1 : Nat → va_E) (H1 : Heap) (locs1 : List Loc), INV cy ad g1 → TE g1 → cO D cy (fun q : Nat => s.heap.size ≤ q) s.heap s 173 ad (cup [] g1) H1 locs1 → W p l e room_1 s m #[Value.ref b] below meth c H1 locs1 cells slots (lw_Z below #[Value.ref b] s) (F0 m 917 ls [])) : W p l e room_1 s m #[Value.ref b] below meth c H locs cells slots (lw_Z below #[Value.ref b] s) (F0 m 466 ls []) := by
  obtain ⟨hx, hb, hml, hown, hts⟩ := id hC
  refine lv_aload_n hx hb dL_law_466 rfl (lv_at hl 1 rfl) ?_
  refine lv_aload_n hx hb dL_law_467 rfl (lv_at hl 0 rfl) ?_
  refine lv_iload_n hx hb dL_law_468 rfl (lv_at hl 3 rfl) ?_
  refine lv_iconst (v := 1) hx hb dL_law_469 (by decide) ?_
  refine lv_iadd hx hb dL_law_470 ?_
  refine va_sld hx hb hX hbl (Nat.not_le.mpr hbl) hO.2.2.2.1 (sc_in hv hL (c := 1) (by decide)) dL_law_471 ?_
  refine lv_topi (fun a471_1 ea471_1 => ?_)
  obtain ⟨post0, hM0, hP0⟩ := sm_X11_doubt (D := D) l a471_1 hI
  have hR0 : ∃ fs, g 0 = .inr (11, fs) := INV_obj11 hI
  obtain ⟨fs0, hE0⟩ := hR0
  refine cg_Vi (As := [.int a471_1]) (rest := []) (mc := 0) (ms := 0) (rm := { frames := 5, cells := 0, slots := 0, locals := 129 }) hC hl.1 hO [0, 38, 21, 55, 62, 35, 59, 66, 39, 40, 41, 56, 57, 58, 24, 25, 28, 29, 30, 31, 36, 37, 60, 61, 67, 68, 69, 70, 71, 72, 73, 63, 64, 65] (by decide +kernel) hM0 gL_k_X11_doubt rfl rfl rfl 1 (by decide +kernel) ⟨Nat.le_of_ble_eq_true rfl, Nat.le_of_ble_eq_true rfl⟩ rfl (by decide) hE0 rfl rfl (Nat.le_of_ble_eq_true rfl) dL_law_472 ⟨hce, hsl⟩ (fun r0 nw0 l0 H locs hw hO => ?_)
  obtain ⟨hI, hK0⟩ := hP0 _ _ _ hw
  have hT := hK0.te hT
  obtain ⟨g0, hg0⟩ : ∃ z : Nat → va_E, z = cup (cmrg 173 34 [0, 38, 21, 55, 62, 35, 59, 66, 39, 40, 41, 56, 57, 58, 24, 25, 28, 29, 30, 31, 36, 37, 60, 61, 67, 68, 69, 70, 71, 72, 73, 63, 64, 65] l0 []) g := ⟨_, rfl⟩
  rw [← hg0] at hI hO hT
  have hO : cO D cy (fun q : Nat => s.heap.size ≤ q) s.heap s 173 ad (cup [] g0) H locs := hO
  clear hg0 hK0 hw hP0 hM0 hE0
  refine lv_pop hx hb dL_law_475 rfl ?_
  refine lv_aload_n hx hb dL_law_476 rfl (lv_at hl 2 rfl) ?_
  refine lv_aload_n hx hb dL_law_477 rfl (lv_at hl 0 rfl) ?_
  refine lv_iload_n hx hb dL_law_478 rfl (lv_at hl 3 rfl) ?_
  refine lv_iconst (v := 1) hx hb dL_law_479 (by decide) ?_
  refine lv_iadd hx hb dL_law_480 ?_
  refine va_sld hx hb hX hbl (Nat.not_le.mpr hbl) hO.2.2.2.1 (sc_in hv hL (c := 1) (by decide)) dL_law_481 ?_
  refine lv_topi (fun a481_1 ea481_1 => ?_)
  obtain ⟨post1, hM1, hP1⟩ := sm_X12_doubt (D := D) l a481_1 hI
  have hR1 : ∃ fs, g0 119 = .inr (12, fs) := INV_obj12 hI
  obtain ⟨fs1, hE1⟩ := hR1
  refine cg_Vi (As := [.int a481_1]) (rest := []) (mc := 0) (ms := 0) (rm := { frames := 2, cells := 0, slots := 0, locals := 43 }) hC hl.1 hO [119, 147, 124, 137, 162] (by decide +kernel) hM1 gL_k_X12_doubt rfl rfl rfl 1 (by decide +kernel) ⟨Nat.le_of_ble_eq_true rfl, Nat.le_of_ble_eq_true rfl⟩ rfl (by decide) hE1 rfl rfl (Nat.le_of_ble_eq_true rfl) dL_law_482 ⟨hce, hsl⟩ (fun r1 nw1 l1 H locs hw hO => ?_)
  obtain ⟨hI, hK1⟩ := hP1 _ _ _ hw
  have hT := hK1.te hT
  obtain ⟨g1, hg1⟩ : ∃ z : Nat → va_E, z = cup (cmrg 173 5 [119, 147, 124, 137, 162] l1 []) g0 := ⟨_, rfl⟩
  rw [← hg1] at hI hO hT
  have hO : cO D cy (fun q : Nat => s.heap.size ≤ q) s.heap s 173 ad (cup [] g1) H locs := hO
  refine lv_pop hx hb dL_law_485 rfl ?_
  refine lv_goto (tgt := 917) hx hb dL_law_486 (by decide) ?_
  exact K _ _ _ hI hT hO

set_option maxHeartbeats 8000000 in
set_option maxRecDepth 100000 in
theorem lc_learn {p : Program} {e : Env} {s : State} {m : MethodId} {below : List Frame} {meth : Method} {c : Code} (l : Launch) {b L : Nat} {xs : Nat → Int32} {D : va_G} {cy : Nat → ClassId} {ad : Nat → Nat} {g : Nat → va_E} {H : Heap} {locs : List Loc} {cells slots : Nat} {ls : Array Slot} {v : Int32} (hC : CallFix p m c code 4 s #[Value.ref b] lw_tbl RL) (hX : va_X b L xs s s.heap) (hbl : b < s.heap.size) (hL : L ≤ 3072) (hv : 0 ≤ v.toInt ∧ v.toInt + 6 ≤ L) (hI : INV cy ad g) (hT : TE g) (hO : cO D cy (fun q : Nat => s.heap.size ≤ q) s.heap s 173 ad (cup [] g) H locs) (hce : cells + 0 ≤ 600000) (hsl : slots + 0 ≤ 7302250) (hl : lv_has ls 4 [(0, .ref b), (1, .ref (ad 0)), (2, .ref (ad 119)), (3, .int v)]) (K : ∀ (g1 : Nat → va_E) (H1 : Heap) (locs1 : List Loc), INV cy ad g1 → TE g1 → cO D cy (fun q : Nat => s.heap.size ≤ q) s.heap s 173 ad (cup [] g1) H1 locs1 → W p l e room_1 s m #[Value.ref b] below meth c H1 locs1 cells slots (lw_Z below #[Value.ref b] s) (F0 m 917 ls [])) : W p l e room_1 s m #[Value.ref b] below meth c H locs cells slots (lw_Z below #[Value.ref b] s) (F0 m 489 ls []) := by
  obtain ⟨hx, hb, hml, hown, hts⟩ := id hC
  refine lv_aload_n hx hb dL_law_489 rfl (lv_at hl 1 rfl) ?_
  refine lv_aload_n hx hb dL_law_490 rfl (lv_at hl 0 rfl) ?_
  refine lv_iload_n hx hb dL_law_491 rfl (lv_at hl 3 rfl) ?_
  refine lv_iconst (v := 1) hx hb dL_law_492 (by decide) ?_
  refine lv_iadd hx hb dL_law_493 ?_
  refine va_sld hx hb hX hbl (Nat.not_le.mpr hbl) hO.2.2.2.1 (sc_in hv hL (c := 1) (by decide)) dL_law_494 ?_
  refine lv_topi (fun a494_1 ea494_1 => ?_)
  refine lv_aload_n hx hb dL_law_495 rfl (lv_at hl 0 rfl) ?_
  refine lv_iload_n hx hb dL_law_496 rfl (lv_at hl 3 rfl) ?_
  refine lv_iconst (v := 2) hx hb dL_law_497 (by decide) ?_
  refine lv_iadd hx hb dL_law_498 ?_
  refine va_sld hx hb hX hbl (Nat.not_le.mpr hbl) hO.2.2.2.1 (sc_in hv hL (c := 2) (by decide)) dL_law_499 ?_
  refine lv_topi (fun a499_2 ea499_2 => ?_)
  obtain ⟨post0, hM0, hP0⟩ := sm_X11_learn (D := D) l a494_1 a499_2 hI
  have hR0 : ∃ fs, g 0 = .inr (11, fs) := INV_obj11 hI
  obtain ⟨fs0, hE0⟩ := hR0
  refine cg_Vi (As := [.int a494_1, .int a499_2]) (rest := []) (mc := 0) (ms := 0) (rm := { frames := 5, cells := 0, slots := 0, locals := 129 }) hC hl.1 hO [0, 21, 38, 41, 55, 62, 35, 59, 66, 39, 40, 56, 57, 58, 24, 25, 28, 29, 30, 31, 36, 37, 60, 61, 67, 68, 69, 70, 71, 72, 73, 63, 64, 65] (by decide +kernel) hM0 gL_k_X11_learn rfl rfl rfl 2 (by decide +kernel) ⟨Nat.le_of_ble_eq_true rfl, Nat.le_of_ble_eq_true rfl⟩ rfl (by decide) hE0 rfl rfl (Nat.le_of_ble_eq_true rfl) dL_law_500 ⟨hce, hsl⟩ (fun r0 nw0 l0 H locs hw hO => ?_)
  obtain ⟨hI, hK0⟩ := hP0 _ _ _ hw
  have hT := hK0.te hT
  obtain ⟨g0, hg0⟩ : ∃ z : Nat → va_E, z = cup (cmrg 173 34 [0, 21, 38, 41, 55, 62, 35, 59, 66, 39, 40, 56, 57, 58, 24, 25, 28, 29, 30, 31, 36, 37, 60, 61, 67, 68, 69, 70, 71, 72, 73, 63, 64, 65] l0 []) g := ⟨_, rfl⟩
  rw [← hg0] at hI hO hT
  have hO : cO D cy (fun q : Nat => s.heap.size ≤ q) s.heap s 173 ad (cup [] g0) H locs := hO
  clear hg0 hK0 hw hP0 hM0 hE0
  refine lv_pop hx hb dL_law_503 rfl ?_
  refine lv_aload_n hx hb dL_law_504 rfl (lv_at hl 2 rfl) ?_
  refine lv_aload_n hx hb dL_law_505 rfl (lv_at hl 0 rfl) ?_
  refine lv_iload_n hx hb dL_law_506 rfl (lv_at hl 3 rfl) ?_
  refine lv_iconst (v := 1) hx hb dL_law_507 (by decide) ?_
  refine lv_iadd hx hb dL_law_508 ?_
  refine va_sld hx hb hX hbl (Nat.not_le.mpr hbl) hO.2.2.2.1 (sc_in hv hL (c := 1) (by decide)) dL_law_509 ?_
  refine lv_topi (fun a509_1 ea509_1 => ?_)
  refine lv_aload_n hx hb dL_law_510 rfl (lv_at hl 0 rfl) ?_
  refine lv_iload_n hx hb dL_law_511 rfl (lv_at hl 3 rfl) ?_
  refine lv_iconst (v := 2) hx hb dL_law_512 (by decide) ?_
  refine lv_iadd hx hb dL_law_513 ?_
  refine va_sld hx hb hX hbl (Nat.not_le.mpr hbl) hO.2.2.2.1 (sc_in hv hL (c := 2) (by decide)) dL_law_514 ?_
  refine lv_topi (fun a514_2 ea514_2 => ?_)
  obtain ⟨post1, hM1, hP1⟩ := sm_X12_learn (D := D) l a509_1 a514_2 hI
  have hR1 : ∃ fs, g0 119 = .inr (12, fs) := INV_obj12 hI
  obtain ⟨fs1, hE1⟩ := hR1
  refine cg_Vi (As := [.int a509_1, .int a514_2]) (rest := []) (mc := 0) (ms := 0) (rm := { frames := 2, cells := 0, slots := 0, locals := 43 }) hC hl.1 hO [119, 122, 147, 162] (by decide +kernel) hM1 gL_k_X12_learn rfl rfl rfl 2 (by decide +kernel) ⟨Nat.le_of_ble_eq_true rfl, Nat.le_of_ble_eq_true rfl⟩ rfl (by decide) hE1 rfl rfl (Nat.le_of_ble_eq_true rfl) dL_law_515 ⟨hce, hsl⟩ (fun r1 nw1 l1 H locs hw hO => ?_)
  obtain ⟨hI, hK1⟩ := hP1 _ _ _ hw
  have hT := hK1.te hT
  obtain ⟨g1, hg1⟩ : ∃ z : Nat → va_E, z = cup (cmrg 173 4 [119, 122, 147, 162] l1 []) g0 := ⟨_, rfl⟩
  rw [← hg1] at hI hO hT
  have hO : cO D cy (fun q : Nat => s.heap.size ≤ q) s.heap s 173 ad (cup [] g1) H locs := hO
  refine lv_pop hx hb dL_law_518 rfl ?_
  refine lv_goto (tgt := 917) hx hb dL_law_519 (by decide) ?_
  exact K _ _ _ hI hT hO

