theorem dL_law_18 : decode cL_law 18 = .ok (.iload_n 3, 1) := by decide +kernel
theorem dL_law_19 : decode cL_law 19 = .ok (.aload_n 0, 1) := by decide +kernel
theorem dL_law_20 : decode cL_law 20 = .ok (.arraylength, 1) := by decide +kernel
theorem dL_law_21 : decode cL_law 21 = .ok (.bipush 6, 2) := by decide +kernel
theorem dL_law_23 : decode cL_law 23 = .ok (.isub, 1) := by decide +kernel
theorem dL_law_24 : decode cL_law 24 = .ok (.if_icmp .gt 899, 3) := by decide +kernel
theorem dL_law_917 : decode cL_law 917 = .ok (.iinc 3 6, 3) := by decide +kernel
theorem dL_law_920 : decode cL_law 920 = .ok (.goto (-902), 3) := by decide +kernel
theorem dL_law_923 : decode cL_law 923 = .ok (.iconst 1, 1) := by decide +kernel
theorem dL_law_924 : decode cL_law 924 = .ok (.ireturn, 1) := by decide +kernel
theorem cm_far {N k M : Nat} {ps : List Nat} (h : cps N k ps = true) (hb : ps.all (fun x => Nat.blt x M) = true) (l' lu : List (Nat × va_E)) (g : Nat → va_E) : ∀ j, M ≤ j → j < N → cup (cmrg N k ps l' lu) g j = cup lu g j := by
  intro j h1 h2
  obtain ⟨a1, -, -⟩ := cps_spec h
  refine cmrg_out h l' lu g j h2 (fun i hi e => ?_)
  simp only [List.all_eq_true, nblt, decide_eq_true_eq] at hb
  have hm : ps[i]? = some (ps.getD i 0) := by
    rw [List.getD_eq_getElem?_getD, List.getElem?_eq_getElem (by omega)]
    rfl
  have := hb _ (List.mem_of_getElem? hm)
  omega
theorem law_end {p : Program} {e : Env} {s : State} {m : MethodId} {below : List Frame} {meth : Method} {c : Code} (l : Launch) {b : Nat} {xs : Nat → Int32} {D : va_G} {cy : Nat → ClassId} {N : Nat} {ad : Nat → Nat} {g : Nat → va_E} {H : Heap} {locs : List Loc} {cells slots : Nat} {ls : Array Slot} (hC : CallFix p m c code 4 s #[Value.ref b] lw_tbl RL) (hr : meth.sig.returnType = ret) (hlk : meth.locks = false) (hO : cO D cy (fun q : Nat => s.heap.size ≤ q) s.heap s N ad g H locs) (hce : cells ≤ 600000) (hsl : slots ≤ 7302250) : W p l e room_1 s m #[Value.ref b] below meth c H locs cells slots (lw_Z below #[Value.ref b] s) (F0 m 923 ls []) := by
  obtain ⟨hx, hb, hml, hown, hts⟩ := id hC
  refine lv_iconst (v := 1) hx hb dL_law_923 (by decide) ?_
  refine va_forget (fun q hq => hO.2.2.2.1.2.2 q hq) ?_
  refine W.widen (k := 600000) (n := 7302250) hce hsl ?_
  exact lw_ret hx hb hr hlk dL_law_924
theorem law_tail {p : Program} {e : Env} {s : State} {m : MethodId} {below : List Frame} {meth : Method} {c : Code} (l : Launch) {b : Nat} {xs : Nat → Int32} {D : va_G} {cy : Nat → ClassId} {N : Nat} {ad : Nat → Nat} {g : Nat → va_E} {H : Heap} {locs : List Loc} {cells slots : Nat} {ls : Array Slot} (hC : CallFix p m c code 4 s #[Value.ref b] lw_tbl RL) (hr : meth.sig.returnType = ret) (hlk : meth.locks = false) (hX : va_X b 6 xs s s.heap) (hbl : b < s.heap.size) (hO : cO D cy (fun q : Nat => s.heap.size ≤ q) s.heap s N ad g H locs) (hce : cells ≤ 600000) (hsl : slots ≤ 7302250) (hl : lv_has ls 4 [(0, .ref b), (3, .int 0)]) : W p l e room_1 s m #[Value.ref b] below meth c H locs cells slots (lw_Z below #[Value.ref b] s) (F0 m 917 ls []) := by
  obtain ⟨hx, hb, hml, hown, hts⟩ := id hC
  refine lv_iinc (v := 6) (lv' := [(3, .int 6), (0, .ref b)]) hx hb dL_law_917 hl (k := 1) rfl (by decide) (by decide) rfl (fun ls hl => ?_)
  refine lv_goto (tgt := 18) hx hb dL_law_920 (by decide) ?_
  refine lv_iload_n hx hb dL_law_18 rfl (lv_at hl 0 rfl) ?_
  refine lv_aload_n hx hb dL_law_19 rfl (lv_at hl 1 rfl) ?_
  refine va_slen hx hb hX hbl (Nat.not_le.mpr hbl) hO.2.2.2.1 dL_law_20 ?_
  refine lv_bipush (v := 6) hx hb dL_law_21 (by decide) ?_
  refine lv_isub hx hb dL_law_23 ?_
  refine cg_ev (v := 0) (by decide) ?_
  refine lv_icmp_gt (tgt := 923) hx hb dL_law_24 (by decide) (fun _ => ?_) (fun h => absurd (by decide) h)
  exact law_end l hC hr hlk hO hce hsl
theorem dL_law_156 : decode cL_law 156 = .ok (.aload_n 1, 1) := by decide +kernel
theorem dL_law_157 : decode cL_law 157 = .ok (.aload_n 0, 1) := by decide +kernel
theorem dL_law_158 : decode cL_law 158 = .ok (.iload_n 3, 1) := by decide +kernel
theorem dL_law_159 : decode cL_law 159 = .ok (.iconst 1, 1) := by decide +kernel
theorem dL_law_160 : decode cL_law 160 = .ok (.iadd, 1) := by decide +kernel
theorem dL_law_161 : decode cL_law 161 = .ok (.iaload, 1) := by decide +kernel
theorem dL_law_162 : decode cL_law 162 = .ok (.aload_n 0, 1) := by decide +kernel
theorem dL_law_163 : decode cL_law 163 = .ok (.iload_n 3, 1) := by decide +kernel
theorem dL_law_164 : decode cL_law 164 = .ok (.iconst 2, 1) := by decide +kernel
theorem dL_law_165 : decode cL_law 165 = .ok (.iadd, 1) := by decide +kernel
theorem dL_law_166 : decode cL_law 166 = .ok (.iaload, 1) := by decide +kernel
theorem dL_law_167 : decode cL_law 167 = .ok (.aload_n 0, 1) := by decide +kernel
theorem dL_law_168 : decode cL_law 168 = .ok (.iload_n 3, 1) := by decide +kernel
theorem dL_law_169 : decode cL_law 169 = .ok (.iconst 3, 1) := by decide +kernel
theorem dL_law_170 : decode cL_law 170 = .ok (.iadd, 1) := by decide +kernel
theorem dL_law_171 : decode cL_law 171 = .ok (.iaload, 1) := by decide +kernel
theorem dL_law_172 : decode cL_law 172 = .ok (.aload_n 0, 1) := by decide +kernel
theorem dL_law_173 : decode cL_law 173 = .ok (.iload_n 3, 1) := by decide +kernel
theorem dL_law_174 : decode cL_law 174 = .ok (.iconst 4, 1) := by decide +kernel
theorem dL_law_175 : decode cL_law 175 = .ok (.iadd, 1) := by decide +kernel
theorem dL_law_176 : decode cL_law 176 = .ok (.iaload, 1) := by decide +kernel
theorem dL_law_177 : decode cL_law 177 = .ok (.aload_n 0, 1) := by decide +kernel
theorem dL_law_178 : decode cL_law 178 = .ok (.iload_n 3, 1) := by decide +kernel
theorem dL_law_179 : decode cL_law 179 = .ok (.iconst 5, 1) := by decide +kernel
theorem dL_law_180 : decode cL_law 180 = .ok (.iadd, 1) := by decide +kernel
theorem dL_law_181 : decode cL_law 181 = .ok (.iaload, 1) := by decide +kernel
theorem dL_law_182 : decode cL_law 182 = .ok (.invokevirtual 13, 3) := by decide +kernel
theorem dL_law_185 : decode cL_law 185 = .ok (.aload_n 2, 1) := by decide +kernel
theorem dL_law_186 : decode cL_law 186 = .ok (.aload_n 0, 1) := by decide +kernel
theorem dL_law_187 : decode cL_law 187 = .ok (.iload_n 3, 1) := by decide +kernel
theorem dL_law_188 : decode cL_law 188 = .ok (.iconst 1, 1) := by decide +kernel
theorem dL_law_189 : decode cL_law 189 = .ok (.iadd, 1) := by decide +kernel
theorem dL_law_190 : decode cL_law 190 = .ok (.iaload, 1) := by decide +kernel
theorem dL_law_191 : decode cL_law 191 = .ok (.aload_n 0, 1) := by decide +kernel
theorem dL_law_192 : decode cL_law 192 = .ok (.iload_n 3, 1) := by decide +kernel
theorem dL_law_193 : decode cL_law 193 = .ok (.iconst 2, 1) := by decide +kernel
theorem dL_law_194 : decode cL_law 194 = .ok (.iadd, 1) := by decide +kernel
theorem dL_law_195 : decode cL_law 195 = .ok (.iaload, 1) := by decide +kernel
theorem dL_law_196 : decode cL_law 196 = .ok (.aload_n 0, 1) := by decide +kernel
theorem dL_law_197 : decode cL_law 197 = .ok (.iload_n 3, 1) := by decide +kernel
theorem dL_law_198 : decode cL_law 198 = .ok (.iconst 3, 1) := by decide +kernel
theorem dL_law_199 : decode cL_law 199 = .ok (.iadd, 1) := by decide +kernel
theorem dL_law_200 : decode cL_law 200 = .ok (.iaload, 1) := by decide +kernel
theorem dL_law_201 : decode cL_law 201 = .ok (.aload_n 0, 1) := by decide +kernel
theorem dL_law_202 : decode cL_law 202 = .ok (.iload_n 3, 1) := by decide +kernel
theorem dL_law_203 : decode cL_law 203 = .ok (.iconst 4, 1) := by decide +kernel
theorem dL_law_204 : decode cL_law 204 = .ok (.iadd, 1) := by decide +kernel
theorem dL_law_205 : decode cL_law 205 = .ok (.iaload, 1) := by decide +kernel
theorem dL_law_206 : decode cL_law 206 = .ok (.aload_n 0, 1) := by decide +kernel
theorem dL_law_207 : decode cL_law 207 = .ok (.iload_n 3, 1) := by decide +kernel
theorem dL_law_208 : decode cL_law 208 = .ok (.iconst 5, 1) := by decide +kernel
theorem dL_law_209 : decode cL_law 209 = .ok (.iadd, 1) := by decide +kernel
theorem dL_law_210 : decode cL_law 210 = .ok (.iaload, 1) := by decide +kernel
theorem dL_law_211 : decode cL_law 211 = .ok (.invokevirtual 17, 3) := by decide +kernel
theorem dL_law_214 : decode cL_law 214 = .ok (.if_icmp .eq 703, 3) := by decide +kernel
set_option maxHeartbeats 8000000 in
set_option maxRecDepth 100000 in
theorem lc_feed {p : Program} {e : Env} {s : State} {m : MethodId} {below : List Frame} {meth : Method} {c : Code} (l : Launch) {b : Nat} {xs : Nat → Int32} {D : va_G} {cy : Nat → ClassId} {ad : Nat → Nat} {g : Nat → va_E} {H : Heap} {locs : List Loc} {cells slots : Nat} {ls : Array Slot} {f0 : List Value} {c1 : Nat → Int32} {f119 : List Value} {c120 : Nat → Int32} (hC : CallFix p m c code 4 s #[Value.ref b] lw_tbl RL) (hr : meth.sig.returnType = ret) (hlk : meth.locks = false) (hX : va_X b 6 xs s s.heap) (hbl : b < s.heap.size) (o0 : g 0 = .inr (11, f0)) (f0_0 : f0[0]? = some (.ref (ad 1))) (f0_1 : f0[1]? = some (.int 0)) (a1 : g 1 = .inl (cy 0, 1600, .inl c1)) (o119 : g 119 = .inr (12, f119)) (f119_0 : f119[0]? = some (.ref (ad 120))) (f119_2 : f119[2]? = some (.int 0)) (a120 : g 120 = .inl (cy 3, 1620, .inl c120)) (hO : cO D cy (fun q : Nat => s.heap.size ≤ q) s.heap s 173 ad (cup [] g) H locs) (hce : cells + 0 ≤ 600000) (hsl : slots + 0 ≤ 7302250) (hl : lv_has ls 4 [(0, .ref b), (1, .ref (ad 0)), (2, .ref (ad 119)), (3, .int 0)]) : W p l e room_1 s m #[Value.ref b] below meth c H locs cells slots (lw_Z below #[Value.ref b] s) (F0 m 156 ls []) := by
  obtain ⟨hx, hb, hml, hown, hts⟩ := id hC
  refine lv_aload_n hx hb dL_law_156 rfl (lv_at hl 1 rfl) ?_
  refine lv_aload_n hx hb dL_law_157 rfl (lv_at hl 0 rfl) ?_
  refine lv_iload_n hx hb dL_law_158 rfl (lv_at hl 3 rfl) ?_
  refine lv_iconst (v := 1) hx hb dL_law_159 (by decide) ?_
  refine lv_iadd hx hb dL_law_160 ?_
  refine cg_ev (v := 1) (by decide) ?_
  refine va_sld hx hb hX hbl (Nat.not_le.mpr hbl) hO.2.2.2.1 (cin (by decide)) dL_law_161 ?_
  refine cg_ev (v := xs 1) rfl ?_
  refine lv_aload_n hx hb dL_law_162 rfl (lv_at hl 0 rfl) ?_
  refine lv_iload_n hx hb dL_law_163 rfl (lv_at hl 3 rfl) ?_
  refine lv_iconst (v := 2) hx hb dL_law_164 (by decide) ?_
  refine lv_iadd hx hb dL_law_165 ?_
  refine cg_ev (v := 2) (by decide) ?_
  refine va_sld hx hb hX hbl (Nat.not_le.mpr hbl) hO.2.2.2.1 (cin (by decide)) dL_law_166 ?_
  refine cg_ev (v := xs 2) rfl ?_
  refine lv_aload_n hx hb dL_law_167 rfl (lv_at hl 0 rfl) ?_
  refine lv_iload_n hx hb dL_law_168 rfl (lv_at hl 3 rfl) ?_
  refine lv_iconst (v := 3) hx hb dL_law_169 (by decide) ?_
  refine lv_iadd hx hb dL_law_170 ?_
  refine cg_ev (v := 3) (by decide) ?_
  refine va_sld hx hb hX hbl (Nat.not_le.mpr hbl) hO.2.2.2.1 (cin (by decide)) dL_law_171 ?_
  refine cg_ev (v := xs 3) rfl ?_
  refine lv_aload_n hx hb dL_law_172 rfl (lv_at hl 0 rfl) ?_
  refine lv_iload_n hx hb dL_law_173 rfl (lv_at hl 3 rfl) ?_
  refine lv_iconst (v := 4) hx hb dL_law_174 (by decide) ?_
  refine lv_iadd hx hb dL_law_175 ?_
  refine cg_ev (v := 4) (by decide) ?_
  refine va_sld hx hb hX hbl (Nat.not_le.mpr hbl) hO.2.2.2.1 (cin (by decide)) dL_law_176 ?_
  refine cg_ev (v := xs 4) rfl ?_
  refine lv_aload_n hx hb dL_law_177 rfl (lv_at hl 0 rfl) ?_
  refine lv_iload_n hx hb dL_law_178 rfl (lv_at hl 3 rfl) ?_
  refine lv_iconst (v := 5) hx hb dL_law_179 (by decide) ?_
  refine lv_iadd hx hb dL_law_180 ?_
  refine cg_ev (v := 5) (by decide) ?_
  refine va_sld hx hb hX hbl (Nat.not_le.mpr hbl) hO.2.2.2.1 (cin (by decide)) dL_law_181 ?_
  refine cg_ev (v := xs 5) rfl ?_
  refine cg_Vi (As := [.int (xs 1), .int (xs 2), .int (xs 3), .int (xs 4), .int (xs 5)]) (rest := []) (mc := 0) (ms := 0) (rm := { frames := 1, cells := 0, slots := 0, locals := 22 }) hC hl.1 hO [0, 1] (by decide +kernel) (c_X11_feed l D cy _ _ (f0 := f0) (x1 := (xs 1)) (x2 := (xs 2)) (x3 := (xs 3)) (x4 := (xs 4)) (x5 := (xs 5)) o0 f0_0 f0_1 a1) gL_c_X11_feed rfl rfl rfl 5 (by decide +kernel) ⟨Nat.le_of_ble_eq_true rfl, Nat.le_of_ble_eq_true rfl⟩ rfl (by decide) o0 rfl rfl (Nat.le_of_ble_eq_true rfl) dL_law_182 ⟨hce, hsl⟩ (fun r0 nw0 l0 H locs hw hO => ?_)
  obtain rfl := hw
  have hm := cm_far (N := 173) (k := 2) (M := 119) (ps := [0, 1]) (by decide +kernel) (by decide +kernel) l0 [] g
  refine lv_aload_n hx hb dL_law_185 rfl (lv_at hl 2 rfl) ?_
  refine lv_aload_n hx hb dL_law_186 rfl (lv_at hl 0 rfl) ?_
  refine lv_iload_n hx hb dL_law_187 rfl (lv_at hl 3 rfl) ?_
  refine lv_iconst (v := 1) hx hb dL_law_188 (by decide) ?_
  refine lv_iadd hx hb dL_law_189 ?_
  refine cg_ev (v := 1) (by decide) ?_
  refine va_sld hx hb hX hbl (Nat.not_le.mpr hbl) hO.2.2.2.1 (cin (by decide)) dL_law_190 ?_
  refine cg_ev (v := xs 1) rfl ?_
  refine lv_aload_n hx hb dL_law_191 rfl (lv_at hl 0 rfl) ?_
  refine lv_iload_n hx hb dL_law_192 rfl (lv_at hl 3 rfl) ?_
  refine lv_iconst (v := 2) hx hb dL_law_193 (by decide) ?_
  refine lv_iadd hx hb dL_law_194 ?_
  refine cg_ev (v := 2) (by decide) ?_
  refine va_sld hx hb hX hbl (Nat.not_le.mpr hbl) hO.2.2.2.1 (cin (by decide)) dL_law_195 ?_
  refine cg_ev (v := xs 2) rfl ?_
  refine lv_aload_n hx hb dL_law_196 rfl (lv_at hl 0 rfl) ?_
  refine lv_iload_n hx hb dL_law_197 rfl (lv_at hl 3 rfl) ?_
  refine lv_iconst (v := 3) hx hb dL_law_198 (by decide) ?_
  refine lv_iadd hx hb dL_law_199 ?_
  refine cg_ev (v := 3) (by decide) ?_
  refine va_sld hx hb hX hbl (Nat.not_le.mpr hbl) hO.2.2.2.1 (cin (by decide)) dL_law_200 ?_
  refine cg_ev (v := xs 3) rfl ?_
  refine lv_aload_n hx hb dL_law_201 rfl (lv_at hl 0 rfl) ?_
  refine lv_iload_n hx hb dL_law_202 rfl (lv_at hl 3 rfl) ?_
  refine lv_iconst (v := 4) hx hb dL_law_203 (by decide) ?_
  refine lv_iadd hx hb dL_law_204 ?_
  refine cg_ev (v := 4) (by decide) ?_
  refine va_sld hx hb hX hbl (Nat.not_le.mpr hbl) hO.2.2.2.1 (cin (by decide)) dL_law_205 ?_
  refine cg_ev (v := xs 4) rfl ?_
  refine lv_aload_n hx hb dL_law_206 rfl (lv_at hl 0 rfl) ?_
  refine lv_iload_n hx hb dL_law_207 rfl (lv_at hl 3 rfl) ?_
  refine lv_iconst (v := 5) hx hb dL_law_208 (by decide) ?_
  refine lv_iadd hx hb dL_law_209 ?_
  refine cg_ev (v := 5) (by decide) ?_
  refine va_sld hx hb hX hbl (Nat.not_le.mpr hbl) hO.2.2.2.1 (cin (by decide)) dL_law_210 ?_
  refine cg_ev (v := xs 5) rfl ?_
  refine cg_Vi (As := [.int (xs 1), .int (xs 2), .int (xs 3), .int (xs 4), .int (xs 5)]) (rest := [.int 20]) (mc := 0) (ms := 0) (rm := { frames := 0, cells := 0, slots := 0, locals := 0 }) hC hl.1 hO [119, 120] (by decide +kernel) (c_X12_feed l D cy _ _ (f0 := f119) (x1 := (xs 1)) (x2 := (xs 2)) (x3 := (xs 3)) (x4 := (xs 4)) (x5 := (xs 5)) ((hm 119 (by decide) (by decide)).trans o119) f119_0 f119_2 ((hm 120 (by decide) (by decide)).trans a120)) gL_c_X12_feed rfl rfl rfl 5 (by decide +kernel) ⟨Nat.le_of_ble_eq_true rfl, Nat.le_of_ble_eq_true rfl⟩ rfl (by decide) ((hm 119 (by decide) (by decide)).trans o119) rfl rfl (Nat.le_of_ble_eq_true rfl) dL_law_211 ⟨hce, hsl⟩ (fun r1 nw1 l1 H locs hw hO => ?_)
  obtain rfl := hw
  refine lv_icmp_eq (tgt := 917) hx hb dL_law_214 (by decide) (fun _ => ?_) (fun h => absurd rfl h)
  exact law_tail l hC hr hlk hX hbl hO hce hsl (lv_sub hl [0, 3] rfl)

theorem dL_law_219 : decode cL_law 219 = .ok (.aload_n 1, 1) := by decide +kernel
theorem dL_law_220 : decode cL_law 220 = .ok (.aload_n 0, 1) := by decide +kernel
theorem dL_law_221 : decode cL_law 221 = .ok (.iload_n 3, 1) := by decide +kernel
theorem dL_law_222 : decode cL_law 222 = .ok (.iconst 1, 1) := by decide +kernel
theorem dL_law_223 : decode cL_law 223 = .ok (.iadd, 1) := by decide +kernel
theorem dL_law_224 : decode cL_law 224 = .ok (.iaload, 1) := by decide +kernel
theorem dL_law_225 : decode cL_law 225 = .ok (.invokevirtual 18, 3) := by decide +kernel
theorem dL_law_228 : decode cL_law 228 = .ok (.aload_n 2, 1) := by decide +kernel
theorem dL_law_229 : decode cL_law 229 = .ok (.aload_n 0, 1) := by decide +kernel
theorem dL_law_230 : decode cL_law 230 = .ok (.iload_n 3, 1) := by decide +kernel
theorem dL_law_231 : decode cL_law 231 = .ok (.iconst 1, 1) := by decide +kernel
theorem dL_law_232 : decode cL_law 232 = .ok (.iadd, 1) := by decide +kernel
theorem dL_law_233 : decode cL_law 233 = .ok (.iaload, 1) := by decide +kernel
theorem dL_law_234 : decode cL_law 234 = .ok (.invokevirtual 22, 3) := by decide +kernel
theorem dL_law_237 : decode cL_law 237 = .ok (.if_icmp .eq 680, 3) := by decide +kernel
set_option maxHeartbeats 8000000 in
set_option maxRecDepth 100000 in
theorem lc_end {p : Program} {e : Env} {s : State} {m : MethodId} {below : List Frame} {meth : Method} {c : Code} (l : Launch) {b : Nat} {xs : Nat → Int32} {D : va_G} {cy : Nat → ClassId} {ad : Nat → Nat} {g : Nat → va_E} {H : Heap} {locs : List Loc} {cells slots : Nat} {ls : Array Slot} {f0 : List Value} {f119 : List Value} (hC : CallFix p m c code 4 s #[Value.ref b] lw_tbl RL) (hr : meth.sig.returnType = ret) (hlk : meth.locks = false) (hX : va_X b 6 xs s s.heap) (hbl : b < s.heap.size) (o0 : g 0 = .inr (11, f0)) (f0_1 : f0[1]? = some (.int 0)) (o119 : g 119 = .inr (12, f119)) (f119_2 : f119[2]? = some (.int 0)) (hO : cO D cy (fun q : Nat => s.heap.size ≤ q) s.heap s 173 ad (cup [] g) H locs) (hce : cells + 0 ≤ 600000) (hsl : slots + 0 ≤ 7302250) (hl : lv_has ls 4 [(0, .ref b), (1, .ref (ad 0)), (2, .ref (ad 119)), (3, .int 0)]) : W p l e room_1 s m #[Value.ref b] below meth c H locs cells slots (lw_Z below #[Value.ref b] s) (F0 m 219 ls []) := by
  obtain ⟨hx, hb, hml, hown, hts⟩ := id hC
  refine lv_aload_n hx hb dL_law_219 rfl (lv_at hl 1 rfl) ?_
  refine lv_aload_n hx hb dL_law_220 rfl (lv_at hl 0 rfl) ?_
  refine lv_iload_n hx hb dL_law_221 rfl (lv_at hl 3 rfl) ?_
  refine lv_iconst (v := 1) hx hb dL_law_222 (by decide) ?_
  refine lv_iadd hx hb dL_law_223 ?_
  refine cg_ev (v := 1) (by decide) ?_
  refine va_sld hx hb hX hbl (Nat.not_le.mpr hbl) hO.2.2.2.1 (cin (by decide)) dL_law_224 ?_
  refine cg_ev (v := xs 1) rfl ?_
  refine cg_Vi (As := [.int (xs 1)]) (rest := []) (mc := 0) (ms := 0) (rm := { frames := 1, cells := 0, slots := 0, locals := 22 }) hC hl.1 hO [0] (by decide +kernel) (c_X11_end l D cy _ _ (f0 := f0) (n := (xs 1)) o0 f0_1) gL_c_X11_end rfl rfl rfl 1 (by decide +kernel) ⟨Nat.le_of_ble_eq_true rfl, Nat.le_of_ble_eq_true rfl⟩ rfl (by decide) o0 rfl rfl (Nat.le_of_ble_eq_true rfl) dL_law_225 ⟨hce, hsl⟩ (fun r0 nw0 l0 H locs hw hO => ?_)
  obtain rfl := hw
  have hm := cm_far (N := 173) (k := 1) (M := 119) (ps := [0]) (by decide +kernel) (by decide +kernel) l0 [] g
  refine lv_aload_n hx hb dL_law_228 rfl (lv_at hl 2 rfl) ?_
  refine lv_aload_n hx hb dL_law_229 rfl (lv_at hl 0 rfl) ?_
  refine lv_iload_n hx hb dL_law_230 rfl (lv_at hl 3 rfl) ?_
  refine lv_iconst (v := 1) hx hb dL_law_231 (by decide) ?_
  refine lv_iadd hx hb dL_law_232 ?_
  refine cg_ev (v := 1) (by decide) ?_
  refine va_sld hx hb hX hbl (Nat.not_le.mpr hbl) hO.2.2.2.1 (cin (by decide)) dL_law_233 ?_
  refine cg_ev (v := xs 1) rfl ?_
  refine cg_Vi (As := [.int (xs 1)]) (rest := [.int (ans_end (xs 1))]) (mc := 0) (ms := 0) (rm := { frames := 0, cells := 0, slots := 0, locals := 0 }) hC hl.1 hO [119] (by decide +kernel) (c_X12_end l D cy _ _ (f0 := f119) (n := (xs 1)) ((hm 119 (by decide) (by decide)).trans o119) f119_2) gL_c_X12_end rfl rfl rfl 1 (by decide +kernel) ⟨Nat.le_of_ble_eq_true rfl, Nat.le_of_ble_eq_true rfl⟩ rfl (by decide) ((hm 119 (by decide) (by decide)).trans o119) rfl rfl (Nat.le_of_ble_eq_true rfl) dL_law_234 ⟨hce, hsl⟩ (fun r1 nw1 l1 H locs hw hO => ?_)
  obtain rfl := hw
  refine lv_icmp_eq (tgt := 917) hx hb dL_law_237 (by decide) (fun _ => ?_) (fun h => absurd rfl h)
  exact law_tail l hC hr hlk hX hbl hO hce hsl (lv_sub hl [0, 3] rfl)

theorem dL_law_242 : decode cL_law 242 = .ok (.aload_n 1, 1) := by decide +kernel
theorem dL_law_243 : decode cL_law 243 = .ok (.invokevirtual 23, 3) := by decide +kernel
theorem dL_law_246 : decode cL_law 246 = .ok (.aload_n 2, 1) := by decide +kernel
theorem dL_law_247 : decode cL_law 247 = .ok (.invokevirtual 27, 3) := by decide +kernel
theorem dL_law_250 : decode cL_law 250 = .ok (.if_icmp .eq 667, 3) := by decide +kernel
set_option maxHeartbeats 8000000 in
set_option maxRecDepth 100000 in
theorem lc_road {p : Program} {e : Env} {s : State} {m : MethodId} {below : List Frame} {meth : Method} {c : Code} (l : Launch) {b : Nat} {xs : Nat → Int32} {D : va_G} {cy : Nat → ClassId} {ad : Nat → Nat} {g : Nat → va_E} {H : Heap} {locs : List Loc} {cells slots : Nat} {ls : Array Slot} {f0 : List Value} {c1 : Nat → Int32} {f2 : List Value} {f3 : List Value} {c5 : Nat → Int32} {c6 : Nat → Int32} {c7 : Nat → Int32} {c8 : Nat → Int32} {c10 : Nat → Int32} {c11 : Nat → Int32} {c12 : Nat → Int32} {c13 : Nat → Int32} {c15 : Nat → Int32} {c16 : Nat → Int32} {f17 : List Value} {c18 : Nat → Int32} {c20 : Nat → Int32} {f21 : List Value} {c23 : Nat → Int32} {c24 : Nat → Int32} {c25 : Nat → Int32} {c26 : Nat → Int32} {c28 : Nat → Int32} {c29 : Nat → Int32} {c30 : Nat → Int32} {c31 : Nat → Int32} {c33 : Nat → Int32} {c34 : Nat → Int32} {f35 : List Value} {c36 : Nat → Int32} {f38 : List Value} {c39 : Nat → Int32} {c41 : Nat → Int32} {f43 : List Value} {f47 : List Value} {f51 : List Value} {f55 : List Value} {f59 : List Value} {c60 : Nat → Int32} {f62 : List Value} {c63 : Nat → Int32} {c64 : Nat → Int32} {c65 : Nat → Int32} {f66 : List Value} {c67 : Nat → Int32} {c68 : Nat → Int32} {c69 : Nat → Int32} {c70 : Nat → Int32} {c71 : Nat → Int32} {c72 : Nat → Int32} {c73 : Nat → Int32} {f101 : List Value} {f119 : List Value} {c129 : Nat → Int32} (hC : CallFix p m c code 4 s #[Value.ref b] lw_tbl RL) (hr : meth.sig.returnType = ret) (hlk : meth.locks = false) (hX : va_X b 6 xs s s.heap) (hbl : b < s.heap.size) (o0 : g 0 = .inr (11, f0)) (f0_0 : f0[0]? = some (.ref (ad 1))) (f0_1 : f0[1]? = some (.int 0)) (f0_2 : f0[2]? = some (.ref (ad 2))) (f0_3 : f0[3]? = some (.ref (ad 21))) (f0_4 : f0[4]? = some (.ref (ad 38))) (f0_5 : f0[5]? = some (.ref (ad 42))) (f0_6 : f0[6]? = some (.ref (ad 55))) (f0_7 : f0[7]? = some (.ref (ad 59))) (f0_8 : f0[8]? = some (.ref (ad 62))) (f0_11 : f0[11]? = some (.ref (ad 101))) (f0_13 : f0[13]? = some (.int 0)) (a1 : g 1 = .inl (cy 0, 1600, .inl c1)) (o2 : g 2 = .inr (6, f2)) (f2_0 : f2[0]? = some (.ref (ad 3))) (f2_1 : f2[1]? = some (.int 0)) (f2_2 : f2[2]? = some (.int (-1))) (f2_3 : f2[3]? = some (.ref (ad 20))) (f2_4 : f2[4]? = some (.int 0)) (f2_5 : f2[5]? = some (.int 0)) (f2_6 : f2[6]? = some (.int 0)) (f2_7 : f2[7]? = some (.int 0)) (o3 : g 3 = .inr (7, f3)) (f3_1 : f3[1]? = some (.ref (ad 5))) (f3_2 : f3[2]? = some (.ref (ad 6))) (f3_3 : f3[3]? = some (.ref (ad 7))) (f3_4 : f3[4]? = some (.ref (ad 8))) (f3_5 : f3[5]? = some (.int 0)) (f3_7 : f3[7]? = some (.ref (ad 10))) (f3_8 : f3[8]? = some (.ref (ad 11))) (f3_9 : f3[9]? = some (.ref (ad 12))) (f3_10 : f3[10]? = some (.ref (ad 13))) (f3_11 : f3[11]? = some (.int 0)) (f3_13 : f3[13]? = some (.ref (ad 15))) (f3_14 : f3[14]? = some (.ref (ad 16))) (f3_15 : f3[15]? = some (.int 0)) (f3_16 : f3[16]? = some (.int 0)) (f3_17 : f3[17]? = some (.ref (ad 17))) (a5 : g 5 = .inl (cy 0, 5, .inl c5)) (a6 : g 6 = .inl (cy 0, 5, .inl c6)) (a7 : g 7 = .inl (cy 0, 5, .inl c7)) (a8 : g 8 = .inl (cy 0, 5, .inl c8)) (a10 : g 10 = .inl (cy 0, 4, .inl c10)) (a11 : g 11 = .inl (cy 0, 4, .inl c11)) (a12 : g 12 = .inl (cy 0, 20, .inl c12)) (a13 : g 13 = .inl (cy 0, 4, .inl c13)) (a15 : g 15 = .inl (cy 0, 12, .inl c15)) (a16 : g 16 = .inl (cy 0, 12, .inl c16)) (o17 : g 17 = .inr (4, f17)) (f17_0 : f17[0]? = some (.ref (ad 18))) (f17_1 : f17[1]? = some (.int 0)) (f17_2 : f17[2]? = some (.int 0)) (f17_3 : f17[3]? = some (.int 0)) (a18 : g 18 = .inl (cy 0, 300, .inl c18)) (a20 : g 20 = .inl (cy 0, 0, .inl c20)) (o21 : g 21 = .inr (7, f21)) (f21_1 : f21[1]? = some (.ref (ad 23))) (f21_2 : f21[2]? = some (.ref (ad 24))) (f21_3 : f21[3]? = some (.ref (ad 25))) (f21_4 : f21[4]? = some (.ref (ad 26))) (f21_5 : f21[5]? = some (.int 0)) (f21_7 : f21[7]? = some (.ref (ad 28))) (f21_8 : f21[8]? = some (.ref (ad 29))) (f21_9 : f21[9]? = some (.ref (ad 30))) (f21_10 : f21[10]? = some (.ref (ad 31))) (f21_11 : f21[11]? = some (.int 0)) (f21_13 : f21[13]? = some (.ref (ad 33))) (f21_14 : f21[14]? = some (.ref (ad 34))) (f21_15 : f21[15]? = some (.int 0)) (f21_16 : f21[16]? = some (.int 0)) (f21_17 : f21[17]? = some (.ref (ad 35))) (a23 : g 23 = .inl (cy 0, 5, .inl c23)) (a24 : g 24 = .inl (cy 0, 5, .inl c24)) (a25 : g 25 = .inl (cy 0, 5, .inl c25)) (a26 : g 26 = .inl (cy 0, 5, .inl c26)) (a28 : g 28 = .inl (cy 0, 4, .inl c28)) (a29 : g 29 = .inl (cy 0, 4, .inl c29)) (a30 : g 30 = .inl (cy 0, 20, .inl c30)) (a31 : g 31 = .inl (cy 0, 4, .inl c31)) (a33 : g 33 = .inl (cy 0, 12, .inl c33)) (a34 : g 34 = .inl (cy 0, 12, .inl c34)) (o35 : g 35 = .inr (4, f35)) (f35_0 : f35[0]? = some (.ref (ad 36))) (f35_1 : f35[1]? = some (.int 0)) (f35_2 : f35[2]? = some (.int 0)) (f35_3 : f35[3]? = some (.int 0)) (a36 : g 36 = .inl (cy 0, 300, .inl c36)) (o38 : g 38 = .inr (9, f38)) (f38_0 : f38[0]? = some (.ref (ad 39))) (f38_2 : f38[2]? = some (.int (-1))) (f38_3 : f38[3]? = some (.ref (ad 41))) (f38_4 : f38[4]? = some (.int 0)) (a39 : g 39 = .inl (cy 0, 24, .inl c39)) (a41 : g 41 = .inl (cy 0, 5, .inl c41)) (a42 : g 42 = .inl (cy 4, 3, .inr (.inr (.inr (.inr (va_up (va_up (va_up (fun _ => none) (0 : Int32).toNatClampNeg (some (ad 43))) (1 : Int32).toNatClampNeg (some (ad 47))) (2 : Int32).toNatClampNeg (some (ad 51)))))))) (o43 : g 43 = .inr (9, f43)) (f43_4 : f43[4]? = some (.int (-1))) (o47 : g 47 = .inr (9, f47)) (f47_4 : f47[4]? = some (.int (-1))) (o51 : g 51 = .inr (9, f51)) (f51_4 : f51[4]? = some (.int (-1))) (o55 : g 55 = .inr (0, f55)) (f55_3 : f55[3]? = some (.int 0)) (f55_4 : f55[4]? = some (.int 0)) (o59 : g 59 = .inr (5, f59)) (f59_1 : f59[1]? = some (.ref (ad 60))) (a60 : g 60 = .inl (cy 0, 80, .inl c60)) (o62 : g 62 = .inr (1, f62)) (f62_0 : f62[0]? = some (.ref (ad 21))) (f62_1 : f62[1]? = some (.ref (ad 38))) (f62_3 : f62[3]? = some (.ref (ad 66))) (f62_4 : f62[4]? = some (.ref (ad 63))) (f62_5 : f62[5]? = some (.ref (ad 64))) (f62_6 : f62[6]? = some (.ref (ad 65))) (a63 : g 63 = .inl (cy 0, 96, .inl c63)) (a64 : g 64 = .inl (cy 0, 96, .inl c64)) (a65 : g 65 = .inl (cy 0, 24, .inl c65)) (o66 : g 66 = .inr (10, f66)) (f66_0 : f66[0]? = some (.ref (ad 21))) (f66_1 : f66[1]? = some (.ref (ad 67))) (f66_2 : f66[2]? = some (.ref (ad 68))) (f66_3 : f66[3]? = some (.ref (ad 69))) (f66_4 : f66[4]? = some (.ref (ad 70))) (f66_5 : f66[5]? = some (.ref (ad 71))) (f66_6 : f66[6]? = some (.ref (ad 72))) (f66_7 : f66[7]? = some (.ref (ad 73))) (a67 : g 67 = .inl (cy 0, 5, .inl c67)) (a68 : g 68 = .inl (cy 0, 20, .inl c68)) (a69 : g 69 = .inl (cy 0, 4, .inl c69)) (a70 : g 70 = .inl (cy 0, 5, .inl c70)) (a71 : g 71 = .inl (cy 0, 5, .inl c71)) (a72 : g 72 = .inl (cy 0, 5, .inl c72)) (a73 : g 73 = .inl (cy 0, 5, .inl c73)) (o101 : g 101 = .inr (8, f101)) (f101_7 : f101[7]? = some (.int 0)) (o119 : g 119 = .inr (12, f119)) (f119_2 : f119[2]? = some (.int 0)) (f119_3 : f119[3]? = some (.int 0)) (f119_4 : f119[4]? = some (.int 0)) (f119_5 : f119[5]? = some (.int (-1))) (f119_6 : f119[6]? = some (.int 0)) (f119_7 : f119[7]? = some (.int 0)) (f119_8 : f119[8]? = some (.int 0)) (f119_11 : f119[11]? = some (.ref (ad 122))) (f119_12 : f119[12]? = some (.ref (ad 123))) (f119_13 : f119[13]? = some (.ref (ad 124))) (f119_14 : f119[14]? = some (.ref (ad 125))) (f119_18 : f119[18]? = some (.ref (ad 129))) (f119_27 : f119[27]? = some (.ref (ad 138))) (f119_36 : f119[36]? = some (.int 0)) (f119_37 : f119[37]? = some (.int 0)) (f119_38 : f119[38]? = some (.int 0)) (f119_41 : f119[41]? = some (.ref (ad 147))) (f119_59 : f119[59]? = some (.int 0)) (f119_60 : f119[60]? = some (.int 0)) (f119_62 : f119[62]? = some (.int 0)) (f119_70 : f119[70]? = some (.int 0)) (f119_73 : f119[73]? = some (.ref (ad 172))) (a122 : g 122 = .inl (cy 0, 2, .inl (fun _ => 0))) (a123 : g 123 = .inl (cy 0, 2, .inl (fun _ => 0))) (a124 : g 124 = .inl (cy 0, 2, .inl (fun _ => 0))) (a125 : g 125 = .inl (cy 0, 2, .inl (fun _ => 0))) (a129 : g 129 = .inl (cy 0, 10, .inl c129)) (a138 : g 138 = .inl (cy 2, 2, .inl (fun _ => 0))) (a147 : g 147 = .inl (cy 0, 80, .inl (fun _ => 0))) (a172 : g 172 = .inl (cy 2, 3, .inl (fun _ => 0))) (hO : cO D cy (fun q : Nat => s.heap.size ≤ q) s.heap s 173 ad (cup [] g) H locs) (hce : cells + 0 ≤ 600000) (hsl : slots + 0 ≤ 7302250) (hl : lv_has ls 4 [(0, .ref b), (1, .ref (ad 0)), (2, .ref (ad 119)), (3, .int 0)]) : W p l e room_1 s m #[Value.ref b] below meth c H locs cells slots (lw_Z below #[Value.ref b] s) (F0 m 242 ls []) := by
  obtain ⟨hx, hb, hml, hown, hts⟩ := id hC
  refine lv_aload_n hx hb dL_law_242 rfl (lv_at hl 1 rfl) ?_
  refine cg_Vi (As := []) (rest := []) (mc := 0) (ms := 0) (rm := { frames := 4, cells := 0, slots := 0, locals := 106 }) hC hl.1 hO [0, 2, 3, 8, 13, 17, 20, 1, 21, 23, 24, 25, 26, 28, 29, 30, 31, 33, 34, 35, 36, 5, 6, 7, 10, 11, 12, 15, 16, 18, 59, 60, 38, 41, 55, 101, 42, 43, 47, 51, 62, 39, 66, 67, 68, 69, 70, 71, 72, 73, 63, 64, 65] (by decide +kernel) (c_X11_road l D cy _ _ (f0 := f0) (f1 := f2) (f2 := f3) (f5 := f17) (f8 := f21) (f19 := f35) (f32 := f38) (f37 := f43) (f38 := f47) (f39 := f51) (f34 := f55) (f30 := f59) (f40 := f62) (f42 := f66) (f35 := f101) o0 f0_0 f0_1 f0_2 f0_3 f0_4 f0_5 f0_6 f0_7 f0_8 f0_11 f0_13 o2 f2_0 f2_1 f2_2 f2_3 f2_4 f2_5 f2_6 f2_7 o3 f3_1 f3_2 f3_3 f3_4 f3_5 f3_7 f3_8 f3_9 f3_10 f3_11 f3_13 f3_14 f3_15 f3_16 f3_17 a8 a13 o17 f17_0 f17_1 f17_2 f17_3 a20 a1 o21 f21_1 f21_2 f21_3 f21_4 f21_5 f21_7 f21_8 f21_9 f21_10 f21_11 f21_13 f21_14 f21_15 f21_16 f21_17 a23 a24 a25 a26 a28 a29 a30 a31 a33 a34 o35 f35_0 f35_1 f35_2 f35_3 a36 a5 a6 a7 a10 a11 a12 a15 a16 a18 o59 f59_1 a60 o38 f38_0 f38_2 f38_3 f38_4 a41 o55 f55_3 f55_4 o101 f101_7 a42 o43 f43_4 o47 f47_4 o51 f51_4 o62 f62_0 f62_1 f62_3 f62_4 f62_5 f62_6 a39 o66 f66_0 f66_1 f66_2 f66_3 f66_4 f66_5 f66_6 f66_7 a67 a68 a69 a70 a71 a72 a73 a63 a64 a65) gL_c_X11_road rfl rfl rfl 0 (by decide +kernel) ⟨Nat.le_of_ble_eq_true rfl, Nat.le_of_ble_eq_true rfl⟩ rfl (by decide) o0 rfl rfl (Nat.le_of_ble_eq_true rfl) dL_law_243 ⟨hce, hsl⟩ (fun r0 nw0 l0 H locs hw hO => ?_)
  obtain rfl := hw
  have hm := cm_far (N := 173) (k := 53) (M := 119) (ps := [0, 2, 3, 8, 13, 17, 20, 1, 21, 23, 24, 25, 26, 28, 29, 30, 31, 33, 34, 35, 36, 5, 6, 7, 10, 11, 12, 15, 16, 18, 59, 60, 38, 41, 55, 101, 42, 43, 47, 51, 62, 39, 66, 67, 68, 69, 70, 71, 72, 73, 63, 64, 65]) (by decide +kernel) (by decide +kernel) l0 [] g
  refine lv_aload_n hx hb dL_law_246 rfl (lv_at hl 2 rfl) ?_
  refine cg_Vi (As := []) (rest := [.int 0]) (mc := 0) (ms := 0) (rm := { frames := 2, cells := 0, slots := 0, locals := 43 }) hC hl.1 hO [119, 122, 123, 124, 125, 138, 129, 147, 172] (by decide +kernel) (c_X12_road l D cy _ _ (f0 := f119) ((hm 119 (by decide) (by decide)).trans o119) f119_2 f119_3 f119_4 f119_5 f119_6 f119_7 f119_8 f119_11 f119_12 f119_13 f119_14 f119_18 f119_27 f119_36 f119_37 f119_38 f119_41 f119_59 f119_60 f119_62 f119_70 f119_73 ((hm 122 (by decide) (by decide)).trans a122) ((hm 123 (by decide) (by decide)).trans a123) ((hm 124 (by decide) (by decide)).trans a124) ((hm 125 (by decide) (by decide)).trans a125) ((hm 138 (by decide) (by decide)).trans a138) ((hm 129 (by decide) (by decide)).trans a129) ((hm 147 (by decide) (by decide)).trans a147) ((hm 172 (by decide) (by decide)).trans a172)) gL_c_X12_road rfl rfl rfl 0 (by decide +kernel) ⟨Nat.le_of_ble_eq_true rfl, Nat.le_of_ble_eq_true rfl⟩ rfl (by decide) ((hm 119 (by decide) (by decide)).trans o119) rfl rfl (Nat.le_of_ble_eq_true rfl) dL_law_247 ⟨hce, hsl⟩ (fun r1 nw1 l1 H locs hw hO => ?_)
  obtain rfl := hw
  refine lv_icmp_eq (tgt := 917) hx hb dL_law_250 (by decide) (fun _ => ?_) (fun h => absurd rfl h)
  exact law_tail l hC hr hlk hX hbl hO hce hsl (lv_sub hl [0, 3] rfl)

theorem dL_law_255 : decode cL_law 255 = .ok (.aload_n 1, 1) := by decide +kernel
theorem dL_law_256 : decode cL_law 256 = .ok (.aload_n 0, 1) := by decide +kernel
theorem dL_law_257 : decode cL_law 257 = .ok (.iload_n 3, 1) := by decide +kernel
theorem dL_law_258 : decode cL_law 258 = .ok (.iconst 1, 1) := by decide +kernel
theorem dL_law_259 : decode cL_law 259 = .ok (.iadd, 1) := by decide +kernel
theorem dL_law_260 : decode cL_law 260 = .ok (.iaload, 1) := by decide +kernel
theorem dL_law_261 : decode cL_law 261 = .ok (.invokevirtual 28, 3) := by decide +kernel
theorem dL_law_264 : decode cL_law 264 = .ok (.aload_n 2, 1) := by decide +kernel
theorem dL_law_265 : decode cL_law 265 = .ok (.aload_n 0, 1) := by decide +kernel
theorem dL_law_266 : decode cL_law 266 = .ok (.iload_n 3, 1) := by decide +kernel
theorem dL_law_267 : decode cL_law 267 = .ok (.iconst 1, 1) := by decide +kernel
theorem dL_law_268 : decode cL_law 268 = .ok (.iadd, 1) := by decide +kernel
theorem dL_law_269 : decode cL_law 269 = .ok (.iaload, 1) := by decide +kernel
theorem dL_law_270 : decode cL_law 270 = .ok (.invokevirtual 31, 3) := by decide +kernel
theorem dL_law_273 : decode cL_law 273 = .ok (.if_icmp .eq 644, 3) := by decide +kernel
set_option maxHeartbeats 8000000 in
set_option maxRecDepth 100000 in
theorem lc_fault {p : Program} {e : Env} {s : State} {m : MethodId} {below : List Frame} {meth : Method} {c : Code} (l : Launch) {b : Nat} {xs : Nat → Int32} {D : va_G} {cy : Nat → ClassId} {ad : Nat → Nat} {g : Nat → va_E} {H : Heap} {locs : List Loc} {cells slots : Nat} {ls : Array Slot} {f0 : List Value} {f2 : List Value} {f119 : List Value} (hC : CallFix p m c code 4 s #[Value.ref b] lw_tbl RL) (hr : meth.sig.returnType = ret) (hlk : meth.locks = false) (hX : va_X b 6 xs s s.heap) (hbl : b < s.heap.size) (o0 : g 0 = .inr (11, f0)) (f0_2 : f0[2]? = some (.ref (ad 2))) (o2 : g 2 = .inr (6, f2)) (f2_1 : f2[1]? = some (.int 0)) (f2_2 : f2[2]? = some (.int (-1))) (o119 : g 119 = .inr (12, f119)) (f119_4 : f119[4]? = some (.int 0)) (f119_5 : f119[5]? = some (.int (-1))) (hO : cO D cy (fun q : Nat => s.heap.size ≤ q) s.heap s 173 ad (cup [] g) H locs) (hce : cells + 0 ≤ 600000) (hsl : slots + 0 ≤ 7302250) (hl : lv_has ls 4 [(0, .ref b), (1, .ref (ad 0)), (2, .ref (ad 119)), (3, .int 0)]) : W p l e room_1 s m #[Value.ref b] below meth c H locs cells slots (lw_Z below #[Value.ref b] s) (F0 m 255 ls []) := by
  obtain ⟨hx, hb, hml, hown, hts⟩ := id hC
  refine lv_aload_n hx hb dL_law_255 rfl (lv_at hl 1 rfl) ?_
  refine lv_aload_n hx hb dL_law_256 rfl (lv_at hl 0 rfl) ?_
  refine lv_iload_n hx hb dL_law_257 rfl (lv_at hl 3 rfl) ?_
  refine lv_iconst (v := 1) hx hb dL_law_258 (by decide) ?_
  refine lv_iadd hx hb dL_law_259 ?_
  refine cg_ev (v := 1) (by decide) ?_
  refine va_sld hx hb hX hbl (Nat.not_le.mpr hbl) hO.2.2.2.1 (cin (by decide)) dL_law_260 ?_
  refine cg_ev (v := xs 1) rfl ?_
  refine cg_Vi (As := [.int (xs 1)]) (rest := []) (mc := 0) (ms := 0) (rm := { frames := 0, cells := 0, slots := 0, locals := 0 }) hC hl.1 hO [0, 2] (by decide +kernel) (c_X11_fault l D cy _ _ (f0 := f0) (f1 := f2) (n := (xs 1)) o0 f0_2 o2 f2_1 f2_2) gL_c_X11_fault rfl rfl rfl 1 (by decide +kernel) ⟨Nat.le_of_ble_eq_true rfl, Nat.le_of_ble_eq_true rfl⟩ rfl (by decide) o0 rfl rfl (Nat.le_of_ble_eq_true rfl) dL_law_261 ⟨hce, hsl⟩ (fun r0 nw0 l0 H locs hw hO => ?_)
  obtain rfl := hw
  have hm := cm_far (N := 173) (k := 2) (M := 119) (ps := [0, 2]) (by decide +kernel) (by decide +kernel) l0 [] g
  refine lv_aload_n hx hb dL_law_264 rfl (lv_at hl 2 rfl) ?_
  refine lv_aload_n hx hb dL_law_265 rfl (lv_at hl 0 rfl) ?_
  refine lv_iload_n hx hb dL_law_266 rfl (lv_at hl 3 rfl) ?_
  refine lv_iconst (v := 1) hx hb dL_law_267 (by decide) ?_
  refine lv_iadd hx hb dL_law_268 ?_
  refine cg_ev (v := 1) (by decide) ?_
  refine va_sld hx hb hX hbl (Nat.not_le.mpr hbl) hO.2.2.2.1 (cin (by decide)) dL_law_269 ?_
  refine cg_ev (v := xs 1) rfl ?_
  refine cg_Vi (As := [.int (xs 1)]) (rest := [.int (ans_fault (xs 1))]) (mc := 0) (ms := 0) (rm := { frames := 0, cells := 0, slots := 0, locals := 0 }) hC hl.1 hO [119] (by decide +kernel) (c_X12_fault l D cy _ _ (f0 := f119) (n := (xs 1)) ((hm 119 (by decide) (by decide)).trans o119) f119_4 f119_5) gL_c_X12_fault rfl rfl rfl 1 (by decide +kernel) ⟨Nat.le_of_ble_eq_true rfl, Nat.le_of_ble_eq_true rfl⟩ rfl (by decide) ((hm 119 (by decide) (by decide)).trans o119) rfl rfl (Nat.le_of_ble_eq_true rfl) dL_law_270 ⟨hce, hsl⟩ (fun r1 nw1 l1 H locs hw hO => ?_)
  obtain rfl := hw
  refine lv_icmp_eq (tgt := 917) hx hb dL_law_273 (by decide) (fun _ => ?_) (fun h => absurd rfl h)
  exact law_tail l hC hr hlk hX hbl hO hce hsl (lv_sub hl [0, 3] rfl)

theorem dL_law_278 : decode cL_law 278 = .ok (.aload_n 1, 1) := by decide +kernel
theorem dL_law_279 : decode cL_law 279 = .ok (.aload_n 0, 1) := by decide +kernel
theorem dL_law_280 : decode cL_law 280 = .ok (.iload_n 3, 1) := by decide +kernel
theorem dL_law_281 : decode cL_law 281 = .ok (.iconst 1, 1) := by decide +kernel
theorem dL_law_282 : decode cL_law 282 = .ok (.iadd, 1) := by decide +kernel
theorem dL_law_283 : decode cL_law 283 = .ok (.iaload, 1) := by decide +kernel
theorem dL_law_284 : decode cL_law 284 = .ok (.aload_n 0, 1) := by decide +kernel
theorem dL_law_285 : decode cL_law 285 = .ok (.iload_n 3, 1) := by decide +kernel
theorem dL_law_286 : decode cL_law 286 = .ok (.iconst 2, 1) := by decide +kernel
theorem dL_law_287 : decode cL_law 287 = .ok (.iadd, 1) := by decide +kernel
theorem dL_law_288 : decode cL_law 288 = .ok (.iaload, 1) := by decide +kernel
theorem dL_law_289 : decode cL_law 289 = .ok (.invokevirtual 32, 3) := by decide +kernel
theorem dL_law_292 : decode cL_law 292 = .ok (.aload_n 2, 1) := by decide +kernel
theorem dL_law_293 : decode cL_law 293 = .ok (.aload_n 0, 1) := by decide +kernel
theorem dL_law_294 : decode cL_law 294 = .ok (.iload_n 3, 1) := by decide +kernel
theorem dL_law_295 : decode cL_law 295 = .ok (.iconst 1, 1) := by decide +kernel
theorem dL_law_296 : decode cL_law 296 = .ok (.iadd, 1) := by decide +kernel
theorem dL_law_297 : decode cL_law 297 = .ok (.iaload, 1) := by decide +kernel
theorem dL_law_298 : decode cL_law 298 = .ok (.aload_n 0, 1) := by decide +kernel
theorem dL_law_299 : decode cL_law 299 = .ok (.iload_n 3, 1) := by decide +kernel
theorem dL_law_300 : decode cL_law 300 = .ok (.iconst 2, 1) := by decide +kernel
theorem dL_law_301 : decode cL_law 301 = .ok (.iadd, 1) := by decide +kernel
theorem dL_law_302 : decode cL_law 302 = .ok (.iaload, 1) := by decide +kernel
theorem dL_law_303 : decode cL_law 303 = .ok (.invokevirtual 36, 3) := by decide +kernel
theorem dL_law_306 : decode cL_law 306 = .ok (.if_icmp .eq 611, 3) := by decide +kernel
set_option maxHeartbeats 8000000 in
set_option maxRecDepth 100000 in
theorem lc_cart {p : Program} {e : Env} {s : State} {m : MethodId} {below : List Frame} {meth : Method} {c : Code} (l : Launch) {b : Nat} {xs : Nat → Int32} {D : va_G} {cy : Nat → ClassId} {ad : Nat → Nat} {g : Nat → va_E} {H : Heap} {locs : List Loc} {cells slots : Nat} {ls : Array Slot} {f0 : List Value} {f38 : List Value} {f119 : List Value} (hC : CallFix p m c code 4 s #[Value.ref b] lw_tbl RL) (hr : meth.sig.returnType = ret) (hlk : meth.locks = false) (hX : va_X b 6 xs s s.heap) (hbl : b < s.heap.size) (o0 : g 0 = .inr (11, f0)) (f0_4 : f0[4]? = some (.ref (ad 38))) (o38 : g 38 = .inr (9, f38)) (f38_4 : f38[4]? = some (.int 0)) (o119 : g 119 = .inr (12, f119)) (f119_41 : f119[41]? = some (.ref (ad 147))) (a147 : g 147 = .inl (cy 0, 80, .inl (fun _ => 0))) (hO : cO D cy (fun q : Nat => s.heap.size ≤ q) s.heap s 173 ad (cup [] g) H locs) (hce : cells + 0 ≤ 600000) (hsl : slots + 0 ≤ 7302250) (hl : lv_has ls 4 [(0, .ref b), (1, .ref (ad 0)), (2, .ref (ad 119)), (3, .int 0)]) : W p l e room_1 s m #[Value.ref b] below meth c H locs cells slots (lw_Z below #[Value.ref b] s) (F0 m 278 ls []) := by
  obtain ⟨hx, hb, hml, hown, hts⟩ := id hC
  refine lv_aload_n hx hb dL_law_278 rfl (lv_at hl 1 rfl) ?_
  refine lv_aload_n hx hb dL_law_279 rfl (lv_at hl 0 rfl) ?_
  refine lv_iload_n hx hb dL_law_280 rfl (lv_at hl 3 rfl) ?_
  refine lv_iconst (v := 1) hx hb dL_law_281 (by decide) ?_
  refine lv_iadd hx hb dL_law_282 ?_
  refine cg_ev (v := 1) (by decide) ?_
  refine va_sld hx hb hX hbl (Nat.not_le.mpr hbl) hO.2.2.2.1 (cin (by decide)) dL_law_283 ?_
  refine cg_ev (v := xs 1) rfl ?_
  refine lv_aload_n hx hb dL_law_284 rfl (lv_at hl 0 rfl) ?_
  refine lv_iload_n hx hb dL_law_285 rfl (lv_at hl 3 rfl) ?_
  refine lv_iconst (v := 2) hx hb dL_law_286 (by decide) ?_
  refine lv_iadd hx hb dL_law_287 ?_
  refine cg_ev (v := 2) (by decide) ?_
  refine va_sld hx hb hX hbl (Nat.not_le.mpr hbl) hO.2.2.2.1 (cin (by decide)) dL_law_288 ?_
  refine cg_ev (v := xs 2) rfl ?_
  refine cg_Vi (As := [.int (xs 1), .int (xs 2)]) (rest := []) (mc := 0) (ms := 0) (rm := { frames := 2, cells := 0, slots := 0, locals := 43 }) hC hl.1 hO [0, 38] (by decide +kernel) (c_X11_cart l D cy _ _ (f0 := f0) (f1 := f38) (n := (xs 1)) (q := (xs 2)) o0 f0_4 o38 f38_4) gL_c_X11_cart rfl rfl rfl 2 (by decide +kernel) ⟨Nat.le_of_ble_eq_true rfl, Nat.le_of_ble_eq_true rfl⟩ rfl (by decide) o0 rfl rfl (Nat.le_of_ble_eq_true rfl) dL_law_289 ⟨hce, hsl⟩ (fun r0 nw0 l0 H locs hw hO => ?_)
  obtain rfl := hw
  have hm := cm_far (N := 173) (k := 2) (M := 119) (ps := [0, 38]) (by decide +kernel) (by decide +kernel) l0 [] g
  refine lv_aload_n hx hb dL_law_292 rfl (lv_at hl 2 rfl) ?_
  refine lv_aload_n hx hb dL_law_293 rfl (lv_at hl 0 rfl) ?_
  refine lv_iload_n hx hb dL_law_294 rfl (lv_at hl 3 rfl) ?_
  refine lv_iconst (v := 1) hx hb dL_law_295 (by decide) ?_
  refine lv_iadd hx hb dL_law_296 ?_
  refine cg_ev (v := 1) (by decide) ?_
  refine va_sld hx hb hX hbl (Nat.not_le.mpr hbl) hO.2.2.2.1 (cin (by decide)) dL_law_297 ?_
  refine cg_ev (v := xs 1) rfl ?_
  refine lv_aload_n hx hb dL_law_298 rfl (lv_at hl 0 rfl) ?_
  refine lv_iload_n hx hb dL_law_299 rfl (lv_at hl 3 rfl) ?_
  refine lv_iconst (v := 2) hx hb dL_law_300 (by decide) ?_
  refine lv_iadd hx hb dL_law_301 ?_
  refine cg_ev (v := 2) (by decide) ?_
  refine va_sld hx hb hX hbl (Nat.not_le.mpr hbl) hO.2.2.2.1 (cin (by decide)) dL_law_302 ?_
  refine cg_ev (v := xs 2) rfl ?_
  refine cg_Vi (As := [.int (xs 1), .int (xs 2)]) (rest := [.int (-1)]) (mc := 0) (ms := 0) (rm := { frames := 2, cells := 0, slots := 0, locals := 43 }) hC hl.1 hO [119, 147] (by decide +kernel) (c_X12_cart l D cy _ _ (f0 := f119) (n := (xs 1)) (q := (xs 2)) ((hm 119 (by decide) (by decide)).trans o119) f119_41 ((hm 147 (by decide) (by decide)).trans a147)) gL_c_X12_cart rfl rfl rfl 2 (by decide +kernel) ⟨Nat.le_of_ble_eq_true rfl, Nat.le_of_ble_eq_true rfl⟩ rfl (by decide) ((hm 119 (by decide) (by decide)).trans o119) rfl rfl (Nat.le_of_ble_eq_true rfl) dL_law_303 ⟨hce, hsl⟩ (fun r1 nw1 l1 H locs hw hO => ?_)
  obtain rfl := hw
  refine lv_icmp_eq (tgt := 917) hx hb dL_law_306 (by decide) (fun _ => ?_) (fun h => absurd rfl h)
  exact law_tail l hC hr hlk hX hbl hO hce hsl (lv_sub hl [0, 3] rfl)

theorem dL_law_311 : decode cL_law 311 = .ok (.aload_n 1, 1) := by decide +kernel
theorem dL_law_312 : decode cL_law 312 = .ok (.aload_n 0, 1) := by decide +kernel
theorem dL_law_313 : decode cL_law 313 = .ok (.iload_n 3, 1) := by decide +kernel
theorem dL_law_314 : decode cL_law 314 = .ok (.iconst 1, 1) := by decide +kernel
theorem dL_law_315 : decode cL_law 315 = .ok (.iadd, 1) := by decide +kernel
theorem dL_law_316 : decode cL_law 316 = .ok (.iaload, 1) := by decide +kernel
theorem dL_law_317 : decode cL_law 317 = .ok (.aload_n 0, 1) := by decide +kernel
theorem dL_law_318 : decode cL_law 318 = .ok (.iload_n 3, 1) := by decide +kernel
theorem dL_law_319 : decode cL_law 319 = .ok (.iconst 2, 1) := by decide +kernel
theorem dL_law_320 : decode cL_law 320 = .ok (.iadd, 1) := by decide +kernel
theorem dL_law_321 : decode cL_law 321 = .ok (.iaload, 1) := by decide +kernel
theorem dL_law_322 : decode cL_law 322 = .ok (.invokevirtual 37, 3) := by decide +kernel
theorem dL_law_325 : decode cL_law 325 = .ok (.aload_n 2, 1) := by decide +kernel
theorem dL_law_326 : decode cL_law 326 = .ok (.aload_n 0, 1) := by decide +kernel
theorem dL_law_327 : decode cL_law 327 = .ok (.iload_n 3, 1) := by decide +kernel
theorem dL_law_328 : decode cL_law 328 = .ok (.iconst 1, 1) := by decide +kernel
theorem dL_law_329 : decode cL_law 329 = .ok (.iadd, 1) := by decide +kernel
theorem dL_law_330 : decode cL_law 330 = .ok (.iaload, 1) := by decide +kernel
theorem dL_law_331 : decode cL_law 331 = .ok (.aload_n 0, 1) := by decide +kernel
theorem dL_law_332 : decode cL_law 332 = .ok (.iload_n 3, 1) := by decide +kernel
theorem dL_law_333 : decode cL_law 333 = .ok (.iconst 2, 1) := by decide +kernel
theorem dL_law_334 : decode cL_law 334 = .ok (.iadd, 1) := by decide +kernel
theorem dL_law_335 : decode cL_law 335 = .ok (.iaload, 1) := by decide +kernel
theorem dL_law_336 : decode cL_law 336 = .ok (.invokevirtual 40, 3) := by decide +kernel
theorem dL_law_339 : decode cL_law 339 = .ok (.if_icmp .eq 578, 3) := by decide +kernel
set_option maxHeartbeats 8000000 in
set_option maxRecDepth 100000 in
theorem lc_counter {p : Program} {e : Env} {s : State} {m : MethodId} {below : List Frame} {meth : Method} {c : Code} (l : Launch) {b : Nat} {xs : Nat → Int32} {D : va_G} {cy : Nat → ClassId} {ad : Nat → Nat} {g : Nat → va_E} {H : Heap} {locs : List Loc} {cells slots : Nat} {ls : Array Slot} {f0 : List Value} {f38 : List Value} {f119 : List Value} (hC : CallFix p m c code 4 s #[Value.ref b] lw_tbl RL) (hr : meth.sig.returnType = ret) (hlk : meth.locks = false) (hX : va_X b 6 xs s s.heap) (hbl : b < s.heap.size) (o0 : g 0 = .inr (11, f0)) (f0_4 : f0[4]? = some (.ref (ad 38))) (o38 : g 38 = .inr (9, f38)) (f38_4 : f38[4]? = some (.int 0)) (o119 : g 119 = .inr (12, f119)) (f119_41 : f119[41]? = some (.ref (ad 147))) (a147 : g 147 = .inl (cy 0, 80, .inl (fun _ => 0))) (hO : cO D cy (fun q : Nat => s.heap.size ≤ q) s.heap s 173 ad (cup [] g) H locs) (hce : cells + 0 ≤ 600000) (hsl : slots + 0 ≤ 7302250) (hl : lv_has ls 4 [(0, .ref b), (1, .ref (ad 0)), (2, .ref (ad 119)), (3, .int 0)]) : W p l e room_1 s m #[Value.ref b] below meth c H locs cells slots (lw_Z below #[Value.ref b] s) (F0 m 311 ls []) := by
  obtain ⟨hx, hb, hml, hown, hts⟩ := id hC
  refine lv_aload_n hx hb dL_law_311 rfl (lv_at hl 1 rfl) ?_
  refine lv_aload_n hx hb dL_law_312 rfl (lv_at hl 0 rfl) ?_
  refine lv_iload_n hx hb dL_law_313 rfl (lv_at hl 3 rfl) ?_
  refine lv_iconst (v := 1) hx hb dL_law_314 (by decide) ?_
  refine lv_iadd hx hb dL_law_315 ?_
  refine cg_ev (v := 1) (by decide) ?_
  refine va_sld hx hb hX hbl (Nat.not_le.mpr hbl) hO.2.2.2.1 (cin (by decide)) dL_law_316 ?_
  refine cg_ev (v := xs 1) rfl ?_
  refine lv_aload_n hx hb dL_law_317 rfl (lv_at hl 0 rfl) ?_
  refine lv_iload_n hx hb dL_law_318 rfl (lv_at hl 3 rfl) ?_
  refine lv_iconst (v := 2) hx hb dL_law_319 (by decide) ?_
  refine lv_iadd hx hb dL_law_320 ?_
  refine cg_ev (v := 2) (by decide) ?_
  refine va_sld hx hb hX hbl (Nat.not_le.mpr hbl) hO.2.2.2.1 (cin (by decide)) dL_law_321 ?_
  refine cg_ev (v := xs 2) rfl ?_
  refine cg_Vi (As := [.int (xs 1), .int (xs 2)]) (rest := []) (mc := 0) (ms := 0) (rm := { frames := 2, cells := 0, slots := 0, locals := 43 }) hC hl.1 hO [0, 38] (by decide +kernel) (c_X11_counter l D cy _ _ (f0 := f0) (f1 := f38) (n := (xs 1)) (q := (xs 2)) o0 f0_4 o38 f38_4) gL_c_X11_counter rfl rfl rfl 2 (by decide +kernel) ⟨Nat.le_of_ble_eq_true rfl, Nat.le_of_ble_eq_true rfl⟩ rfl (by decide) o0 rfl rfl (Nat.le_of_ble_eq_true rfl) dL_law_322 ⟨hce, hsl⟩ (fun r0 nw0 l0 H locs hw hO => ?_)
  obtain rfl := hw
  have hm := cm_far (N := 173) (k := 2) (M := 119) (ps := [0, 38]) (by decide +kernel) (by decide +kernel) l0 [] g
  refine lv_aload_n hx hb dL_law_325 rfl (lv_at hl 2 rfl) ?_
  refine lv_aload_n hx hb dL_law_326 rfl (lv_at hl 0 rfl) ?_
  refine lv_iload_n hx hb dL_law_327 rfl (lv_at hl 3 rfl) ?_
  refine lv_iconst (v := 1) hx hb dL_law_328 (by decide) ?_
  refine lv_iadd hx hb dL_law_329 ?_
  refine cg_ev (v := 1) (by decide) ?_
  refine va_sld hx hb hX hbl (Nat.not_le.mpr hbl) hO.2.2.2.1 (cin (by decide)) dL_law_330 ?_
  refine cg_ev (v := xs 1) rfl ?_
  refine lv_aload_n hx hb dL_law_331 rfl (lv_at hl 0 rfl) ?_
  refine lv_iload_n hx hb dL_law_332 rfl (lv_at hl 3 rfl) ?_
  refine lv_iconst (v := 2) hx hb dL_law_333 (by decide) ?_
  refine lv_iadd hx hb dL_law_334 ?_
  refine cg_ev (v := 2) (by decide) ?_
  refine va_sld hx hb hX hbl (Nat.not_le.mpr hbl) hO.2.2.2.1 (cin (by decide)) dL_law_335 ?_
  refine cg_ev (v := xs 2) rfl ?_
  refine cg_Vi (As := [.int (xs 1), .int (xs 2)]) (rest := [.int (-2)]) (mc := 0) (ms := 0) (rm := { frames := 2, cells := 0, slots := 0, locals := 43 }) hC hl.1 hO [119, 147] (by decide +kernel) (c_X12_counter l D cy _ _ (f0 := f119) (n := (xs 1)) (q := (xs 2)) ((hm 119 (by decide) (by decide)).trans o119) f119_41 ((hm 147 (by decide) (by decide)).trans a147)) gL_c_X12_counter rfl rfl rfl 2 (by decide +kernel) ⟨Nat.le_of_ble_eq_true rfl, Nat.le_of_ble_eq_true rfl⟩ rfl (by decide) ((hm 119 (by decide) (by decide)).trans o119) rfl rfl (Nat.le_of_ble_eq_true rfl) dL_law_336 ⟨hce, hsl⟩ (fun r1 nw1 l1 H locs hw hO => ?_)
  obtain rfl := hw
  refine lv_icmp_eq (tgt := 917) hx hb dL_law_339 (by decide) (fun _ => ?_) (fun h => absurd rfl h)
  exact law_tail l hC hr hlk hX hbl hO hce hsl (lv_sub hl [0, 3] rfl)

theorem dL_law_344 : decode cL_law 344 = .ok (.aload_n 1, 1) := by decide +kernel
theorem dL_law_345 : decode cL_law 345 = .ok (.aload_n 0, 1) := by decide +kernel
theorem dL_law_346 : decode cL_law 346 = .ok (.iload_n 3, 1) := by decide +kernel
theorem dL_law_347 : decode cL_law 347 = .ok (.iconst 1, 1) := by decide +kernel
theorem dL_law_348 : decode cL_law 348 = .ok (.iadd, 1) := by decide +kernel
theorem dL_law_349 : decode cL_law 349 = .ok (.iaload, 1) := by decide +kernel
theorem dL_law_350 : decode cL_law 350 = .ok (.aload_n 0, 1) := by decide +kernel
theorem dL_law_351 : decode cL_law 351 = .ok (.iload_n 3, 1) := by decide +kernel
theorem dL_law_352 : decode cL_law 352 = .ok (.iconst 2, 1) := by decide +kernel
theorem dL_law_353 : decode cL_law 353 = .ok (.iadd, 1) := by decide +kernel
theorem dL_law_354 : decode cL_law 354 = .ok (.iaload, 1) := by decide +kernel
theorem dL_law_355 : decode cL_law 355 = .ok (.invokevirtual 41, 3) := by decide +kernel
theorem dL_law_358 : decode cL_law 358 = .ok (.aload_n 2, 1) := by decide +kernel
theorem dL_law_359 : decode cL_law 359 = .ok (.aload_n 0, 1) := by decide +kernel
theorem dL_law_360 : decode cL_law 360 = .ok (.iload_n 3, 1) := by decide +kernel
theorem dL_law_361 : decode cL_law 361 = .ok (.iconst 1, 1) := by decide +kernel
theorem dL_law_362 : decode cL_law 362 = .ok (.iadd, 1) := by decide +kernel
theorem dL_law_363 : decode cL_law 363 = .ok (.iaload, 1) := by decide +kernel
theorem dL_law_364 : decode cL_law 364 = .ok (.aload_n 0, 1) := by decide +kernel
theorem dL_law_365 : decode cL_law 365 = .ok (.iload_n 3, 1) := by decide +kernel
theorem dL_law_366 : decode cL_law 366 = .ok (.iconst 2, 1) := by decide +kernel
theorem dL_law_367 : decode cL_law 367 = .ok (.iadd, 1) := by decide +kernel
theorem dL_law_368 : decode cL_law 368 = .ok (.iaload, 1) := by decide +kernel
theorem dL_law_369 : decode cL_law 369 = .ok (.invokevirtual 44, 3) := by decide +kernel
theorem dL_law_372 : decode cL_law 372 = .ok (.if_icmp .eq 545, 3) := by decide +kernel
set_option maxHeartbeats 8000000 in
set_option maxRecDepth 100000 in
theorem lc_pays {p : Program} {e : Env} {s : State} {m : MethodId} {below : List Frame} {meth : Method} {c : Code} (l : Launch) {b : Nat} {xs : Nat → Int32} {D : va_G} {cy : Nat → ClassId} {ad : Nat → Nat} {g : Nat → va_E} {H : Heap} {locs : List Loc} {cells slots : Nat} {ls : Array Slot} {f0 : List Value} {f38 : List Value} {f119 : List Value} (hC : CallFix p m c code 4 s #[Value.ref b] lw_tbl RL) (hr : meth.sig.returnType = ret) (hlk : meth.locks = false) (hX : va_X b 6 xs s s.heap) (hbl : b < s.heap.size) (o0 : g 0 = .inr (11, f0)) (f0_4 : f0[4]? = some (.ref (ad 38))) (o38 : g 38 = .inr (9, f38)) (f38_4 : f38[4]? = some (.int 0)) (o119 : g 119 = .inr (12, f119)) (f119_41 : f119[41]? = some (.ref (ad 147))) (a147 : g 147 = .inl (cy 0, 80, .inl (fun _ => 0))) (hO : cO D cy (fun q : Nat => s.heap.size ≤ q) s.heap s 173 ad (cup [] g) H locs) (hce : cells + 0 ≤ 600000) (hsl : slots + 0 ≤ 7302250) (hl : lv_has ls 4 [(0, .ref b), (1, .ref (ad 0)), (2, .ref (ad 119)), (3, .int 0)]) : W p l e room_1 s m #[Value.ref b] below meth c H locs cells slots (lw_Z below #[Value.ref b] s) (F0 m 344 ls []) := by
  obtain ⟨hx, hb, hml, hown, hts⟩ := id hC
  refine lv_aload_n hx hb dL_law_344 rfl (lv_at hl 1 rfl) ?_
  refine lv_aload_n hx hb dL_law_345 rfl (lv_at hl 0 rfl) ?_
  refine lv_iload_n hx hb dL_law_346 rfl (lv_at hl 3 rfl) ?_
  refine lv_iconst (v := 1) hx hb dL_law_347 (by decide) ?_
  refine lv_iadd hx hb dL_law_348 ?_
  refine cg_ev (v := 1) (by decide) ?_
  refine va_sld hx hb hX hbl (Nat.not_le.mpr hbl) hO.2.2.2.1 (cin (by decide)) dL_law_349 ?_
  refine cg_ev (v := xs 1) rfl ?_
  refine lv_aload_n hx hb dL_law_350 rfl (lv_at hl 0 rfl) ?_
  refine lv_iload_n hx hb dL_law_351 rfl (lv_at hl 3 rfl) ?_
  refine lv_iconst (v := 2) hx hb dL_law_352 (by decide) ?_
  refine lv_iadd hx hb dL_law_353 ?_
  refine cg_ev (v := 2) (by decide) ?_
  refine va_sld hx hb hX hbl (Nat.not_le.mpr hbl) hO.2.2.2.1 (cin (by decide)) dL_law_354 ?_
  refine cg_ev (v := xs 2) rfl ?_
  refine cg_Vi (As := [.int (xs 1), .int (xs 2)]) (rest := []) (mc := 0) (ms := 0) (rm := { frames := 2, cells := 0, slots := 0, locals := 43 }) hC hl.1 hO [0, 38] (by decide +kernel) (c_X11_pays l D cy _ _ (f0 := f0) (f1 := f38) (n := (xs 1)) (q := (xs 2)) o0 f0_4 o38 f38_4) gL_c_X11_pays rfl rfl rfl 2 (by decide +kernel) ⟨Nat.le_of_ble_eq_true rfl, Nat.le_of_ble_eq_true rfl⟩ rfl (by decide) o0 rfl rfl (Nat.le_of_ble_eq_true rfl) dL_law_355 ⟨hce, hsl⟩ (fun r0 nw0 l0 H locs hw hO => ?_)
  obtain rfl := hw
  have hm := cm_far (N := 173) (k := 2) (M := 119) (ps := [0, 38]) (by decide +kernel) (by decide +kernel) l0 [] g
  refine lv_aload_n hx hb dL_law_358 rfl (lv_at hl 2 rfl) ?_
  refine lv_aload_n hx hb dL_law_359 rfl (lv_at hl 0 rfl) ?_
  refine lv_iload_n hx hb dL_law_360 rfl (lv_at hl 3 rfl) ?_
  refine lv_iconst (v := 1) hx hb dL_law_361 (by decide) ?_
  refine lv_iadd hx hb dL_law_362 ?_
  refine cg_ev (v := 1) (by decide) ?_
  refine va_sld hx hb hX hbl (Nat.not_le.mpr hbl) hO.2.2.2.1 (cin (by decide)) dL_law_363 ?_
  refine cg_ev (v := xs 1) rfl ?_
  refine lv_aload_n hx hb dL_law_364 rfl (lv_at hl 0 rfl) ?_
  refine lv_iload_n hx hb dL_law_365 rfl (lv_at hl 3 rfl) ?_
  refine lv_iconst (v := 2) hx hb dL_law_366 (by decide) ?_
  refine lv_iadd hx hb dL_law_367 ?_
  refine cg_ev (v := 2) (by decide) ?_
  refine va_sld hx hb hX hbl (Nat.not_le.mpr hbl) hO.2.2.2.1 (cin (by decide)) dL_law_368 ?_
  refine cg_ev (v := xs 2) rfl ?_
  refine cg_Vi (As := [.int (xs 1), .int (xs 2)]) (rest := [.int (-1)]) (mc := 0) (ms := 0) (rm := { frames := 2, cells := 0, slots := 0, locals := 43 }) hC hl.1 hO [119, 147] (by decide +kernel) (c_X12_pays l D cy _ _ (f0 := f119) (n := (xs 1)) (q := (xs 2)) ((hm 119 (by decide) (by decide)).trans o119) f119_41 ((hm 147 (by decide) (by decide)).trans a147)) gL_c_X12_pays rfl rfl rfl 2 (by decide +kernel) ⟨Nat.le_of_ble_eq_true rfl, Nat.le_of_ble_eq_true rfl⟩ rfl (by decide) ((hm 119 (by decide) (by decide)).trans o119) rfl rfl (Nat.le_of_ble_eq_true rfl) dL_law_369 ⟨hce, hsl⟩ (fun r1 nw1 l1 H locs hw hO => ?_)
  obtain rfl := hw
  refine lv_icmp_eq (tgt := 917) hx hb dL_law_372 (by decide) (fun _ => ?_) (fun h => absurd rfl h)
  exact law_tail l hC hr hlk hX hbl hO hce hsl (lv_sub hl [0, 3] rfl)

theorem dL_law_377 : decode cL_law 377 = .ok (.aload_n 1, 1) := by decide +kernel
theorem dL_law_378 : decode cL_law 378 = .ok (.aload_n 0, 1) := by decide +kernel
theorem dL_law_379 : decode cL_law 379 = .ok (.iload_n 3, 1) := by decide +kernel
theorem dL_law_380 : decode cL_law 380 = .ok (.iconst 1, 1) := by decide +kernel
theorem dL_law_381 : decode cL_law 381 = .ok (.iadd, 1) := by decide +kernel
theorem dL_law_382 : decode cL_law 382 = .ok (.iaload, 1) := by decide +kernel
theorem dL_law_383 : decode cL_law 383 = .ok (.aload_n 0, 1) := by decide +kernel
theorem dL_law_384 : decode cL_law 384 = .ok (.iload_n 3, 1) := by decide +kernel
theorem dL_law_385 : decode cL_law 385 = .ok (.iconst 2, 1) := by decide +kernel
theorem dL_law_386 : decode cL_law 386 = .ok (.iadd, 1) := by decide +kernel
theorem dL_law_387 : decode cL_law 387 = .ok (.iaload, 1) := by decide +kernel
theorem dL_law_388 : decode cL_law 388 = .ok (.invokevirtual 45, 3) := by decide +kernel
theorem dL_law_391 : decode cL_law 391 = .ok (.aload_n 2, 1) := by decide +kernel
theorem dL_law_392 : decode cL_law 392 = .ok (.aload_n 0, 1) := by decide +kernel
theorem dL_law_393 : decode cL_law 393 = .ok (.iload_n 3, 1) := by decide +kernel
theorem dL_law_394 : decode cL_law 394 = .ok (.iconst 1, 1) := by decide +kernel
theorem dL_law_395 : decode cL_law 395 = .ok (.iadd, 1) := by decide +kernel
theorem dL_law_396 : decode cL_law 396 = .ok (.iaload, 1) := by decide +kernel
theorem dL_law_397 : decode cL_law 397 = .ok (.aload_n 0, 1) := by decide +kernel
theorem dL_law_398 : decode cL_law 398 = .ok (.iload_n 3, 1) := by decide +kernel
theorem dL_law_399 : decode cL_law 399 = .ok (.iconst 2, 1) := by decide +kernel
theorem dL_law_400 : decode cL_law 400 = .ok (.iadd, 1) := by decide +kernel
theorem dL_law_401 : decode cL_law 401 = .ok (.iaload, 1) := by decide +kernel
theorem dL_law_402 : decode cL_law 402 = .ok (.invokevirtual 48, 3) := by decide +kernel
theorem dL_law_405 : decode cL_law 405 = .ok (.if_icmp .eq 512, 3) := by decide +kernel
set_option maxHeartbeats 8000000 in
set_option maxRecDepth 100000 in
theorem lc_bird {p : Program} {e : Env} {s : State} {m : MethodId} {below : List Frame} {meth : Method} {c : Code} (l : Launch) {b : Nat} {xs : Nat → Int32} {D : va_G} {cy : Nat → ClassId} {ad : Nat → Nat} {g : Nat → va_E} {H : Heap} {locs : List Loc} {cells slots : Nat} {ls : Array Slot} {f0 : List Value} {f21 : List Value} {f119 : List Value} (hC : CallFix p m c code 4 s #[Value.ref b] lw_tbl RL) (hr : meth.sig.returnType = ret) (hlk : meth.locks = false) (hX : va_X b 6 xs s s.heap) (hbl : b < s.heap.size) (o0 : g 0 = .inr (11, f0)) (f0_3 : f0[3]? = some (.ref (ad 21))) (o21 : g 21 = .inr (7, f21)) (f21_5 : f21[5]? = some (.int 0)) (o119 : g 119 = .inr (12, f119)) (f119_11 : f119[11]? = some (.ref (ad 122))) (f119_36 : f119[36]? = some (.int 0)) (a122 : g 122 = .inl (cy 0, 2, .inl (fun _ => 0))) (hO : cO D cy (fun q : Nat => s.heap.size ≤ q) s.heap s 173 ad (cup [] g) H locs) (hce : cells + 0 ≤ 600000) (hsl : slots + 0 ≤ 7302250) (hl : lv_has ls 4 [(0, .ref b), (1, .ref (ad 0)), (2, .ref (ad 119)), (3, .int 0)]) : W p l e room_1 s m #[Value.ref b] below meth c H locs cells slots (lw_Z below #[Value.ref b] s) (F0 m 377 ls []) := by
  obtain ⟨hx, hb, hml, hown, hts⟩ := id hC
  refine lv_aload_n hx hb dL_law_377 rfl (lv_at hl 1 rfl) ?_
  refine lv_aload_n hx hb dL_law_378 rfl (lv_at hl 0 rfl) ?_
  refine lv_iload_n hx hb dL_law_379 rfl (lv_at hl 3 rfl) ?_
  refine lv_iconst (v := 1) hx hb dL_law_380 (by decide) ?_
  refine lv_iadd hx hb dL_law_381 ?_
  refine cg_ev (v := 1) (by decide) ?_
  refine va_sld hx hb hX hbl (Nat.not_le.mpr hbl) hO.2.2.2.1 (cin (by decide)) dL_law_382 ?_
  refine cg_ev (v := xs 1) rfl ?_
  refine lv_aload_n hx hb dL_law_383 rfl (lv_at hl 0 rfl) ?_
  refine lv_iload_n hx hb dL_law_384 rfl (lv_at hl 3 rfl) ?_
  refine lv_iconst (v := 2) hx hb dL_law_385 (by decide) ?_
  refine lv_iadd hx hb dL_law_386 ?_
  refine cg_ev (v := 2) (by decide) ?_
  refine va_sld hx hb hX hbl (Nat.not_le.mpr hbl) hO.2.2.2.1 (cin (by decide)) dL_law_387 ?_
  refine cg_ev (v := xs 2) rfl ?_
  refine cg_Vi (As := [.int (xs 1), .int (xs 2)]) (rest := []) (mc := 0) (ms := 0) (rm := { frames := 2, cells := 0, slots := 0, locals := 43 }) hC hl.1 hO [0, 21] (by decide +kernel) (c_X11_bird l D cy _ _ (f0 := f0) (f1 := f21) (n := (xs 1)) (q := (xs 2)) o0 f0_3 o21 f21_5) gL_c_X11_bird rfl rfl rfl 2 (by decide +kernel) ⟨Nat.le_of_ble_eq_true rfl, Nat.le_of_ble_eq_true rfl⟩ rfl (by decide) o0 rfl rfl (Nat.le_of_ble_eq_true rfl) dL_law_388 ⟨hce, hsl⟩ (fun r0 nw0 l0 H locs hw hO => ?_)
  obtain rfl := hw
  have hm := cm_far (N := 173) (k := 2) (M := 119) (ps := [0, 21]) (by decide +kernel) (by decide +kernel) l0 [] g
  refine lv_aload_n hx hb dL_law_391 rfl (lv_at hl 2 rfl) ?_
  refine lv_aload_n hx hb dL_law_392 rfl (lv_at hl 0 rfl) ?_
  refine lv_iload_n hx hb dL_law_393 rfl (lv_at hl 3 rfl) ?_
  refine lv_iconst (v := 1) hx hb dL_law_394 (by decide) ?_
  refine lv_iadd hx hb dL_law_395 ?_
  refine cg_ev (v := 1) (by decide) ?_
  refine va_sld hx hb hX hbl (Nat.not_le.mpr hbl) hO.2.2.2.1 (cin (by decide)) dL_law_396 ?_
  refine cg_ev (v := xs 1) rfl ?_
  refine lv_aload_n hx hb dL_law_397 rfl (lv_at hl 0 rfl) ?_
  refine lv_iload_n hx hb dL_law_398 rfl (lv_at hl 3 rfl) ?_
  refine lv_iconst (v := 2) hx hb dL_law_399 (by decide) ?_
  refine lv_iadd hx hb dL_law_400 ?_
  refine cg_ev (v := 2) (by decide) ?_
  refine va_sld hx hb hX hbl (Nat.not_le.mpr hbl) hO.2.2.2.1 (cin (by decide)) dL_law_401 ?_
  refine cg_ev (v := xs 2) rfl ?_
  refine cg_Vi (As := [.int (xs 1), .int (xs 2)]) (rest := [.int (-1)]) (mc := 0) (ms := 0) (rm := { frames := 2, cells := 0, slots := 0, locals := 43 }) hC hl.1 hO [119, 122] (by decide +kernel) (c_X12_bird l D cy _ _ (f0 := f119) (n := (xs 1)) (q := (xs 2)) ((hm 119 (by decide) (by decide)).trans o119) f119_11 f119_36 ((hm 122 (by decide) (by decide)).trans a122)) gL_c_X12_bird rfl rfl rfl 2 (by decide +kernel) ⟨Nat.le_of_ble_eq_true rfl, Nat.le_of_ble_eq_true rfl⟩ rfl (by decide) ((hm 119 (by decide) (by decide)).trans o119) rfl rfl (Nat.le_of_ble_eq_true rfl) dL_law_402 ⟨hce, hsl⟩ (fun r1 nw1 l1 H locs hw hO => ?_)
  obtain rfl := hw
  refine lv_icmp_eq (tgt := 917) hx hb dL_law_405 (by decide) (fun _ => ?_) (fun h => absurd rfl h)
  exact law_tail l hC hr hlk hX hbl hO hce hsl (lv_sub hl [0, 3] rfl)

theorem dL_law_410 : decode cL_law 410 = .ok (.aload_n 1, 1) := by decide +kernel
theorem dL_law_411 : decode cL_law 411 = .ok (.aload_n 0, 1) := by decide +kernel
theorem dL_law_412 : decode cL_law 412 = .ok (.iload_n 3, 1) := by decide +kernel
theorem dL_law_413 : decode cL_law 413 = .ok (.iconst 1, 1) := by decide +kernel
theorem dL_law_414 : decode cL_law 414 = .ok (.iadd, 1) := by decide +kernel
theorem dL_law_415 : decode cL_law 415 = .ok (.iaload, 1) := by decide +kernel
theorem dL_law_416 : decode cL_law 416 = .ok (.invokevirtual 49, 3) := by decide +kernel
theorem dL_law_419 : decode cL_law 419 = .ok (.aload_n 2, 1) := by decide +kernel
theorem dL_law_420 : decode cL_law 420 = .ok (.aload_n 0, 1) := by decide +kernel
theorem dL_law_421 : decode cL_law 421 = .ok (.iload_n 3, 1) := by decide +kernel
theorem dL_law_422 : decode cL_law 422 = .ok (.iconst 1, 1) := by decide +kernel
theorem dL_law_423 : decode cL_law 423 = .ok (.iadd, 1) := by decide +kernel
theorem dL_law_424 : decode cL_law 424 = .ok (.iaload, 1) := by decide +kernel
theorem dL_law_425 : decode cL_law 425 = .ok (.invokevirtual 52, 3) := by decide +kernel
theorem dL_law_428 : decode cL_law 428 = .ok (.if_icmp .eq 489, 3) := by decide +kernel
set_option maxHeartbeats 8000000 in
set_option maxRecDepth 100000 in
theorem lc_income {p : Program} {e : Env} {s : State} {m : MethodId} {below : List Frame} {meth : Method} {c : Code} (l : Launch) {b : Nat} {xs : Nat → Int32} {D : va_G} {cy : Nat → ClassId} {ad : Nat → Nat} {g : Nat → va_E} {H : Heap} {locs : List Loc} {cells slots : Nat} {ls : Array Slot} {f0 : List Value} {f21 : List Value} {f62 : List Value} {f119 : List Value} {c148 : Nat → Int32} {c153 : Nat → Int32} {c155 : Nat → Int32} {c160 : Nat → Int32} (hC : CallFix p m c code 4 s #[Value.ref b] lw_tbl RL) (hr : meth.sig.returnType = ret) (hlk : meth.locks = false) (hX : va_X b 6 xs s s.heap) (hbl : b < s.heap.size) (o0 : g 0 = .inr (11, f0)) (f0_3 : f0[3]? = some (.ref (ad 21))) (f0_8 : f0[8]? = some (.ref (ad 62))) (o21 : g 21 = .inr (7, f21)) (f21_11 : f21[11]? = some (.int 0)) (o62 : g 62 = .inr (1, f62)) (f62_0 : f62[0]? = some (.ref (ad 21))) (o119 : g 119 = .inr (12, f119)) (f119_12 : f119[12]? = some (.ref (ad 123))) (f119_36 : f119[36]? = some (.int 0)) (f119_41 : f119[41]? = some (.ref (ad 147))) (f119_42 : f119[42]? = some (.ref (ad 148))) (f119_44 : f119[44]? = some (.ref (ad 150))) (f119_47 : f119[47]? = some (.ref (ad 153))) (f119_48 : f119[48]? = some (.ref (ad 154))) (f119_49 : f119[49]? = some (.ref (ad 155))) (f119_50 : f119[50]? = some (.ref (ad 156))) (f119_53 : f119[53]? = some (.ref (ad 159))) (f119_54 : f119[54]? = some (.ref (ad 160))) (f119_55 : f119[55]? = some (.ref (ad 161))) (f119_56 : f119[56]? = some (.int 0)) (f119_57 : f119[57]? = some (.int 0)) (a123 : g 123 = .inl (cy 0, 2, .inl (fun _ => 0))) (a147 : g 147 = .inl (cy 0, 80, .inl (fun _ => 0))) (a148 : g 148 = .inl (cy 0, 30, .inl c148)) (a150 : g 150 = .inl (cy 0, 5, .inl (fun _ => 0))) (a153 : g 153 = .inl (cy 0, 30, .inl c153)) (a154 : g 154 = .inl (cy 0, 120, .inl (fun _ => 0))) (a155 : g 155 = .inl (cy 0, 120, .inl c155)) (a156 : g 156 = .inl (cy 0, 5, .inl (fun _ => 0))) (a159 : g 159 = .inl (cy 0, 5, .inl (fun _ => 0))) (a160 : g 160 = .inl (cy 2, 30, .inl c160)) (a161 : g 161 = .inl (cy 2, 5, .inl (fun _ => 0))) (hO : cO D cy (fun q : Nat => s.heap.size ≤ q) s.heap s 173 ad (cup [] g) H locs) (hce : cells + 0 ≤ 600000) (hsl : slots + 0 ≤ 7302250) (hl : lv_has ls 4 [(0, .ref b), (1, .ref (ad 0)), (2, .ref (ad 119)), (3, .int 0)]) : W p l e room_1 s m #[Value.ref b] below meth c H locs cells slots (lw_Z below #[Value.ref b] s) (F0 m 410 ls []) := by
  obtain ⟨hx, hb, hml, hown, hts⟩ := id hC
  refine lv_aload_n hx hb dL_law_410 rfl (lv_at hl 1 rfl) ?_
  refine lv_aload_n hx hb dL_law_411 rfl (lv_at hl 0 rfl) ?_
  refine lv_iload_n hx hb dL_law_412 rfl (lv_at hl 3 rfl) ?_
  refine lv_iconst (v := 1) hx hb dL_law_413 (by decide) ?_
  refine lv_iadd hx hb dL_law_414 ?_
  refine cg_ev (v := 1) (by decide) ?_
  refine va_sld hx hb hX hbl (Nat.not_le.mpr hbl) hO.2.2.2.1 (cin (by decide)) dL_law_415 ?_
  refine cg_ev (v := xs 1) rfl ?_
  refine cg_Vi (As := [.int (xs 1)]) (rest := []) (mc := 0) (ms := 0) (rm := { frames := 2, cells := 0, slots := 0, locals := 43 }) hC hl.1 hO [0, 21, 62] (by decide +kernel) (c_X11_income l D cy _ _ (f0 := f0) (f1 := f21) (f2 := f62) (n := (xs 1)) o0 f0_3 f0_8 o21 f21_11 o62 f62_0) gL_c_X11_income rfl rfl rfl 1 (by decide +kernel) ⟨Nat.le_of_ble_eq_true rfl, Nat.le_of_ble_eq_true rfl⟩ rfl (by decide) o0 rfl rfl (Nat.le_of_ble_eq_true rfl) dL_law_416 ⟨hce, hsl⟩ (fun r0 nw0 l0 H locs hw hO => ?_)
  obtain rfl := hw
  have hm := cm_far (N := 173) (k := 3) (M := 119) (ps := [0, 21, 62]) (by decide +kernel) (by decide +kernel) l0 [] g
  refine lv_aload_n hx hb dL_law_419 rfl (lv_at hl 2 rfl) ?_
  refine lv_aload_n hx hb dL_law_420 rfl (lv_at hl 0 rfl) ?_
  refine lv_iload_n hx hb dL_law_421 rfl (lv_at hl 3 rfl) ?_
  refine lv_iconst (v := 1) hx hb dL_law_422 (by decide) ?_
  refine lv_iadd hx hb dL_law_423 ?_
  refine cg_ev (v := 1) (by decide) ?_
  refine va_sld hx hb hX hbl (Nat.not_le.mpr hbl) hO.2.2.2.1 (cin (by decide)) dL_law_424 ?_
  refine cg_ev (v := xs 1) rfl ?_
  refine cg_Vi (As := [.int (xs 1)]) (rest := [.int (ans_income (xs 1))]) (mc := 0) (ms := 0) (rm := { frames := 4, cells := 0, slots := 0, locals := 83 }) hC hl.1 hO [119, 123, 147, 148, 150, 153, 154, 155, 156, 159, 160, 161] (by decide +kernel) (c_X12_income l D cy _ _ (f0 := f119) (n := (xs 1)) ((hm 119 (by decide) (by decide)).trans o119) f119_12 f119_36 f119_41 f119_42 f119_44 f119_47 f119_48 f119_49 f119_50 f119_53 f119_54 f119_55 f119_56 f119_57 ((hm 123 (by decide) (by decide)).trans a123) ((hm 147 (by decide) (by decide)).trans a147) ((hm 148 (by decide) (by decide)).trans a148) ((hm 150 (by decide) (by decide)).trans a150) ((hm 153 (by decide) (by decide)).trans a153) ((hm 154 (by decide) (by decide)).trans a154) ((hm 155 (by decide) (by decide)).trans a155) ((hm 156 (by decide) (by decide)).trans a156) ((hm 159 (by decide) (by decide)).trans a159) ((hm 160 (by decide) (by decide)).trans a160) ((hm 161 (by decide) (by decide)).trans a161)) gL_c_X12_income rfl rfl rfl 1 (by decide +kernel) ⟨Nat.le_of_ble_eq_true rfl, Nat.le_of_ble_eq_true rfl⟩ rfl (by decide) ((hm 119 (by decide) (by decide)).trans o119) rfl rfl (Nat.le_of_ble_eq_true rfl) dL_law_425 ⟨hce, hsl⟩ (fun r1 nw1 l1 H locs hw hO => ?_)
  obtain rfl := hw
  refine lv_icmp_eq (tgt := 917) hx hb dL_law_428 (by decide) (fun _ => ?_) (fun h => absurd rfl h)
  exact law_tail l hC hr hlk hX hbl hO hce hsl (lv_sub hl [0, 3] rfl)

theorem dL_law_433 : decode cL_law 433 = .ok (.aload_n 1, 1) := by decide +kernel
theorem dL_law_434 : decode cL_law 434 = .ok (.aload_n 0, 1) := by decide +kernel
theorem dL_law_435 : decode cL_law 435 = .ok (.iload_n 3, 1) := by decide +kernel
theorem dL_law_436 : decode cL_law 436 = .ok (.iconst 1, 1) := by decide +kernel
theorem dL_law_437 : decode cL_law 437 = .ok (.iadd, 1) := by decide +kernel
theorem dL_law_438 : decode cL_law 438 = .ok (.iaload, 1) := by decide +kernel
theorem dL_law_439 : decode cL_law 439 = .ok (.aload_n 0, 1) := by decide +kernel
theorem dL_law_440 : decode cL_law 440 = .ok (.iload_n 3, 1) := by decide +kernel
theorem dL_law_441 : decode cL_law 441 = .ok (.iconst 2, 1) := by decide +kernel
theorem dL_law_442 : decode cL_law 442 = .ok (.iadd, 1) := by decide +kernel
theorem dL_law_443 : decode cL_law 443 = .ok (.iaload, 1) := by decide +kernel
theorem dL_law_444 : decode cL_law 444 = .ok (.invokevirtual 53, 3) := by decide +kernel
theorem dL_law_447 : decode cL_law 447 = .ok (.aload_n 2, 1) := by decide +kernel
theorem dL_law_448 : decode cL_law 448 = .ok (.aload_n 0, 1) := by decide +kernel
theorem dL_law_449 : decode cL_law 449 = .ok (.iload_n 3, 1) := by decide +kernel
theorem dL_law_450 : decode cL_law 450 = .ok (.iconst 1, 1) := by decide +kernel
theorem dL_law_451 : decode cL_law 451 = .ok (.iadd, 1) := by decide +kernel
theorem dL_law_452 : decode cL_law 452 = .ok (.iaload, 1) := by decide +kernel
theorem dL_law_453 : decode cL_law 453 = .ok (.aload_n 0, 1) := by decide +kernel
theorem dL_law_454 : decode cL_law 454 = .ok (.iload_n 3, 1) := by decide +kernel
theorem dL_law_455 : decode cL_law 455 = .ok (.iconst 2, 1) := by decide +kernel
theorem dL_law_456 : decode cL_law 456 = .ok (.iadd, 1) := by decide +kernel
theorem dL_law_457 : decode cL_law 457 = .ok (.iaload, 1) := by decide +kernel
theorem dL_law_458 : decode cL_law 458 = .ok (.invokevirtual 56, 3) := by decide +kernel
theorem dL_law_461 : decode cL_law 461 = .ok (.if_icmp .eq 456, 3) := by decide +kernel
set_option maxHeartbeats 8000000 in
set_option maxRecDepth 100000 in
theorem lc_come {p : Program} {e : Env} {s : State} {m : MethodId} {below : List Frame} {meth : Method} {c : Code} (l : Launch) {b : Nat} {xs : Nat → Int32} {D : va_G} {cy : Nat → ClassId} {ad : Nat → Nat} {g : Nat → va_E} {H : Heap} {locs : List Loc} {cells slots : Nat} {ls : Array Slot} {f0 : List Value} {f21 : List Value} {c30 : Nat → Int32} {c31 : Nat → Int32} {f38 : List Value} {c39 : Nat → Int32} {c40 : Nat → Int32} {c41 : Nat → Int32} {f55 : List Value} {c56 : Nat → Int32} {c57 : Nat → Int32} {c58 : Nat → Int32} {f62 : List Value} {c63 : Nat → Int32} {c64 : Nat → Int32} {c65 : Nat → Int32} {f66 : List Value} {c67 : Nat → Int32} {c68 : Nat → Int32} {c69 : Nat → Int32} {c70 : Nat → Int32} {c71 : Nat → Int32} {c72 : Nat → Int32} {c73 : Nat → Int32} {f119 : List Value} {c162 : Nat → Int32} (hC : CallFix p m c code 4 s #[Value.ref b] lw_tbl RL) (hr : meth.sig.returnType = ret) (hlk : meth.locks = false) (hX : va_X b 6 xs s s.heap) (hbl : b < s.heap.size) (o0 : g 0 = .inr (11, f0)) (f0_4 : f0[4]? = some (.ref (ad 38))) (f0_6 : f0[6]? = some (.ref (ad 55))) (f0_8 : f0[8]? = some (.ref (ad 62))) (o21 : g 21 = .inr (7, f21)) (f21_9 : f21[9]? = some (.ref (ad 30))) (f21_10 : f21[10]? = some (.ref (ad 31))) (f21_11 : f21[11]? = some (.int 0)) (a30 : g 30 = .inl (cy 0, 20, .inl c30)) (a31 : g 31 = .inl (cy 0, 4, .inl c31)) (o38 : g 38 = .inr (9, f38)) (f38_0 : f38[0]? = some (.ref (ad 39))) (f38_1 : f38[1]? = some (.ref (ad 40))) (f38_2 : f38[2]? = some (.int (-1))) (f38_3 : f38[3]? = some (.ref (ad 41))) (f38_4 : f38[4]? = some (.int 0)) (a39 : g 39 = .inl (cy 0, 24, .inl c39)) (a40 : g 40 = .inl (cy 0, 24, .inl c40)) (a41 : g 41 = .inl (cy 0, 5, .inl c41)) (o55 : g 55 = .inr (0, f55)) (f55_0 : f55[0]? = some (.ref (ad 56))) (f55_1 : f55[1]? = some (.ref (ad 57))) (f55_2 : f55[2]? = some (.ref (ad 58))) (f55_3 : f55[3]? = some (.int 0)) (f55_4 : f55[4]? = some (.int 0)) (a56 : g 56 = .inl (cy 0, 40, .inl c56)) (a57 : g 57 = .inl (cy 0, 40, .inl c57)) (a58 : g 58 = .inl (cy 0, 40, .inl c58)) (o62 : g 62 = .inr (1, f62)) (f62_0 : f62[0]? = some (.ref (ad 21))) (f62_1 : f62[1]? = some (.ref (ad 38))) (f62_3 : f62[3]? = some (.ref (ad 66))) (f62_4 : f62[4]? = some (.ref (ad 63))) (f62_5 : f62[5]? = some (.ref (ad 64))) (f62_6 : f62[6]? = some (.ref (ad 65))) (a63 : g 63 = .inl (cy 0, 96, .inl c63)) (a64 : g 64 = .inl (cy 0, 96, .inl c64)) (a65 : g 65 = .inl (cy 0, 24, .inl c65)) (o66 : g 66 = .inr (10, f66)) (f66_0 : f66[0]? = some (.ref (ad 21))) (f66_1 : f66[1]? = some (.ref (ad 67))) (f66_2 : f66[2]? = some (.ref (ad 68))) (f66_3 : f66[3]? = some (.ref (ad 69))) (f66_4 : f66[4]? = some (.ref (ad 70))) (f66_5 : f66[5]? = some (.ref (ad 71))) (f66_6 : f66[6]? = some (.ref (ad 72))) (f66_7 : f66[7]? = some (.ref (ad 73))) (a67 : g 67 = .inl (cy 0, 5, .inl c67)) (a68 : g 68 = .inl (cy 0, 20, .inl c68)) (a69 : g 69 = .inl (cy 0, 4, .inl c69)) (a70 : g 70 = .inl (cy 0, 5, .inl c70)) (a71 : g 71 = .inl (cy 0, 5, .inl c71)) (a72 : g 72 = .inl (cy 0, 5, .inl c72)) (a73 : g 73 = .inl (cy 0, 5, .inl c73)) (o119 : g 119 = .inr (12, f119)) (f119_41 : f119[41]? = some (.ref (ad 147))) (f119_58 : f119[58]? = some (.ref (ad 162))) (f119_59 : f119[59]? = some (.int 0)) (f119_60 : f119[60]? = some (.int 0)) (a147 : g 147 = .inl (cy 0, 80, .inl (fun _ => 0))) (a162 : g 162 = .inl (cy 0, 3280, .inl c162)) (hO : cO D cy (fun q : Nat => s.heap.size ≤ q) s.heap s 173 ad (cup [] g) H locs) (hce : cells + 0 ≤ 600000) (hsl : slots + 0 ≤ 7302250) (hl : lv_has ls 4 [(0, .ref b), (1, .ref (ad 0)), (2, .ref (ad 119)), (3, .int 0)]) : W p l e room_1 s m #[Value.ref b] below meth c H locs cells slots (lw_Z below #[Value.ref b] s) (F0 m 433 ls []) := by
  obtain ⟨hx, hb, hml, hown, hts⟩ := id hC
  refine lv_aload_n hx hb dL_law_433 rfl (lv_at hl 1 rfl) ?_
  refine lv_aload_n hx hb dL_law_434 rfl (lv_at hl 0 rfl) ?_
  refine lv_iload_n hx hb dL_law_435 rfl (lv_at hl 3 rfl) ?_
  refine lv_iconst (v := 1) hx hb dL_law_436 (by decide) ?_
  refine lv_iadd hx hb dL_law_437 ?_
  refine cg_ev (v := 1) (by decide) ?_
  refine va_sld hx hb hX hbl (Nat.not_le.mpr hbl) hO.2.2.2.1 (cin (by decide)) dL_law_438 ?_
  refine cg_ev (v := xs 1) rfl ?_
  refine lv_aload_n hx hb dL_law_439 rfl (lv_at hl 0 rfl) ?_
  refine lv_iload_n hx hb dL_law_440 rfl (lv_at hl 3 rfl) ?_
  refine lv_iconst (v := 2) hx hb dL_law_441 (by decide) ?_
  refine lv_iadd hx hb dL_law_442 ?_
  refine cg_ev (v := 2) (by decide) ?_
  refine va_sld hx hb hX hbl (Nat.not_le.mpr hbl) hO.2.2.2.1 (cin (by decide)) dL_law_443 ?_
  refine cg_ev (v := xs 2) rfl ?_
  refine cg_Vi (As := [.int (xs 1), .int (xs 2)]) (rest := []) (mc := 0) (ms := 0) (rm := { frames := 5, cells := 0, slots := 0, locals := 129 }) hC hl.1 hO [0, 38, 39, 40, 41, 55, 56, 57, 58, 62, 21, 30, 31, 66, 67, 68, 69, 70, 71, 72, 73, 63, 64, 65] (by decide +kernel) (c_X11_come l D cy _ _ (f0 := f0) (f1 := f38) (f5 := f55) (f9 := f62) (f10 := f21) (f13 := f66) (x1 := (xs 1)) (x2 := (xs 2)) o0 f0_4 f0_6 f0_8 o38 f38_0 f38_1 f38_2 f38_3 f38_4 a39 a40 a41 o55 f55_0 f55_1 f55_2 f55_3 f55_4 a56 a57 a58 o62 f62_0 f62_1 f62_3 f62_4 f62_5 f62_6 o21 f21_9 f21_10 f21_11 a30 a31 o66 f66_0 f66_1 f66_2 f66_3 f66_4 f66_5 f66_6 f66_7 a67 a68 a69 a70 a71 a72 a73 a63 a64 a65) gL_c_X11_come rfl rfl rfl 2 (by decide +kernel) ⟨Nat.le_of_ble_eq_true rfl, Nat.le_of_ble_eq_true rfl⟩ rfl (by decide) o0 rfl rfl (Nat.le_of_ble_eq_true rfl) dL_law_444 ⟨hce, hsl⟩ (fun r0 nw0 l0 H locs hw hO => ?_)
  obtain rfl := hw
  have hm := cm_far (N := 173) (k := 24) (M := 119) (ps := [0, 38, 39, 40, 41, 55, 56, 57, 58, 62, 21, 30, 31, 66, 67, 68, 69, 70, 71, 72, 73, 63, 64, 65]) (by decide +kernel) (by decide +kernel) l0 [] g
  refine lv_aload_n hx hb dL_law_447 rfl (lv_at hl 2 rfl) ?_
  refine lv_aload_n hx hb dL_law_448 rfl (lv_at hl 0 rfl) ?_
  refine lv_iload_n hx hb dL_law_449 rfl (lv_at hl 3 rfl) ?_
  refine lv_iconst (v := 1) hx hb dL_law_450 (by decide) ?_
  refine lv_iadd hx hb dL_law_451 ?_
  refine cg_ev (v := 1) (by decide) ?_
  refine va_sld hx hb hX hbl (Nat.not_le.mpr hbl) hO.2.2.2.1 (cin (by decide)) dL_law_452 ?_
  refine cg_ev (v := xs 1) rfl ?_
  refine lv_aload_n hx hb dL_law_453 rfl (lv_at hl 0 rfl) ?_
  refine lv_iload_n hx hb dL_law_454 rfl (lv_at hl 3 rfl) ?_
  refine lv_iconst (v := 2) hx hb dL_law_455 (by decide) ?_
  refine lv_iadd hx hb dL_law_456 ?_
  refine cg_ev (v := 2) (by decide) ?_
  refine va_sld hx hb hX hbl (Nat.not_le.mpr hbl) hO.2.2.2.1 (cin (by decide)) dL_law_457 ?_
  refine cg_ev (v := xs 2) rfl ?_
  refine cg_Vi (As := [.int (xs 1), .int (xs 2)]) (rest := [.int (ans_come (xs 1) (xs 2))]) (mc := 0) (ms := 0) (rm := { frames := 1, cells := 0, slots := 0, locals := 22 }) hC hl.1 hO [119, 147, 162] (by decide +kernel) (c_X12_come l D cy _ _ (f0 := f119) (x1 := (xs 1)) (x2 := (xs 2)) ((hm 119 (by decide) (by decide)).trans o119) f119_41 f119_58 f119_59 f119_60 ((hm 147 (by decide) (by decide)).trans a147) ((hm 162 (by decide) (by decide)).trans a162)) gL_c_X12_come rfl rfl rfl 2 (by decide +kernel) ⟨Nat.le_of_ble_eq_true rfl, Nat.le_of_ble_eq_true rfl⟩ rfl (by decide) ((hm 119 (by decide) (by decide)).trans o119) rfl rfl (Nat.le_of_ble_eq_true rfl) dL_law_458 ⟨hce, hsl⟩ (fun r1 nw1 l1 H locs hw hO => ?_)
  obtain rfl := hw
  refine lv_icmp_eq (tgt := 917) hx hb dL_law_461 (by decide) (fun _ => ?_) (fun h => absurd rfl h)
  exact law_tail l hC hr hlk hX hbl hO hce hsl (lv_sub hl [0, 3] rfl)

theorem dL_law_466 : decode cL_law 466 = .ok (.aload_n 1, 1) := by decide +kernel
theorem dL_law_467 : decode cL_law 467 = .ok (.aload_n 0, 1) := by decide +kernel
theorem dL_law_468 : decode cL_law 468 = .ok (.iload_n 3, 1) := by decide +kernel
theorem dL_law_469 : decode cL_law 469 = .ok (.iconst 1, 1) := by decide +kernel
theorem dL_law_470 : decode cL_law 470 = .ok (.iadd, 1) := by decide +kernel
theorem dL_law_471 : decode cL_law 471 = .ok (.iaload, 1) := by decide +kernel
theorem dL_law_472 : decode cL_law 472 = .ok (.invokevirtual 57, 3) := by decide +kernel
theorem dL_law_475 : decode cL_law 475 = .ok (.aload_n 2, 1) := by decide +kernel
theorem dL_law_476 : decode cL_law 476 = .ok (.aload_n 0, 1) := by decide +kernel
theorem dL_law_477 : decode cL_law 477 = .ok (.iload_n 3, 1) := by decide +kernel
theorem dL_law_478 : decode cL_law 478 = .ok (.iconst 1, 1) := by decide +kernel
theorem dL_law_479 : decode cL_law 479 = .ok (.iadd, 1) := by decide +kernel
theorem dL_law_480 : decode cL_law 480 = .ok (.iaload, 1) := by decide +kernel
theorem dL_law_481 : decode cL_law 481 = .ok (.invokevirtual 60, 3) := by decide +kernel
theorem dL_law_484 : decode cL_law 484 = .ok (.if_icmp .eq 433, 3) := by decide +kernel
set_option maxHeartbeats 8000000 in
set_option maxRecDepth 100000 in
theorem lc_doubt {p : Program} {e : Env} {s : State} {m : MethodId} {below : List Frame} {meth : Method} {c : Code} (l : Launch) {b : Nat} {xs : Nat → Int32} {D : va_G} {cy : Nat → ClassId} {ad : Nat → Nat} {g : Nat → va_E} {H : Heap} {locs : List Loc} {cells slots : Nat} {ls : Array Slot} {f0 : List Value} {f38 : List Value} {f119 : List Value} (hC : CallFix p m c code 4 s #[Value.ref b] lw_tbl RL) (hr : meth.sig.returnType = ret) (hlk : meth.locks = false) (hX : va_X b 6 xs s s.heap) (hbl : b < s.heap.size) (o0 : g 0 = .inr (11, f0)) (f0_4 : f0[4]? = some (.ref (ad 38))) (o38 : g 38 = .inr (9, f38)) (f38_4 : f38[4]? = some (.int 0)) (o119 : g 119 = .inr (12, f119)) (f119_41 : f119[41]? = some (.ref (ad 147))) (a147 : g 147 = .inl (cy 0, 80, .inl (fun _ => 0))) (hO : cO D cy (fun q : Nat => s.heap.size ≤ q) s.heap s 173 ad (cup [] g) H locs) (hce : cells + 0 ≤ 600000) (hsl : slots + 0 ≤ 7302250) (hl : lv_has ls 4 [(0, .ref b), (1, .ref (ad 0)), (2, .ref (ad 119)), (3, .int 0)]) : W p l e room_1 s m #[Value.ref b] below meth c H locs cells slots (lw_Z below #[Value.ref b] s) (F0 m 466 ls []) := by
  obtain ⟨hx, hb, hml, hown, hts⟩ := id hC
  refine lv_aload_n hx hb dL_law_466 rfl (lv_at hl 1 rfl) ?_
  refine lv_aload_n hx hb dL_law_467 rfl (lv_at hl 0 rfl) ?_
  refine lv_iload_n hx hb dL_law_468 rfl (lv_at hl 3 rfl) ?_
  refine lv_iconst (v := 1) hx hb dL_law_469 (by decide) ?_
  refine lv_iadd hx hb dL_law_470 ?_
  refine cg_ev (v := 1) (by decide) ?_
  refine va_sld hx hb hX hbl (Nat.not_le.mpr hbl) hO.2.2.2.1 (cin (by decide)) dL_law_471 ?_
  refine cg_ev (v := xs 1) rfl ?_
  refine cg_Vi (As := [.int (xs 1)]) (rest := []) (mc := 0) (ms := 0) (rm := { frames := 2, cells := 0, slots := 0, locals := 43 }) hC hl.1 hO [0, 38] (by decide +kernel) (c_X11_doubt l D cy _ _ (f0 := f0) (f1 := f38) (n := (xs 1)) o0 f0_4 o38 f38_4) gL_c_X11_doubt rfl rfl rfl 1 (by decide +kernel) ⟨Nat.le_of_ble_eq_true rfl, Nat.le_of_ble_eq_true rfl⟩ rfl (by decide) o0 rfl rfl (Nat.le_of_ble_eq_true rfl) dL_law_472 ⟨hce, hsl⟩ (fun r0 nw0 l0 H locs hw hO => ?_)
  obtain rfl := hw
  have hm := cm_far (N := 173) (k := 2) (M := 119) (ps := [0, 38]) (by decide +kernel) (by decide +kernel) l0 [] g
  refine lv_aload_n hx hb dL_law_475 rfl (lv_at hl 2 rfl) ?_
  refine lv_aload_n hx hb dL_law_476 rfl (lv_at hl 0 rfl) ?_
  refine lv_iload_n hx hb dL_law_477 rfl (lv_at hl 3 rfl) ?_
  refine lv_iconst (v := 1) hx hb dL_law_478 (by decide) ?_
  refine lv_iadd hx hb dL_law_479 ?_
  refine cg_ev (v := 1) (by decide) ?_
  refine va_sld hx hb hX hbl (Nat.not_le.mpr hbl) hO.2.2.2.1 (cin (by decide)) dL_law_480 ?_
  refine cg_ev (v := xs 1) rfl ?_
  refine cg_Vi (As := [.int (xs 1)]) (rest := [.int (-1)]) (mc := 0) (ms := 0) (rm := { frames := 2, cells := 0, slots := 0, locals := 43 }) hC hl.1 hO [119, 147] (by decide +kernel) (c_X12_doubt l D cy _ _ (f0 := f119) (n := (xs 1)) ((hm 119 (by decide) (by decide)).trans o119) f119_41 ((hm 147 (by decide) (by decide)).trans a147)) gL_c_X12_doubt rfl rfl rfl 1 (by decide +kernel) ⟨Nat.le_of_ble_eq_true rfl, Nat.le_of_ble_eq_true rfl⟩ rfl (by decide) ((hm 119 (by decide) (by decide)).trans o119) rfl rfl (Nat.le_of_ble_eq_true rfl) dL_law_481 ⟨hce, hsl⟩ (fun r1 nw1 l1 H locs hw hO => ?_)
  obtain rfl := hw
  refine lv_icmp_eq (tgt := 917) hx hb dL_law_484 (by decide) (fun _ => ?_) (fun h => absurd rfl h)
  exact law_tail l hC hr hlk hX hbl hO hce hsl (lv_sub hl [0, 3] rfl)

theorem dL_law_489 : decode cL_law 489 = .ok (.aload_n 1, 1) := by decide +kernel
theorem dL_law_490 : decode cL_law 490 = .ok (.aload_n 0, 1) := by decide +kernel
theorem dL_law_491 : decode cL_law 491 = .ok (.iload_n 3, 1) := by decide +kernel
theorem dL_law_492 : decode cL_law 492 = .ok (.iconst 1, 1) := by decide +kernel
theorem dL_law_493 : decode cL_law 493 = .ok (.iadd, 1) := by decide +kernel
theorem dL_law_494 : decode cL_law 494 = .ok (.iaload, 1) := by decide +kernel
theorem dL_law_495 : decode cL_law 495 = .ok (.aload_n 0, 1) := by decide +kernel
theorem dL_law_496 : decode cL_law 496 = .ok (.iload_n 3, 1) := by decide +kernel
theorem dL_law_497 : decode cL_law 497 = .ok (.iconst 2, 1) := by decide +kernel
theorem dL_law_498 : decode cL_law 498 = .ok (.iadd, 1) := by decide +kernel
theorem dL_law_499 : decode cL_law 499 = .ok (.iaload, 1) := by decide +kernel
theorem dL_law_500 : decode cL_law 500 = .ok (.invokevirtual 61, 3) := by decide +kernel
theorem dL_law_503 : decode cL_law 503 = .ok (.aload_n 2, 1) := by decide +kernel
theorem dL_law_504 : decode cL_law 504 = .ok (.aload_n 0, 1) := by decide +kernel
theorem dL_law_505 : decode cL_law 505 = .ok (.iload_n 3, 1) := by decide +kernel
theorem dL_law_506 : decode cL_law 506 = .ok (.iconst 1, 1) := by decide +kernel
theorem dL_law_507 : decode cL_law 507 = .ok (.iadd, 1) := by decide +kernel
theorem dL_law_508 : decode cL_law 508 = .ok (.iaload, 1) := by decide +kernel
theorem dL_law_509 : decode cL_law 509 = .ok (.aload_n 0, 1) := by decide +kernel
theorem dL_law_510 : decode cL_law 510 = .ok (.iload_n 3, 1) := by decide +kernel
theorem dL_law_511 : decode cL_law 511 = .ok (.iconst 2, 1) := by decide +kernel
theorem dL_law_512 : decode cL_law 512 = .ok (.iadd, 1) := by decide +kernel
theorem dL_law_513 : decode cL_law 513 = .ok (.iaload, 1) := by decide +kernel
theorem dL_law_514 : decode cL_law 514 = .ok (.invokevirtual 64, 3) := by decide +kernel
theorem dL_law_517 : decode cL_law 517 = .ok (.if_icmp .eq 400, 3) := by decide +kernel
set_option maxHeartbeats 8000000 in
set_option maxRecDepth 100000 in
theorem lc_learn {p : Program} {e : Env} {s : State} {m : MethodId} {below : List Frame} {meth : Method} {c : Code} (l : Launch) {b : Nat} {xs : Nat → Int32} {D : va_G} {cy : Nat → ClassId} {ad : Nat → Nat} {g : Nat → va_E} {H : Heap} {locs : List Loc} {cells slots : Nat} {ls : Array Slot} {f0 : List Value} {f21 : List Value} {f119 : List Value} (hC : CallFix p m c code 4 s #[Value.ref b] lw_tbl RL) (hr : meth.sig.returnType = ret) (hlk : meth.locks = false) (hX : va_X b 6 xs s s.heap) (hbl : b < s.heap.size) (o0 : g 0 = .inr (11, f0)) (f0_3 : f0[3]? = some (.ref (ad 21))) (o21 : g 21 = .inr (7, f21)) (f21_5 : f21[5]? = some (.int 0)) (o119 : g 119 = .inr (12, f119)) (f119_11 : f119[11]? = some (.ref (ad 122))) (f119_36 : f119[36]? = some (.int 0)) (a122 : g 122 = .inl (cy 0, 2, .inl (fun _ => 0))) (hO : cO D cy (fun q : Nat => s.heap.size ≤ q) s.heap s 173 ad (cup [] g) H locs) (hce : cells + 0 ≤ 600000) (hsl : slots + 0 ≤ 7302250) (hl : lv_has ls 4 [(0, .ref b), (1, .ref (ad 0)), (2, .ref (ad 119)), (3, .int 0)]) : W p l e room_1 s m #[Value.ref b] below meth c H locs cells slots (lw_Z below #[Value.ref b] s) (F0 m 489 ls []) := by
  obtain ⟨hx, hb, hml, hown, hts⟩ := id hC
  refine lv_aload_n hx hb dL_law_489 rfl (lv_at hl 1 rfl) ?_
  refine lv_aload_n hx hb dL_law_490 rfl (lv_at hl 0 rfl) ?_
  refine lv_iload_n hx hb dL_law_491 rfl (lv_at hl 3 rfl) ?_
  refine lv_iconst (v := 1) hx hb dL_law_492 (by decide) ?_
  refine lv_iadd hx hb dL_law_493 ?_
  refine cg_ev (v := 1) (by decide) ?_
  refine va_sld hx hb hX hbl (Nat.not_le.mpr hbl) hO.2.2.2.1 (cin (by decide)) dL_law_494 ?_
  refine cg_ev (v := xs 1) rfl ?_
  refine lv_aload_n hx hb dL_law_495 rfl (lv_at hl 0 rfl) ?_
  refine lv_iload_n hx hb dL_law_496 rfl (lv_at hl 3 rfl) ?_
  refine lv_iconst (v := 2) hx hb dL_law_497 (by decide) ?_
  refine lv_iadd hx hb dL_law_498 ?_
  refine cg_ev (v := 2) (by decide) ?_
  refine va_sld hx hb hX hbl (Nat.not_le.mpr hbl) hO.2.2.2.1 (cin (by decide)) dL_law_499 ?_
  refine cg_ev (v := xs 2) rfl ?_
  refine cg_Vi (As := [.int (xs 1), .int (xs 2)]) (rest := []) (mc := 0) (ms := 0) (rm := { frames := 2, cells := 0, slots := 0, locals := 43 }) hC hl.1 hO [0, 21] (by decide +kernel) (c_X11_learn l D cy _ _ (f0 := f0) (f1 := f21) (n := (xs 1)) (q := (xs 2)) o0 f0_3 o21 f21_5) gL_c_X11_learn rfl rfl rfl 2 (by decide +kernel) ⟨Nat.le_of_ble_eq_true rfl, Nat.le_of_ble_eq_true rfl⟩ rfl (by decide) o0 rfl rfl (Nat.le_of_ble_eq_true rfl) dL_law_500 ⟨hce, hsl⟩ (fun r0 nw0 l0 H locs hw hO => ?_)
  obtain rfl := hw
  have hm := cm_far (N := 173) (k := 2) (M := 119) (ps := [0, 21]) (by decide +kernel) (by decide +kernel) l0 [] g
  refine lv_aload_n hx hb dL_law_503 rfl (lv_at hl 2 rfl) ?_
  refine lv_aload_n hx hb dL_law_504 rfl (lv_at hl 0 rfl) ?_
  refine lv_iload_n hx hb dL_law_505 rfl (lv_at hl 3 rfl) ?_
  refine lv_iconst (v := 1) hx hb dL_law_506 (by decide) ?_
  refine lv_iadd hx hb dL_law_507 ?_
  refine cg_ev (v := 1) (by decide) ?_
  refine va_sld hx hb hX hbl (Nat.not_le.mpr hbl) hO.2.2.2.1 (cin (by decide)) dL_law_508 ?_
  refine cg_ev (v := xs 1) rfl ?_
  refine lv_aload_n hx hb dL_law_509 rfl (lv_at hl 0 rfl) ?_
  refine lv_iload_n hx hb dL_law_510 rfl (lv_at hl 3 rfl) ?_
  refine lv_iconst (v := 2) hx hb dL_law_511 (by decide) ?_
  refine lv_iadd hx hb dL_law_512 ?_
  refine cg_ev (v := 2) (by decide) ?_
  refine va_sld hx hb hX hbl (Nat.not_le.mpr hbl) hO.2.2.2.1 (cin (by decide)) dL_law_513 ?_
  refine cg_ev (v := xs 2) rfl ?_
  refine cg_Vi (As := [.int (xs 1), .int (xs 2)]) (rest := [.int (-1)]) (mc := 0) (ms := 0) (rm := { frames := 2, cells := 0, slots := 0, locals := 43 }) hC hl.1 hO [119, 122] (by decide +kernel) (c_X12_learn l D cy _ _ (f0 := f119) (n := (xs 1)) (q := (xs 2)) ((hm 119 (by decide) (by decide)).trans o119) f119_11 f119_36 ((hm 122 (by decide) (by decide)).trans a122)) gL_c_X12_learn rfl rfl rfl 2 (by decide +kernel) ⟨Nat.le_of_ble_eq_true rfl, Nat.le_of_ble_eq_true rfl⟩ rfl (by decide) ((hm 119 (by decide) (by decide)).trans o119) rfl rfl (Nat.le_of_ble_eq_true rfl) dL_law_514 ⟨hce, hsl⟩ (fun r1 nw1 l1 H locs hw hO => ?_)
  obtain rfl := hw
  refine lv_icmp_eq (tgt := 917) hx hb dL_law_517 (by decide) (fun _ => ?_) (fun h => absurd rfl h)
  exact law_tail l hC hr hlk hX hbl hO hce hsl (lv_sub hl [0, 3] rfl)

theorem dL_law_522 : decode cL_law 522 = .ok (.aload_n 1, 1) := by decide +kernel
theorem dL_law_523 : decode cL_law 523 = .ok (.invokevirtual 65, 3) := by decide +kernel
theorem dL_law_526 : decode cL_law 526 = .ok (.aload_n 2, 1) := by decide +kernel
theorem dL_law_527 : decode cL_law 527 = .ok (.invokevirtual 69, 3) := by decide +kernel
theorem dL_law_530 : decode cL_law 530 = .ok (.if_icmp .eq 387, 3) := by decide +kernel
set_option maxHeartbeats 8000000 in
set_option maxRecDepth 100000 in
theorem lc_undo {p : Program} {e : Env} {s : State} {m : MethodId} {below : List Frame} {meth : Method} {c : Code} (l : Launch) {b : Nat} {xs : Nat → Int32} {D : va_G} {cy : Nat → ClassId} {ad : Nat → Nat} {g : Nat → va_E} {H : Heap} {locs : List Loc} {cells slots : Nat} {ls : Array Slot} {f0 : List Value} {f38 : List Value} {f55 : List Value} {f119 : List Value} (hC : CallFix p m c code 4 s #[Value.ref b] lw_tbl RL) (hr : meth.sig.returnType = ret) (hlk : meth.locks = false) (hX : va_X b 6 xs s s.heap) (hbl : b < s.heap.size) (o0 : g 0 = .inr (11, f0)) (f0_4 : f0[4]? = some (.ref (ad 38))) (f0_6 : f0[6]? = some (.ref (ad 55))) (o38 : g 38 = .inr (9, f38)) (o55 : g 55 = .inr (0, f55)) (f55_3 : f55[3]? = some (.int 0)) (o119 : g 119 = .inr (12, f119)) (f119_59 : f119[59]? = some (.int 0)) (hO : cO D cy (fun q : Nat => s.heap.size ≤ q) s.heap s 173 ad (cup [] g) H locs) (hce : cells + 0 ≤ 600000) (hsl : slots + 0 ≤ 7302250) (hl : lv_has ls 4 [(0, .ref b), (1, .ref (ad 0)), (2, .ref (ad 119)), (3, .int 0)]) : W p l e room_1 s m #[Value.ref b] below meth c H locs cells slots (lw_Z below #[Value.ref b] s) (F0 m 522 ls []) := by
  obtain ⟨hx, hb, hml, hown, hts⟩ := id hC
  refine lv_aload_n hx hb dL_law_522 rfl (lv_at hl 1 rfl) ?_
  refine cg_Vi (As := []) (rest := []) (mc := 0) (ms := 0) (rm := { frames := 1, cells := 0, slots := 0, locals := 21 }) hC hl.1 hO [0, 55, 38] (by decide +kernel) (c_X11_undo l D cy _ _ (f0 := f0) (f2 := f38) (f1 := f55) o0 f0_4 f0_6 o55 f55_3 o38) gL_c_X11_undo rfl rfl rfl 0 (by decide +kernel) ⟨Nat.le_of_ble_eq_true rfl, Nat.le_of_ble_eq_true rfl⟩ rfl (by decide) o0 rfl rfl (Nat.le_of_ble_eq_true rfl) dL_law_523 ⟨hce, hsl⟩ (fun r0 nw0 l0 H locs hw hO => ?_)
  obtain rfl := hw
  have hm := cm_far (N := 173) (k := 3) (M := 119) (ps := [0, 55, 38]) (by decide +kernel) (by decide +kernel) l0 [] g
  refine lv_aload_n hx hb dL_law_526 rfl (lv_at hl 2 rfl) ?_
  refine cg_Vi (As := []) (rest := [.int 0]) (mc := 0) (ms := 0) (rm := { frames := 0, cells := 0, slots := 0, locals := 0 }) hC hl.1 hO [119] (by decide +kernel) (c_X12_undo l D cy _ _ (f0 := f119) ((hm 119 (by decide) (by decide)).trans o119) f119_59) gL_c_X12_undo rfl rfl rfl 0 (by decide +kernel) ⟨Nat.le_of_ble_eq_true rfl, Nat.le_of_ble_eq_true rfl⟩ rfl (by decide) ((hm 119 (by decide) (by decide)).trans o119) rfl rfl (Nat.le_of_ble_eq_true rfl) dL_law_527 ⟨hce, hsl⟩ (fun r1 nw1 l1 H locs hw hO => ?_)
  obtain rfl := hw
  refine lv_icmp_eq (tgt := 917) hx hb dL_law_530 (by decide) (fun _ => ?_) (fun h => absurd rfl h)
  exact law_tail l hC hr hlk hX hbl hO hce hsl (lv_sub hl [0, 3] rfl)

theorem dL_law_535 : decode cL_law 535 = .ok (.aload_n 1, 1) := by decide +kernel
theorem dL_law_536 : decode cL_law 536 = .ok (.invokevirtual 70, 3) := by decide +kernel
theorem dL_law_539 : decode cL_law 539 = .ok (.aload_n 2, 1) := by decide +kernel
theorem dL_law_540 : decode cL_law 540 = .ok (.invokevirtual 73, 3) := by decide +kernel
theorem dL_law_543 : decode cL_law 543 = .ok (.if_icmp .eq 374, 3) := by decide +kernel
set_option maxHeartbeats 8000000 in
set_option maxRecDepth 100000 in
theorem lc_redo {p : Program} {e : Env} {s : State} {m : MethodId} {below : List Frame} {meth : Method} {c : Code} (l : Launch) {b : Nat} {xs : Nat → Int32} {D : va_G} {cy : Nat → ClassId} {ad : Nat → Nat} {g : Nat → va_E} {H : Heap} {locs : List Loc} {cells slots : Nat} {ls : Array Slot} {f0 : List Value} {f38 : List Value} {f55 : List Value} {f119 : List Value} (hC : CallFix p m c code 4 s #[Value.ref b] lw_tbl RL) (hr : meth.sig.returnType = ret) (hlk : meth.locks = false) (hX : va_X b 6 xs s s.heap) (hbl : b < s.heap.size) (o0 : g 0 = .inr (11, f0)) (f0_4 : f0[4]? = some (.ref (ad 38))) (f0_6 : f0[6]? = some (.ref (ad 55))) (o38 : g 38 = .inr (9, f38)) (o55 : g 55 = .inr (0, f55)) (f55_3 : f55[3]? = some (.int 0)) (f55_4 : f55[4]? = some (.int 0)) (o119 : g 119 = .inr (12, f119)) (f119_60 : f119[60]? = some (.int 0)) (hO : cO D cy (fun q : Nat => s.heap.size ≤ q) s.heap s 173 ad (cup [] g) H locs) (hce : cells + 0 ≤ 600000) (hsl : slots + 0 ≤ 7302250) (hl : lv_has ls 4 [(0, .ref b), (1, .ref (ad 0)), (2, .ref (ad 119)), (3, .int 0)]) : W p l e room_1 s m #[Value.ref b] below meth c H locs cells slots (lw_Z below #[Value.ref b] s) (F0 m 535 ls []) := by
  obtain ⟨hx, hb, hml, hown, hts⟩ := id hC
  refine lv_aload_n hx hb dL_law_535 rfl (lv_at hl 1 rfl) ?_
  refine cg_Vi (As := []) (rest := []) (mc := 0) (ms := 0) (rm := { frames := 1, cells := 0, slots := 0, locals := 21 }) hC hl.1 hO [0, 55, 38] (by decide +kernel) (c_X11_redo l D cy _ _ (f0 := f0) (f2 := f38) (f1 := f55) o0 f0_4 f0_6 o55 f55_3 f55_4 o38) gL_c_X11_redo rfl rfl rfl 0 (by decide +kernel) ⟨Nat.le_of_ble_eq_true rfl, Nat.le_of_ble_eq_true rfl⟩ rfl (by decide) o0 rfl rfl (Nat.le_of_ble_eq_true rfl) dL_law_536 ⟨hce, hsl⟩ (fun r0 nw0 l0 H locs hw hO => ?_)
  obtain rfl := hw
  have hm := cm_far (N := 173) (k := 3) (M := 119) (ps := [0, 55, 38]) (by decide +kernel) (by decide +kernel) l0 [] g
  refine lv_aload_n hx hb dL_law_539 rfl (lv_at hl 2 rfl) ?_
  refine cg_Vi (As := []) (rest := [.int 0]) (mc := 0) (ms := 0) (rm := { frames := 0, cells := 0, slots := 0, locals := 0 }) hC hl.1 hO [119] (by decide +kernel) (c_X12_redo l D cy _ _ (f0 := f119) ((hm 119 (by decide) (by decide)).trans o119) f119_60) gL_c_X12_redo rfl rfl rfl 0 (by decide +kernel) ⟨Nat.le_of_ble_eq_true rfl, Nat.le_of_ble_eq_true rfl⟩ rfl (by decide) ((hm 119 (by decide) (by decide)).trans o119) rfl rfl (Nat.le_of_ble_eq_true rfl) dL_law_540 ⟨hce, hsl⟩ (fun r1 nw1 l1 H locs hw hO => ?_)
  obtain rfl := hw
  refine lv_icmp_eq (tgt := 917) hx hb dL_law_543 (by decide) (fun _ => ?_) (fun h => absurd rfl h)
  exact law_tail l hC hr hlk hX hbl hO hce hsl (lv_sub hl [0, 3] rfl)

theorem dL_law_548 : decode cL_law 548 = .ok (.aload_n 1, 1) := by decide +kernel
theorem dL_law_549 : decode cL_law 549 = .ok (.aload_n 0, 1) := by decide +kernel
theorem dL_law_550 : decode cL_law 550 = .ok (.iload_n 3, 1) := by decide +kernel
theorem dL_law_551 : decode cL_law 551 = .ok (.iconst 1, 1) := by decide +kernel
theorem dL_law_552 : decode cL_law 552 = .ok (.iadd, 1) := by decide +kernel
theorem dL_law_553 : decode cL_law 553 = .ok (.iaload, 1) := by decide +kernel
theorem dL_law_554 : decode cL_law 554 = .ok (.aload_n 0, 1) := by decide +kernel
theorem dL_law_555 : decode cL_law 555 = .ok (.iload_n 3, 1) := by decide +kernel
theorem dL_law_556 : decode cL_law 556 = .ok (.iconst 2, 1) := by decide +kernel
theorem dL_law_557 : decode cL_law 557 = .ok (.iadd, 1) := by decide +kernel
theorem dL_law_558 : decode cL_law 558 = .ok (.iaload, 1) := by decide +kernel
theorem dL_law_559 : decode cL_law 559 = .ok (.aload_n 0, 1) := by decide +kernel
theorem dL_law_560 : decode cL_law 560 = .ok (.iload_n 3, 1) := by decide +kernel
theorem dL_law_561 : decode cL_law 561 = .ok (.iconst 3, 1) := by decide +kernel
theorem dL_law_562 : decode cL_law 562 = .ok (.iadd, 1) := by decide +kernel
theorem dL_law_563 : decode cL_law 563 = .ok (.iaload, 1) := by decide +kernel
theorem dL_law_564 : decode cL_law 564 = .ok (.aload_n 0, 1) := by decide +kernel
theorem dL_law_565 : decode cL_law 565 = .ok (.iload_n 3, 1) := by decide +kernel
theorem dL_law_566 : decode cL_law 566 = .ok (.iconst 4, 1) := by decide +kernel
theorem dL_law_567 : decode cL_law 567 = .ok (.iadd, 1) := by decide +kernel
theorem dL_law_568 : decode cL_law 568 = .ok (.iaload, 1) := by decide +kernel
theorem dL_law_569 : decode cL_law 569 = .ok (.aload_n 0, 1) := by decide +kernel
theorem dL_law_570 : decode cL_law 570 = .ok (.iload_n 3, 1) := by decide +kernel
theorem dL_law_571 : decode cL_law 571 = .ok (.iconst 5, 1) := by decide +kernel
theorem dL_law_572 : decode cL_law 572 = .ok (.iadd, 1) := by decide +kernel
theorem dL_law_573 : decode cL_law 573 = .ok (.iaload, 1) := by decide +kernel
theorem dL_law_574 : decode cL_law 574 = .ok (.invokevirtual 74, 3) := by decide +kernel
theorem dL_law_577 : decode cL_law 577 = .ok (.aload_n 2, 1) := by decide +kernel
theorem dL_law_578 : decode cL_law 578 = .ok (.aload_n 0, 1) := by decide +kernel
theorem dL_law_579 : decode cL_law 579 = .ok (.iload_n 3, 1) := by decide +kernel
theorem dL_law_580 : decode cL_law 580 = .ok (.iconst 1, 1) := by decide +kernel
theorem dL_law_581 : decode cL_law 581 = .ok (.iadd, 1) := by decide +kernel
theorem dL_law_582 : decode cL_law 582 = .ok (.iaload, 1) := by decide +kernel
theorem dL_law_583 : decode cL_law 583 = .ok (.aload_n 0, 1) := by decide +kernel
theorem dL_law_584 : decode cL_law 584 = .ok (.iload_n 3, 1) := by decide +kernel
theorem dL_law_585 : decode cL_law 585 = .ok (.iconst 2, 1) := by decide +kernel
theorem dL_law_586 : decode cL_law 586 = .ok (.iadd, 1) := by decide +kernel
theorem dL_law_587 : decode cL_law 587 = .ok (.iaload, 1) := by decide +kernel
theorem dL_law_588 : decode cL_law 588 = .ok (.aload_n 0, 1) := by decide +kernel
theorem dL_law_589 : decode cL_law 589 = .ok (.iload_n 3, 1) := by decide +kernel
theorem dL_law_590 : decode cL_law 590 = .ok (.iconst 3, 1) := by decide +kernel
theorem dL_law_591 : decode cL_law 591 = .ok (.iadd, 1) := by decide +kernel
theorem dL_law_592 : decode cL_law 592 = .ok (.iaload, 1) := by decide +kernel
theorem dL_law_593 : decode cL_law 593 = .ok (.aload_n 0, 1) := by decide +kernel
theorem dL_law_594 : decode cL_law 594 = .ok (.iload_n 3, 1) := by decide +kernel
theorem dL_law_595 : decode cL_law 595 = .ok (.iconst 4, 1) := by decide +kernel
theorem dL_law_596 : decode cL_law 596 = .ok (.iadd, 1) := by decide +kernel
theorem dL_law_597 : decode cL_law 597 = .ok (.iaload, 1) := by decide +kernel
theorem dL_law_598 : decode cL_law 598 = .ok (.aload_n 0, 1) := by decide +kernel
theorem dL_law_599 : decode cL_law 599 = .ok (.iload_n 3, 1) := by decide +kernel
theorem dL_law_600 : decode cL_law 600 = .ok (.iconst 5, 1) := by decide +kernel
theorem dL_law_601 : decode cL_law 601 = .ok (.iadd, 1) := by decide +kernel
theorem dL_law_602 : decode cL_law 602 = .ok (.iaload, 1) := by decide +kernel
theorem dL_law_603 : decode cL_law 603 = .ok (.invokevirtual 77, 3) := by decide +kernel
theorem dL_law_606 : decode cL_law 606 = .ok (.if_icmp .eq 311, 3) := by decide +kernel
set_option maxHeartbeats 8000000 in
set_option maxRecDepth 100000 in
theorem lc_party {p : Program} {e : Env} {s : State} {m : MethodId} {below : List Frame} {meth : Method} {c : Code} (l : Launch) {b : Nat} {xs : Nat → Int32} {D : va_G} {cy : Nat → ClassId} {ad : Nat → Nat} {g : Nat → va_E} {H : Heap} {locs : List Loc} {cells slots : Nat} {ls : Array Slot} {f0 : List Value} {f21 : List Value} {c30 : Nat → Int32} {c31 : Nat → Int32} {f38 : List Value} {c39 : Nat → Int32} {c41 : Nat → Int32} {f74 : List Value} {c75 : Nat → Int32} {c78 : Nat → Int32} {f80 : List Value} {c81 : Nat → Int32} {c82 : Nat → Int32} {c83 : Nat → Int32} {c84 : Nat → Int32} {c85 : Nat → Int32} {c86 : Nat → Int32} {c87 : Nat → Int32} {c118 : Nat → Int32} {f119 : List Value} {c148 : Nat → Int32} {c149 : Nat → Int32} {c153 : Nat → Int32} {c155 : Nat → Int32} {c160 : Nat → Int32} (hC : CallFix p m c code 4 s #[Value.ref b] lw_tbl RL) (hr : meth.sig.returnType = ret) (hlk : meth.locks = false) (hX : va_X b 6 xs s s.heap) (hbl : b < s.heap.size) (o0 : g 0 = .inr (11, f0)) (f0_4 : f0[4]? = some (.ref (ad 38))) (f0_9 : f0[9]? = some (.ref (ad 74))) (f0_12 : f0[12]? = some (.ref (ad 118))) (f0_13 : f0[13]? = some (.int 0)) (o21 : g 21 = .inr (7, f21)) (f21_9 : f21[9]? = some (.ref (ad 30))) (f21_10 : f21[10]? = some (.ref (ad 31))) (f21_11 : f21[11]? = some (.int 0)) (a30 : g 30 = .inl (cy 0, 20, .inl c30)) (a31 : g 31 = .inl (cy 0, 4, .inl c31)) (o38 : g 38 = .inr (9, f38)) (f38_0 : f38[0]? = some (.ref (ad 39))) (f38_3 : f38[3]? = some (.ref (ad 41))) (f38_4 : f38[4]? = some (.int 0)) (a39 : g 39 = .inl (cy 0, 24, .inl c39)) (a41 : g 41 = .inl (cy 0, 5, .inl c41)) (o74 : g 74 = .inr (2, f74)) (f74_0 : f74[0]? = some (.ref (ad 21))) (f74_1 : f74[1]? = some (.ref (ad 38))) (f74_3 : f74[3]? = some (.ref (ad 80))) (f74_4 : f74[4]? = some (.ref (ad 75))) (f74_5 : f74[5]? = some (.int 0)) (f74_8 : f74[8]? = some (.ref (ad 78))) (a75 : g 75 = .inl (cy 0, 24, .inl c75)) (a78 : g 78 = .inl (cy 0, 3, .inl c78)) (o80 : g 80 = .inr (10, f80)) (f80_0 : f80[0]? = some (.ref (ad 21))) (f80_1 : f80[1]? = some (.ref (ad 81))) (f80_2 : f80[2]? = some (.ref (ad 82))) (f80_3 : f80[3]? = some (.ref (ad 83))) (f80_4 : f80[4]? = some (.ref (ad 84))) (f80_5 : f80[5]? = some (.ref (ad 85))) (f80_6 : f80[6]? = some (.ref (ad 86))) (f80_7 : f80[7]? = some (.ref (ad 87))) (a81 : g 81 = .inl (cy 0, 5, .inl c81)) (a82 : g 82 = .inl (cy 0, 20, .inl c82)) (a83 : g 83 = .inl (cy 0, 4, .inl c83)) (a84 : g 84 = .inl (cy 0, 5, .inl c84)) (a85 : g 85 = .inl (cy 0, 5, .inl c85)) (a86 : g 86 = .inl (cy 0, 5, .inl c86)) (a87 : g 87 = .inl (cy 0, 5, .inl c87)) (a118 : g 118 = .inl (cy 0, 24, .inl c118)) (o119 : g 119 = .inr (12, f119)) (f119_12 : f119[12]? = some (.ref (ad 123))) (f119_36 : f119[36]? = some (.int 0)) (f119_41 : f119[41]? = some (.ref (ad 147))) (f119_42 : f119[42]? = some (.ref (ad 148))) (f119_43 : f119[43]? = some (.ref (ad 149))) (f119_44 : f119[44]? = some (.ref (ad 150))) (f119_47 : f119[47]? = some (.ref (ad 153))) (f119_48 : f119[48]? = some (.ref (ad 154))) (f119_49 : f119[49]? = some (.ref (ad 155))) (f119_50 : f119[50]? = some (.ref (ad 156))) (f119_53 : f119[53]? = some (.ref (ad 159))) (f119_54 : f119[54]? = some (.ref (ad 160))) (f119_55 : f119[55]? = some (.ref (ad 161))) (f119_56 : f119[56]? = some (.int 0)) (f119_57 : f119[57]? = some (.int 0)) (f119_61 : f119[61]? = some (.ref (ad 163))) (f119_62 : f119[62]? = some (.int 0)) (a123 : g 123 = .inl (cy 0, 2, .inl (fun _ => 0))) (a147 : g 147 = .inl (cy 0, 80, .inl (fun _ => 0))) (a148 : g 148 = .inl (cy 0, 30, .inl c148)) (a149 : g 149 = .inl (cy 0, 30, .inl c149)) (a150 : g 150 = .inl (cy 0, 5, .inl (fun _ => 0))) (a153 : g 153 = .inl (cy 0, 30, .inl c153)) (a154 : g 154 = .inl (cy 0, 120, .inl (fun _ => 0))) (a155 : g 155 = .inl (cy 0, 120, .inl c155)) (a156 : g 156 = .inl (cy 0, 5, .inl (fun _ => 0))) (a159 : g 159 = .inl (cy 0, 5, .inl (fun _ => 0))) (a160 : g 160 = .inl (cy 2, 30, .inl c160)) (a161 : g 161 = .inl (cy 2, 5, .inl (fun _ => 0))) (a163 : g 163 = .inl (cy 0, 24, .inl (fun _ => 0))) (hO : cO D cy (fun q : Nat => s.heap.size ≤ q) s.heap s 173 ad (cup [] g) H locs) (hce : cells + 0 ≤ 600000) (hsl : slots + 0 ≤ 7302250) (hl : lv_has ls 4 [(0, .ref b), (1, .ref (ad 0)), (2, .ref (ad 119)), (3, .int 0)]) : W p l e room_1 s m #[Value.ref b] below meth c H locs cells slots (lw_Z below #[Value.ref b] s) (F0 m 548 ls []) := by
  obtain ⟨hx, hb, hml, hown, hts⟩ := id hC
  refine lv_aload_n hx hb dL_law_548 rfl (lv_at hl 1 rfl) ?_
  refine lv_aload_n hx hb dL_law_549 rfl (lv_at hl 0 rfl) ?_
  refine lv_iload_n hx hb dL_law_550 rfl (lv_at hl 3 rfl) ?_
  refine lv_iconst (v := 1) hx hb dL_law_551 (by decide) ?_
  refine lv_iadd hx hb dL_law_552 ?_
  refine cg_ev (v := 1) (by decide) ?_
  refine va_sld hx hb hX hbl (Nat.not_le.mpr hbl) hO.2.2.2.1 (cin (by decide)) dL_law_553 ?_
  refine cg_ev (v := xs 1) rfl ?_
  refine lv_aload_n hx hb dL_law_554 rfl (lv_at hl 0 rfl) ?_
  refine lv_iload_n hx hb dL_law_555 rfl (lv_at hl 3 rfl) ?_
  refine lv_iconst (v := 2) hx hb dL_law_556 (by decide) ?_
  refine lv_iadd hx hb dL_law_557 ?_
  refine cg_ev (v := 2) (by decide) ?_
  refine va_sld hx hb hX hbl (Nat.not_le.mpr hbl) hO.2.2.2.1 (cin (by decide)) dL_law_558 ?_
  refine cg_ev (v := xs 2) rfl ?_
  refine lv_aload_n hx hb dL_law_559 rfl (lv_at hl 0 rfl) ?_
  refine lv_iload_n hx hb dL_law_560 rfl (lv_at hl 3 rfl) ?_
  refine lv_iconst (v := 3) hx hb dL_law_561 (by decide) ?_
  refine lv_iadd hx hb dL_law_562 ?_
  refine cg_ev (v := 3) (by decide) ?_
  refine va_sld hx hb hX hbl (Nat.not_le.mpr hbl) hO.2.2.2.1 (cin (by decide)) dL_law_563 ?_
  refine cg_ev (v := xs 3) rfl ?_
  refine lv_aload_n hx hb dL_law_564 rfl (lv_at hl 0 rfl) ?_
  refine lv_iload_n hx hb dL_law_565 rfl (lv_at hl 3 rfl) ?_
  refine lv_iconst (v := 4) hx hb dL_law_566 (by decide) ?_
  refine lv_iadd hx hb dL_law_567 ?_
  refine cg_ev (v := 4) (by decide) ?_
  refine va_sld hx hb hX hbl (Nat.not_le.mpr hbl) hO.2.2.2.1 (cin (by decide)) dL_law_568 ?_
  refine cg_ev (v := xs 4) rfl ?_
  refine lv_aload_n hx hb dL_law_569 rfl (lv_at hl 0 rfl) ?_
  refine lv_iload_n hx hb dL_law_570 rfl (lv_at hl 3 rfl) ?_
  refine lv_iconst (v := 5) hx hb dL_law_571 (by decide) ?_
  refine lv_iadd hx hb dL_law_572 ?_
  refine cg_ev (v := 5) (by decide) ?_
  refine va_sld hx hb hX hbl (Nat.not_le.mpr hbl) hO.2.2.2.1 (cin (by decide)) dL_law_573 ?_
  refine cg_ev (v := xs 5) rfl ?_
  refine cg_Vi (As := [.int (xs 1), .int (xs 2), .int (xs 3), .int (xs 4), .int (xs 5)]) (rest := []) (mc := 0) (ms := 0) (rm := { frames := 5, cells := 0, slots := 0, locals := 129 }) hC hl.1 hO [0, 38, 74, 21, 30, 31, 39, 41, 80, 81, 82, 83, 84, 85, 86, 87, 75, 78, 118] (by decide +kernel) (c_X11_party l D cy _ _ (f0 := f0) (f1 := f38) (f2 := f74) (f3 := f21) (f8 := f80) (x1 := (xs 1)) (x2 := (xs 2)) (x3 := (xs 3)) (x4 := (xs 4)) (x5 := (xs 5)) o0 f0_4 f0_9 f0_12 f0_13 o38 f38_0 f38_3 f38_4 o74 f74_0 f74_1 f74_3 f74_4 f74_5 f74_8 o21 f21_9 f21_10 f21_11 a30 a31 a39 a41 o80 f80_0 f80_1 f80_2 f80_3 f80_4 f80_5 f80_6 f80_7 a81 a82 a83 a84 a85 a86 a87 a75 a78 a118) gL_c_X11_party rfl rfl rfl 5 (by decide +kernel) ⟨Nat.le_of_ble_eq_true rfl, Nat.le_of_ble_eq_true rfl⟩ rfl (by decide) o0 rfl rfl (Nat.le_of_ble_eq_true rfl) dL_law_574 ⟨hce, hsl⟩ (fun r0 nw0 l0 H locs hw hO => ?_)
  obtain rfl := hw
  have hm := cm_far (N := 173) (k := 19) (M := 119) (ps := [0, 38, 74, 21, 30, 31, 39, 41, 80, 81, 82, 83, 84, 85, 86, 87, 75, 78, 118]) (by decide +kernel) (by decide +kernel) l0 [] g
  refine lv_aload_n hx hb dL_law_577 rfl (lv_at hl 2 rfl) ?_
  refine lv_aload_n hx hb dL_law_578 rfl (lv_at hl 0 rfl) ?_
  refine lv_iload_n hx hb dL_law_579 rfl (lv_at hl 3 rfl) ?_
  refine lv_iconst (v := 1) hx hb dL_law_580 (by decide) ?_
  refine lv_iadd hx hb dL_law_581 ?_
  refine cg_ev (v := 1) (by decide) ?_
  refine va_sld hx hb hX hbl (Nat.not_le.mpr hbl) hO.2.2.2.1 (cin (by decide)) dL_law_582 ?_
  refine cg_ev (v := xs 1) rfl ?_
  refine lv_aload_n hx hb dL_law_583 rfl (lv_at hl 0 rfl) ?_
  refine lv_iload_n hx hb dL_law_584 rfl (lv_at hl 3 rfl) ?_
  refine lv_iconst (v := 2) hx hb dL_law_585 (by decide) ?_
  refine lv_iadd hx hb dL_law_586 ?_
  refine cg_ev (v := 2) (by decide) ?_
  refine va_sld hx hb hX hbl (Nat.not_le.mpr hbl) hO.2.2.2.1 (cin (by decide)) dL_law_587 ?_
  refine cg_ev (v := xs 2) rfl ?_
  refine lv_aload_n hx hb dL_law_588 rfl (lv_at hl 0 rfl) ?_
  refine lv_iload_n hx hb dL_law_589 rfl (lv_at hl 3 rfl) ?_
  refine lv_iconst (v := 3) hx hb dL_law_590 (by decide) ?_
  refine lv_iadd hx hb dL_law_591 ?_
  refine cg_ev (v := 3) (by decide) ?_
  refine va_sld hx hb hX hbl (Nat.not_le.mpr hbl) hO.2.2.2.1 (cin (by decide)) dL_law_592 ?_
  refine cg_ev (v := xs 3) rfl ?_
  refine lv_aload_n hx hb dL_law_593 rfl (lv_at hl 0 rfl) ?_
  refine lv_iload_n hx hb dL_law_594 rfl (lv_at hl 3 rfl) ?_
  refine lv_iconst (v := 4) hx hb dL_law_595 (by decide) ?_
  refine lv_iadd hx hb dL_law_596 ?_
  refine cg_ev (v := 4) (by decide) ?_
  refine va_sld hx hb hX hbl (Nat.not_le.mpr hbl) hO.2.2.2.1 (cin (by decide)) dL_law_597 ?_
  refine cg_ev (v := xs 4) rfl ?_
  refine lv_aload_n hx hb dL_law_598 rfl (lv_at hl 0 rfl) ?_
  refine lv_iload_n hx hb dL_law_599 rfl (lv_at hl 3 rfl) ?_
  refine lv_iconst (v := 5) hx hb dL_law_600 (by decide) ?_
  refine lv_iadd hx hb dL_law_601 ?_
  refine cg_ev (v := 5) (by decide) ?_
  refine va_sld hx hb hX hbl (Nat.not_le.mpr hbl) hO.2.2.2.1 (cin (by decide)) dL_law_602 ?_
  refine cg_ev (v := xs 5) rfl ?_
  refine cg_Vi (As := [.int (xs 1), .int (xs 2), .int (xs 3), .int (xs 4), .int (xs 5)]) (rest := [.int (ans_party (xs 1) (xs 2) (xs 3) (xs 4) (xs 5))]) (mc := 0) (ms := 0) (rm := { frames := 4, cells := 0, slots := 0, locals := 93 }) hC hl.1 hO [119, 147, 123, 148, 149, 150, 153, 154, 155, 156, 159, 160, 161, 163] (by decide +kernel) (c_X12_party l D cy _ _ (f0 := f119) (x1 := (xs 1)) (x2 := (xs 2)) (x3 := (xs 3)) (x4 := (xs 4)) (x5 := (xs 5)) ((hm 119 (by decide) (by decide)).trans o119) f119_12 f119_36 f119_41 f119_42 f119_43 f119_44 f119_47 f119_48 f119_49 f119_50 f119_53 f119_54 f119_55 f119_56 f119_57 f119_61 f119_62 ((hm 147 (by decide) (by decide)).trans a147) ((hm 123 (by decide) (by decide)).trans a123) ((hm 148 (by decide) (by decide)).trans a148) ((hm 149 (by decide) (by decide)).trans a149) ((hm 150 (by decide) (by decide)).trans a150) ((hm 153 (by decide) (by decide)).trans a153) ((hm 154 (by decide) (by decide)).trans a154) ((hm 155 (by decide) (by decide)).trans a155) ((hm 156 (by decide) (by decide)).trans a156) ((hm 159 (by decide) (by decide)).trans a159) ((hm 160 (by decide) (by decide)).trans a160) ((hm 161 (by decide) (by decide)).trans a161) ((hm 163 (by decide) (by decide)).trans a163)) gL_c_X12_party rfl rfl rfl 5 (by decide +kernel) ⟨Nat.le_of_ble_eq_true rfl, Nat.le_of_ble_eq_true rfl⟩ rfl (by decide) ((hm 119 (by decide) (by decide)).trans o119) rfl rfl (Nat.le_of_ble_eq_true rfl) dL_law_603 ⟨hce, hsl⟩ (fun r1 nw1 l1 H locs hw hO => ?_)
  obtain rfl := hw
  refine lv_icmp_eq (tgt := 917) hx hb dL_law_606 (by decide) (fun _ => ?_) (fun h => absurd rfl h)
  exact law_tail l hC hr hlk hX hbl hO hce hsl (lv_sub hl [0, 3] rfl)

theorem dL_law_611 : decode cL_law 611 = .ok (.aload_n 1, 1) := by decide +kernel
theorem dL_law_612 : decode cL_law 612 = .ok (.aload_n 0, 1) := by decide +kernel
theorem dL_law_613 : decode cL_law 613 = .ok (.iload_n 3, 1) := by decide +kernel
theorem dL_law_614 : decode cL_law 614 = .ok (.iconst 1, 1) := by decide +kernel
theorem dL_law_615 : decode cL_law 615 = .ok (.iadd, 1) := by decide +kernel
theorem dL_law_616 : decode cL_law 616 = .ok (.iaload, 1) := by decide +kernel
theorem dL_law_617 : decode cL_law 617 = .ok (.aload_n 0, 1) := by decide +kernel
theorem dL_law_618 : decode cL_law 618 = .ok (.iload_n 3, 1) := by decide +kernel
theorem dL_law_619 : decode cL_law 619 = .ok (.iconst 2, 1) := by decide +kernel
theorem dL_law_620 : decode cL_law 620 = .ok (.iadd, 1) := by decide +kernel
theorem dL_law_621 : decode cL_law 621 = .ok (.iaload, 1) := by decide +kernel
theorem dL_law_622 : decode cL_law 622 = .ok (.aload_n 0, 1) := by decide +kernel
theorem dL_law_623 : decode cL_law 623 = .ok (.iload_n 3, 1) := by decide +kernel
theorem dL_law_624 : decode cL_law 624 = .ok (.iconst 3, 1) := by decide +kernel
theorem dL_law_625 : decode cL_law 625 = .ok (.iadd, 1) := by decide +kernel
theorem dL_law_626 : decode cL_law 626 = .ok (.iaload, 1) := by decide +kernel
theorem dL_law_627 : decode cL_law 627 = .ok (.invokevirtual 78, 3) := by decide +kernel
theorem dL_law_630 : decode cL_law 630 = .ok (.aload_n 2, 1) := by decide +kernel
theorem dL_law_631 : decode cL_law 631 = .ok (.aload_n 0, 1) := by decide +kernel
theorem dL_law_632 : decode cL_law 632 = .ok (.iload_n 3, 1) := by decide +kernel
theorem dL_law_633 : decode cL_law 633 = .ok (.iconst 1, 1) := by decide +kernel
theorem dL_law_634 : decode cL_law 634 = .ok (.iadd, 1) := by decide +kernel
theorem dL_law_635 : decode cL_law 635 = .ok (.iaload, 1) := by decide +kernel
theorem dL_law_636 : decode cL_law 636 = .ok (.aload_n 0, 1) := by decide +kernel
theorem dL_law_637 : decode cL_law 637 = .ok (.iload_n 3, 1) := by decide +kernel
theorem dL_law_638 : decode cL_law 638 = .ok (.iconst 2, 1) := by decide +kernel
theorem dL_law_639 : decode cL_law 639 = .ok (.iadd, 1) := by decide +kernel
theorem dL_law_640 : decode cL_law 640 = .ok (.iaload, 1) := by decide +kernel
theorem dL_law_641 : decode cL_law 641 = .ok (.aload_n 0, 1) := by decide +kernel
theorem dL_law_642 : decode cL_law 642 = .ok (.iload_n 3, 1) := by decide +kernel
theorem dL_law_643 : decode cL_law 643 = .ok (.iconst 3, 1) := by decide +kernel
theorem dL_law_644 : decode cL_law 644 = .ok (.iadd, 1) := by decide +kernel
theorem dL_law_645 : decode cL_law 645 = .ok (.iaload, 1) := by decide +kernel
theorem dL_law_646 : decode cL_law 646 = .ok (.invokevirtual 82, 3) := by decide +kernel
theorem dL_law_649 : decode cL_law 649 = .ok (.if_icmp .eq 268, 3) := by decide +kernel
set_option maxHeartbeats 8000000 in
set_option maxRecDepth 100000 in
theorem lc_heaps {p : Program} {e : Env} {s : State} {m : MethodId} {below : List Frame} {meth : Method} {c : Code} (l : Launch) {b : Nat} {xs : Nat → Int32} {D : va_G} {cy : Nat → ClassId} {ad : Nat → Nat} {g : Nat → va_E} {H : Heap} {locs : List Loc} {cells slots : Nat} {ls : Array Slot} {f0 : List Value} {f21 : List Value} {c30 : Nat → Int32} {c31 : Nat → Int32} {f38 : List Value} {c39 : Nat → Int32} {c41 : Nat → Int32} {f74 : List Value} {c75 : Nat → Int32} {f80 : List Value} {c81 : Nat → Int32} {c82 : Nat → Int32} {c83 : Nat → Int32} {c84 : Nat → Int32} {c85 : Nat → Int32} {c86 : Nat → Int32} {c87 : Nat → Int32} {f119 : List Value} {c148 : Nat → Int32} {c149 : Nat → Int32} {c153 : Nat → Int32} {c155 : Nat → Int32} {c160 : Nat → Int32} (hC : CallFix p m c code 4 s #[Value.ref b] lw_tbl RL) (hr : meth.sig.returnType = ret) (hlk : meth.locks = false) (hX : va_X b 6 xs s s.heap) (hbl : b < s.heap.size) (o0 : g 0 = .inr (11, f0)) (f0_4 : f0[4]? = some (.ref (ad 38))) (f0_9 : f0[9]? = some (.ref (ad 74))) (o21 : g 21 = .inr (7, f21)) (f21_9 : f21[9]? = some (.ref (ad 30))) (f21_10 : f21[10]? = some (.ref (ad 31))) (f21_11 : f21[11]? = some (.int 0)) (a30 : g 30 = .inl (cy 0, 20, .inl c30)) (a31 : g 31 = .inl (cy 0, 4, .inl c31)) (o38 : g 38 = .inr (9, f38)) (f38_0 : f38[0]? = some (.ref (ad 39))) (f38_3 : f38[3]? = some (.ref (ad 41))) (f38_4 : f38[4]? = some (.int 0)) (a39 : g 39 = .inl (cy 0, 24, .inl c39)) (a41 : g 41 = .inl (cy 0, 5, .inl c41)) (o74 : g 74 = .inr (2, f74)) (f74_0 : f74[0]? = some (.ref (ad 21))) (f74_1 : f74[1]? = some (.ref (ad 38))) (f74_3 : f74[3]? = some (.ref (ad 80))) (f74_4 : f74[4]? = some (.ref (ad 75))) (f74_5 : f74[5]? = some (.int 0)) (f74_10 : f74[10]? = some (.int 0)) (a75 : g 75 = .inl (cy 0, 24, .inl c75)) (o80 : g 80 = .inr (10, f80)) (f80_0 : f80[0]? = some (.ref (ad 21))) (f80_1 : f80[1]? = some (.ref (ad 81))) (f80_2 : f80[2]? = some (.ref (ad 82))) (f80_3 : f80[3]? = some (.ref (ad 83))) (f80_4 : f80[4]? = some (.ref (ad 84))) (f80_5 : f80[5]? = some (.ref (ad 85))) (f80_6 : f80[6]? = some (.ref (ad 86))) (f80_7 : f80[7]? = some (.ref (ad 87))) (a81 : g 81 = .inl (cy 0, 5, .inl c81)) (a82 : g 82 = .inl (cy 0, 20, .inl c82)) (a83 : g 83 = .inl (cy 0, 4, .inl c83)) (a84 : g 84 = .inl (cy 0, 5, .inl c84)) (a85 : g 85 = .inl (cy 0, 5, .inl c85)) (a86 : g 86 = .inl (cy 0, 5, .inl c86)) (a87 : g 87 = .inl (cy 0, 5, .inl c87)) (o119 : g 119 = .inr (12, f119)) (f119_12 : f119[12]? = some (.ref (ad 123))) (f119_36 : f119[36]? = some (.int 0)) (f119_41 : f119[41]? = some (.ref (ad 147))) (f119_42 : f119[42]? = some (.ref (ad 148))) (f119_43 : f119[43]? = some (.ref (ad 149))) (f119_44 : f119[44]? = some (.ref (ad 150))) (f119_47 : f119[47]? = some (.ref (ad 153))) (f119_48 : f119[48]? = some (.ref (ad 154))) (f119_49 : f119[49]? = some (.ref (ad 155))) (f119_50 : f119[50]? = some (.ref (ad 156))) (f119_53 : f119[53]? = some (.ref (ad 159))) (f119_54 : f119[54]? = some (.ref (ad 160))) (f119_55 : f119[55]? = some (.ref (ad 161))) (f119_56 : f119[56]? = some (.int 0)) (f119_57 : f119[57]? = some (.int 0)) (a123 : g 123 = .inl (cy 0, 2, .inl (fun _ => 0))) (a147 : g 147 = .inl (cy 0, 80, .inl (fun _ => 0))) (a148 : g 148 = .inl (cy 0, 30, .inl c148)) (a149 : g 149 = .inl (cy 0, 30, .inl c149)) (a150 : g 150 = .inl (cy 0, 5, .inl (fun _ => 0))) (a153 : g 153 = .inl (cy 0, 30, .inl c153)) (a154 : g 154 = .inl (cy 0, 120, .inl (fun _ => 0))) (a155 : g 155 = .inl (cy 0, 120, .inl c155)) (a156 : g 156 = .inl (cy 0, 5, .inl (fun _ => 0))) (a159 : g 159 = .inl (cy 0, 5, .inl (fun _ => 0))) (a160 : g 160 = .inl (cy 2, 30, .inl c160)) (a161 : g 161 = .inl (cy 2, 5, .inl (fun _ => 0))) (hO : cO D cy (fun q : Nat => s.heap.size ≤ q) s.heap s 173 ad (cup [] g) H locs) (hce : cells + 0 ≤ 600000) (hsl : slots + 0 ≤ 7302250) (hl : lv_has ls 4 [(0, .ref b), (1, .ref (ad 0)), (2, .ref (ad 119)), (3, .int 0)]) : W p l e room_1 s m #[Value.ref b] below meth c H locs cells slots (lw_Z below #[Value.ref b] s) (F0 m 611 ls []) := by
  obtain ⟨hx, hb, hml, hown, hts⟩ := id hC
  refine lv_aload_n hx hb dL_law_611 rfl (lv_at hl 1 rfl) ?_
  refine lv_aload_n hx hb dL_law_612 rfl (lv_at hl 0 rfl) ?_
  refine lv_iload_n hx hb dL_law_613 rfl (lv_at hl 3 rfl) ?_
  refine lv_iconst (v := 1) hx hb dL_law_614 (by decide) ?_
  refine lv_iadd hx hb dL_law_615 ?_
  refine cg_ev (v := 1) (by decide) ?_
  refine va_sld hx hb hX hbl (Nat.not_le.mpr hbl) hO.2.2.2.1 (cin (by decide)) dL_law_616 ?_
  refine cg_ev (v := xs 1) rfl ?_
  refine lv_aload_n hx hb dL_law_617 rfl (lv_at hl 0 rfl) ?_
  refine lv_iload_n hx hb dL_law_618 rfl (lv_at hl 3 rfl) ?_
  refine lv_iconst (v := 2) hx hb dL_law_619 (by decide) ?_
  refine lv_iadd hx hb dL_law_620 ?_
  refine cg_ev (v := 2) (by decide) ?_
  refine va_sld hx hb hX hbl (Nat.not_le.mpr hbl) hO.2.2.2.1 (cin (by decide)) dL_law_621 ?_
  refine cg_ev (v := xs 2) rfl ?_
  refine lv_aload_n hx hb dL_law_622 rfl (lv_at hl 0 rfl) ?_
  refine lv_iload_n hx hb dL_law_623 rfl (lv_at hl 3 rfl) ?_
  refine lv_iconst (v := 3) hx hb dL_law_624 (by decide) ?_
  refine lv_iadd hx hb dL_law_625 ?_
  refine cg_ev (v := 3) (by decide) ?_
  refine va_sld hx hb hX hbl (Nat.not_le.mpr hbl) hO.2.2.2.1 (cin (by decide)) dL_law_626 ?_
  refine cg_ev (v := xs 3) rfl ?_
  refine cg_Vi (As := [.int (xs 1), .int (xs 2), .int (xs 3)]) (rest := []) (mc := 0) (ms := 0) (rm := { frames := 5, cells := 0, slots := 0, locals := 126 }) hC hl.1 hO [0, 38, 74, 21, 30, 31, 39, 41, 80, 81, 82, 83, 84, 85, 86, 87, 75] (by decide +kernel) (c_X11_heaps l D cy _ _ (f0 := f0) (f1 := f38) (f2 := f74) (f3 := f21) (f8 := f80) (x1 := (xs 1)) (x2 := (xs 2)) (x3 := (xs 3)) o0 f0_4 f0_9 o38 f38_0 f38_3 f38_4 o74 f74_0 f74_1 f74_3 f74_4 f74_5 f74_10 o21 f21_9 f21_10 f21_11 a30 a31 a39 a41 o80 f80_0 f80_1 f80_2 f80_3 f80_4 f80_5 f80_6 f80_7 a81 a82 a83 a84 a85 a86 a87 a75) gL_c_X11_heaps rfl rfl rfl 3 (by decide +kernel) ⟨Nat.le_of_ble_eq_true rfl, Nat.le_of_ble_eq_true rfl⟩ rfl (by decide) o0 rfl rfl (Nat.le_of_ble_eq_true rfl) dL_law_627 ⟨hce, hsl⟩ (fun r0 nw0 l0 H locs hw hO => ?_)
  obtain rfl := hw
  have hm := cm_far (N := 173) (k := 17) (M := 119) (ps := [0, 38, 74, 21, 30, 31, 39, 41, 80, 81, 82, 83, 84, 85, 86, 87, 75]) (by decide +kernel) (by decide +kernel) l0 [] g
  refine lv_aload_n hx hb dL_law_630 rfl (lv_at hl 2 rfl) ?_
  refine lv_aload_n hx hb dL_law_631 rfl (lv_at hl 0 rfl) ?_
  refine lv_iload_n hx hb dL_law_632 rfl (lv_at hl 3 rfl) ?_
  refine lv_iconst (v := 1) hx hb dL_law_633 (by decide) ?_
  refine lv_iadd hx hb dL_law_634 ?_
  refine cg_ev (v := 1) (by decide) ?_
  refine va_sld hx hb hX hbl (Nat.not_le.mpr hbl) hO.2.2.2.1 (cin (by decide)) dL_law_635 ?_
  refine cg_ev (v := xs 1) rfl ?_
  refine lv_aload_n hx hb dL_law_636 rfl (lv_at hl 0 rfl) ?_
  refine lv_iload_n hx hb dL_law_637 rfl (lv_at hl 3 rfl) ?_
  refine lv_iconst (v := 2) hx hb dL_law_638 (by decide) ?_
  refine lv_iadd hx hb dL_law_639 ?_
  refine cg_ev (v := 2) (by decide) ?_
  refine va_sld hx hb hX hbl (Nat.not_le.mpr hbl) hO.2.2.2.1 (cin (by decide)) dL_law_640 ?_
  refine cg_ev (v := xs 2) rfl ?_
  refine lv_aload_n hx hb dL_law_641 rfl (lv_at hl 0 rfl) ?_
  refine lv_iload_n hx hb dL_law_642 rfl (lv_at hl 3 rfl) ?_
  refine lv_iconst (v := 3) hx hb dL_law_643 (by decide) ?_
  refine lv_iadd hx hb dL_law_644 ?_
  refine cg_ev (v := 3) (by decide) ?_
  refine va_sld hx hb hX hbl (Nat.not_le.mpr hbl) hO.2.2.2.1 (cin (by decide)) dL_law_645 ?_
  refine cg_ev (v := xs 3) rfl ?_
  refine cg_Vi (As := [.int (xs 1), .int (xs 2), .int (xs 3)]) (rest := [.int (ans_heaps (xs 1) (xs 2) (xs 3))]) (mc := 0) (ms := 0) (rm := { frames := 3, cells := 0, slots := 0, locals := 63 }) hC hl.1 hO [119, 147, 123, 150, 148, 149, 160, 153, 154, 155, 156, 159, 161] (by decide +kernel) (c_X12_heaps l D cy _ _ (f0 := f119) (x1 := (xs 1)) (x2 := (xs 2)) (x3 := (xs 3)) ((hm 119 (by decide) (by decide)).trans o119) f119_12 f119_36 f119_41 f119_42 f119_43 f119_44 f119_47 f119_48 f119_49 f119_50 f119_53 f119_54 f119_55 f119_56 f119_57 ((hm 147 (by decide) (by decide)).trans a147) ((hm 123 (by decide) (by decide)).trans a123) ((hm 150 (by decide) (by decide)).trans a150) ((hm 148 (by decide) (by decide)).trans a148) ((hm 149 (by decide) (by decide)).trans a149) ((hm 160 (by decide) (by decide)).trans a160) ((hm 153 (by decide) (by decide)).trans a153) ((hm 154 (by decide) (by decide)).trans a154) ((hm 155 (by decide) (by decide)).trans a155) ((hm 156 (by decide) (by decide)).trans a156) ((hm 159 (by decide) (by decide)).trans a159) ((hm 161 (by decide) (by decide)).trans a161)) gL_c_X12_heaps rfl rfl rfl 3 (by decide +kernel) ⟨Nat.le_of_ble_eq_true rfl, Nat.le_of_ble_eq_true rfl⟩ rfl (by decide) ((hm 119 (by decide) (by decide)).trans o119) rfl rfl (Nat.le_of_ble_eq_true rfl) dL_law_646 ⟨hce, hsl⟩ (fun r1 nw1 l1 H locs hw hO => ?_)
  obtain rfl := hw
  refine lv_icmp_eq (tgt := 917) hx hb dL_law_649 (by decide) (fun _ => ?_) (fun h => absurd rfl h)
  exact law_tail l hC hr hlk hX hbl hO hce hsl (lv_sub hl [0, 3] rfl)

theorem dL_law_654 : decode cL_law 654 = .ok (.aload_n 1, 1) := by decide +kernel
theorem dL_law_655 : decode cL_law 655 = .ok (.invokevirtual 83, 3) := by decide +kernel
theorem dL_law_658 : decode cL_law 658 = .ok (.aload_n 2, 1) := by decide +kernel
theorem dL_law_659 : decode cL_law 659 = .ok (.invokevirtual 86, 3) := by decide +kernel
theorem dL_law_662 : decode cL_law 662 = .ok (.if_icmp .eq 255, 3) := by decide +kernel
set_option maxHeartbeats 8000000 in
set_option maxRecDepth 100000 in
theorem lc_rest {p : Program} {e : Env} {s : State} {m : MethodId} {below : List Frame} {meth : Method} {c : Code} (l : Launch) {b : Nat} {xs : Nat → Int32} {D : va_G} {cy : Nat → ClassId} {ad : Nat → Nat} {g : Nat → va_E} {H : Heap} {locs : List Loc} {cells slots : Nat} {ls : Array Slot} {f0 : List Value} {f21 : List Value} {c30 : Nat → Int32} {c31 : Nat → Int32} {f38 : List Value} {c39 : Nat → Int32} {c41 : Nat → Int32} {f74 : List Value} {c76 : Nat → Int32} {c77 : Nat → Int32} {c79 : Nat → Int32} {f80 : List Value} {c81 : Nat → Int32} {c82 : Nat → Int32} {c83 : Nat → Int32} {c84 : Nat → Int32} {c85 : Nat → Int32} {c86 : Nat → Int32} {c87 : Nat → Int32} {c118 : Nat → Int32} {f119 : List Value} (hC : CallFix p m c code 4 s #[Value.ref b] lw_tbl RL) (hr : meth.sig.returnType = ret) (hlk : meth.locks = false) (hX : va_X b 6 xs s s.heap) (hbl : b < s.heap.size) (o0 : g 0 = .inr (11, f0)) (f0_4 : f0[4]? = some (.ref (ad 38))) (f0_9 : f0[9]? = some (.ref (ad 74))) (f0_12 : f0[12]? = some (.ref (ad 118))) (f0_13 : f0[13]? = some (.int 0)) (o21 : g 21 = .inr (7, f21)) (f21_9 : f21[9]? = some (.ref (ad 30))) (f21_10 : f21[10]? = some (.ref (ad 31))) (a30 : g 30 = .inl (cy 0, 20, .inl c30)) (a31 : g 31 = .inl (cy 0, 4, .inl c31)) (o38 : g 38 = .inr (9, f38)) (f38_0 : f38[0]? = some (.ref (ad 39))) (f38_3 : f38[3]? = some (.ref (ad 41))) (f38_4 : f38[4]? = some (.int 0)) (a39 : g 39 = .inl (cy 0, 24, .inl c39)) (a41 : g 41 = .inl (cy 0, 5, .inl c41)) (o74 : g 74 = .inr (2, f74)) (f74_1 : f74[1]? = some (.ref (ad 38))) (f74_3 : f74[3]? = some (.ref (ad 80))) (f74_5 : f74[5]? = some (.int 0)) (f74_6 : f74[6]? = some (.ref (ad 76))) (f74_7 : f74[7]? = some (.ref (ad 77))) (f74_9 : f74[9]? = some (.ref (ad 79))) (a76 : g 76 = .inl (cy 0, 24, .inl c76)) (a77 : g 77 = .inl (cy 0, 24, .inl c77)) (a79 : g 79 = .inl (cy 0, 24, .inl c79)) (o80 : g 80 = .inr (10, f80)) (f80_0 : f80[0]? = some (.ref (ad 21))) (f80_1 : f80[1]? = some (.ref (ad 81))) (f80_2 : f80[2]? = some (.ref (ad 82))) (f80_3 : f80[3]? = some (.ref (ad 83))) (f80_4 : f80[4]? = some (.ref (ad 84))) (f80_5 : f80[5]? = some (.ref (ad 85))) (f80_6 : f80[6]? = some (.ref (ad 86))) (f80_7 : f80[7]? = some (.ref (ad 87))) (a81 : g 81 = .inl (cy 0, 5, .inl c81)) (a82 : g 82 = .inl (cy 0, 20, .inl c82)) (a83 : g 83 = .inl (cy 0, 4, .inl c83)) (a84 : g 84 = .inl (cy 0, 5, .inl c84)) (a85 : g 85 = .inl (cy 0, 5, .inl c85)) (a86 : g 86 = .inl (cy 0, 5, .inl c86)) (a87 : g 87 = .inl (cy 0, 5, .inl c87)) (a118 : g 118 = .inl (cy 0, 24, .inl c118)) (o119 : g 119 = .inr (12, f119)) (f119_41 : f119[41]? = some (.ref (ad 147))) (f119_62 : f119[62]? = some (.int 0)) (a147 : g 147 = .inl (cy 0, 80, .inl (fun _ => 0))) (hO : cO D cy (fun q : Nat => s.heap.size ≤ q) s.heap s 173 ad (cup [] g) H locs) (hce : cells + 0 ≤ 600000) (hsl : slots + 0 ≤ 7302250) (hl : lv_has ls 4 [(0, .ref b), (1, .ref (ad 0)), (2, .ref (ad 119)), (3, .int 0)]) : W p l e room_1 s m #[Value.ref b] below meth c H locs cells slots (lw_Z below #[Value.ref b] s) (F0 m 654 ls []) := by
  obtain ⟨hx, hb, hml, hown, hts⟩ := id hC
  refine lv_aload_n hx hb dL_law_654 rfl (lv_at hl 1 rfl) ?_
  refine cg_Vi (As := []) (rest := []) (mc := 0) (ms := 0) (rm := { frames := 4, cells := 0, slots := 0, locals := 102 }) hC hl.1 hO [0, 74, 38, 39, 41, 80, 21, 30, 31, 81, 82, 83, 84, 85, 86, 87, 76, 77, 79, 118] (by decide +kernel) (c_X11_rest l D cy _ _ (f0 := f0) (f2 := f38) (f1 := f74) (f5 := f80) (f6 := f21) o0 f0_4 f0_9 f0_12 f0_13 o74 f74_1 f74_3 f74_5 f74_6 f74_7 f74_9 o38 f38_0 f38_3 f38_4 a39 a41 o80 f80_0 f80_1 f80_2 f80_3 f80_4 f80_5 f80_6 f80_7 o21 f21_9 f21_10 a30 a31 a81 a82 a83 a84 a85 a86 a87 a76 a77 a79 a118) gL_c_X11_rest rfl rfl rfl 0 (by decide +kernel) ⟨Nat.le_of_ble_eq_true rfl, Nat.le_of_ble_eq_true rfl⟩ rfl (by decide) o0 rfl rfl (Nat.le_of_ble_eq_true rfl) dL_law_655 ⟨hce, hsl⟩ (fun r0 nw0 l0 H locs hw hO => ?_)
  obtain rfl := hw
  have hm := cm_far (N := 173) (k := 20) (M := 119) (ps := [0, 74, 38, 39, 41, 80, 21, 30, 31, 81, 82, 83, 84, 85, 86, 87, 76, 77, 79, 118]) (by decide +kernel) (by decide +kernel) l0 [] g
  refine lv_aload_n hx hb dL_law_658 rfl (lv_at hl 2 rfl) ?_
  refine cg_Vi (As := []) (rest := [.int 1]) (mc := 0) (ms := 0) (rm := { frames := 0, cells := 0, slots := 0, locals := 0 }) hC hl.1 hO [119, 147] (by decide +kernel) (c_X12_rest l D cy _ _ (f0 := f119) ((hm 119 (by decide) (by decide)).trans o119) f119_41 f119_62 ((hm 147 (by decide) (by decide)).trans a147)) gL_c_X12_rest rfl rfl rfl 0 (by decide +kernel) ⟨Nat.le_of_ble_eq_true rfl, Nat.le_of_ble_eq_true rfl⟩ rfl (by decide) ((hm 119 (by decide) (by decide)).trans o119) rfl rfl (Nat.le_of_ble_eq_true rfl) dL_law_659 ⟨hce, hsl⟩ (fun r1 nw1 l1 H locs hw hO => ?_)
  obtain rfl := hw
  refine lv_icmp_eq (tgt := 917) hx hb dL_law_662 (by decide) (fun _ => ?_) (fun h => absurd rfl h)
  exact law_tail l hC hr hlk hX hbl hO hce hsl (lv_sub hl [0, 3] rfl)

theorem dL_law_667 : decode cL_law 667 = .ok (.aload_n 1, 1) := by decide +kernel
theorem dL_law_668 : decode cL_law 668 = .ok (.aload_n 0, 1) := by decide +kernel
theorem dL_law_669 : decode cL_law 669 = .ok (.iload_n 3, 1) := by decide +kernel
theorem dL_law_670 : decode cL_law 670 = .ok (.iconst 1, 1) := by decide +kernel
theorem dL_law_671 : decode cL_law 671 = .ok (.iadd, 1) := by decide +kernel
theorem dL_law_672 : decode cL_law 672 = .ok (.iaload, 1) := by decide +kernel
theorem dL_law_673 : decode cL_law 673 = .ok (.invokevirtual 87, 3) := by decide +kernel
theorem dL_law_676 : decode cL_law 676 = .ok (.aload_n 2, 1) := by decide +kernel
theorem dL_law_677 : decode cL_law 677 = .ok (.aload_n 0, 1) := by decide +kernel
theorem dL_law_678 : decode cL_law 678 = .ok (.iload_n 3, 1) := by decide +kernel
theorem dL_law_679 : decode cL_law 679 = .ok (.iconst 1, 1) := by decide +kernel
theorem dL_law_680 : decode cL_law 680 = .ok (.iadd, 1) := by decide +kernel
theorem dL_law_681 : decode cL_law 681 = .ok (.iaload, 1) := by decide +kernel
theorem dL_law_682 : decode cL_law 682 = .ok (.invokevirtual 90, 3) := by decide +kernel
theorem dL_law_685 : decode cL_law 685 = .ok (.if_icmp .eq 232, 3) := by decide +kernel
set_option maxHeartbeats 8000000 in
set_option maxRecDepth 100000 in
theorem lc_teach {p : Program} {e : Env} {s : State} {m : MethodId} {below : List Frame} {meth : Method} {c : Code} (l : Launch) {b : Nat} {xs : Nat → Int32} {D : va_G} {cy : Nat → ClassId} {ad : Nat → Nat} {g : Nat → va_E} {H : Heap} {locs : List Loc} {cells slots : Nat} {ls : Array Slot} {f0 : List Value} {f21 : List Value} {c30 : Nat → Int32} {c31 : Nat → Int32} {f38 : List Value} {c39 : Nat → Int32} {c41 : Nat → Int32} {f88 : List Value} {c89 : Nat → Int32} {c90 : Nat → Int32} {c92 : Nat → Int32} {f93 : List Value} {c94 : Nat → Int32} {c95 : Nat → Int32} {c96 : Nat → Int32} {c97 : Nat → Int32} {c98 : Nat → Int32} {c99 : Nat → Int32} {c100 : Nat → Int32} {c118 : Nat → Int32} {f119 : List Value} {c148 : Nat → Int32} {c153 : Nat → Int32} {c155 : Nat → Int32} {c160 : Nat → Int32} (hC : CallFix p m c code 4 s #[Value.ref b] lw_tbl RL) (hr : meth.sig.returnType = ret) (hlk : meth.locks = false) (hX : va_X b 6 xs s s.heap) (hbl : b < s.heap.size) (o0 : g 0 = .inr (11, f0)) (f0_3 : f0[3]? = some (.ref (ad 21))) (f0_10 : f0[10]? = some (.ref (ad 88))) (f0_12 : f0[12]? = some (.ref (ad 118))) (f0_13 : f0[13]? = some (.int 0)) (o21 : g 21 = .inr (7, f21)) (f21_5 : f21[5]? = some (.int 0)) (f21_9 : f21[9]? = some (.ref (ad 30))) (f21_10 : f21[10]? = some (.ref (ad 31))) (f21_11 : f21[11]? = some (.int 0)) (a30 : g 30 = .inl (cy 0, 20, .inl c30)) (a31 : g 31 = .inl (cy 0, 4, .inl c31)) (o38 : g 38 = .inr (9, f38)) (f38_0 : f38[0]? = some (.ref (ad 39))) (f38_3 : f38[3]? = some (.ref (ad 41))) (f38_4 : f38[4]? = some (.int 0)) (a39 : g 39 = .inl (cy 0, 24, .inl c39)) (a41 : g 41 = .inl (cy 0, 5, .inl c41)) (o88 : g 88 = .inr (3, f88)) (f88_0 : f88[0]? = some (.ref (ad 21))) (f88_1 : f88[1]? = some (.ref (ad 38))) (f88_3 : f88[3]? = some (.ref (ad 93))) (f88_4 : f88[4]? = some (.ref (ad 89))) (f88_5 : f88[5]? = some (.int 0)) (f88_6 : f88[6]? = some (.ref (ad 90))) (f88_8 : f88[8]? = some (.ref (ad 92))) (a89 : g 89 = .inl (cy 0, 24, .inl c89)) (a90 : g 90 = .inl (cy 0, 5, .inl c90)) (a92 : g 92 = .inl (cy 0, 5, .inl c92)) (o93 : g 93 = .inr (10, f93)) (f93_0 : f93[0]? = some (.ref (ad 21))) (f93_1 : f93[1]? = some (.ref (ad 94))) (f93_2 : f93[2]? = some (.ref (ad 95))) (f93_3 : f93[3]? = some (.ref (ad 96))) (f93_4 : f93[4]? = some (.ref (ad 97))) (f93_5 : f93[5]? = some (.ref (ad 98))) (f93_6 : f93[6]? = some (.ref (ad 99))) (f93_7 : f93[7]? = some (.ref (ad 100))) (a94 : g 94 = .inl (cy 0, 5, .inl c94)) (a95 : g 95 = .inl (cy 0, 20, .inl c95)) (a96 : g 96 = .inl (cy 0, 4, .inl c96)) (a97 : g 97 = .inl (cy 0, 5, .inl c97)) (a98 : g 98 = .inl (cy 0, 5, .inl c98)) (a99 : g 99 = .inl (cy 0, 5, .inl c99)) (a100 : g 100 = .inl (cy 0, 5, .inl c100)) (a118 : g 118 = .inl (cy 0, 24, .inl c118)) (o119 : g 119 = .inr (12, f119)) (f119_11 : f119[11]? = some (.ref (ad 122))) (f119_12 : f119[12]? = some (.ref (ad 123))) (f119_36 : f119[36]? = some (.int 0)) (f119_41 : f119[41]? = some (.ref (ad 147))) (f119_42 : f119[42]? = some (.ref (ad 148))) (f119_44 : f119[44]? = some (.ref (ad 150))) (f119_47 : f119[47]? = some (.ref (ad 153))) (f119_48 : f119[48]? = some (.ref (ad 154))) (f119_49 : f119[49]? = some (.ref (ad 155))) (f119_50 : f119[50]? = some (.ref (ad 156))) (f119_53 : f119[53]? = some (.ref (ad 159))) (f119_54 : f119[54]? = some (.ref (ad 160))) (f119_55 : f119[55]? = some (.ref (ad 161))) (f119_56 : f119[56]? = some (.int 0)) (f119_57 : f119[57]? = some (.int 0)) (f119_62 : f119[62]? = some (.int 0)) (a122 : g 122 = .inl (cy 0, 2, .inl (fun _ => 0))) (a123 : g 123 = .inl (cy 0, 2, .inl (fun _ => 0))) (a147 : g 147 = .inl (cy 0, 80, .inl (fun _ => 0))) (a148 : g 148 = .inl (cy 0, 30, .inl c148)) (a150 : g 150 = .inl (cy 0, 5, .inl (fun _ => 0))) (a153 : g 153 = .inl (cy 0, 30, .inl c153)) (a154 : g 154 = .inl (cy 0, 120, .inl (fun _ => 0))) (a155 : g 155 = .inl (cy 0, 120, .inl c155)) (a156 : g 156 = .inl (cy 0, 5, .inl (fun _ => 0))) (a159 : g 159 = .inl (cy 0, 5, .inl (fun _ => 0))) (a160 : g 160 = .inl (cy 2, 30, .inl c160)) (a161 : g 161 = .inl (cy 2, 5, .inl (fun _ => 0))) (hO : cO D cy (fun q : Nat => s.heap.size ≤ q) s.heap s 173 ad (cup [] g) H locs) (hce : cells + 0 ≤ 600000) (hsl : slots + 0 ≤ 7302250) (hl : lv_has ls 4 [(0, .ref b), (1, .ref (ad 0)), (2, .ref (ad 119)), (3, .int 0)]) : W p l e room_1 s m #[Value.ref b] below meth c H locs cells slots (lw_Z below #[Value.ref b] s) (F0 m 667 ls []) := by
  obtain ⟨hx, hb, hml, hown, hts⟩ := id hC
  refine lv_aload_n hx hb dL_law_667 rfl (lv_at hl 1 rfl) ?_
  refine lv_aload_n hx hb dL_law_668 rfl (lv_at hl 0 rfl) ?_
  refine lv_iload_n hx hb dL_law_669 rfl (lv_at hl 3 rfl) ?_
  refine lv_iconst (v := 1) hx hb dL_law_670 (by decide) ?_
  refine lv_iadd hx hb dL_law_671 ?_
  refine cg_ev (v := 1) (by decide) ?_
  refine va_sld hx hb hX hbl (Nat.not_le.mpr hbl) hO.2.2.2.1 (cin (by decide)) dL_law_672 ?_
  refine cg_ev (v := xs 1) rfl ?_
  refine cg_Vi (As := [.int (xs 1)]) (rest := []) (mc := 0) (ms := 0) (rm := { frames := 5, cells := 0, slots := 0, locals := 125 }) hC hl.1 hO [0, 88, 21, 30, 31, 38, 39, 41, 93, 94, 95, 96, 97, 98, 99, 100, 89, 90, 92, 118] (by decide +kernel) (c_X11_teach l D cy _ _ (f0 := f0) (f2 := f21) (f1 := f88) (f5 := f38) (f8 := f93) (n := (xs 1)) o0 f0_3 f0_10 f0_12 f0_13 o88 f88_0 f88_1 f88_3 f88_4 f88_5 f88_6 f88_8 o21 f21_5 f21_9 f21_10 f21_11 a30 a31 o38 f38_0 f38_3 f38_4 a39 a41 o93 f93_0 f93_1 f93_2 f93_3 f93_4 f93_5 f93_6 f93_7 a94 a95 a96 a97 a98 a99 a100 a89 a90 a92 a118) gL_c_X11_teach rfl rfl rfl 1 (by decide +kernel) ⟨Nat.le_of_ble_eq_true rfl, Nat.le_of_ble_eq_true rfl⟩ rfl (by decide) o0 rfl rfl (Nat.le_of_ble_eq_true rfl) dL_law_673 ⟨hce, hsl⟩ (fun r0 nw0 l0 H locs hw hO => ?_)
  obtain rfl := hw
  have hm := cm_far (N := 173) (k := 20) (M := 119) (ps := [0, 88, 21, 30, 31, 38, 39, 41, 93, 94, 95, 96, 97, 98, 99, 100, 89, 90, 92, 118]) (by decide +kernel) (by decide +kernel) l0 [] g
  refine lv_aload_n hx hb dL_law_676 rfl (lv_at hl 2 rfl) ?_
  refine lv_aload_n hx hb dL_law_677 rfl (lv_at hl 0 rfl) ?_
  refine lv_iload_n hx hb dL_law_678 rfl (lv_at hl 3 rfl) ?_
  refine lv_iconst (v := 1) hx hb dL_law_679 (by decide) ?_
  refine lv_iadd hx hb dL_law_680 ?_
  refine cg_ev (v := 1) (by decide) ?_
  refine va_sld hx hb hX hbl (Nat.not_le.mpr hbl) hO.2.2.2.1 (cin (by decide)) dL_law_681 ?_
  refine cg_ev (v := xs 1) rfl ?_
  refine cg_Vi (As := [.int (xs 1)]) (rest := [.int (ans_teach (xs 1))]) (mc := 0) (ms := 0) (rm := { frames := 3, cells := 0, slots := 0, locals := 63 }) hC hl.1 hO [119, 122, 123, 147, 150, 148, 153, 154, 155, 156, 159, 160, 161] (by decide +kernel) (c_X12_teach l D cy _ _ (f0 := f119) (n := (xs 1)) ((hm 119 (by decide) (by decide)).trans o119) f119_11 f119_12 f119_36 f119_41 f119_42 f119_44 f119_47 f119_48 f119_49 f119_50 f119_53 f119_54 f119_55 f119_56 f119_57 f119_62 ((hm 122 (by decide) (by decide)).trans a122) ((hm 123 (by decide) (by decide)).trans a123) ((hm 147 (by decide) (by decide)).trans a147) ((hm 150 (by decide) (by decide)).trans a150) ((hm 148 (by decide) (by decide)).trans a148) ((hm 153 (by decide) (by decide)).trans a153) ((hm 154 (by decide) (by decide)).trans a154) ((hm 155 (by decide) (by decide)).trans a155) ((hm 156 (by decide) (by decide)).trans a156) ((hm 159 (by decide) (by decide)).trans a159) ((hm 160 (by decide) (by decide)).trans a160) ((hm 161 (by decide) (by decide)).trans a161)) gL_c_X12_teach rfl rfl rfl 1 (by decide +kernel) ⟨Nat.le_of_ble_eq_true rfl, Nat.le_of_ble_eq_true rfl⟩ rfl (by decide) ((hm 119 (by decide) (by decide)).trans o119) rfl rfl (Nat.le_of_ble_eq_true rfl) dL_law_682 ⟨hce, hsl⟩ (fun r1 nw1 l1 H locs hw hO => ?_)
  obtain rfl := hw
  refine lv_icmp_eq (tgt := 917) hx hb dL_law_685 (by decide) (fun _ => ?_) (fun h => absurd rfl h)
  exact law_tail l hC hr hlk hX hbl hO hce hsl (lv_sub hl [0, 3] rfl)

theorem dL_law_690 : decode cL_law 690 = .ok (.aload_n 1, 1) := by decide +kernel
theorem dL_law_691 : decode cL_law 691 = .ok (.invokevirtual 91, 3) := by decide +kernel
theorem dL_law_694 : decode cL_law 694 = .ok (.aload_n 2, 1) := by decide +kernel
theorem dL_law_695 : decode cL_law 695 = .ok (.invokevirtual 94, 3) := by decide +kernel
theorem dL_law_698 : decode cL_law 698 = .ok (.if_icmp .eq 219, 3) := by decide +kernel
set_option maxHeartbeats 8000000 in
set_option maxRecDepth 100000 in
theorem lc_seats {p : Program} {e : Env} {s : State} {m : MethodId} {below : List Frame} {meth : Method} {c : Code} (l : Launch) {b : Nat} {xs : Nat → Int32} {D : va_G} {cy : Nat → ClassId} {ad : Nat → Nat} {g : Nat → va_E} {H : Heap} {locs : List Loc} {cells slots : Nat} {ls : Array Slot} {f0 : List Value} {f21 : List Value} {f119 : List Value} (hC : CallFix p m c code 4 s #[Value.ref b] lw_tbl RL) (hr : meth.sig.returnType = ret) (hlk : meth.locks = false) (hX : va_X b 6 xs s s.heap) (hbl : b < s.heap.size) (o0 : g 0 = .inr (11, f0)) (f0_3 : f0[3]? = some (.ref (ad 21))) (f0_13 : f0[13]? = some (.int 0)) (o21 : g 21 = .inr (7, f21)) (f21_11 : f21[11]? = some (.int 0)) (o119 : g 119 = .inr (12, f119)) (f119_12 : f119[12]? = some (.ref (ad 123))) (f119_36 : f119[36]? = some (.int 0)) (f119_62 : f119[62]? = some (.int 0)) (a123 : g 123 = .inl (cy 0, 2, .inl (fun _ => 0))) (hO : cO D cy (fun q : Nat => s.heap.size ≤ q) s.heap s 173 ad (cup [] g) H locs) (hce : cells + 0 ≤ 600000) (hsl : slots + 0 ≤ 7302250) (hl : lv_has ls 4 [(0, .ref b), (1, .ref (ad 0)), (2, .ref (ad 119)), (3, .int 0)]) : W p l e room_1 s m #[Value.ref b] below meth c H locs cells slots (lw_Z below #[Value.ref b] s) (F0 m 690 ls []) := by
  obtain ⟨hx, hb, hml, hown, hts⟩ := id hC
  refine lv_aload_n hx hb dL_law_690 rfl (lv_at hl 1 rfl) ?_
  refine cg_Vi (As := []) (rest := []) (mc := 0) (ms := 0) (rm := { frames := 0, cells := 0, slots := 0, locals := 0 }) hC hl.1 hO [0, 21] (by decide +kernel) (c_X11_seats l D cy _ _ (f0 := f0) (f1 := f21) o0 f0_3 f0_13 o21 f21_11) gL_c_X11_seats rfl rfl rfl 0 (by decide +kernel) ⟨Nat.le_of_ble_eq_true rfl, Nat.le_of_ble_eq_true rfl⟩ rfl (by decide) o0 rfl rfl (Nat.le_of_ble_eq_true rfl) dL_law_691 ⟨hce, hsl⟩ (fun r0 nw0 l0 H locs hw hO => ?_)
  obtain rfl := hw
  have hm := cm_far (N := 173) (k := 2) (M := 119) (ps := [0, 21]) (by decide +kernel) (by decide +kernel) l0 [] g
  refine lv_aload_n hx hb dL_law_694 rfl (lv_at hl 2 rfl) ?_
  refine cg_Vi (As := []) (rest := [.int (-1)]) (mc := 0) (ms := 0) (rm := { frames := 1, cells := 0, slots := 0, locals := 20 }) hC hl.1 hO [119, 123] (by decide +kernel) (c_X12_seats l D cy _ _ (f0 := f119) ((hm 119 (by decide) (by decide)).trans o119) f119_12 f119_36 f119_62 ((hm 123 (by decide) (by decide)).trans a123)) gL_c_X12_seats rfl rfl rfl 0 (by decide +kernel) ⟨Nat.le_of_ble_eq_true rfl, Nat.le_of_ble_eq_true rfl⟩ rfl (by decide) ((hm 119 (by decide) (by decide)).trans o119) rfl rfl (Nat.le_of_ble_eq_true rfl) dL_law_695 ⟨hce, hsl⟩ (fun r1 nw1 l1 H locs hw hO => ?_)
  obtain rfl := hw
  refine lv_icmp_eq (tgt := 917) hx hb dL_law_698 (by decide) (fun _ => ?_) (fun h => absurd rfl h)
  exact law_tail l hC hr hlk hX hbl hO hce hsl (lv_sub hl [0, 3] rfl)

theorem dL_law_703 : decode cL_law 703 = .ok (.aload_n 1, 1) := by decide +kernel
theorem dL_law_704 : decode cL_law 704 = .ok (.aload_n 0, 1) := by decide +kernel
theorem dL_law_705 : decode cL_law 705 = .ok (.iload_n 3, 1) := by decide +kernel
theorem dL_law_706 : decode cL_law 706 = .ok (.iconst 1, 1) := by decide +kernel
theorem dL_law_707 : decode cL_law 707 = .ok (.iadd, 1) := by decide +kernel
theorem dL_law_708 : decode cL_law 708 = .ok (.iaload, 1) := by decide +kernel
theorem dL_law_709 : decode cL_law 709 = .ok (.invokevirtual 95, 3) := by decide +kernel
theorem dL_law_712 : decode cL_law 712 = .ok (.aload_n 2, 1) := by decide +kernel
theorem dL_law_713 : decode cL_law 713 = .ok (.aload_n 0, 1) := by decide +kernel
theorem dL_law_714 : decode cL_law 714 = .ok (.iload_n 3, 1) := by decide +kernel
theorem dL_law_715 : decode cL_law 715 = .ok (.iconst 1, 1) := by decide +kernel
theorem dL_law_716 : decode cL_law 716 = .ok (.iadd, 1) := by decide +kernel
theorem dL_law_717 : decode cL_law 717 = .ok (.iaload, 1) := by decide +kernel
theorem dL_law_718 : decode cL_law 718 = .ok (.invokevirtual 98, 3) := by decide +kernel
theorem dL_law_721 : decode cL_law 721 = .ok (.if_icmp .eq 196, 3) := by decide +kernel
set_option maxHeartbeats 8000000 in
set_option maxRecDepth 100000 in
theorem lc_lies {p : Program} {e : Env} {s : State} {m : MethodId} {below : List Frame} {meth : Method} {c : Code} (l : Launch) {b : Nat} {xs : Nat → Int32} {D : va_G} {cy : Nat → ClassId} {ad : Nat → Nat} {g : Nat → va_E} {H : Heap} {locs : List Loc} {cells slots : Nat} {ls : Array Slot} {f0 : List Value} {f119 : List Value} (hC : CallFix p m c code 4 s #[Value.ref b] lw_tbl RL) (hr : meth.sig.returnType = ret) (hlk : meth.locks = false) (hX : va_X b 6 xs s s.heap) (hbl : b < s.heap.size) (o0 : g 0 = .inr (11, f0)) (f0_13 : f0[13]? = some (.int 0)) (o119 : g 119 = .inr (12, f119)) (f119_62 : f119[62]? = some (.int 0)) (hO : cO D cy (fun q : Nat => s.heap.size ≤ q) s.heap s 173 ad (cup [] g) H locs) (hce : cells + 0 ≤ 600000) (hsl : slots + 0 ≤ 7302250) (hl : lv_has ls 4 [(0, .ref b), (1, .ref (ad 0)), (2, .ref (ad 119)), (3, .int 0)]) : W p l e room_1 s m #[Value.ref b] below meth c H locs cells slots (lw_Z below #[Value.ref b] s) (F0 m 703 ls []) := by
  obtain ⟨hx, hb, hml, hown, hts⟩ := id hC
  refine lv_aload_n hx hb dL_law_703 rfl (lv_at hl 1 rfl) ?_
  refine lv_aload_n hx hb dL_law_704 rfl (lv_at hl 0 rfl) ?_
  refine lv_iload_n hx hb dL_law_705 rfl (lv_at hl 3 rfl) ?_
  refine lv_iconst (v := 1) hx hb dL_law_706 (by decide) ?_
  refine lv_iadd hx hb dL_law_707 ?_
  refine cg_ev (v := 1) (by decide) ?_
  refine va_sld hx hb hX hbl (Nat.not_le.mpr hbl) hO.2.2.2.1 (cin (by decide)) dL_law_708 ?_
  refine cg_ev (v := xs 1) rfl ?_
  refine cg_Vi (As := [.int (xs 1)]) (rest := []) (mc := 0) (ms := 0) (rm := { frames := 1, cells := 0, slots := 0, locals := 22 }) hC hl.1 hO [0] (by decide +kernel) (c_X11_lies l D cy _ _ (f0 := f0) (n := (xs 1)) o0 f0_13) gL_c_X11_lies rfl rfl rfl 1 (by decide +kernel) ⟨Nat.le_of_ble_eq_true rfl, Nat.le_of_ble_eq_true rfl⟩ rfl (by decide) o0 rfl rfl (Nat.le_of_ble_eq_true rfl) dL_law_709 ⟨hce, hsl⟩ (fun r0 nw0 l0 H locs hw hO => ?_)
  obtain rfl := hw
  have hm := cm_far (N := 173) (k := 1) (M := 119) (ps := [0]) (by decide +kernel) (by decide +kernel) l0 [] g
  refine lv_aload_n hx hb dL_law_712 rfl (lv_at hl 2 rfl) ?_
  refine lv_aload_n hx hb dL_law_713 rfl (lv_at hl 0 rfl) ?_
  refine lv_iload_n hx hb dL_law_714 rfl (lv_at hl 3 rfl) ?_
  refine lv_iconst (v := 1) hx hb dL_law_715 (by decide) ?_
  refine lv_iadd hx hb dL_law_716 ?_
  refine cg_ev (v := 1) (by decide) ?_
  refine va_sld hx hb hX hbl (Nat.not_le.mpr hbl) hO.2.2.2.1 (cin (by decide)) dL_law_717 ?_
  refine cg_ev (v := xs 1) rfl ?_
  refine cg_Vi (As := [.int (xs 1)]) (rest := [.int (-1)]) (mc := 0) (ms := 0) (rm := { frames := 1, cells := 0, slots := 0, locals := 22 }) hC hl.1 hO [119] (by decide +kernel) (c_X12_lies l D cy _ _ (f0 := f119) (n := (xs 1)) ((hm 119 (by decide) (by decide)).trans o119) f119_62) gL_c_X12_lies rfl rfl rfl 1 (by decide +kernel) ⟨Nat.le_of_ble_eq_true rfl, Nat.le_of_ble_eq_true rfl⟩ rfl (by decide) ((hm 119 (by decide) (by decide)).trans o119) rfl rfl (Nat.le_of_ble_eq_true rfl) dL_law_718 ⟨hce, hsl⟩ (fun r1 nw1 l1 H locs hw hO => ?_)
  obtain rfl := hw
  refine lv_icmp_eq (tgt := 917) hx hb dL_law_721 (by decide) (fun _ => ?_) (fun h => absurd rfl h)
  exact law_tail l hC hr hlk hX hbl hO hce hsl (lv_sub hl [0, 3] rfl)

theorem dL_law_726 : decode cL_law 726 = .ok (.aload_n 1, 1) := by decide +kernel
theorem dL_law_727 : decode cL_law 727 = .ok (.aload_n 0, 1) := by decide +kernel
theorem dL_law_728 : decode cL_law 728 = .ok (.iload_n 3, 1) := by decide +kernel
theorem dL_law_729 : decode cL_law 729 = .ok (.iconst 1, 1) := by decide +kernel
theorem dL_law_730 : decode cL_law 730 = .ok (.iadd, 1) := by decide +kernel
theorem dL_law_731 : decode cL_law 731 = .ok (.iaload, 1) := by decide +kernel
theorem dL_law_732 : decode cL_law 732 = .ok (.aload_n 0, 1) := by decide +kernel
theorem dL_law_733 : decode cL_law 733 = .ok (.iload_n 3, 1) := by decide +kernel
theorem dL_law_734 : decode cL_law 734 = .ok (.iconst 2, 1) := by decide +kernel
theorem dL_law_735 : decode cL_law 735 = .ok (.iadd, 1) := by decide +kernel
theorem dL_law_736 : decode cL_law 736 = .ok (.iaload, 1) := by decide +kernel
theorem dL_law_737 : decode cL_law 737 = .ok (.aload_n 0, 1) := by decide +kernel
theorem dL_law_738 : decode cL_law 738 = .ok (.iload_n 3, 1) := by decide +kernel
theorem dL_law_739 : decode cL_law 739 = .ok (.iconst 3, 1) := by decide +kernel
theorem dL_law_740 : decode cL_law 740 = .ok (.iadd, 1) := by decide +kernel
theorem dL_law_741 : decode cL_law 741 = .ok (.iaload, 1) := by decide +kernel
theorem dL_law_742 : decode cL_law 742 = .ok (.invokevirtual 99, 3) := by decide +kernel
theorem dL_law_745 : decode cL_law 745 = .ok (.aload_n 2, 1) := by decide +kernel
theorem dL_law_746 : decode cL_law 746 = .ok (.aload_n 0, 1) := by decide +kernel
theorem dL_law_747 : decode cL_law 747 = .ok (.iload_n 3, 1) := by decide +kernel
theorem dL_law_748 : decode cL_law 748 = .ok (.iconst 1, 1) := by decide +kernel
theorem dL_law_749 : decode cL_law 749 = .ok (.iadd, 1) := by decide +kernel
theorem dL_law_750 : decode cL_law 750 = .ok (.iaload, 1) := by decide +kernel
theorem dL_law_751 : decode cL_law 751 = .ok (.aload_n 0, 1) := by decide +kernel
theorem dL_law_752 : decode cL_law 752 = .ok (.iload_n 3, 1) := by decide +kernel
theorem dL_law_753 : decode cL_law 753 = .ok (.iconst 2, 1) := by decide +kernel
theorem dL_law_754 : decode cL_law 754 = .ok (.iadd, 1) := by decide +kernel
theorem dL_law_755 : decode cL_law 755 = .ok (.iaload, 1) := by decide +kernel
theorem dL_law_756 : decode cL_law 756 = .ok (.aload_n 0, 1) := by decide +kernel
theorem dL_law_757 : decode cL_law 757 = .ok (.iload_n 3, 1) := by decide +kernel
theorem dL_law_758 : decode cL_law 758 = .ok (.iconst 3, 1) := by decide +kernel
theorem dL_law_759 : decode cL_law 759 = .ok (.iadd, 1) := by decide +kernel
theorem dL_law_760 : decode cL_law 760 = .ok (.iaload, 1) := by decide +kernel
theorem dL_law_761 : decode cL_law 761 = .ok (.invokevirtual 102, 3) := by decide +kernel
theorem dL_law_764 : decode cL_law 764 = .ok (.if_icmp .eq 153, 3) := by decide +kernel
set_option maxHeartbeats 8000000 in
set_option maxRecDepth 100000 in
theorem lc_sight {p : Program} {e : Env} {s : State} {m : MethodId} {below : List Frame} {meth : Method} {c : Code} (l : Launch) {b : Nat} {xs : Nat → Int32} {D : va_G} {cy : Nat → ClassId} {ad : Nat → Nat} {g : Nat → va_E} {H : Heap} {locs : List Loc} {cells slots : Nat} {ls : Array Slot} {f0 : List Value} {f21 : List Value} {f119 : List Value} (hC : CallFix p m c code 4 s #[Value.ref b] lw_tbl RL) (hr : meth.sig.returnType = ret) (hlk : meth.locks = false) (hX : va_X b 6 xs s s.heap) (hbl : b < s.heap.size) (o0 : g 0 = .inr (11, f0)) (f0_3 : f0[3]? = some (.ref (ad 21))) (o21 : g 21 = .inr (7, f21)) (f21_5 : f21[5]? = some (.int 0)) (o119 : g 119 = .inr (12, f119)) (f119_11 : f119[11]? = some (.ref (ad 122))) (f119_36 : f119[36]? = some (.int 0)) (a122 : g 122 = .inl (cy 0, 2, .inl (fun _ => 0))) (hO : cO D cy (fun q : Nat => s.heap.size ≤ q) s.heap s 173 ad (cup [] g) H locs) (hce : cells + 0 ≤ 600000) (hsl : slots + 0 ≤ 7302250) (hl : lv_has ls 4 [(0, .ref b), (1, .ref (ad 0)), (2, .ref (ad 119)), (3, .int 0)]) : W p l e room_1 s m #[Value.ref b] below meth c H locs cells slots (lw_Z below #[Value.ref b] s) (F0 m 726 ls []) := by
  obtain ⟨hx, hb, hml, hown, hts⟩ := id hC
  refine lv_aload_n hx hb dL_law_726 rfl (lv_at hl 1 rfl) ?_
  refine lv_aload_n hx hb dL_law_727 rfl (lv_at hl 0 rfl) ?_
  refine lv_iload_n hx hb dL_law_728 rfl (lv_at hl 3 rfl) ?_
  refine lv_iconst (v := 1) hx hb dL_law_729 (by decide) ?_
  refine lv_iadd hx hb dL_law_730 ?_
  refine cg_ev (v := 1) (by decide) ?_
  refine va_sld hx hb hX hbl (Nat.not_le.mpr hbl) hO.2.2.2.1 (cin (by decide)) dL_law_731 ?_
  refine cg_ev (v := xs 1) rfl ?_
  refine lv_aload_n hx hb dL_law_732 rfl (lv_at hl 0 rfl) ?_
  refine lv_iload_n hx hb dL_law_733 rfl (lv_at hl 3 rfl) ?_
  refine lv_iconst (v := 2) hx hb dL_law_734 (by decide) ?_
  refine lv_iadd hx hb dL_law_735 ?_
  refine cg_ev (v := 2) (by decide) ?_
  refine va_sld hx hb hX hbl (Nat.not_le.mpr hbl) hO.2.2.2.1 (cin (by decide)) dL_law_736 ?_
  refine cg_ev (v := xs 2) rfl ?_
  refine lv_aload_n hx hb dL_law_737 rfl (lv_at hl 0 rfl) ?_
  refine lv_iload_n hx hb dL_law_738 rfl (lv_at hl 3 rfl) ?_
  refine lv_iconst (v := 3) hx hb dL_law_739 (by decide) ?_
  refine lv_iadd hx hb dL_law_740 ?_
  refine cg_ev (v := 3) (by decide) ?_
  refine va_sld hx hb hX hbl (Nat.not_le.mpr hbl) hO.2.2.2.1 (cin (by decide)) dL_law_741 ?_
  refine cg_ev (v := xs 3) rfl ?_
  refine cg_Vi (As := [.int (xs 1), .int (xs 2), .int (xs 3)]) (rest := []) (mc := 0) (ms := 0) (rm := { frames := 2, cells := 0, slots := 0, locals := 43 }) hC hl.1 hO [0, 21] (by decide +kernel) (c_X11_sight l D cy _ _ (f0 := f0) (f1 := f21) (n := (xs 1)) (q := (xs 2)) (q2 := (xs 3)) o0 f0_3 o21 f21_5) gL_c_X11_sight rfl rfl rfl 3 (by decide +kernel) ⟨Nat.le_of_ble_eq_true rfl, Nat.le_of_ble_eq_true rfl⟩ rfl (by decide) o0 rfl rfl (Nat.le_of_ble_eq_true rfl) dL_law_742 ⟨hce, hsl⟩ (fun r0 nw0 l0 H locs hw hO => ?_)
  obtain rfl := hw
  have hm := cm_far (N := 173) (k := 2) (M := 119) (ps := [0, 21]) (by decide +kernel) (by decide +kernel) l0 [] g
  refine lv_aload_n hx hb dL_law_745 rfl (lv_at hl 2 rfl) ?_
  refine lv_aload_n hx hb dL_law_746 rfl (lv_at hl 0 rfl) ?_
  refine lv_iload_n hx hb dL_law_747 rfl (lv_at hl 3 rfl) ?_
  refine lv_iconst (v := 1) hx hb dL_law_748 (by decide) ?_
  refine lv_iadd hx hb dL_law_749 ?_
  refine cg_ev (v := 1) (by decide) ?_
  refine va_sld hx hb hX hbl (Nat.not_le.mpr hbl) hO.2.2.2.1 (cin (by decide)) dL_law_750 ?_
  refine cg_ev (v := xs 1) rfl ?_
  refine lv_aload_n hx hb dL_law_751 rfl (lv_at hl 0 rfl) ?_
  refine lv_iload_n hx hb dL_law_752 rfl (lv_at hl 3 rfl) ?_
  refine lv_iconst (v := 2) hx hb dL_law_753 (by decide) ?_
  refine lv_iadd hx hb dL_law_754 ?_
  refine cg_ev (v := 2) (by decide) ?_
  refine va_sld hx hb hX hbl (Nat.not_le.mpr hbl) hO.2.2.2.1 (cin (by decide)) dL_law_755 ?_
  refine cg_ev (v := xs 2) rfl ?_
  refine lv_aload_n hx hb dL_law_756 rfl (lv_at hl 0 rfl) ?_
  refine lv_iload_n hx hb dL_law_757 rfl (lv_at hl 3 rfl) ?_
  refine lv_iconst (v := 3) hx hb dL_law_758 (by decide) ?_
  refine lv_iadd hx hb dL_law_759 ?_
  refine cg_ev (v := 3) (by decide) ?_
  refine va_sld hx hb hX hbl (Nat.not_le.mpr hbl) hO.2.2.2.1 (cin (by decide)) dL_law_760 ?_
  refine cg_ev (v := xs 3) rfl ?_
  refine cg_Vi (As := [.int (xs 1), .int (xs 2), .int (xs 3)]) (rest := [.int (-1)]) (mc := 0) (ms := 0) (rm := { frames := 2, cells := 0, slots := 0, locals := 43 }) hC hl.1 hO [119, 122] (by decide +kernel) (c_X12_sight l D cy _ _ (f0 := f119) (n := (xs 1)) (q := (xs 2)) (q2 := (xs 3)) ((hm 119 (by decide) (by decide)).trans o119) f119_11 f119_36 ((hm 122 (by decide) (by decide)).trans a122)) gL_c_X12_sight rfl rfl rfl 3 (by decide +kernel) ⟨Nat.le_of_ble_eq_true rfl, Nat.le_of_ble_eq_true rfl⟩ rfl (by decide) ((hm 119 (by decide) (by decide)).trans o119) rfl rfl (Nat.le_of_ble_eq_true rfl) dL_law_761 ⟨hce, hsl⟩ (fun r1 nw1 l1 H locs hw hO => ?_)
  obtain rfl := hw
  refine lv_icmp_eq (tgt := 917) hx hb dL_law_764 (by decide) (fun _ => ?_) (fun h => absurd rfl h)
  exact law_tail l hC hr hlk hX hbl hO hce hsl (lv_sub hl [0, 3] rfl)

theorem dL_law_769 : decode cL_law 769 = .ok (.aload_n 1, 1) := by decide +kernel
theorem dL_law_770 : decode cL_law 770 = .ok (.aload_n 0, 1) := by decide +kernel
theorem dL_law_771 : decode cL_law 771 = .ok (.iload_n 3, 1) := by decide +kernel
theorem dL_law_772 : decode cL_law 772 = .ok (.iconst 1, 1) := by decide +kernel
theorem dL_law_773 : decode cL_law 773 = .ok (.iadd, 1) := by decide +kernel
theorem dL_law_774 : decode cL_law 774 = .ok (.iaload, 1) := by decide +kernel
theorem dL_law_775 : decode cL_law 775 = .ok (.invokevirtual 103, 3) := by decide +kernel
theorem dL_law_778 : decode cL_law 778 = .ok (.aload_n 2, 1) := by decide +kernel
theorem dL_law_779 : decode cL_law 779 = .ok (.aload_n 0, 1) := by decide +kernel
theorem dL_law_780 : decode cL_law 780 = .ok (.iload_n 3, 1) := by decide +kernel
theorem dL_law_781 : decode cL_law 781 = .ok (.iconst 1, 1) := by decide +kernel
theorem dL_law_782 : decode cL_law 782 = .ok (.iadd, 1) := by decide +kernel
theorem dL_law_783 : decode cL_law 783 = .ok (.iaload, 1) := by decide +kernel
theorem dL_law_784 : decode cL_law 784 = .ok (.invokevirtual 107, 3) := by decide +kernel
theorem dL_law_787 : decode cL_law 787 = .ok (.if_icmp .eq 130, 3) := by decide +kernel
set_option maxHeartbeats 8000000 in
set_option maxRecDepth 100000 in
theorem lc_untell {p : Program} {e : Env} {s : State} {m : MethodId} {below : List Frame} {meth : Method} {c : Code} (l : Launch) {b : Nat} {xs : Nat → Int32} {D : va_G} {cy : Nat → ClassId} {ad : Nat → Nat} {g : Nat → va_E} {H : Heap} {locs : List Loc} {cells slots : Nat} {ls : Array Slot} {f0 : List Value} {f101 : List Value} {f119 : List Value} (hC : CallFix p m c code 4 s #[Value.ref b] lw_tbl RL) (hr : meth.sig.returnType = ret) (hlk : meth.locks = false) (hX : va_X b 6 xs s s.heap) (hbl : b < s.heap.size) (o0 : g 0 = .inr (11, f0)) (f0_11 : f0[11]? = some (.ref (ad 101))) (o101 : g 101 = .inr (8, f101)) (f101_7 : f101[7]? = some (.int 0)) (o119 : g 119 = .inr (12, f119)) (f119_70 : f119[70]? = some (.int 0)) (hO : cO D cy (fun q : Nat => s.heap.size ≤ q) s.heap s 173 ad (cup [] g) H locs) (hce : cells + 0 ≤ 600000) (hsl : slots + 0 ≤ 7302250) (hl : lv_has ls 4 [(0, .ref b), (1, .ref (ad 0)), (2, .ref (ad 119)), (3, .int 0)]) : W p l e room_1 s m #[Value.ref b] below meth c H locs cells slots (lw_Z below #[Value.ref b] s) (F0 m 769 ls []) := by
  obtain ⟨hx, hb, hml, hown, hts⟩ := id hC
  refine lv_aload_n hx hb dL_law_769 rfl (lv_at hl 1 rfl) ?_
  refine lv_aload_n hx hb dL_law_770 rfl (lv_at hl 0 rfl) ?_
  refine lv_iload_n hx hb dL_law_771 rfl (lv_at hl 3 rfl) ?_
  refine lv_iconst (v := 1) hx hb dL_law_772 (by decide) ?_
  refine lv_iadd hx hb dL_law_773 ?_
  refine cg_ev (v := 1) (by decide) ?_
  refine va_sld hx hb hX hbl (Nat.not_le.mpr hbl) hO.2.2.2.1 (cin (by decide)) dL_law_774 ?_
  refine cg_ev (v := xs 1) rfl ?_
  refine cg_Vi (As := [.int (xs 1)]) (rest := []) (mc := 0) (ms := 0) (rm := { frames := 2, cells := 0, slots := 0, locals := 43 }) hC hl.1 hO [0, 101] (by decide +kernel) (c_X11_untell l D cy _ _ (f0 := f0) (f1 := f101) (n := (xs 1)) o0 f0_11 o101 f101_7) gL_c_X11_untell rfl rfl rfl 1 (by decide +kernel) ⟨Nat.le_of_ble_eq_true rfl, Nat.le_of_ble_eq_true rfl⟩ rfl (by decide) o0 rfl rfl (Nat.le_of_ble_eq_true rfl) dL_law_775 ⟨hce, hsl⟩ (fun r0 nw0 l0 H locs hw hO => ?_)
  obtain rfl := hw
  have hm := cm_far (N := 173) (k := 2) (M := 119) (ps := [0, 101]) (by decide +kernel) (by decide +kernel) l0 [] g
  refine lv_aload_n hx hb dL_law_778 rfl (lv_at hl 2 rfl) ?_
  refine lv_aload_n hx hb dL_law_779 rfl (lv_at hl 0 rfl) ?_
  refine lv_iload_n hx hb dL_law_780 rfl (lv_at hl 3 rfl) ?_
  refine lv_iconst (v := 1) hx hb dL_law_781 (by decide) ?_
  refine lv_iadd hx hb dL_law_782 ?_
  refine cg_ev (v := 1) (by decide) ?_
  refine va_sld hx hb hX hbl (Nat.not_le.mpr hbl) hO.2.2.2.1 (cin (by decide)) dL_law_783 ?_
  refine cg_ev (v := xs 1) rfl ?_
  refine cg_Vi (As := [.int (xs 1)]) (rest := [.int 0]) (mc := 0) (ms := 0) (rm := { frames := 1, cells := 0, slots := 0, locals := 22 }) hC hl.1 hO [119] (by decide +kernel) (c_X12_untell l D cy _ _ (f0 := f119) (n := (xs 1)) ((hm 119 (by decide) (by decide)).trans o119) f119_70) gL_c_X12_untell rfl rfl rfl 1 (by decide +kernel) ⟨Nat.le_of_ble_eq_true rfl, Nat.le_of_ble_eq_true rfl⟩ rfl (by decide) ((hm 119 (by decide) (by decide)).trans o119) rfl rfl (Nat.le_of_ble_eq_true rfl) dL_law_784 ⟨hce, hsl⟩ (fun r1 nw1 l1 H locs hw hO => ?_)
  obtain rfl := hw
  refine lv_icmp_eq (tgt := 917) hx hb dL_law_787 (by decide) (fun _ => ?_) (fun h => absurd rfl h)
  exact law_tail l hC hr hlk hX hbl hO hce hsl (lv_sub hl [0, 3] rfl)

theorem dL_law_792 : decode cL_law 792 = .ok (.aload_n 1, 1) := by decide +kernel
theorem dL_law_793 : decode cL_law 793 = .ok (.aload_n 0, 1) := by decide +kernel
theorem dL_law_794 : decode cL_law 794 = .ok (.iload_n 3, 1) := by decide +kernel
theorem dL_law_795 : decode cL_law 795 = .ok (.iconst 1, 1) := by decide +kernel
theorem dL_law_796 : decode cL_law 796 = .ok (.iadd, 1) := by decide +kernel
theorem dL_law_797 : decode cL_law 797 = .ok (.iaload, 1) := by decide +kernel
theorem dL_law_798 : decode cL_law 798 = .ok (.invokevirtual 108, 3) := by decide +kernel
theorem dL_law_801 : decode cL_law 801 = .ok (.aload_n 2, 1) := by decide +kernel
theorem dL_law_802 : decode cL_law 802 = .ok (.aload_n 0, 1) := by decide +kernel
theorem dL_law_803 : decode cL_law 803 = .ok (.iload_n 3, 1) := by decide +kernel
theorem dL_law_804 : decode cL_law 804 = .ok (.iconst 1, 1) := by decide +kernel
theorem dL_law_805 : decode cL_law 805 = .ok (.iadd, 1) := by decide +kernel
theorem dL_law_806 : decode cL_law 806 = .ok (.iaload, 1) := by decide +kernel
theorem dL_law_807 : decode cL_law 807 = .ok (.invokevirtual 111, 3) := by decide +kernel
theorem dL_law_810 : decode cL_law 810 = .ok (.if_icmp .eq 107, 3) := by decide +kernel
set_option maxHeartbeats 8000000 in
set_option maxRecDepth 100000 in
theorem lc_later {p : Program} {e : Env} {s : State} {m : MethodId} {below : List Frame} {meth : Method} {c : Code} (l : Launch) {b : Nat} {xs : Nat → Int32} {D : va_G} {cy : Nat → ClassId} {ad : Nat → Nat} {g : Nat → va_E} {H : Heap} {locs : List Loc} {cells slots : Nat} {ls : Array Slot} {f0 : List Value} {f101 : List Value} {f119 : List Value} (hC : CallFix p m c code 4 s #[Value.ref b] lw_tbl RL) (hr : meth.sig.returnType = ret) (hlk : meth.locks = false) (hX : va_X b 6 xs s s.heap) (hbl : b < s.heap.size) (o0 : g 0 = .inr (11, f0)) (f0_11 : f0[11]? = some (.ref (ad 101))) (o101 : g 101 = .inr (8, f101)) (f101_8 : f101[8]? = some (.int 0)) (o119 : g 119 = .inr (12, f119)) (f119_71 : f119[71]? = some (.int 0)) (hO : cO D cy (fun q : Nat => s.heap.size ≤ q) s.heap s 173 ad (cup [] g) H locs) (hce : cells + 0 ≤ 600000) (hsl : slots + 0 ≤ 7302250) (hl : lv_has ls 4 [(0, .ref b), (1, .ref (ad 0)), (2, .ref (ad 119)), (3, .int 0)]) : W p l e room_1 s m #[Value.ref b] below meth c H locs cells slots (lw_Z below #[Value.ref b] s) (F0 m 792 ls []) := by
  obtain ⟨hx, hb, hml, hown, hts⟩ := id hC
  refine lv_aload_n hx hb dL_law_792 rfl (lv_at hl 1 rfl) ?_
  refine lv_aload_n hx hb dL_law_793 rfl (lv_at hl 0 rfl) ?_
  refine lv_iload_n hx hb dL_law_794 rfl (lv_at hl 3 rfl) ?_
  refine lv_iconst (v := 1) hx hb dL_law_795 (by decide) ?_
  refine lv_iadd hx hb dL_law_796 ?_
  refine cg_ev (v := 1) (by decide) ?_
  refine va_sld hx hb hX hbl (Nat.not_le.mpr hbl) hO.2.2.2.1 (cin (by decide)) dL_law_797 ?_
  refine cg_ev (v := xs 1) rfl ?_
  refine cg_Vi (As := [.int (xs 1)]) (rest := []) (mc := 0) (ms := 0) (rm := { frames := 1, cells := 0, slots := 0, locals := 22 }) hC hl.1 hO [0, 101] (by decide +kernel) (c_X11_later l D cy _ _ (f0 := f0) (f1 := f101) (n := (xs 1)) o0 f0_11 o101 f101_8) gL_c_X11_later rfl rfl rfl 1 (by decide +kernel) ⟨Nat.le_of_ble_eq_true rfl, Nat.le_of_ble_eq_true rfl⟩ rfl (by decide) o0 rfl rfl (Nat.le_of_ble_eq_true rfl) dL_law_798 ⟨hce, hsl⟩ (fun r0 nw0 l0 H locs hw hO => ?_)
  obtain rfl := hw
  have hm := cm_far (N := 173) (k := 2) (M := 119) (ps := [0, 101]) (by decide +kernel) (by decide +kernel) l0 [] g
  refine lv_aload_n hx hb dL_law_801 rfl (lv_at hl 2 rfl) ?_
  refine lv_aload_n hx hb dL_law_802 rfl (lv_at hl 0 rfl) ?_
  refine lv_iload_n hx hb dL_law_803 rfl (lv_at hl 3 rfl) ?_
  refine lv_iconst (v := 1) hx hb dL_law_804 (by decide) ?_
  refine lv_iadd hx hb dL_law_805 ?_
  refine cg_ev (v := 1) (by decide) ?_
  refine va_sld hx hb hX hbl (Nat.not_le.mpr hbl) hO.2.2.2.1 (cin (by decide)) dL_law_806 ?_
  refine cg_ev (v := xs 1) rfl ?_
  refine cg_Vi (As := [.int (xs 1)]) (rest := [.int (ans_later (xs 1))]) (mc := 0) (ms := 0) (rm := { frames := 1, cells := 0, slots := 0, locals := 22 }) hC hl.1 hO [119] (by decide +kernel) (c_X12_later l D cy _ _ (f0 := f119) (n := (xs 1)) ((hm 119 (by decide) (by decide)).trans o119) f119_71) gL_c_X12_later rfl rfl rfl 1 (by decide +kernel) ⟨Nat.le_of_ble_eq_true rfl, Nat.le_of_ble_eq_true rfl⟩ rfl (by decide) ((hm 119 (by decide) (by decide)).trans o119) rfl rfl (Nat.le_of_ble_eq_true rfl) dL_law_807 ⟨hce, hsl⟩ (fun r1 nw1 l1 H locs hw hO => ?_)
  obtain rfl := hw
  refine lv_icmp_eq (tgt := 917) hx hb dL_law_810 (by decide) (fun _ => ?_) (fun h => absurd rfl h)
  exact law_tail l hC hr hlk hX hbl hO hce hsl (lv_sub hl [0, 3] rfl)

theorem dL_law_815 : decode cL_law 815 = .ok (.aload_n 1, 1) := by decide +kernel
theorem dL_law_816 : decode cL_law 816 = .ok (.aload_n 0, 1) := by decide +kernel
theorem dL_law_817 : decode cL_law 817 = .ok (.iload_n 3, 1) := by decide +kernel
theorem dL_law_818 : decode cL_law 818 = .ok (.iconst 1, 1) := by decide +kernel
theorem dL_law_819 : decode cL_law 819 = .ok (.iadd, 1) := by decide +kernel
theorem dL_law_820 : decode cL_law 820 = .ok (.iaload, 1) := by decide +kernel
theorem dL_law_821 : decode cL_law 821 = .ok (.aload_n 0, 1) := by decide +kernel
theorem dL_law_822 : decode cL_law 822 = .ok (.iload_n 3, 1) := by decide +kernel
theorem dL_law_823 : decode cL_law 823 = .ok (.iconst 2, 1) := by decide +kernel
theorem dL_law_824 : decode cL_law 824 = .ok (.iadd, 1) := by decide +kernel
theorem dL_law_825 : decode cL_law 825 = .ok (.iaload, 1) := by decide +kernel
theorem dL_law_826 : decode cL_law 826 = .ok (.invokevirtual 112, 3) := by decide +kernel
theorem dL_law_829 : decode cL_law 829 = .ok (.aload_n 2, 1) := by decide +kernel
theorem dL_law_830 : decode cL_law 830 = .ok (.aload_n 0, 1) := by decide +kernel
theorem dL_law_831 : decode cL_law 831 = .ok (.iload_n 3, 1) := by decide +kernel
theorem dL_law_832 : decode cL_law 832 = .ok (.iconst 1, 1) := by decide +kernel
theorem dL_law_833 : decode cL_law 833 = .ok (.iadd, 1) := by decide +kernel
theorem dL_law_834 : decode cL_law 834 = .ok (.iaload, 1) := by decide +kernel
theorem dL_law_835 : decode cL_law 835 = .ok (.aload_n 0, 1) := by decide +kernel
theorem dL_law_836 : decode cL_law 836 = .ok (.iload_n 3, 1) := by decide +kernel
theorem dL_law_837 : decode cL_law 837 = .ok (.iconst 2, 1) := by decide +kernel
theorem dL_law_838 : decode cL_law 838 = .ok (.iadd, 1) := by decide +kernel
theorem dL_law_839 : decode cL_law 839 = .ok (.iaload, 1) := by decide +kernel
theorem dL_law_840 : decode cL_law 840 = .ok (.invokevirtual 115, 3) := by decide +kernel
theorem dL_law_843 : decode cL_law 843 = .ok (.if_icmp .eq 74, 3) := by decide +kernel
set_option maxHeartbeats 8000000 in
set_option maxRecDepth 100000 in
theorem lc_came {p : Program} {e : Env} {s : State} {m : MethodId} {below : List Frame} {meth : Method} {c : Code} (l : Launch) {b : Nat} {xs : Nat → Int32} {D : va_G} {cy : Nat → ClassId} {ad : Nat → Nat} {g : Nat → va_E} {H : Heap} {locs : List Loc} {cells slots : Nat} {ls : Array Slot} {f0 : List Value} {f21 : List Value} {c23 : Nat → Int32} {c30 : Nat → Int32} {c31 : Nat → Int32} {c33 : Nat → Int32} {f101 : List Value} {c107 : Nat → Int32} {f110 : List Value} {c111 : Nat → Int32} {c112 : Nat → Int32} {c113 : Nat → Int32} {c114 : Nat → Int32} {c115 : Nat → Int32} {c116 : Nat → Int32} {c117 : Nat → Int32} {f119 : List Value} (hC : CallFix p m c code 4 s #[Value.ref b] lw_tbl RL) (hr : meth.sig.returnType = ret) (hlk : meth.locks = false) (hX : va_X b 6 xs s s.heap) (hbl : b < s.heap.size) (o0 : g 0 = .inr (11, f0)) (f0_11 : f0[11]? = some (.ref (ad 101))) (o21 : g 21 = .inr (7, f21)) (f21_1 : f21[1]? = some (.ref (ad 23))) (f21_9 : f21[9]? = some (.ref (ad 30))) (f21_10 : f21[10]? = some (.ref (ad 31))) (f21_13 : f21[13]? = some (.ref (ad 33))) (f21_15 : f21[15]? = some (.int 0)) (f21_16 : f21[16]? = some (.int 0)) (a23 : g 23 = .inl (cy 0, 5, .inl c23)) (a30 : g 30 = .inl (cy 0, 20, .inl c30)) (a31 : g 31 = .inl (cy 0, 4, .inl c31)) (a33 : g 33 = .inl (cy 0, 12, .inl c33)) (o101 : g 101 = .inr (8, f101)) (f101_0 : f101[0]? = some (.ref (ad 21))) (f101_1 : f101[1]? = some (.ref (ad 110))) (f101_7 : f101[7]? = some (.int 0)) (f101_9 : f101[9]? = some (.ref (ad 107))) (f101_11 : f101[11]? = some (.int 0)) (f101_13 : f101[13]? = some (.int 0)) (f101_14 : f101[14]? = some (.int 0)) (f101_15 : f101[15]? = some (.int 0)) (a107 : g 107 = .inl (cy 0, 12, .inl c107)) (o110 : g 110 = .inr (10, f110)) (f110_0 : f110[0]? = some (.ref (ad 21))) (f110_1 : f110[1]? = some (.ref (ad 111))) (f110_2 : f110[2]? = some (.ref (ad 112))) (f110_3 : f110[3]? = some (.ref (ad 113))) (f110_4 : f110[4]? = some (.ref (ad 114))) (f110_5 : f110[5]? = some (.ref (ad 115))) (f110_6 : f110[6]? = some (.ref (ad 116))) (f110_7 : f110[7]? = some (.ref (ad 117))) (a111 : g 111 = .inl (cy 0, 5, .inl c111)) (a112 : g 112 = .inl (cy 0, 20, .inl c112)) (a113 : g 113 = .inl (cy 0, 4, .inl c113)) (a114 : g 114 = .inl (cy 0, 5, .inl c114)) (a115 : g 115 = .inl (cy 0, 5, .inl c115)) (a116 : g 116 = .inl (cy 0, 5, .inl c116)) (a117 : g 117 = .inl (cy 0, 5, .inl c117)) (o119 : g 119 = .inr (12, f119)) (f119_11 : f119[11]? = some (.ref (ad 122))) (f119_12 : f119[12]? = some (.ref (ad 123))) (f119_13 : f119[13]? = some (.ref (ad 124))) (f119_36 : f119[36]? = some (.int 0)) (f119_56 : f119[56]? = some (.int 0)) (f119_70 : f119[70]? = some (.int 0)) (a122 : g 122 = .inl (cy 0, 2, .inl (fun _ => 0))) (a123 : g 123 = .inl (cy 0, 2, .inl (fun _ => 0))) (a124 : g 124 = .inl (cy 0, 2, .inl (fun _ => 0))) (hO : cO D cy (fun q : Nat => s.heap.size ≤ q) s.heap s 173 ad (cup [] g) H locs) (hce : cells + 0 ≤ 600000) (hsl : slots + 0 ≤ 7302250) (hl : lv_has ls 4 [(0, .ref b), (1, .ref (ad 0)), (2, .ref (ad 119)), (3, .int 0)]) : W p l e room_1 s m #[Value.ref b] below meth c H locs cells slots (lw_Z below #[Value.ref b] s) (F0 m 815 ls []) := by
  obtain ⟨hx, hb, hml, hown, hts⟩ := id hC
  refine lv_aload_n hx hb dL_law_815 rfl (lv_at hl 1 rfl) ?_
  refine lv_aload_n hx hb dL_law_816 rfl (lv_at hl 0 rfl) ?_
  refine lv_iload_n hx hb dL_law_817 rfl (lv_at hl 3 rfl) ?_
  refine lv_iconst (v := 1) hx hb dL_law_818 (by decide) ?_
  refine lv_iadd hx hb dL_law_819 ?_
  refine cg_ev (v := 1) (by decide) ?_
  refine va_sld hx hb hX hbl (Nat.not_le.mpr hbl) hO.2.2.2.1 (cin (by decide)) dL_law_820 ?_
  refine cg_ev (v := xs 1) rfl ?_
  refine lv_aload_n hx hb dL_law_821 rfl (lv_at hl 0 rfl) ?_
  refine lv_iload_n hx hb dL_law_822 rfl (lv_at hl 3 rfl) ?_
  refine lv_iconst (v := 2) hx hb dL_law_823 (by decide) ?_
  refine lv_iadd hx hb dL_law_824 ?_
  refine cg_ev (v := 2) (by decide) ?_
  refine va_sld hx hb hX hbl (Nat.not_le.mpr hbl) hO.2.2.2.1 (cin (by decide)) dL_law_825 ?_
  refine cg_ev (v := xs 2) rfl ?_
  refine cg_Vi (As := [.int (xs 1), .int (xs 2)]) (rest := []) (mc := 0) (ms := 0) (rm := { frames := 4, cells := 0, slots := 0, locals := 104 }) hC hl.1 hO [0, 101, 21, 23, 30, 31, 33, 110, 111, 112, 113, 114, 115, 116, 117, 107] (by decide +kernel) (c_X11_came l D cy _ _ (f0 := f0) (f1 := f101) (f2 := f21) (f7 := f110) (n := (xs 1)) (k1 := (xs 2)) o0 f0_11 o101 f101_0 f101_1 f101_7 f101_9 f101_11 f101_13 f101_14 f101_15 o21 f21_1 f21_9 f21_10 f21_13 f21_15 f21_16 a23 a30 a31 a33 o110 f110_0 f110_1 f110_2 f110_3 f110_4 f110_5 f110_6 f110_7 a111 a112 a113 a114 a115 a116 a117 a107) gL_c_X11_came rfl rfl rfl 2 (by decide +kernel) ⟨Nat.le_of_ble_eq_true rfl, Nat.le_of_ble_eq_true rfl⟩ rfl (by decide) o0 rfl rfl (Nat.le_of_ble_eq_true rfl) dL_law_826 ⟨hce, hsl⟩ (fun r0 nw0 l0 H locs hw hO => ?_)
  obtain rfl := hw
  have hm := cm_far (N := 173) (k := 16) (M := 119) (ps := [0, 101, 21, 23, 30, 31, 33, 110, 111, 112, 113, 114, 115, 116, 117, 107]) (by decide +kernel) (by decide +kernel) l0 [] g
  refine lv_aload_n hx hb dL_law_829 rfl (lv_at hl 2 rfl) ?_
  refine lv_aload_n hx hb dL_law_830 rfl (lv_at hl 0 rfl) ?_
  refine lv_iload_n hx hb dL_law_831 rfl (lv_at hl 3 rfl) ?_
  refine lv_iconst (v := 1) hx hb dL_law_832 (by decide) ?_
  refine lv_iadd hx hb dL_law_833 ?_
  refine cg_ev (v := 1) (by decide) ?_
  refine va_sld hx hb hX hbl (Nat.not_le.mpr hbl) hO.2.2.2.1 (cin (by decide)) dL_law_834 ?_
  refine cg_ev (v := xs 1) rfl ?_
  refine lv_aload_n hx hb dL_law_835 rfl (lv_at hl 0 rfl) ?_
  refine lv_iload_n hx hb dL_law_836 rfl (lv_at hl 3 rfl) ?_
  refine lv_iconst (v := 2) hx hb dL_law_837 (by decide) ?_
  refine lv_iadd hx hb dL_law_838 ?_
  refine cg_ev (v := 2) (by decide) ?_
  refine va_sld hx hb hX hbl (Nat.not_le.mpr hbl) hO.2.2.2.1 (cin (by decide)) dL_law_839 ?_
  refine cg_ev (v := xs 2) rfl ?_
  refine cg_Vi (As := [.int (xs 1), .int (xs 2)]) (rest := [.int (ans_came (xs 1))]) (mc := 0) (ms := 0) (rm := { frames := 3, cells := 0, slots := 0, locals := 65 }) hC hl.1 hO [119, 124, 122, 123] (by decide +kernel) (c_X12_came l D cy _ _ (f0 := f119) (n := (xs 1)) (k1 := (xs 2)) ((hm 119 (by decide) (by decide)).trans o119) f119_11 f119_12 f119_13 f119_36 f119_56 f119_70 ((hm 124 (by decide) (by decide)).trans a124) ((hm 122 (by decide) (by decide)).trans a122) ((hm 123 (by decide) (by decide)).trans a123)) gL_c_X12_came rfl rfl rfl 2 (by decide +kernel) ⟨Nat.le_of_ble_eq_true rfl, Nat.le_of_ble_eq_true rfl⟩ rfl (by decide) ((hm 119 (by decide) (by decide)).trans o119) rfl rfl (Nat.le_of_ble_eq_true rfl) dL_law_840 ⟨hce, hsl⟩ (fun r1 nw1 l1 H locs hw hO => ?_)
  obtain rfl := hw
  refine lv_icmp_eq (tgt := 917) hx hb dL_law_843 (by decide) (fun _ => ?_) (fun h => absurd rfl h)
  exact law_tail l hC hr hlk hX hbl hO hce hsl (lv_sub hl [0, 3] rfl)

theorem dL_law_848 : decode cL_law 848 = .ok (.aload_n 1, 1) := by decide +kernel
theorem dL_law_849 : decode cL_law 849 = .ok (.aload_n 0, 1) := by decide +kernel
theorem dL_law_850 : decode cL_law 850 = .ok (.iload_n 3, 1) := by decide +kernel
theorem dL_law_851 : decode cL_law 851 = .ok (.iconst 1, 1) := by decide +kernel
theorem dL_law_852 : decode cL_law 852 = .ok (.iadd, 1) := by decide +kernel
theorem dL_law_853 : decode cL_law 853 = .ok (.iaload, 1) := by decide +kernel
theorem dL_law_854 : decode cL_law 854 = .ok (.invokevirtual 116, 3) := by decide +kernel
theorem dL_law_857 : decode cL_law 857 = .ok (.aload_n 2, 1) := by decide +kernel
theorem dL_law_858 : decode cL_law 858 = .ok (.aload_n 0, 1) := by decide +kernel
theorem dL_law_859 : decode cL_law 859 = .ok (.iload_n 3, 1) := by decide +kernel
theorem dL_law_860 : decode cL_law 860 = .ok (.iconst 1, 1) := by decide +kernel
theorem dL_law_861 : decode cL_law 861 = .ok (.iadd, 1) := by decide +kernel
theorem dL_law_862 : decode cL_law 862 = .ok (.iaload, 1) := by decide +kernel
theorem dL_law_863 : decode cL_law 863 = .ok (.invokevirtual 119, 3) := by decide +kernel
theorem dL_law_866 : decode cL_law 866 = .ok (.if_icmp .eq 51, 3) := by decide +kernel
set_option maxHeartbeats 8000000 in
set_option maxRecDepth 100000 in
theorem lc_image {p : Program} {e : Env} {s : State} {m : MethodId} {below : List Frame} {meth : Method} {c : Code} (l : Launch) {b : Nat} {xs : Nat → Int32} {D : va_G} {cy : Nat → ClassId} {ad : Nat → Nat} {g : Nat → va_E} {H : Heap} {locs : List Loc} {cells slots : Nat} {ls : Array Slot} {f0 : List Value} {f38 : List Value} {c39 : Nat → Int32} {c40 : Nat → Int32} {c41 : Nat → Int32} {f43 : List Value} {c44 : Nat → Int32} {c45 : Nat → Int32} {c46 : Nat → Int32} {f47 : List Value} {c48 : Nat → Int32} {c49 : Nat → Int32} {c50 : Nat → Int32} {f51 : List Value} {c52 : Nat → Int32} {c53 : Nat → Int32} {c54 : Nat → Int32} {f119 : List Value} {c171 : Nat → Int32} {c172 : Nat → Int32} (hC : CallFix p m c code 4 s #[Value.ref b] lw_tbl RL) (hr : meth.sig.returnType = ret) (hlk : meth.locks = false) (hX : va_X b 6 xs s s.heap) (hbl : b < s.heap.size) (o0 : g 0 = .inr (11, f0)) (f0_4 : f0[4]? = some (.ref (ad 38))) (f0_5 : f0[5]? = some (.ref (ad 42))) (o38 : g 38 = .inr (9, f38)) (f38_0 : f38[0]? = some (.ref (ad 39))) (f38_1 : f38[1]? = some (.ref (ad 40))) (f38_2 : f38[2]? = some (.int (-1))) (f38_3 : f38[3]? = some (.ref (ad 41))) (f38_4 : f38[4]? = some (.int 0)) (a39 : g 39 = .inl (cy 0, 24, .inl c39)) (a40 : g 40 = .inl (cy 0, 24, .inl c40)) (a41 : g 41 = .inl (cy 0, 5, .inl c41)) (a42 : g 42 = .inl (cy 4, 3, .inr (.inr (.inr (.inr (va_up (va_up (va_up (fun _ => none) (0 : Int32).toNatClampNeg (some (ad 43))) (1 : Int32).toNatClampNeg (some (ad 47))) (2 : Int32).toNatClampNeg (some (ad 51)))))))) (o43 : g 43 = .inr (9, f43)) (f43_0 : f43[0]? = some (.ref (ad 44))) (f43_1 : f43[1]? = some (.ref (ad 45))) (f43_2 : f43[2]? = some (.int 0)) (f43_3 : f43[3]? = some (.ref (ad 46))) (f43_4 : f43[4]? = some (.int (-1))) (a44 : g 44 = .inl (cy 0, 24, .inl c44)) (a45 : g 45 = .inl (cy 0, 24, .inl c45)) (a46 : g 46 = .inl (cy 0, 5, .inl c46)) (o47 : g 47 = .inr (9, f47)) (f47_0 : f47[0]? = some (.ref (ad 48))) (f47_1 : f47[1]? = some (.ref (ad 49))) (f47_2 : f47[2]? = some (.int 0)) (f47_3 : f47[3]? = some (.ref (ad 50))) (f47_4 : f47[4]? = some (.int (-1))) (a48 : g 48 = .inl (cy 0, 24, .inl c48)) (a49 : g 49 = .inl (cy 0, 24, .inl c49)) (a50 : g 50 = .inl (cy 0, 5, .inl c50)) (o51 : g 51 = .inr (9, f51)) (f51_0 : f51[0]? = some (.ref (ad 52))) (f51_1 : f51[1]? = some (.ref (ad 53))) (f51_2 : f51[2]? = some (.int 0)) (f51_3 : f51[3]? = some (.ref (ad 54))) (f51_4 : f51[4]? = some (.int (-1))) (a52 : g 52 = .inl (cy 0, 24, .inl c52)) (a53 : g 53 = .inl (cy 0, 24, .inl c53)) (a54 : g 54 = .inl (cy 0, 5, .inl c54)) (o119 : g 119 = .inr (12, f119)) (f119_41 : f119[41]? = some (.ref (ad 147))) (f119_72 : f119[72]? = some (.ref (ad 171))) (f119_73 : f119[73]? = some (.ref (ad 172))) (a147 : g 147 = .inl (cy 0, 80, .inl (fun _ => 0))) (a171 : g 171 = .inl (cy 0, 240, .inl c171)) (a172 : g 172 = .inl (cy 2, 3, .inl c172)) (hO : cO D cy (fun q : Nat => s.heap.size ≤ q) s.heap s 173 ad (cup [] g) H locs) (hce : cells + 0 ≤ 600000) (hsl : slots + 0 ≤ 7302250) (hl : lv_has ls 4 [(0, .ref b), (1, .ref (ad 0)), (2, .ref (ad 119)), (3, .int 0)]) : W p l e room_1 s m #[Value.ref b] below meth c H locs cells slots (lw_Z below #[Value.ref b] s) (F0 m 848 ls []) := by
  obtain ⟨hx, hb, hml, hown, hts⟩ := id hC
  refine lv_aload_n hx hb dL_law_848 rfl (lv_at hl 1 rfl) ?_
  refine lv_aload_n hx hb dL_law_849 rfl (lv_at hl 0 rfl) ?_
  refine lv_iload_n hx hb dL_law_850 rfl (lv_at hl 3 rfl) ?_
  refine lv_iconst (v := 1) hx hb dL_law_851 (by decide) ?_
  refine lv_iadd hx hb dL_law_852 ?_
  refine cg_ev (v := 1) (by decide) ?_
  refine va_sld hx hb hX hbl (Nat.not_le.mpr hbl) hO.2.2.2.1 (cin (by decide)) dL_law_853 ?_
  refine cg_ev (v := xs 1) rfl ?_
  refine cg_Vi (As := [.int (xs 1)]) (rest := []) (mc := 0) (ms := 0) (rm := { frames := 2, cells := 0, slots := 0, locals := 81 }) hC hl.1 hO [0, 42, 43, 44, 45, 46, 38, 39, 40, 41, 47, 48, 49, 50, 51, 52, 53, 54] (by decide +kernel) (c_X11_image l D cy _ _ (f0 := f0) (f6 := f38) (f2 := f43) (f10 := f47) (f14 := f51) (n := (xs 1)) o0 f0_4 f0_5 a42 o43 f43_0 f43_1 f43_2 f43_3 f43_4 a44 a45 a46 o38 f38_0 f38_1 f38_2 f38_3 f38_4 a39 a40 a41 o47 f47_0 f47_1 f47_2 f47_3 f47_4 a48 a49 a50 o51 f51_0 f51_1 f51_2 f51_3 f51_4 a52 a53 a54) gL_c_X11_image rfl rfl rfl 1 (by decide +kernel) ⟨Nat.le_of_ble_eq_true rfl, Nat.le_of_ble_eq_true rfl⟩ rfl (by decide) o0 rfl rfl (Nat.le_of_ble_eq_true rfl) dL_law_854 ⟨hce, hsl⟩ (fun r0 nw0 l0 H locs hw hO => ?_)
  obtain rfl := hw
  have hm := cm_far (N := 173) (k := 18) (M := 119) (ps := [0, 42, 43, 44, 45, 46, 38, 39, 40, 41, 47, 48, 49, 50, 51, 52, 53, 54]) (by decide +kernel) (by decide +kernel) l0 [] g
  refine lv_aload_n hx hb dL_law_857 rfl (lv_at hl 2 rfl) ?_
  refine lv_aload_n hx hb dL_law_858 rfl (lv_at hl 0 rfl) ?_
  refine lv_iload_n hx hb dL_law_859 rfl (lv_at hl 3 rfl) ?_
  refine lv_iconst (v := 1) hx hb dL_law_860 (by decide) ?_
  refine lv_iadd hx hb dL_law_861 ?_
  refine cg_ev (v := 1) (by decide) ?_
  refine va_sld hx hb hX hbl (Nat.not_le.mpr hbl) hO.2.2.2.1 (cin (by decide)) dL_law_862 ?_
  refine cg_ev (v := xs 1) rfl ?_
  refine cg_Vi (As := [.int (xs 1)]) (rest := [.int (ans_image (xs 1))]) (mc := 0) (ms := 0) (rm := { frames := 1, cells := 0, slots := 0, locals := 22 }) hC hl.1 hO [119, 171, 172, 147] (by decide +kernel) (c_X12_image l D cy _ _ (f0 := f119) (n := (xs 1)) ((hm 119 (by decide) (by decide)).trans o119) f119_41 f119_72 f119_73 ((hm 171 (by decide) (by decide)).trans a171) ((hm 172 (by decide) (by decide)).trans a172) ((hm 147 (by decide) (by decide)).trans a147)) gL_c_X12_image rfl rfl rfl 1 (by decide +kernel) ⟨Nat.le_of_ble_eq_true rfl, Nat.le_of_ble_eq_true rfl⟩ rfl (by decide) ((hm 119 (by decide) (by decide)).trans o119) rfl rfl (Nat.le_of_ble_eq_true rfl) dL_law_863 ⟨hce, hsl⟩ (fun r1 nw1 l1 H locs hw hO => ?_)
  obtain rfl := hw
  refine lv_icmp_eq (tgt := 917) hx hb dL_law_866 (by decide) (fun _ => ?_) (fun h => absurd rfl h)
  exact law_tail l hC hr hlk hX hbl hO hce hsl (lv_sub hl [0, 3] rfl)

theorem dL_law_871 : decode cL_law 871 = .ok (.aload_n 1, 1) := by decide +kernel
theorem dL_law_872 : decode cL_law 872 = .ok (.aload_n 0, 1) := by decide +kernel
theorem dL_law_873 : decode cL_law 873 = .ok (.iload_n 3, 1) := by decide +kernel
theorem dL_law_874 : decode cL_law 874 = .ok (.iconst 1, 1) := by decide +kernel
theorem dL_law_875 : decode cL_law 875 = .ok (.iadd, 1) := by decide +kernel
theorem dL_law_876 : decode cL_law 876 = .ok (.iaload, 1) := by decide +kernel
theorem dL_law_877 : decode cL_law 877 = .ok (.invokevirtual 120, 3) := by decide +kernel
theorem dL_law_880 : decode cL_law 880 = .ok (.aload_n 2, 1) := by decide +kernel
theorem dL_law_881 : decode cL_law 881 = .ok (.aload_n 0, 1) := by decide +kernel
theorem dL_law_882 : decode cL_law 882 = .ok (.iload_n 3, 1) := by decide +kernel
theorem dL_law_883 : decode cL_law 883 = .ok (.iconst 1, 1) := by decide +kernel
theorem dL_law_884 : decode cL_law 884 = .ok (.iadd, 1) := by decide +kernel
theorem dL_law_885 : decode cL_law 885 = .ok (.iaload, 1) := by decide +kernel
theorem dL_law_886 : decode cL_law 886 = .ok (.invokevirtual 123, 3) := by decide +kernel
theorem dL_law_889 : decode cL_law 889 = .ok (.if_icmp .eq 28, 3) := by decide +kernel
set_option maxHeartbeats 8000000 in
set_option maxRecDepth 100000 in
theorem lc_back {p : Program} {e : Env} {s : State} {m : MethodId} {below : List Frame} {meth : Method} {c : Code} (l : Launch) {b : Nat} {xs : Nat → Int32} {D : va_G} {cy : Nat → ClassId} {ad : Nat → Nat} {g : Nat → va_E} {H : Heap} {locs : List Loc} {cells slots : Nat} {ls : Array Slot} {f0 : List Value} {f43 : List Value} {f47 : List Value} {f51 : List Value} {f119 : List Value} (hC : CallFix p m c code 4 s #[Value.ref b] lw_tbl RL) (hr : meth.sig.returnType = ret) (hlk : meth.locks = false) (hX : va_X b 6 xs s s.heap) (hbl : b < s.heap.size) (o0 : g 0 = .inr (11, f0)) (f0_5 : f0[5]? = some (.ref (ad 42))) (a42 : g 42 = .inl (cy 4, 3, .inr (.inr (.inr (.inr (va_up (va_up (va_up (fun _ => none) (0 : Int32).toNatClampNeg (some (ad 43))) (1 : Int32).toNatClampNeg (some (ad 47))) (2 : Int32).toNatClampNeg (some (ad 51)))))))) (o43 : g 43 = .inr (9, f43)) (f43_4 : f43[4]? = some (.int (-1))) (o47 : g 47 = .inr (9, f47)) (f47_4 : f47[4]? = some (.int (-1))) (o51 : g 51 = .inr (9, f51)) (f51_4 : f51[4]? = some (.int (-1))) (o119 : g 119 = .inr (12, f119)) (f119_73 : f119[73]? = some (.ref (ad 172))) (a172 : g 172 = .inl (cy 2, 3, .inl (fun _ => 0))) (hO : cO D cy (fun q : Nat => s.heap.size ≤ q) s.heap s 173 ad (cup [] g) H locs) (hce : cells + 0 ≤ 600000) (hsl : slots + 0 ≤ 7302250) (hl : lv_has ls 4 [(0, .ref b), (1, .ref (ad 0)), (2, .ref (ad 119)), (3, .int 0)]) : W p l e room_1 s m #[Value.ref b] below meth c H locs cells slots (lw_Z below #[Value.ref b] s) (F0 m 871 ls []) := by
  obtain ⟨hx, hb, hml, hown, hts⟩ := id hC
  refine lv_aload_n hx hb dL_law_871 rfl (lv_at hl 1 rfl) ?_
  refine lv_aload_n hx hb dL_law_872 rfl (lv_at hl 0 rfl) ?_
  refine lv_iload_n hx hb dL_law_873 rfl (lv_at hl 3 rfl) ?_
  refine lv_iconst (v := 1) hx hb dL_law_874 (by decide) ?_
  refine lv_iadd hx hb dL_law_875 ?_
  refine cg_ev (v := 1) (by decide) ?_
  refine va_sld hx hb hX hbl (Nat.not_le.mpr hbl) hO.2.2.2.1 (cin (by decide)) dL_law_876 ?_
  refine cg_ev (v := xs 1) rfl ?_
  refine cg_Vi (As := [.int (xs 1)]) (rest := []) (mc := 0) (ms := 0) (rm := { frames := 1, cells := 0, slots := 0, locals := 22 }) hC hl.1 hO [0, 42, 43, 47, 51] (by decide +kernel) (c_X11_back l D cy _ _ (f0 := f0) (f2 := f43) (f3 := f47) (f4 := f51) (n := (xs 1)) o0 f0_5 a42 o43 f43_4 o47 f47_4 o51 f51_4) gL_c_X11_back rfl rfl rfl 1 (by decide +kernel) ⟨Nat.le_of_ble_eq_true rfl, Nat.le_of_ble_eq_true rfl⟩ rfl (by decide) o0 rfl rfl (Nat.le_of_ble_eq_true rfl) dL_law_877 ⟨hce, hsl⟩ (fun r0 nw0 l0 H locs hw hO => ?_)
  obtain rfl := hw
  have hm := cm_far (N := 173) (k := 5) (M := 119) (ps := [0, 42, 43, 47, 51]) (by decide +kernel) (by decide +kernel) l0 [] g
  refine lv_aload_n hx hb dL_law_880 rfl (lv_at hl 2 rfl) ?_
  refine lv_aload_n hx hb dL_law_881 rfl (lv_at hl 0 rfl) ?_
  refine lv_iload_n hx hb dL_law_882 rfl (lv_at hl 3 rfl) ?_
  refine lv_iconst (v := 1) hx hb dL_law_883 (by decide) ?_
  refine lv_iadd hx hb dL_law_884 ?_
  refine cg_ev (v := 1) (by decide) ?_
  refine va_sld hx hb hX hbl (Nat.not_le.mpr hbl) hO.2.2.2.1 (cin (by decide)) dL_law_885 ?_
  refine cg_ev (v := xs 1) rfl ?_
  refine cg_Vi (As := [.int (xs 1)]) (rest := [.int (-1)]) (mc := 0) (ms := 0) (rm := { frames := 1, cells := 0, slots := 0, locals := 22 }) hC hl.1 hO [119, 172] (by decide +kernel) (c_X12_back l D cy _ _ (f0 := f119) (n := (xs 1)) ((hm 119 (by decide) (by decide)).trans o119) f119_73 ((hm 172 (by decide) (by decide)).trans a172)) gL_c_X12_back rfl rfl rfl 1 (by decide +kernel) ⟨Nat.le_of_ble_eq_true rfl, Nat.le_of_ble_eq_true rfl⟩ rfl (by decide) ((hm 119 (by decide) (by decide)).trans o119) rfl rfl (Nat.le_of_ble_eq_true rfl) dL_law_886 ⟨hce, hsl⟩ (fun r1 nw1 l1 H locs hw hO => ?_)
  obtain rfl := hw
  refine lv_icmp_eq (tgt := 917) hx hb dL_law_889 (by decide) (fun _ => ?_) (fun h => absurd rfl h)
  exact law_tail l hC hr hlk hX hbl hO hce hsl (lv_sub hl [0, 3] rfl)

theorem dL_law_894 : decode cL_law 894 = .ok (.aload_n 1, 1) := by decide +kernel
theorem dL_law_895 : decode cL_law 895 = .ok (.aload_n 0, 1) := by decide +kernel
theorem dL_law_896 : decode cL_law 896 = .ok (.iload_n 3, 1) := by decide +kernel
theorem dL_law_897 : decode cL_law 897 = .ok (.iconst 1, 1) := by decide +kernel
theorem dL_law_898 : decode cL_law 898 = .ok (.iadd, 1) := by decide +kernel
theorem dL_law_899 : decode cL_law 899 = .ok (.iaload, 1) := by decide +kernel
theorem dL_law_900 : decode cL_law 900 = .ok (.invokevirtual 124, 3) := by decide +kernel
theorem dL_law_903 : decode cL_law 903 = .ok (.aload_n 2, 1) := by decide +kernel
theorem dL_law_904 : decode cL_law 904 = .ok (.aload_n 0, 1) := by decide +kernel
theorem dL_law_905 : decode cL_law 905 = .ok (.iload_n 3, 1) := by decide +kernel
theorem dL_law_906 : decode cL_law 906 = .ok (.iconst 1, 1) := by decide +kernel
theorem dL_law_907 : decode cL_law 907 = .ok (.iadd, 1) := by decide +kernel
theorem dL_law_908 : decode cL_law 908 = .ok (.iaload, 1) := by decide +kernel
theorem dL_law_909 : decode cL_law 909 = .ok (.invokevirtual 127, 3) := by decide +kernel
theorem dL_law_912 : decode cL_law 912 = .ok (.if_icmp .eq 5, 3) := by decide +kernel
set_option maxHeartbeats 8000000 in
set_option maxRecDepth 100000 in
theorem lc_about {p : Program} {e : Env} {s : State} {m : MethodId} {below : List Frame} {meth : Method} {c : Code} (l : Launch) {b : Nat} {xs : Nat → Int32} {D : va_G} {cy : Nat → ClassId} {ad : Nat → Nat} {g : Nat → va_E} {H : Heap} {locs : List Loc} {cells slots : Nat} {ls : Array Slot} {f0 : List Value} {f21 : List Value} {f35 : List Value} {f38 : List Value} {f55 : List Value} {f101 : List Value} {f119 : List Value} (hC : CallFix p m c code 4 s #[Value.ref b] lw_tbl RL) (hr : meth.sig.returnType = ret) (hlk : meth.locks = false) (hX : va_X b 6 xs s s.heap) (hbl : b < s.heap.size) (o0 : g 0 = .inr (11, f0)) (f0_1 : f0[1]? = some (.int 0)) (f0_3 : f0[3]? = some (.ref (ad 21))) (f0_4 : f0[4]? = some (.ref (ad 38))) (f0_6 : f0[6]? = some (.ref (ad 55))) (f0_11 : f0[11]? = some (.ref (ad 101))) (f0_13 : f0[13]? = some (.int 0)) (o21 : g 21 = .inr (7, f21)) (f21_5 : f21[5]? = some (.int 0)) (f21_11 : f21[11]? = some (.int 0)) (f21_17 : f21[17]? = some (.ref (ad 35))) (o35 : g 35 = .inr (4, f35)) (f35_2 : f35[2]? = some (.int 0)) (o38 : g 38 = .inr (9, f38)) (f38_4 : f38[4]? = some (.int 0)) (o55 : g 55 = .inr (0, f55)) (f55_3 : f55[3]? = some (.int 0)) (f55_4 : f55[4]? = some (.int 0)) (o101 : g 101 = .inr (8, f101)) (f101_7 : f101[7]? = some (.int 0)) (f101_8 : f101[8]? = some (.int 0)) (o119 : g 119 = .inr (12, f119)) (f119_2 : f119[2]? = some (.int 0)) (f119_11 : f119[11]? = some (.ref (ad 122))) (f119_12 : f119[12]? = some (.ref (ad 123))) (f119_14 : f119[14]? = some (.ref (ad 125))) (f119_36 : f119[36]? = some (.int 0)) (f119_41 : f119[41]? = some (.ref (ad 147))) (f119_59 : f119[59]? = some (.int 0)) (f119_60 : f119[60]? = some (.int 0)) (f119_62 : f119[62]? = some (.int 0)) (f119_70 : f119[70]? = some (.int 0)) (f119_71 : f119[71]? = some (.int 0)) (a122 : g 122 = .inl (cy 0, 2, .inl (fun _ => 0))) (a123 : g 123 = .inl (cy 0, 2, .inl (fun _ => 0))) (a125 : g 125 = .inl (cy 0, 2, .inl (fun _ => 0))) (a147 : g 147 = .inl (cy 0, 80, .inl (fun _ => 0))) (hO : cO D cy (fun q : Nat => s.heap.size ≤ q) s.heap s 173 ad (cup [] g) H locs) (hce : cells + 0 ≤ 600000) (hsl : slots + 0 ≤ 7302250) (hl : lv_has ls 4 [(0, .ref b), (1, .ref (ad 0)), (2, .ref (ad 119)), (3, .int 0)]) : W p l e room_1 s m #[Value.ref b] below meth c H locs cells slots (lw_Z below #[Value.ref b] s) (F0 m 894 ls []) := by
  obtain ⟨hx, hb, hml, hown, hts⟩ := id hC
  refine lv_aload_n hx hb dL_law_894 rfl (lv_at hl 1 rfl) ?_
  refine lv_aload_n hx hb dL_law_895 rfl (lv_at hl 0 rfl) ?_
  refine lv_iload_n hx hb dL_law_896 rfl (lv_at hl 3 rfl) ?_
  refine lv_iconst (v := 1) hx hb dL_law_897 (by decide) ?_
  refine lv_iadd hx hb dL_law_898 ?_
  refine cg_ev (v := 1) (by decide) ?_
  refine va_sld hx hb hX hbl (Nat.not_le.mpr hbl) hO.2.2.2.1 (cin (by decide)) dL_law_899 ?_
  refine cg_ev (v := xs 1) rfl ?_
  refine cg_Vi (As := [.int (xs 1)]) (rest := []) (mc := 0) (ms := 0) (rm := { frames := 0, cells := 0, slots := 0, locals := 0 }) hC hl.1 hO [0, 21, 38, 55, 101, 35] (by decide +kernel) (c_X11_about l D cy _ _ (f0 := f0) (f1 := f21) (f5 := f35) (f2 := f38) (f3 := f55) (f4 := f101) (n := (xs 1)) o0 f0_1 f0_3 f0_4 f0_6 f0_11 f0_13 o21 f21_5 f21_11 f21_17 o38 f38_4 o55 f55_3 f55_4 o101 f101_7 f101_8 o35 f35_2) gL_c_X11_about rfl rfl rfl 1 (by decide +kernel) ⟨Nat.le_of_ble_eq_true rfl, Nat.le_of_ble_eq_true rfl⟩ rfl (by decide) o0 rfl rfl (Nat.le_of_ble_eq_true rfl) dL_law_900 ⟨hce, hsl⟩ (fun r0 nw0 l0 H locs hw hO => ?_)
  obtain rfl := hw
  have hm := cm_far (N := 173) (k := 6) (M := 119) (ps := [0, 21, 38, 55, 101, 35]) (by decide +kernel) (by decide +kernel) l0 [] g
  refine lv_aload_n hx hb dL_law_903 rfl (lv_at hl 2 rfl) ?_
  refine lv_aload_n hx hb dL_law_904 rfl (lv_at hl 0 rfl) ?_
  refine lv_iload_n hx hb dL_law_905 rfl (lv_at hl 3 rfl) ?_
  refine lv_iconst (v := 1) hx hb dL_law_906 (by decide) ?_
  refine lv_iadd hx hb dL_law_907 ?_
  refine cg_ev (v := 1) (by decide) ?_
  refine va_sld hx hb hX hbl (Nat.not_le.mpr hbl) hO.2.2.2.1 (cin (by decide)) dL_law_908 ?_
  refine cg_ev (v := xs 1) rfl ?_
  refine cg_Vi (As := [.int (xs 1)]) (rest := [.int (ans_about (xs 1))]) (mc := 0) (ms := 0) (rm := { frames := 1, cells := 0, slots := 0, locals := 20 }) hC hl.1 hO [119, 122, 123, 147, 125] (by decide +kernel) (c_X12_about l D cy _ _ (f0 := f119) (n := (xs 1)) ((hm 119 (by decide) (by decide)).trans o119) f119_2 f119_11 f119_12 f119_14 f119_36 f119_41 f119_59 f119_60 f119_62 f119_70 f119_71 ((hm 122 (by decide) (by decide)).trans a122) ((hm 123 (by decide) (by decide)).trans a123) ((hm 147 (by decide) (by decide)).trans a147) ((hm 125 (by decide) (by decide)).trans a125)) gL_c_X12_about rfl rfl rfl 1 (by decide +kernel) ⟨Nat.le_of_ble_eq_true rfl, Nat.le_of_ble_eq_true rfl⟩ rfl (by decide) ((hm 119 (by decide) (by decide)).trans o119) rfl rfl (Nat.le_of_ble_eq_true rfl) dL_law_909 ⟨hce, hsl⟩ (fun r1 nw1 l1 H locs hw hO => ?_)
  obtain rfl := hw
  refine lv_icmp_eq (tgt := 917) hx hb dL_law_912 (by decide) (fun _ => ?_) (fun h => absurd rfl h)
  exact law_tail l hC hr hlk hX hbl hO hce hsl (lv_sub hl [0, 3] rfl)
