theorem ddJ7_fill_53178_0 : decode cJ7_fill_53178 0 = .ok (.iconst 0, 1) := by decide +kernel
theorem ddJ7_fill_53178_1 : decode cJ7_fill_53178 1 = .ok (.istore_n 2, 1) := by decide +kernel
theorem ddJ7_fill_53178_2 : decode cJ7_fill_53178 2 = .ok (.aload_n 0, 1) := by decide +kernel
theorem ddJ7_fill_53178_3 : decode cJ7_fill_53178 3 = .ok (.arraylength, 1) := by decide +kernel
theorem ddJ7_fill_53178_4 : decode cJ7_fill_53178 4 = .ok (.istore_n 3, 1) := by decide +kernel
theorem ddJ7_fill_53178_5 : decode cJ7_fill_53178 5 = .ok (.iload_n 2, 1) := by decide +kernel
theorem ddJ7_fill_53178_6 : decode cJ7_fill_53178 6 = .ok (.iload_n 3, 1) := by decide +kernel
theorem ddJ7_fill_53178_7 : decode cJ7_fill_53178 7 = .ok (.if_icmp .ge 13, 3) := by decide +kernel
theorem ddJ7_fill_53178_10 : decode cJ7_fill_53178 10 = .ok (.aload_n 0, 1) := by decide +kernel
theorem ddJ7_fill_53178_11 : decode cJ7_fill_53178 11 = .ok (.iload_n 2, 1) := by decide +kernel
theorem ddJ7_fill_53178_12 : decode cJ7_fill_53178 12 = .ok (.iload_n 1, 1) := by decide +kernel
theorem ddJ7_fill_53178_13 : decode cJ7_fill_53178 13 = .ok (.iastore, 1) := by decide +kernel
theorem ddJ7_fill_53178_14 : decode cJ7_fill_53178 14 = .ok (.iinc 2 1, 3) := by decide +kernel
theorem ddJ7_fill_53178_17 : decode cJ7_fill_53178 17 = .ok (.goto (-12), 3) := by decide +kernel
theorem ddJ7_fill_53178_20 : decode cJ7_fill_53178 20 = .ok (.return_, 1) := by decide +kernel
def wq_k_fill_3 : List Cond := Cond.code yJ7_fill_53178 cJ7_fill_53178 4 none :: (([] : List Cond))
set_option maxHeartbeats 8000000 in
set_option maxRecDepth 100000 in
theorem k_fill_3 (l : Launch) (D : va_G) (cy : Nat → ClassId) (ad : Nat → Nat) (g : Nat → va_E) {c0 : Nat → Int32} {x : Int32} (a0 : g 0 = .inl (cy 0, 3, .inl c0)) : cMv l yJ7_fill_53178 wq_k_fill_3 { frames := 0, cells := 0, slots := 0, locals := 0 } 1 0 0 0 D cy ad g [.ref (ad 0), .int x] (fun nw lu => ∃ (d0 : Nat → Int32), lu = [(0, .inl (cy 0, 3, .inl d0))]) := by
  refine cM_of (Qc := fun A => cQv (fun nw lu => ∃ (d0 : Nat → Int32), lu = [(0, .inl (cy 0, 3, .inl d0))]) D 1 0 ad g A) (cc := cJ7_fill_53178) (maxL := 4) (ret := none) (by decide) rfl (Nat.le_of_ble_eq_true rfl) ?_
  intro p e s m below meth c A hC hr hlk hnm hO ls hl
  have hC : CallFix p m c cJ7_fill_53178 4 s [.ref (ad 0), .int x].toArray wq_k_fill_3 RJ7 := hC
  obtain ⟨hx, hb, hml, hown, hts⟩ := id hC
  have hl : lv_has ls 4 [(0, .ref (ad 0)), (1, .int x)] := hl
  have hO := hO.notes [(0, .inl (cy 0, 3, .inl c0))] (List.forall_mem_cons.mpr ⟨a0, (fun _ h => absurd h List.not_mem_nil)⟩)
  refine lv_iconst (v := 0) hx hb ddJ7_fill_53178_0 (by decide) ?_
  refine lv_istore_n (lv' := [(2, .int 0), (0, .ref (ad 0)), (1, .int x)]) hx hb ddJ7_fill_53178_1 rfl hl (by decide) rfl (fun ls hl => ?_)
  refine lv_aload_n hx hb ddJ7_fill_53178_2 rfl (lv_at hl 1 rfl) ?_
  refine cg_alen hC hO 0 0 (by decide) rfl rfl (v := 3) rfl ddJ7_fill_53178_3 ?_
  refine lv_istore_n (lv' := [(3, .int 3), (2, .int 0), (0, .ref (ad 0)), (1, .int x)]) hx hb ddJ7_fill_53178_4 rfl hl (by decide) rfl (fun ls hl => ?_)
  have loop_5_161 : ∀ (d_5_162 : Nat) (v_5_146 : Int32) (c_5_148 : Nat → Int32), zi 0 3 v_5_146 → za (-2147483648) 2147483647 c_5_148 → (3 + 1 - v_5_146.toInt).toNat < d_5_162 → ∀ (H : Heap) (locs : List Loc), cO D cy A s.heap s 1 ad (cup [(0, .inl (cy 0, 3, .inl c_5_148))] g) H locs → ∀ ls : Array Slot, lv_has ls 4 [(3, .int 3), (2, .int v_5_146), (0, .ref (ad 0)), (1, .int x)] → W p l e { frames := 0, cells := 0, slots := 0, locals := 0 } s m [.ref (ad 0), .int x].toArray below meth c H locs 0 0 (MQ below (cQv (fun nw lu => ∃ (d0 : Nat → Int32), lu = [(0, .inl (cy 0, 3, .inl d0))]) D 1 0 ad g A) [.ref (ad 0), .int x].toArray s 0 0 A) (F0 m 5 ls [])  := by
    intro d_5_162
    induction d_5_162 with
    | zero => intro v_5_146 c_5_148 z_5_147 zc_5_149 mu_5_163; exact absurd mu_5_163 (Nat.not_lt_zero _)
    | succ d_5_162 ih_5_164 =>
      intro v_5_146 c_5_148 z_5_147 zc_5_149 mu_5_163 H locs hO ls hl
      refine lv_iload_n hx hb ddJ7_fill_53178_5 rfl (lv_at hl 1 rfl) ?_
      refine lv_iload_n hx hb ddJ7_fill_53178_6 rfl (lv_at hl 0 rfl) ?_
      refine lv_icmp_ge (tgt := 20) hx hb ddJ7_fill_53178_7 (by decide) (fun h_7_165 => ?_) (fun h_7_165 => ?_)
      · have q_7_166 := zr_le h_7_165
        have z_7_167 : zi 3 3 v_5_146 := zd_le q_7_166 (zi_k (a := 3) (b := 3) (x := 3) rfl) z_5_147 (by decide)
        exact cg_vret (nw := fun _ => 0) hC hr hlk hO.same (Nat.le_of_ble_eq_true rfl) (Nat.le_of_ble_eq_true rfl) (⟨c_5_148, rfl⟩) ddJ7_fill_53178_20
      · have q_7_168 := zr_nle h_7_165
        have z_7_169 : zi 0 2 v_5_146 := zu_lt q_7_168 z_5_147 (zi_k (a := 3) (b := 3) (x := 3) rfl) (by decide)
        refine lv_aload_n hx hb ddJ7_fill_53178_10 rfl (lv_at hl 2 rfl) ?_
        refine lv_iload_n hx hb ddJ7_fill_53178_11 rfl (lv_at hl 1 rfl) ?_
        refine lv_iload_n hx hb ddJ7_fill_53178_12 rfl (lv_at hl 3 rfl) ?_
        refine zg_iast hC hO 0 (by decide) rfl zc_5_149 (zi_all x) (zi_in z_7_169 (by decide)) ddJ7_fill_53178_13 (fun H locs c_13_170 zc_13_171 hO => ?_)
        have hO : cO D cy A s.heap s 1 ad (cup [(0, .inl (cy 0, 3, .inl c_13_170))] g) _ _ := hO
        obtain ⟨v_14_172, e_14_173, z_14_174, q_14_175⟩ := zi_inc (e := 1) (f := 3) 1 z_7_169 (by decide)
        refine lv_iinc (v := v_14_172) (lv' := [(2, .int v_14_172), (3, .int 3), (0, .ref (ad 0)), (1, .int x)]) hx hb ddJ7_fill_53178_14 hl (k := 1) rfl e_14_173 (by decide) rfl (fun ls hl => ?_)
        refine lv_goto (tgt := 5) hx hb ddJ7_fill_53178_17 (by decide) ?_
        exact ih_5_164 v_14_172 c_13_170 (zi_w (c := 0) (d := 3) z_14_174 (by decide)) zc_13_171 (zm_up q_14_175 ((zi_w (c := 0) (d := 3) z_14_174 (by decide))).2 (by decide) mu_5_163) _ _ hO ls (lv_sub hl [1, 0, 2, 3] rfl)
  exact loop_5_161 ((3 + 1 - (0 : Int32).toInt).toNat + 1) 0 c0 (zi_k (a := 0) (b := 3) (x := 0) rfl) (za_all _) (Nat.lt_succ_self _) _ _ hO ls (lv_sub hl [0, 1, 2, 3] rfl)

def wq_k_fill_5 : List Cond := Cond.code yJ7_fill_53178 cJ7_fill_53178 4 none :: (([] : List Cond))
set_option maxHeartbeats 8000000 in
set_option maxRecDepth 100000 in
theorem k_fill_5 (l : Launch) (D : va_G) (cy : Nat → ClassId) (ad : Nat → Nat) (g : Nat → va_E) {c0 : Nat → Int32} {x : Int32} (a0 : g 0 = .inl (cy 0, 5, .inl c0)) : cMv l yJ7_fill_53178 wq_k_fill_5 { frames := 0, cells := 0, slots := 0, locals := 0 } 1 0 0 0 D cy ad g [.ref (ad 0), .int x] (fun nw lu => ∃ (d0 : Nat → Int32), lu = [(0, .inl (cy 0, 5, .inl d0))]) := by
  refine cM_of (Qc := fun A => cQv (fun nw lu => ∃ (d0 : Nat → Int32), lu = [(0, .inl (cy 0, 5, .inl d0))]) D 1 0 ad g A) (cc := cJ7_fill_53178) (maxL := 4) (ret := none) (by decide) rfl (Nat.le_of_ble_eq_true rfl) ?_
  intro p e s m below meth c A hC hr hlk hnm hO ls hl
  have hC : CallFix p m c cJ7_fill_53178 4 s [.ref (ad 0), .int x].toArray wq_k_fill_5 RJ7 := hC
  obtain ⟨hx, hb, hml, hown, hts⟩ := id hC
  have hl : lv_has ls 4 [(0, .ref (ad 0)), (1, .int x)] := hl
  have hO := hO.notes [(0, .inl (cy 0, 5, .inl c0))] (List.forall_mem_cons.mpr ⟨a0, (fun _ h => absurd h List.not_mem_nil)⟩)
  refine lv_iconst (v := 0) hx hb ddJ7_fill_53178_0 (by decide) ?_
  refine lv_istore_n (lv' := [(2, .int 0), (0, .ref (ad 0)), (1, .int x)]) hx hb ddJ7_fill_53178_1 rfl hl (by decide) rfl (fun ls hl => ?_)
  refine lv_aload_n hx hb ddJ7_fill_53178_2 rfl (lv_at hl 1 rfl) ?_
  refine cg_alen hC hO 0 0 (by decide) rfl rfl (v := 5) rfl ddJ7_fill_53178_3 ?_
  refine lv_istore_n (lv' := [(3, .int 5), (2, .int 0), (0, .ref (ad 0)), (1, .int x)]) hx hb ddJ7_fill_53178_4 rfl hl (by decide) rfl (fun ls hl => ?_)
  have loop_5_195 : ∀ (d_5_196 : Nat) (v_5_180 : Int32) (c_5_182 : Nat → Int32), zi 0 5 v_5_180 → za (-2147483648) 2147483647 c_5_182 → (5 + 1 - v_5_180.toInt).toNat < d_5_196 → ∀ (H : Heap) (locs : List Loc), cO D cy A s.heap s 1 ad (cup [(0, .inl (cy 0, 5, .inl c_5_182))] g) H locs → ∀ ls : Array Slot, lv_has ls 4 [(3, .int 5), (2, .int v_5_180), (0, .ref (ad 0)), (1, .int x)] → W p l e { frames := 0, cells := 0, slots := 0, locals := 0 } s m [.ref (ad 0), .int x].toArray below meth c H locs 0 0 (MQ below (cQv (fun nw lu => ∃ (d0 : Nat → Int32), lu = [(0, .inl (cy 0, 5, .inl d0))]) D 1 0 ad g A) [.ref (ad 0), .int x].toArray s 0 0 A) (F0 m 5 ls [])  := by
    intro d_5_196
    induction d_5_196 with
    | zero => intro v_5_180 c_5_182 z_5_181 zc_5_183 mu_5_197; exact absurd mu_5_197 (Nat.not_lt_zero _)
    | succ d_5_196 ih_5_198 =>
      intro v_5_180 c_5_182 z_5_181 zc_5_183 mu_5_197 H locs hO ls hl
      refine lv_iload_n hx hb ddJ7_fill_53178_5 rfl (lv_at hl 1 rfl) ?_
      refine lv_iload_n hx hb ddJ7_fill_53178_6 rfl (lv_at hl 0 rfl) ?_
      refine lv_icmp_ge (tgt := 20) hx hb ddJ7_fill_53178_7 (by decide) (fun h_7_199 => ?_) (fun h_7_199 => ?_)
      · have q_7_200 := zr_le h_7_199
        have z_7_201 : zi 5 5 v_5_180 := zd_le q_7_200 (zi_k (a := 5) (b := 5) (x := 5) rfl) z_5_181 (by decide)
        exact cg_vret (nw := fun _ => 0) hC hr hlk hO.same (Nat.le_of_ble_eq_true rfl) (Nat.le_of_ble_eq_true rfl) (⟨c_5_182, rfl⟩) ddJ7_fill_53178_20
      · have q_7_202 := zr_nle h_7_199
        have z_7_203 : zi 0 4 v_5_180 := zu_lt q_7_202 z_5_181 (zi_k (a := 5) (b := 5) (x := 5) rfl) (by decide)
        refine lv_aload_n hx hb ddJ7_fill_53178_10 rfl (lv_at hl 2 rfl) ?_
        refine lv_iload_n hx hb ddJ7_fill_53178_11 rfl (lv_at hl 1 rfl) ?_
        refine lv_iload_n hx hb ddJ7_fill_53178_12 rfl (lv_at hl 3 rfl) ?_
        refine zg_iast hC hO 0 (by decide) rfl zc_5_183 (zi_all x) (zi_in z_7_203 (by decide)) ddJ7_fill_53178_13 (fun H locs c_13_204 zc_13_205 hO => ?_)
        have hO : cO D cy A s.heap s 1 ad (cup [(0, .inl (cy 0, 5, .inl c_13_204))] g) _ _ := hO
        obtain ⟨v_14_206, e_14_207, z_14_208, q_14_209⟩ := zi_inc (e := 1) (f := 5) 1 z_7_203 (by decide)
        refine lv_iinc (v := v_14_206) (lv' := [(2, .int v_14_206), (3, .int 5), (0, .ref (ad 0)), (1, .int x)]) hx hb ddJ7_fill_53178_14 hl (k := 1) rfl e_14_207 (by decide) rfl (fun ls hl => ?_)
        refine lv_goto (tgt := 5) hx hb ddJ7_fill_53178_17 (by decide) ?_
        exact ih_5_198 v_14_206 c_13_204 (zi_w (c := 0) (d := 5) z_14_208 (by decide)) zc_13_205 (zm_up q_14_209 ((zi_w (c := 0) (d := 5) z_14_208 (by decide))).2 (by decide) mu_5_197) _ _ hO ls (lv_sub hl [1, 0, 2, 3] rfl)
  exact loop_5_195 ((5 + 1 - (0 : Int32).toInt).toNat + 1) 0 c0 (zi_k (a := 0) (b := 5) (x := 0) rfl) (za_all _) (Nat.lt_succ_self _) _ _ hO ls (lv_sub hl [0, 1, 2, 3] rfl)

def wq_k_fill_24 : List Cond := Cond.code yJ7_fill_53178 cJ7_fill_53178 4 none :: (([] : List Cond))
set_option maxHeartbeats 8000000 in
set_option maxRecDepth 100000 in
theorem k_fill_24 (l : Launch) (D : va_G) (cy : Nat → ClassId) (ad : Nat → Nat) (g : Nat → va_E) {c0 : Nat → Int32} {x : Int32} (a0 : g 0 = .inl (cy 0, 24, .inl c0)) : cMv l yJ7_fill_53178 wq_k_fill_24 { frames := 0, cells := 0, slots := 0, locals := 0 } 1 0 0 0 D cy ad g [.ref (ad 0), .int x] (fun nw lu => ∃ (d0 : Nat → Int32), lu = [(0, .inl (cy 0, 24, .inl d0))]) := by
  refine cM_of (Qc := fun A => cQv (fun nw lu => ∃ (d0 : Nat → Int32), lu = [(0, .inl (cy 0, 24, .inl d0))]) D 1 0 ad g A) (cc := cJ7_fill_53178) (maxL := 4) (ret := none) (by decide) rfl (Nat.le_of_ble_eq_true rfl) ?_
  intro p e s m below meth c A hC hr hlk hnm hO ls hl
  have hC : CallFix p m c cJ7_fill_53178 4 s [.ref (ad 0), .int x].toArray wq_k_fill_24 RJ7 := hC
  obtain ⟨hx, hb, hml, hown, hts⟩ := id hC
  have hl : lv_has ls 4 [(0, .ref (ad 0)), (1, .int x)] := hl
  have hO := hO.notes [(0, .inl (cy 0, 24, .inl c0))] (List.forall_mem_cons.mpr ⟨a0, (fun _ h => absurd h List.not_mem_nil)⟩)
  refine lv_iconst (v := 0) hx hb ddJ7_fill_53178_0 (by decide) ?_
  refine lv_istore_n (lv' := [(2, .int 0), (0, .ref (ad 0)), (1, .int x)]) hx hb ddJ7_fill_53178_1 rfl hl (by decide) rfl (fun ls hl => ?_)
  refine lv_aload_n hx hb ddJ7_fill_53178_2 rfl (lv_at hl 1 rfl) ?_
  refine cg_alen hC hO 0 0 (by decide) rfl rfl (v := 24) rfl ddJ7_fill_53178_3 ?_
  refine lv_istore_n (lv' := [(3, .int 24), (2, .int 0), (0, .ref (ad 0)), (1, .int x)]) hx hb ddJ7_fill_53178_4 rfl hl (by decide) rfl (fun ls hl => ?_)
  have loop_5_195 : ∀ (d_5_196 : Nat) (v_5_180 : Int32) (c_5_182 : Nat → Int32), zi 0 24 v_5_180 → za (-2147483648) 2147483647 c_5_182 → (24 + 1 - v_5_180.toInt).toNat < d_5_196 → ∀ (H : Heap) (locs : List Loc), cO D cy A s.heap s 1 ad (cup [(0, .inl (cy 0, 24, .inl c_5_182))] g) H locs → ∀ ls : Array Slot, lv_has ls 4 [(3, .int 24), (2, .int v_5_180), (0, .ref (ad 0)), (1, .int x)] → W p l e { frames := 0, cells := 0, slots := 0, locals := 0 } s m [.ref (ad 0), .int x].toArray below meth c H locs 0 0 (MQ below (cQv (fun nw lu => ∃ (d0 : Nat → Int32), lu = [(0, .inl (cy 0, 24, .inl d0))]) D 1 0 ad g A) [.ref (ad 0), .int x].toArray s 0 0 A) (F0 m 5 ls [])  := by
    intro d_5_196
    induction d_5_196 with
    | zero => intro v_5_180 c_5_182 z_5_181 zc_5_183 mu_5_197; exact absurd mu_5_197 (Nat.not_lt_zero _)
    | succ d_5_196 ih_5_198 =>
      intro v_5_180 c_5_182 z_5_181 zc_5_183 mu_5_197 H locs hO ls hl
      refine lv_iload_n hx hb ddJ7_fill_53178_5 rfl (lv_at hl 1 rfl) ?_
      refine lv_iload_n hx hb ddJ7_fill_53178_6 rfl (lv_at hl 0 rfl) ?_
      refine lv_icmp_ge (tgt := 20) hx hb ddJ7_fill_53178_7 (by decide) (fun h_7_199 => ?_) (fun h_7_199 => ?_)
      · have q_7_200 := zr_le h_7_199
        have z_7_201 : zi 24 24 v_5_180 := zd_le q_7_200 (zi_k (a := 24) (b := 24) (x := 24) rfl) z_5_181 (by decide)
        exact cg_vret (nw := fun _ => 0) hC hr hlk hO.same (Nat.le_of_ble_eq_true rfl) (Nat.le_of_ble_eq_true rfl) (⟨c_5_182, rfl⟩) ddJ7_fill_53178_20
      · have q_7_202 := zr_nle h_7_199
        have z_7_203 : zi 0 23 v_5_180 := zu_lt q_7_202 z_5_181 (zi_k (a := 24) (b := 24) (x := 24) rfl) (by decide)
        refine lv_aload_n hx hb ddJ7_fill_53178_10 rfl (lv_at hl 2 rfl) ?_
        refine lv_iload_n hx hb ddJ7_fill_53178_11 rfl (lv_at hl 1 rfl) ?_
        refine lv_iload_n hx hb ddJ7_fill_53178_12 rfl (lv_at hl 3 rfl) ?_
        refine zg_iast hC hO 0 (by decide) rfl zc_5_183 (zi_all x) (zi_in z_7_203 (by decide)) ddJ7_fill_53178_13 (fun H locs c_13_204 zc_13_205 hO => ?_)
        have hO : cO D cy A s.heap s 1 ad (cup [(0, .inl (cy 0, 24, .inl c_13_204))] g) _ _ := hO
        obtain ⟨v_14_206, e_14_207, z_14_208, q_14_209⟩ := zi_inc (e := 1) (f := 24) 1 z_7_203 (by decide)
        refine lv_iinc (v := v_14_206) (lv' := [(2, .int v_14_206), (3, .int 24), (0, .ref (ad 0)), (1, .int x)]) hx hb ddJ7_fill_53178_14 hl (k := 1) rfl e_14_207 (by decide) rfl (fun ls hl => ?_)
        refine lv_goto (tgt := 5) hx hb ddJ7_fill_53178_17 (by decide) ?_
        exact ih_5_198 v_14_206 c_13_204 (zi_w (c := 0) (d := 24) z_14_208 (by decide)) zc_13_205 (zm_up q_14_209 ((zi_w (c := 0) (d := 24) z_14_208 (by decide))).2 (by decide) mu_5_197) _ _ hO ls (lv_sub hl [1, 0, 2, 3] rfl)
  exact loop_5_195 ((24 + 1 - (0 : Int32).toInt).toNat + 1) 0 c0 (zi_k (a := 0) (b := 24) (x := 0) rfl) (za_all _) (Nat.lt_succ_self _) _ _ hO ls (lv_sub hl [0, 1, 2, 3] rfl)

def wq_k_fill_80 : List Cond := Cond.code yJ7_fill_53178 cJ7_fill_53178 4 none :: (([] : List Cond))
set_option maxHeartbeats 8000000 in
set_option maxRecDepth 100000 in
theorem k_fill_80 (l : Launch) (D : va_G) (cy : Nat → ClassId) (ad : Nat → Nat) (g : Nat → va_E) {c0 : Nat → Int32} {x : Int32} (a0 : g 0 = .inl (cy 0, 80, .inl c0)) : cMv l yJ7_fill_53178 wq_k_fill_80 { frames := 0, cells := 0, slots := 0, locals := 0 } 1 0 0 0 D cy ad g [.ref (ad 0), .int x] (fun nw lu => ∃ (d0 : Nat → Int32), lu = [(0, .inl (cy 0, 80, .inl d0))]) := by
  refine cM_of (Qc := fun A => cQv (fun nw lu => ∃ (d0 : Nat → Int32), lu = [(0, .inl (cy 0, 80, .inl d0))]) D 1 0 ad g A) (cc := cJ7_fill_53178) (maxL := 4) (ret := none) (by decide) rfl (Nat.le_of_ble_eq_true rfl) ?_
  intro p e s m below meth c A hC hr hlk hnm hO ls hl
  have hC : CallFix p m c cJ7_fill_53178 4 s [.ref (ad 0), .int x].toArray wq_k_fill_80 RJ7 := hC
  obtain ⟨hx, hb, hml, hown, hts⟩ := id hC
  have hl : lv_has ls 4 [(0, .ref (ad 0)), (1, .int x)] := hl
  have hO := hO.notes [(0, .inl (cy 0, 80, .inl c0))] (List.forall_mem_cons.mpr ⟨a0, (fun _ h => absurd h List.not_mem_nil)⟩)
  refine lv_iconst (v := 0) hx hb ddJ7_fill_53178_0 (by decide) ?_
  refine lv_istore_n (lv' := [(2, .int 0), (0, .ref (ad 0)), (1, .int x)]) hx hb ddJ7_fill_53178_1 rfl hl (by decide) rfl (fun ls hl => ?_)
  refine lv_aload_n hx hb ddJ7_fill_53178_2 rfl (lv_at hl 1 rfl) ?_
  refine cg_alen hC hO 0 0 (by decide) rfl rfl (v := 80) rfl ddJ7_fill_53178_3 ?_
  refine lv_istore_n (lv' := [(3, .int 80), (2, .int 0), (0, .ref (ad 0)), (1, .int x)]) hx hb ddJ7_fill_53178_4 rfl hl (by decide) rfl (fun ls hl => ?_)
  have loop_5_195 : ∀ (d_5_196 : Nat) (v_5_180 : Int32) (c_5_182 : Nat → Int32), zi 0 80 v_5_180 → za (-2147483648) 2147483647 c_5_182 → (80 + 1 - v_5_180.toInt).toNat < d_5_196 → ∀ (H : Heap) (locs : List Loc), cO D cy A s.heap s 1 ad (cup [(0, .inl (cy 0, 80, .inl c_5_182))] g) H locs → ∀ ls : Array Slot, lv_has ls 4 [(3, .int 80), (2, .int v_5_180), (0, .ref (ad 0)), (1, .int x)] → W p l e { frames := 0, cells := 0, slots := 0, locals := 0 } s m [.ref (ad 0), .int x].toArray below meth c H locs 0 0 (MQ below (cQv (fun nw lu => ∃ (d0 : Nat → Int32), lu = [(0, .inl (cy 0, 80, .inl d0))]) D 1 0 ad g A) [.ref (ad 0), .int x].toArray s 0 0 A) (F0 m 5 ls [])  := by
    intro d_5_196
    induction d_5_196 with
    | zero => intro v_5_180 c_5_182 z_5_181 zc_5_183 mu_5_197; exact absurd mu_5_197 (Nat.not_lt_zero _)
    | succ d_5_196 ih_5_198 =>
      intro v_5_180 c_5_182 z_5_181 zc_5_183 mu_5_197 H locs hO ls hl
      refine lv_iload_n hx hb ddJ7_fill_53178_5 rfl (lv_at hl 1 rfl) ?_
      refine lv_iload_n hx hb ddJ7_fill_53178_6 rfl (lv_at hl 0 rfl) ?_
      refine lv_icmp_ge (tgt := 20) hx hb ddJ7_fill_53178_7 (by decide) (fun h_7_199 => ?_) (fun h_7_199 => ?_)
      · have q_7_200 := zr_le h_7_199
        have z_7_201 : zi 80 80 v_5_180 := zd_le q_7_200 (zi_k (a := 80) (b := 80) (x := 80) rfl) z_5_181 (by decide)
        exact cg_vret (nw := fun _ => 0) hC hr hlk hO.same (Nat.le_of_ble_eq_true rfl) (Nat.le_of_ble_eq_true rfl) (⟨c_5_182, rfl⟩) ddJ7_fill_53178_20
      · have q_7_202 := zr_nle h_7_199
        have z_7_203 : zi 0 79 v_5_180 := zu_lt q_7_202 z_5_181 (zi_k (a := 80) (b := 80) (x := 80) rfl) (by decide)
        refine lv_aload_n hx hb ddJ7_fill_53178_10 rfl (lv_at hl 2 rfl) ?_
        refine lv_iload_n hx hb ddJ7_fill_53178_11 rfl (lv_at hl 1 rfl) ?_
        refine lv_iload_n hx hb ddJ7_fill_53178_12 rfl (lv_at hl 3 rfl) ?_
        refine zg_iast hC hO 0 (by decide) rfl zc_5_183 (zi_all x) (zi_in z_7_203 (by decide)) ddJ7_fill_53178_13 (fun H locs c_13_204 zc_13_205 hO => ?_)
        have hO : cO D cy A s.heap s 1 ad (cup [(0, .inl (cy 0, 80, .inl c_13_204))] g) _ _ := hO
        obtain ⟨v_14_206, e_14_207, z_14_208, q_14_209⟩ := zi_inc (e := 1) (f := 80) 1 z_7_203 (by decide)
        refine lv_iinc (v := v_14_206) (lv' := [(2, .int v_14_206), (3, .int 80), (0, .ref (ad 0)), (1, .int x)]) hx hb ddJ7_fill_53178_14 hl (k := 1) rfl e_14_207 (by decide) rfl (fun ls hl => ?_)
        refine lv_goto (tgt := 5) hx hb ddJ7_fill_53178_17 (by decide) ?_
        exact ih_5_198 v_14_206 c_13_204 (zi_w (c := 0) (d := 80) z_14_208 (by decide)) zc_13_205 (zm_up q_14_209 ((zi_w (c := 0) (d := 80) z_14_208 (by decide))).2 (by decide) mu_5_197) _ _ hO ls (lv_sub hl [1, 0, 2, 3] rfl)
  exact loop_5_195 ((80 + 1 - (0 : Int32).toInt).toNat + 1) 0 c0 (zi_k (a := 0) (b := 80) (x := 0) rfl) (za_all _) (Nat.lt_succ_self _) _ _ hO ls (lv_sub hl [0, 1, 2, 3] rfl)

def wq_k_fill_96 : List Cond := Cond.code yJ7_fill_53178 cJ7_fill_53178 4 none :: (([] : List Cond))
set_option maxHeartbeats 8000000 in
set_option maxRecDepth 100000 in
theorem k_fill_96 (l : Launch) (D : va_G) (cy : Nat → ClassId) (ad : Nat → Nat) (g : Nat → va_E) {c0 : Nat → Int32} {x : Int32} (a0 : g 0 = .inl (cy 0, 96, .inl c0)) : cMv l yJ7_fill_53178 wq_k_fill_96 { frames := 0, cells := 0, slots := 0, locals := 0 } 1 0 0 0 D cy ad g [.ref (ad 0), .int x] (fun nw lu => ∃ (d0 : Nat → Int32), lu = [(0, .inl (cy 0, 96, .inl d0))]) := by
  refine cM_of (Qc := fun A => cQv (fun nw lu => ∃ (d0 : Nat → Int32), lu = [(0, .inl (cy 0, 96, .inl d0))]) D 1 0 ad g A) (cc := cJ7_fill_53178) (maxL := 4) (ret := none) (by decide) rfl (Nat.le_of_ble_eq_true rfl) ?_
  intro p e s m below meth c A hC hr hlk hnm hO ls hl
  have hC : CallFix p m c cJ7_fill_53178 4 s [.ref (ad 0), .int x].toArray wq_k_fill_96 RJ7 := hC
  obtain ⟨hx, hb, hml, hown, hts⟩ := id hC
  have hl : lv_has ls 4 [(0, .ref (ad 0)), (1, .int x)] := hl
  have hO := hO.notes [(0, .inl (cy 0, 96, .inl c0))] (List.forall_mem_cons.mpr ⟨a0, (fun _ h => absurd h List.not_mem_nil)⟩)
  refine lv_iconst (v := 0) hx hb ddJ7_fill_53178_0 (by decide) ?_
  refine lv_istore_n (lv' := [(2, .int 0), (0, .ref (ad 0)), (1, .int x)]) hx hb ddJ7_fill_53178_1 rfl hl (by decide) rfl (fun ls hl => ?_)
  refine lv_aload_n hx hb ddJ7_fill_53178_2 rfl (lv_at hl 1 rfl) ?_
  refine cg_alen hC hO 0 0 (by decide) rfl rfl (v := 96) rfl ddJ7_fill_53178_3 ?_
  refine lv_istore_n (lv' := [(3, .int 96), (2, .int 0), (0, .ref (ad 0)), (1, .int x)]) hx hb ddJ7_fill_53178_4 rfl hl (by decide) rfl (fun ls hl => ?_)
  have loop_5_195 : ∀ (d_5_196 : Nat) (v_5_180 : Int32) (c_5_182 : Nat → Int32), zi 0 96 v_5_180 → za (-2147483648) 2147483647 c_5_182 → (96 + 1 - v_5_180.toInt).toNat < d_5_196 → ∀ (H : Heap) (locs : List Loc), cO D cy A s.heap s 1 ad (cup [(0, .inl (cy 0, 96, .inl c_5_182))] g) H locs → ∀ ls : Array Slot, lv_has ls 4 [(3, .int 96), (2, .int v_5_180), (0, .ref (ad 0)), (1, .int x)] → W p l e { frames := 0, cells := 0, slots := 0, locals := 0 } s m [.ref (ad 0), .int x].toArray below meth c H locs 0 0 (MQ below (cQv (fun nw lu => ∃ (d0 : Nat → Int32), lu = [(0, .inl (cy 0, 96, .inl d0))]) D 1 0 ad g A) [.ref (ad 0), .int x].toArray s 0 0 A) (F0 m 5 ls [])  := by
    intro d_5_196
    induction d_5_196 with
    | zero => intro v_5_180 c_5_182 z_5_181 zc_5_183 mu_5_197; exact absurd mu_5_197 (Nat.not_lt_zero _)
    | succ d_5_196 ih_5_198 =>
      intro v_5_180 c_5_182 z_5_181 zc_5_183 mu_5_197 H locs hO ls hl
      refine lv_iload_n hx hb ddJ7_fill_53178_5 rfl (lv_at hl 1 rfl) ?_
      refine lv_iload_n hx hb ddJ7_fill_53178_6 rfl (lv_at hl 0 rfl) ?_
      refine lv_icmp_ge (tgt := 20) hx hb ddJ7_fill_53178_7 (by decide) (fun h_7_199 => ?_) (fun h_7_199 => ?_)
      · have q_7_200 := zr_le h_7_199
        have z_7_201 : zi 96 96 v_5_180 := zd_le q_7_200 (zi_k (a := 96) (b := 96) (x := 96) rfl) z_5_181 (by decide)
        exact cg_vret (nw := fun _ => 0) hC hr hlk hO.same (Nat.le_of_ble_eq_true rfl) (Nat.le_of_ble_eq_true rfl) (⟨c_5_182, rfl⟩) ddJ7_fill_53178_20
      · have q_7_202 := zr_nle h_7_199
        have z_7_203 : zi 0 95 v_5_180 := zu_lt q_7_202 z_5_181 (zi_k (a := 96) (b := 96) (x := 96) rfl) (by decide)
        refine lv_aload_n hx hb ddJ7_fill_53178_10 rfl (lv_at hl 2 rfl) ?_
        refine lv_iload_n hx hb ddJ7_fill_53178_11 rfl (lv_at hl 1 rfl) ?_
        refine lv_iload_n hx hb ddJ7_fill_53178_12 rfl (lv_at hl 3 rfl) ?_
        refine zg_iast hC hO 0 (by decide) rfl zc_5_183 (zi_all x) (zi_in z_7_203 (by decide)) ddJ7_fill_53178_13 (fun H locs c_13_204 zc_13_205 hO => ?_)
        have hO : cO D cy A s.heap s 1 ad (cup [(0, .inl (cy 0, 96, .inl c_13_204))] g) _ _ := hO
        obtain ⟨v_14_206, e_14_207, z_14_208, q_14_209⟩ := zi_inc (e := 1) (f := 96) 1 z_7_203 (by decide)
        refine lv_iinc (v := v_14_206) (lv' := [(2, .int v_14_206), (3, .int 96), (0, .ref (ad 0)), (1, .int x)]) hx hb ddJ7_fill_53178_14 hl (k := 1) rfl e_14_207 (by decide) rfl (fun ls hl => ?_)
        refine lv_goto (tgt := 5) hx hb ddJ7_fill_53178_17 (by decide) ?_
        exact ih_5_198 v_14_206 c_13_204 (zi_w (c := 0) (d := 96) z_14_208 (by decide)) zc_13_205 (zm_up q_14_209 ((zi_w (c := 0) (d := 96) z_14_208 (by decide))).2 (by decide) mu_5_197) _ _ hO ls (lv_sub hl [1, 0, 2, 3] rfl)
  exact loop_5_195 ((96 + 1 - (0 : Int32).toInt).toNat + 1) 0 c0 (zi_k (a := 0) (b := 96) (x := 0) rfl) (za_all _) (Nat.lt_succ_self _) _ _ hO ls (lv_sub hl [0, 1, 2, 3] rfl)

def wq_k_fill_5s : List Cond := Cond.code yJ7_fill_53178 cJ7_fill_53178 4 none :: (([] : List Cond))
set_option maxHeartbeats 8000000 in
set_option maxRecDepth 100000 in
theorem k_fill_5s (l : Launch) (D : va_G) (cy : Nat → ClassId) (ad : Nat → Nat) (g : Nat → va_E) {c0 : Nat → Int32} {x : Int32} (a0 : g 0 = .inl (cy 0, 5, .inl c0)) (ha0 : za (-1) 3 c0) (p_x : zi (-1) 3 x) : cMv l yJ7_fill_53178 wq_k_fill_5s { frames := 0, cells := 0, slots := 0, locals := 0 } 1 0 0 0 D cy ad g [.ref (ad 0), .int x] (fun nw lu => ∃ (d0 : Nat → Int32), (za (-1) 3 d0) ∧ (lu = [(0, .inl (cy 0, 5, .inl d0))])) := by
  refine cM_of (Qc := fun A => cQv (fun nw lu => ∃ (d0 : Nat → Int32), (za (-1) 3 d0) ∧ (lu = [(0, .inl (cy 0, 5, .inl d0))])) D 1 0 ad g A) (cc := cJ7_fill_53178) (maxL := 4) (ret := none) (by decide) rfl (Nat.le_of_ble_eq_true rfl) ?_
  intro p e s m below meth c A hC hr hlk hnm hO ls hl
  have hC : CallFix p m c cJ7_fill_53178 4 s [.ref (ad 0), .int x].toArray wq_k_fill_5s RJ7 := hC
  obtain ⟨hx, hb, hml, hown, hts⟩ := id hC
  have hl : lv_has ls 4 [(0, .ref (ad 0)), (1, .int x)] := hl
  have hO := hO.notes [(0, .inl (cy 0, 5, .inl c0))] (List.forall_mem_cons.mpr ⟨a0, (fun _ h => absurd h List.not_mem_nil)⟩)
  refine lv_iconst (v := 0) hx hb ddJ7_fill_53178_0 (by decide) ?_
  refine lv_istore_n (lv' := [(2, .int 0), (0, .ref (ad 0)), (1, .int x)]) hx hb ddJ7_fill_53178_1 rfl hl (by decide) rfl (fun ls hl => ?_)
  refine lv_aload_n hx hb ddJ7_fill_53178_2 rfl (lv_at hl 1 rfl) ?_
  refine cg_alen hC hO 0 0 (by decide) rfl rfl (v := 5) rfl ddJ7_fill_53178_3 ?_
  refine lv_istore_n (lv' := [(3, .int 5), (2, .int 0), (0, .ref (ad 0)), (1, .int x)]) hx hb ddJ7_fill_53178_4 rfl hl (by decide) rfl (fun ls hl => ?_)
  have loop_5_229 : ∀ (d_5_230 : Nat) (v_5_214 : Int32) (c_5_216 : Nat → Int32), zi 0 5 v_5_214 → za (-1) 3 c_5_216 → (5 + 1 - v_5_214.toInt).toNat < d_5_230 → ∀ (H : Heap) (locs : List Loc), cO D cy A s.heap s 1 ad (cup [(0, .inl (cy 0, 5, .inl c_5_216))] g) H locs → ∀ ls : Array Slot, lv_has ls 4 [(3, .int 5), (2, .int v_5_214), (0, .ref (ad 0)), (1, .int x)] → W p l e { frames := 0, cells := 0, slots := 0, locals := 0 } s m [.ref (ad 0), .int x].toArray below meth c H locs 0 0 (MQ below (cQv (fun nw lu => ∃ (d0 : Nat → Int32), (za (-1) 3 d0) ∧ (lu = [(0, .inl (cy 0, 5, .inl d0))])) D 1 0 ad g A) [.ref (ad 0), .int x].toArray s 0 0 A) (F0 m 5 ls [])  := by
    intro d_5_230
    induction d_5_230 with
    | zero => intro v_5_214 c_5_216 z_5_215 zc_5_217 mu_5_231; exact absurd mu_5_231 (Nat.not_lt_zero _)
    | succ d_5_230 ih_5_232 =>
      intro v_5_214 c_5_216 z_5_215 zc_5_217 mu_5_231 H locs hO ls hl
      refine lv_iload_n hx hb ddJ7_fill_53178_5 rfl (lv_at hl 1 rfl) ?_
      refine lv_iload_n hx hb ddJ7_fill_53178_6 rfl (lv_at hl 0 rfl) ?_
      refine lv_icmp_ge (tgt := 20) hx hb ddJ7_fill_53178_7 (by decide) (fun h_7_233 => ?_) (fun h_7_233 => ?_)
      · have q_7_234 := zr_le h_7_233
        have z_7_235 : zi 5 5 v_5_214 := zd_le q_7_234 (zi_k (a := 5) (b := 5) (x := 5) rfl) z_5_215 (by decide)
        exact cg_vret (nw := fun _ => 0) hC hr hlk hO.same (Nat.le_of_ble_eq_true rfl) (Nat.le_of_ble_eq_true rfl) (⟨c_5_216, zc_5_217, rfl⟩) ddJ7_fill_53178_20
      · have q_7_236 := zr_nle h_7_233
        have z_7_237 : zi 0 4 v_5_214 := zu_lt q_7_236 z_5_215 (zi_k (a := 5) (b := 5) (x := 5) rfl) (by decide)
        refine lv_aload_n hx hb ddJ7_fill_53178_10 rfl (lv_at hl 2 rfl) ?_
        refine lv_iload_n hx hb ddJ7_fill_53178_11 rfl (lv_at hl 1 rfl) ?_
        refine lv_iload_n hx hb ddJ7_fill_53178_12 rfl (lv_at hl 3 rfl) ?_
        refine zg_iast hC hO 0 (by decide) rfl zc_5_217 p_x (zi_in z_7_237 (by decide)) ddJ7_fill_53178_13 (fun H locs c_13_238 zc_13_239 hO => ?_)
        have hO : cO D cy A s.heap s 1 ad (cup [(0, .inl (cy 0, 5, .inl c_13_238))] g) _ _ := hO
        obtain ⟨v_14_240, e_14_241, z_14_242, q_14_243⟩ := zi_inc (e := 1) (f := 5) 1 z_7_237 (by decide)
        refine lv_iinc (v := v_14_240) (lv' := [(2, .int v_14_240), (3, .int 5), (0, .ref (ad 0)), (1, .int x)]) hx hb ddJ7_fill_53178_14 hl (k := 1) rfl e_14_241 (by decide) rfl (fun ls hl => ?_)
        refine lv_goto (tgt := 5) hx hb ddJ7_fill_53178_17 (by decide) ?_
        exact ih_5_232 v_14_240 c_13_238 (zi_w (c := 0) (d := 5) z_14_242 (by decide)) zc_13_239 (zm_up q_14_243 ((zi_w (c := 0) (d := 5) z_14_242 (by decide))).2 (by decide) mu_5_231) _ _ hO ls (lv_sub hl [1, 0, 2, 3] rfl)
  exact loop_5_229 ((5 + 1 - (0 : Int32).toInt).toNat + 1) 0 c0 (zi_k (a := 0) (b := 5) (x := 0) rfl) ha0 (Nat.lt_succ_self _) _ _ hO ls (lv_sub hl [0, 1, 2, 3] rfl)

def wq_k_fill_4s : List Cond := Cond.code yJ7_fill_53178 cJ7_fill_53178 4 none :: (([] : List Cond))
set_option maxHeartbeats 8000000 in
set_option maxRecDepth 100000 in
theorem k_fill_4s (l : Launch) (D : va_G) (cy : Nat → ClassId) (ad : Nat → Nat) (g : Nat → va_E) {c0 : Nat → Int32} {x : Int32} (a0 : g 0 = .inl (cy 0, 4, .inl c0)) (ha0 : za 0 5 c0) (p_x : zi 0 5 x) : cMv l yJ7_fill_53178 wq_k_fill_4s { frames := 0, cells := 0, slots := 0, locals := 0 } 1 0 0 0 D cy ad g [.ref (ad 0), .int x] (fun nw lu => ∃ (d0 : Nat → Int32), (za 0 5 d0) ∧ (lu = [(0, .inl (cy 0, 4, .inl d0))])) := by
  refine cM_of (Qc := fun A => cQv (fun nw lu => ∃ (d0 : Nat → Int32), (za 0 5 d0) ∧ (lu = [(0, .inl (cy 0, 4, .inl d0))])) D 1 0 ad g A) (cc := cJ7_fill_53178) (maxL := 4) (ret := none) (by decide) rfl (Nat.le_of_ble_eq_true rfl) ?_
  intro p e s m below meth c A hC hr hlk hnm hO ls hl
  have hC : CallFix p m c cJ7_fill_53178 4 s [.ref (ad 0), .int x].toArray wq_k_fill_4s RJ7 := hC
  obtain ⟨hx, hb, hml, hown, hts⟩ := id hC
  have hl : lv_has ls 4 [(0, .ref (ad 0)), (1, .int x)] := hl
  have hO := hO.notes [(0, .inl (cy 0, 4, .inl c0))] (List.forall_mem_cons.mpr ⟨a0, (fun _ h => absurd h List.not_mem_nil)⟩)
  refine lv_iconst (v := 0) hx hb ddJ7_fill_53178_0 (by decide) ?_
  refine lv_istore_n (lv' := [(2, .int 0), (0, .ref (ad 0)), (1, .int x)]) hx hb ddJ7_fill_53178_1 rfl hl (by decide) rfl (fun ls hl => ?_)
  refine lv_aload_n hx hb ddJ7_fill_53178_2 rfl (lv_at hl 1 rfl) ?_
  refine cg_alen hC hO 0 0 (by decide) rfl rfl (v := 4) rfl ddJ7_fill_53178_3 ?_
  refine lv_istore_n (lv' := [(3, .int 4), (2, .int 0), (0, .ref (ad 0)), (1, .int x)]) hx hb ddJ7_fill_53178_4 rfl hl (by decide) rfl (fun ls hl => ?_)
  have loop_5_195 : ∀ (d_5_196 : Nat) (v_5_180 : Int32) (c_5_182 : Nat → Int32), zi 0 4 v_5_180 → za 0 5 c_5_182 → (4 + 1 - v_5_180.toInt).toNat < d_5_196 → ∀ (H : Heap) (locs : List Loc), cO D cy A s.heap s 1 ad (cup [(0, .inl (cy 0, 4, .inl c_5_182))] g) H locs → ∀ ls : Array Slot, lv_has ls 4 [(3, .int 4), (2, .int v_5_180), (0, .ref (ad 0)), (1, .int x)] → W p l e { frames := 0, cells := 0, slots := 0, locals := 0 } s m [.ref (ad 0), .int x].toArray below meth c H locs 0 0 (MQ below (cQv (fun nw lu => ∃ (d0 : Nat → Int32), (za 0 5 d0) ∧ (lu = [(0, .inl (cy 0, 4, .inl d0))])) D 1 0 ad g A) [.ref (ad 0), .int x].toArray s 0 0 A) (F0 m 5 ls [])  := by
    intro d_5_196
    induction d_5_196 with
    | zero => intro v_5_180 c_5_182 z_5_181 zc_5_183 mu_5_197; exact absurd mu_5_197 (Nat.not_lt_zero _)
    | succ d_5_196 ih_5_198 =>
      intro v_5_180 c_5_182 z_5_181 zc_5_183 mu_5_197 H locs hO ls hl
      refine lv_iload_n hx hb ddJ7_fill_53178_5 rfl (lv_at hl 1 rfl) ?_
      refine lv_iload_n hx hb ddJ7_fill_53178_6 rfl (lv_at hl 0 rfl) ?_
      refine lv_icmp_ge (tgt := 20) hx hb ddJ7_fill_53178_7 (by decide) (fun h_7_199 => ?_) (fun h_7_199 => ?_)
      · have q_7_200 := zr_le h_7_199
        have z_7_201 : zi 4 4 v_5_180 := zd_le q_7_200 (zi_k (a := 4) (b := 4) (x := 4) rfl) z_5_181 (by decide)
        exact cg_vret (nw := fun _ => 0) hC hr hlk hO.same (Nat.le_of_ble_eq_true rfl) (Nat.le_of_ble_eq_true rfl) (⟨c_5_182, zc_5_183, rfl⟩) ddJ7_fill_53178_20
      · have q_7_202 := zr_nle h_7_199
        have z_7_203 : zi 0 3 v_5_180 := zu_lt q_7_202 z_5_181 (zi_k (a := 4) (b := 4) (x := 4) rfl) (by decide)
        refine lv_aload_n hx hb ddJ7_fill_53178_10 rfl (lv_at hl 2 rfl) ?_
        refine lv_iload_n hx hb ddJ7_fill_53178_11 rfl (lv_at hl 1 rfl) ?_
        refine lv_iload_n hx hb ddJ7_fill_53178_12 rfl (lv_at hl 3 rfl) ?_
        refine zg_iast hC hO 0 (by decide) rfl zc_5_183 p_x (zi_in z_7_203 (by decide)) ddJ7_fill_53178_13 (fun H locs c_13_204 zc_13_205 hO => ?_)
        have hO : cO D cy A s.heap s 1 ad (cup [(0, .inl (cy 0, 4, .inl c_13_204))] g) _ _ := hO
        obtain ⟨v_14_206, e_14_207, z_14_208, q_14_209⟩ := zi_inc (e := 1) (f := 4) 1 z_7_203 (by decide)
        refine lv_iinc (v := v_14_206) (lv' := [(2, .int v_14_206), (3, .int 4), (0, .ref (ad 0)), (1, .int x)]) hx hb ddJ7_fill_53178_14 hl (k := 1) rfl e_14_207 (by decide) rfl (fun ls hl => ?_)
        refine lv_goto (tgt := 5) hx hb ddJ7_fill_53178_17 (by decide) ?_
        exact ih_5_198 v_14_206 c_13_204 (zi_w (c := 0) (d := 4) z_14_208 (by decide)) zc_13_205 (zm_up q_14_209 ((zi_w (c := 0) (d := 4) z_14_208 (by decide))).2 (by decide) mu_5_197) _ _ hO ls (lv_sub hl [1, 0, 2, 3] rfl)
  exact loop_5_195 ((4 + 1 - (0 : Int32).toInt).toNat + 1) 0 c0 (zi_k (a := 0) (b := 4) (x := 0) rfl) ha0 (Nat.lt_succ_self _) _ _ hO ls (lv_sub hl [0, 1, 2, 3] rfl)

theorem ddX11_putByMinutes_0 : decode cX11_putByMinutes 0 = .ok (.iconst 1, 1) := by decide +kernel
theorem ddX11_putByMinutes_1 : decode cX11_putByMinutes 1 = .ok (.istore_n 3, 1) := by decide +kernel
theorem ddX11_putByMinutes_2 : decode cX11_putByMinutes 2 = .ok (.iload_n 3, 1) := by decide +kernel
theorem ddX11_putByMinutes_3 : decode cX11_putByMinutes 3 = .ok (.iload_n 1, 1) := by decide +kernel
theorem ddX11_putByMinutes_4 : decode cX11_putByMinutes 4 = .ok (.if_icmp .ge 59, 3) := by decide +kernel
theorem ddX11_putByMinutes_7 : decode cX11_putByMinutes 7 = .ok (.aload_n 0, 1) := by decide +kernel
theorem ddX11_putByMinutes_8 : decode cX11_putByMinutes 8 = .ok (.iload_n 3, 1) := by decide +kernel
theorem ddX11_putByMinutes_9 : decode cX11_putByMinutes 9 = .ok (.iaload, 1) := by decide +kernel
theorem ddX11_putByMinutes_10 : decode cX11_putByMinutes 10 = .ok (.istore 4, 2) := by decide +kernel
theorem ddX11_putByMinutes_12 : decode cX11_putByMinutes 12 = .ok (.iload_n 3, 1) := by decide +kernel
theorem ddX11_putByMinutes_13 : decode cX11_putByMinutes 13 = .ok (.istore 5, 2) := by decide +kernel
theorem ddX11_putByMinutes_15 : decode cX11_putByMinutes 15 = .ok (.iload 5, 2) := by decide +kernel
theorem ddX11_putByMinutes_17 : decode cX11_putByMinutes 17 = .ok (.ifCond .le 34, 3) := by decide +kernel
theorem ddX11_putByMinutes_20 : decode cX11_putByMinutes 20 = .ok (.aload_n 2, 1) := by decide +kernel
theorem ddX11_putByMinutes_21 : decode cX11_putByMinutes 21 = .ok (.aload_n 0, 1) := by decide +kernel
theorem ddX11_putByMinutes_22 : decode cX11_putByMinutes 22 = .ok (.iload 5, 2) := by decide +kernel
theorem ddX11_putByMinutes_24 : decode cX11_putByMinutes 24 = .ok (.iconst 1, 1) := by decide +kernel
theorem ddX11_putByMinutes_25 : decode cX11_putByMinutes 25 = .ok (.isub, 1) := by decide +kernel
theorem ddX11_putByMinutes_26 : decode cX11_putByMinutes 26 = .ok (.iaload, 1) := by decide +kernel
theorem ddX11_putByMinutes_27 : decode cX11_putByMinutes 27 = .ok (.iaload, 1) := by decide +kernel
theorem ddX11_putByMinutes_28 : decode cX11_putByMinutes 28 = .ok (.aload_n 2, 1) := by decide +kernel
theorem ddX11_putByMinutes_29 : decode cX11_putByMinutes 29 = .ok (.iload 4, 2) := by decide +kernel
theorem ddX11_putByMinutes_31 : decode cX11_putByMinutes 31 = .ok (.iaload, 1) := by decide +kernel
theorem ddX11_putByMinutes_32 : decode cX11_putByMinutes 32 = .ok (.if_icmp .le 19, 3) := by decide +kernel
theorem ddX11_putByMinutes_35 : decode cX11_putByMinutes 35 = .ok (.aload_n 0, 1) := by decide +kernel
theorem ddX11_putByMinutes_36 : decode cX11_putByMinutes 36 = .ok (.iload 5, 2) := by decide +kernel
theorem ddX11_putByMinutes_38 : decode cX11_putByMinutes 38 = .ok (.aload_n 0, 1) := by decide +kernel
theorem ddX11_putByMinutes_39 : decode cX11_putByMinutes 39 = .ok (.iload 5, 2) := by decide +kernel
theorem ddX11_putByMinutes_41 : decode cX11_putByMinutes 41 = .ok (.iconst 1, 1) := by decide +kernel
theorem ddX11_putByMinutes_42 : decode cX11_putByMinutes 42 = .ok (.isub, 1) := by decide +kernel
theorem ddX11_putByMinutes_43 : decode cX11_putByMinutes 43 = .ok (.iaload, 1) := by decide +kernel
theorem ddX11_putByMinutes_44 : decode cX11_putByMinutes 44 = .ok (.iastore, 1) := by decide +kernel
theorem ddX11_putByMinutes_45 : decode cX11_putByMinutes 45 = .ok (.iinc 5 (-1), 3) := by decide +kernel
theorem ddX11_putByMinutes_48 : decode cX11_putByMinutes 48 = .ok (.goto (-33), 3) := by decide +kernel
theorem ddX11_putByMinutes_51 : decode cX11_putByMinutes 51 = .ok (.aload_n 0, 1) := by decide +kernel
theorem ddX11_putByMinutes_52 : decode cX11_putByMinutes 52 = .ok (.iload 5, 2) := by decide +kernel
theorem ddX11_putByMinutes_54 : decode cX11_putByMinutes 54 = .ok (.iload 4, 2) := by decide +kernel
theorem ddX11_putByMinutes_56 : decode cX11_putByMinutes 56 = .ok (.iastore, 1) := by decide +kernel
theorem ddX11_putByMinutes_57 : decode cX11_putByMinutes 57 = .ok (.iinc 3 1, 3) := by decide +kernel
theorem ddX11_putByMinutes_60 : decode cX11_putByMinutes 60 = .ok (.goto (-58), 3) := by decide +kernel
theorem ddX11_putByMinutes_63 : decode cX11_putByMinutes 63 = .ok (.return_, 1) := by decide +kernel
def wq_k_X11_putByMinutes_24 : List Cond := Cond.code yX11_putByMinutes cX11_putByMinutes 6 none :: (([] : List Cond))
set_option maxHeartbeats 8000000 in
set_option maxRecDepth 100000 in
theorem k_X11_putByMinutes_24 (l : Launch) (D : va_G) (cy : Nat → ClassId) (ad : Nat → Nat) (g : Nat → va_E) {c0 : Nat → Int32} {c1 : Nat → Int32} {n : Int32} (a0 : g 0 = .inl (cy 0, 24, .inl c0)) (a1 : g 1 = .inl (cy 0, 24, .inl c1)) (ha0 : za 0 23 c0) (p_n : zi 0 24 n) : cMv l yX11_putByMinutes wq_k_X11_putByMinutes_24 { frames := 0, cells := 0, slots := 0, locals := 0 } 2 0 0 0 D cy ad g [.ref (ad 0), .int n, .ref (ad 1)] (fun nw lu => ∃ (d0 : Nat → Int32), (za 0 23 d0) ∧ (lu = [(0, .inl (cy 0, 24, .inl d0))])) := by
  refine cM_of (Qc := fun A => cQv (fun nw lu => ∃ (d0 : Nat → Int32), (za 0 23 d0) ∧ (lu = [(0, .inl (cy 0, 24, .inl d0))])) D 2 0 ad g A) (cc := cX11_putByMinutes) (maxL := 6) (ret := none) (by decide) rfl (Nat.le_of_ble_eq_true rfl) ?_
  intro p e s m below meth c A hC hr hlk hnm hO ls hl
  have hC : CallFix p m c cX11_putByMinutes 6 s [.ref (ad 0), .int n, .ref (ad 1)].toArray wq_k_X11_putByMinutes_24 RX11 := hC
  obtain ⟨hx, hb, hml, hown, hts⟩ := id hC
  have hl : lv_has ls 6 [(0, .ref (ad 0)), (1, .int n), (2, .ref (ad 1))] := hl
  have hO := hO.notes [(0, .inl (cy 0, 24, .inl c0))] (List.forall_mem_cons.mpr ⟨a0, (fun _ h => absurd h List.not_mem_nil)⟩)
  refine lv_iconst (v := 1) hx hb ddX11_putByMinutes_0 (by decide) ?_
  refine lv_istore_n (lv' := [(3, .int 1), (0, .ref (ad 0)), (1, .int n), (2, .ref (ad 1))]) hx hb ddX11_putByMinutes_1 rfl hl (by decide) rfl (fun ls hl => ?_)
  have loop_2_3408 : ∀ (d_2_3409 : Nat) (v_2_3211 : Int32) (c_2_3213 : Nat → Int32), zi 1 24 v_2_3211 → za 0 23 c_2_3213 → (24 + 1 - v_2_3211.toInt).toNat < d_2_3409 → ∀ (H : Heap) (locs : List Loc), cO D cy A s.heap s 2 ad (cup [(0, .inl (cy 0, 24, .inl c_2_3213))] g) H locs → ∀ ls : Array Slot, lv_has ls 6 [(3, .int v_2_3211), (0, .ref (ad 0)), (1, .int n), (2, .ref (ad 1))] → W p l e { frames := 0, cells := 0, slots := 0, locals := 0 } s m [.ref (ad 0), .int n, .ref (ad 1)].toArray below meth c H locs 0 0 (MQ below (cQv (fun nw lu => ∃ (d0 : Nat → Int32), (za 0 23 d0) ∧ (lu = [(0, .inl (cy 0, 24, .inl d0))])) D 2 0 ad g A) [.ref (ad 0), .int n, .ref (ad 1)].toArray s 0 0 A) (F0 m 2 ls [])  := by
    intro d_2_3409
    induction d_2_3409 with
    | zero => intro v_2_3211 c_2_3213 z_2_3212 zc_2_3214 mu_2_3410; exact absurd mu_2_3410 (Nat.not_lt_zero _)
    | succ d_2_3409 ih_2_3411 =>
      intro v_2_3211 c_2_3213 z_2_3212 zc_2_3214 mu_2_3410 H locs hO ls hl
      refine lv_iload_n hx hb ddX11_putByMinutes_2 rfl (lv_at hl 0 rfl) ?_
      refine lv_iload_n hx hb ddX11_putByMinutes_3 rfl (lv_at hl 2 rfl) ?_
      refine lv_icmp_ge (tgt := 63) hx hb ddX11_putByMinutes_4 (by decide) (fun h_4_3412 => ?_) (fun h_4_3412 => ?_)
      · have q_4_3413 := zr_le h_4_3412
        exact cg_vret (nw := fun _ => 0) hC hr hlk hO.same (Nat.le_of_ble_eq_true rfl) (Nat.le_of_ble_eq_true rfl) (⟨c_2_3213, zc_2_3214, rfl⟩) ddX11_putByMinutes_63
      · have q_4_3414 := zr_nle h_4_3412
        have z_4_3415 : zi 1 23 v_2_3211 := zu_lt q_4_3414 z_2_3212 p_n (by decide)
        have z_4_3416 : zi 2 24 n := zd_lt q_4_3414 z_2_3212 p_n (by decide)
        refine lv_aload_n hx hb ddX11_putByMinutes_7 rfl (lv_at hl 1 rfl) ?_
        refine lv_iload_n hx hb ddX11_putByMinutes_8 rfl (lv_at hl 0 rfl) ?_
        refine zg_iald hC hO 0 (by decide) rfl zc_2_3214 (zi_in z_4_3415 (by decide)) ddX11_putByMinutes_9 (fun v_9_3417 z_9_3418 => ?_)
        refine lv_istore (lv' := [(4, .int v_9_3417), (3, .int v_2_3211), (0, .ref (ad 0)), (1, .int n), (2, .ref (ad 1))]) hx hb ddX11_putByMinutes_10 hl (by decide) rfl (fun ls hl => ?_)
        refine lv_iload_n hx hb ddX11_putByMinutes_12 rfl (lv_at hl 1 rfl) ?_
        refine lv_istore (lv' := [(5, .int v_2_3211), (4, .int v_9_3417), (3, .int v_2_3211), (0, .ref (ad 0)), (1, .int n), (2, .ref (ad 1))]) hx hb ddX11_putByMinutes_13 hl (by decide) rfl (fun ls hl => ?_)
        have loop_15_3605 : ∀ (d_15_3606 : Nat) (v_15_3536 : Int32) (c_15_3538 : Nat → Int32), zi 0 23 v_15_3536 → za 0 23 c_15_3538 → (v_15_3536.toInt - 0 + 1).toNat < d_15_3606 → ∀ (H : Heap) (locs : List Loc), cO D cy A s.heap s 2 ad (cup [(0, .inl (cy 0, 24, .inl c_15_3538))] g) H locs → ∀ ls : Array Slot, lv_has ls 6 [(5, .int v_15_3536), (4, .int v_9_3417), (3, .int v_2_3211), (0, .ref (ad 0)), (1, .int n), (2, .ref (ad 1))] → W p l e { frames := 0, cells := 0, slots := 0, locals := 0 } s m [.ref (ad 0), .int n, .ref (ad 1)].toArray below meth c H locs 0 0 (MQ below (cQv (fun nw lu => ∃ (d0 : Nat → Int32), (za 0 23 d0) ∧ (lu = [(0, .inl (cy 0, 24, .inl d0))])) D 2 0 ad g A) [.ref (ad 0), .int n, .ref (ad 1)].toArray s 0 0 A) (F0 m 15 ls [])  := by
          intro d_15_3606
          induction d_15_3606 with
          | zero => intro v_15_3536 c_15_3538 z_15_3537 zc_15_3539 mu_15_3607; exact absurd mu_15_3607 (Nat.not_lt_zero _)
          | succ d_15_3606 ih_15_3608 =>
            intro v_15_3536 c_15_3538 z_15_3537 zc_15_3539 mu_15_3607 H locs hO ls hl
            refine lv_iload hx hb ddX11_putByMinutes_15 (lv_at hl 0 rfl) ?_
            have J_51_3639 : ∀ (H : Heap) (locs : List Loc), cO D cy A s.heap s 2 ad (cup [(0, .inl (cy 0, 24, .inl c_15_3538))] g) H locs → ∀ ls : Array Slot, lv_has ls 6 [(5, .int v_15_3536), (4, .int v_9_3417), (3, .int v_2_3211), (0, .ref (ad 0)), (1, .int n), (2, .ref (ad 1))] → W p l e { frames := 0, cells := 0, slots := 0, locals := 0 } s m [.ref (ad 0), .int n, .ref (ad 1)].toArray below meth c H locs 0 0 (MQ below (cQv (fun nw lu => ∃ (d0 : Nat → Int32), (za 0 23 d0) ∧ (lu = [(0, .inl (cy 0, 24, .inl d0))])) D 2 0 ad g A) [.ref (ad 0), .int n, .ref (ad 1)].toArray s 0 0 A) (F0 m 51 ls []) := by
              intro  H locs hO ls hl
              refine lv_aload_n hx hb ddX11_putByMinutes_51 rfl (lv_at hl 3 rfl) ?_
              refine lv_iload hx hb ddX11_putByMinutes_52 (lv_at hl 0 rfl) ?_
              refine lv_iload hx hb ddX11_putByMinutes_54 (lv_at hl 1 rfl) ?_
              refine zg_iast hC hO 0 (by decide) rfl zc_15_3539 z_9_3418 (zi_in z_15_3537 (by decide)) ddX11_putByMinutes_56 (fun H locs c_56_3640 zc_56_3641 hO => ?_)
              have hO : cO D cy A s.heap s 2 ad (cup [(0, .inl (cy 0, 24, .inl c_56_3640))] g) _ _ := hO
              obtain ⟨v_57_3642, e_57_3643, z_57_3644, q_57_3645⟩ := zi_inc (e := 2) (f := 24) 1 z_4_3415 (by decide)
              refine lv_iinc (v := v_57_3642) (lv' := [(3, .int v_57_3642), (5, .int v_15_3536), (4, .int v_9_3417), (0, .ref (ad 0)), (1, .int n), (2, .ref (ad 1))]) hx hb ddX11_putByMinutes_57 hl (k := 2) rfl e_57_3643 (by decide) rfl (fun ls hl => ?_)
              refine lv_goto (tgt := 2) hx hb ddX11_putByMinutes_60 (by decide) ?_
              exact ih_2_3411 v_57_3642 c_56_3640 (zi_w (c := 1) (d := 24) z_57_3644 (by decide)) zc_56_3641 (zm_up q_57_3645 ((zi_w (c := 1) (d := 24) z_57_3644 (by decide))).2 (by decide) mu_2_3410) _ _ hO ls (lv_sub hl [0, 3, 4, 5] rfl)
            refine lv_if_le (tgt := 51) hx hb ddX11_putByMinutes_17 (by decide) (fun h_17_3609 => ?_) (fun h_17_3609 => ?_)
            · have q_17_3646 := zr_le h_17_3609
              have z_17_3647 : zi 0 0 v_15_3536 := zu_le q_17_3646 z_15_3537 (zi_k (a := 0) (b := 0) (x := 0) rfl) (by decide)
              exact J_51_3639  _ _ hO ls (lv_sub hl [0, 1, 2, 3, 4, 5] rfl)
            · have q_17_3648 := zr_nle h_17_3609
              have z_17_3649 : zi 1 23 v_15_3536 := zd_lt q_17_3648 (zi_k (a := 0) (b := 0) (x := 0) rfl) z_15_3537 (by decide)
              refine lv_aload_n hx hb ddX11_putByMinutes_20 rfl (lv_at hl 5 rfl) ?_
              refine lv_aload_n hx hb ddX11_putByMinutes_21 rfl (lv_at hl 3 rfl) ?_
              refine lv_iload hx hb ddX11_putByMinutes_22 (lv_at hl 0 rfl) ?_
              refine lv_iconst (v := 1) hx hb ddX11_putByMinutes_24 (by decide) ?_
              refine lv_isub hx hb ddX11_putByMinutes_25 ?_
              refine zg_top2 (P := fun v => zi 0 22 v) (E := fun v => v.toInt = v_15_3536.toInt + -1) (zi_subk z_17_3649 (n := 1) (by decide) (by decide)) (fun v_25_3650 z_25_3651 q_25_3652 => ?_)
              refine zg_iald hC hO 0 (by decide) rfl zc_15_3539 (zi_in z_25_3651 (by decide)) ddX11_putByMinutes_26 (fun v_26_3653 z_26_3654 => ?_)
              refine zg_iald hC hO 1 (by decide) a1 (za_all _) (zi_in z_26_3654 (by decide)) ddX11_putByMinutes_27 (fun v_27_3655 z_27_3656 => ?_)
              refine lv_aload_n hx hb ddX11_putByMinutes_28 rfl (lv_at hl 5 rfl) ?_
              refine lv_iload hx hb ddX11_putByMinutes_29 (lv_at hl 1 rfl) ?_
              refine zg_iald hC hO 1 (by decide) a1 (za_all _) (zi_in z_9_3418 (by decide)) ddX11_putByMinutes_31 (fun v_31_3657 z_31_3658 => ?_)
              refine lv_icmp_le (tgt := 51) hx hb ddX11_putByMinutes_32 (by decide) (fun h_32_3659 => ?_) (fun h_32_3659 => ?_)
              · have q_32_3660 := zr_le h_32_3659
                exact J_51_3639  _ _ hO ls (lv_sub hl [0, 1, 2, 3, 4, 5] rfl)
              · have q_32_3661 := zr_nle h_32_3659
                have z_32_3662 : zi (-2147483648) 2147483646 v_31_3657 := zu_lt q_32_3661 z_31_3658 z_27_3656 (by decide)
                have z_32_3663 : zi (-2147483647) 2147483647 v_27_3655 := zd_lt q_32_3661 z_31_3658 z_27_3656 (by decide)
                refine lv_aload_n hx hb ddX11_putByMinutes_35 rfl (lv_at hl 3 rfl) ?_
                refine lv_iload hx hb ddX11_putByMinutes_36 (lv_at hl 0 rfl) ?_
                refine lv_aload_n hx hb ddX11_putByMinutes_38 rfl (lv_at hl 3 rfl) ?_
                refine lv_iload hx hb ddX11_putByMinutes_39 (lv_at hl 0 rfl) ?_
                refine lv_iconst (v := 1) hx hb ddX11_putByMinutes_41 (by decide) ?_
                refine lv_isub hx hb ddX11_putByMinutes_42 ?_
                refine zg_top2 (P := fun v => zi 0 22 v) (E := fun v => v.toInt = v_15_3536.toInt + -1) (zi_subk z_17_3649 (n := 1) (by decide) (by decide)) (fun v_42_3664 z_42_3665 q_42_3666 => ?_)
                refine zg_iald hC hO 0 (by decide) rfl zc_15_3539 (zi_in z_42_3665 (by decide)) ddX11_putByMinutes_43 (fun v_43_3667 z_43_3668 => ?_)
                refine zg_iast hC hO 0 (by decide) rfl zc_15_3539 z_43_3668 (zi_in z_17_3649 (by decide)) ddX11_putByMinutes_44 (fun H locs c_44_3669 zc_44_3670 hO => ?_)
                have hO : cO D cy A s.heap s 2 ad (cup [(0, .inl (cy 0, 24, .inl c_44_3669))] g) _ _ := hO
                obtain ⟨v_45_3671, e_45_3672, z_45_3673, q_45_3674⟩ := zi_inc (e := 0) (f := 22) (-1) z_17_3649 (by decide)
                refine lv_iinc (v := v_45_3671) (lv' := [(5, .int v_45_3671), (4, .int v_9_3417), (3, .int v_2_3211), (0, .ref (ad 0)), (1, .int n), (2, .ref (ad 1))]) hx hb ddX11_putByMinutes_45 hl (k := 0) rfl e_45_3672 (by decide) rfl (fun ls hl => ?_)
                refine lv_goto (tgt := 15) hx hb ddX11_putByMinutes_48 (by decide) ?_
                exact ih_15_3608 v_45_3671 c_44_3669 (zi_w (c := 0) (d := 23) z_45_3673 (by decide)) zc_44_3670 (zm_dn q_45_3674 ((zi_w (c := 0) (d := 23) z_45_3673 (by decide))).1 (by decide) mu_15_3607) _ _ hO ls (lv_sub hl [0, 1, 2, 3, 4, 5] rfl)
        exact loop_15_3605 (((v_2_3211 : Int32).toInt - 0 + 1).toNat + 1) v_2_3211 c_2_3213 (zi_w (c := 0) (d := 23) z_4_3415 (by decide)) zc_2_3214 (Nat.lt_succ_self _) _ _ hO ls (lv_sub hl [0, 1, 2, 3, 4, 5] rfl)
  exact loop_2_3408 ((24 + 1 - (1 : Int32).toInt).toNat + 1) 1 c0 (zi_k (a := 1) (b := 24) (x := 1) rfl) ha0 (Nat.lt_succ_self _) _ _ hO ls (lv_sub hl [0, 1, 2, 3] rfl)

def wq_k_X11_putByMinutes_12 : List Cond := Cond.code yX11_putByMinutes cX11_putByMinutes 6 none :: (([] : List Cond))
set_option maxHeartbeats 8000000 in
set_option maxRecDepth 100000 in
theorem k_X11_putByMinutes_12 (l : Launch) (D : va_G) (cy : Nat → ClassId) (ad : Nat → Nat) (g : Nat → va_E) {c0 : Nat → Int32} {c1 : Nat → Int32} {n : Int32} (a0 : g 0 = .inl (cy 0, 12, .inl c0)) (a1 : g 1 = .inl (cy 0, 12, .inl c1)) (ha0 : za 0 11 c0) (p_n : zi 0 12 n) : cMv l yX11_putByMinutes wq_k_X11_putByMinutes_12 { frames := 0, cells := 0, slots := 0, locals := 0 } 2 0 0 0 D cy ad g [.ref (ad 0), .int n, .ref (ad 1)] (fun nw lu => ∃ (d0 : Nat → Int32), (za 0 11 d0) ∧ (lu = [(0, .inl (cy 0, 12, .inl d0))])) := by
  refine cM_of (Qc := fun A => cQv (fun nw lu => ∃ (d0 : Nat → Int32), (za 0 11 d0) ∧ (lu = [(0, .inl (cy 0, 12, .inl d0))])) D 2 0 ad g A) (cc := cX11_putByMinutes) (maxL := 6) (ret := none) (by decide) rfl (Nat.le_of_ble_eq_true rfl) ?_
  intro p e s m below meth c A hC hr hlk hnm hO ls hl
  have hC : CallFix p m c cX11_putByMinutes 6 s [.ref (ad 0), .int n, .ref (ad 1)].toArray wq_k_X11_putByMinutes_12 RX11 := hC
  obtain ⟨hx, hb, hml, hown, hts⟩ := id hC
  have hl : lv_has ls 6 [(0, .ref (ad 0)), (1, .int n), (2, .ref (ad 1))] := hl
  have hO := hO.notes [(0, .inl (cy 0, 12, .inl c0))] (List.forall_mem_cons.mpr ⟨a0, (fun _ h => absurd h List.not_mem_nil)⟩)
  refine lv_iconst (v := 1) hx hb ddX11_putByMinutes_0 (by decide) ?_
  refine lv_istore_n (lv' := [(3, .int 1), (0, .ref (ad 0)), (1, .int n), (2, .ref (ad 1))]) hx hb ddX11_putByMinutes_1 rfl hl (by decide) rfl (fun ls hl => ?_)
  have loop_2_3408 : ∀ (d_2_3409 : Nat) (v_2_3211 : Int32) (c_2_3213 : Nat → Int32), zi 1 12 v_2_3211 → za 0 11 c_2_3213 → (12 + 1 - v_2_3211.toInt).toNat < d_2_3409 → ∀ (H : Heap) (locs : List Loc), cO D cy A s.heap s 2 ad (cup [(0, .inl (cy 0, 12, .inl c_2_3213))] g) H locs → ∀ ls : Array Slot, lv_has ls 6 [(3, .int v_2_3211), (0, .ref (ad 0)), (1, .int n), (2, .ref (ad 1))] → W p l e { frames := 0, cells := 0, slots := 0, locals := 0 } s m [.ref (ad 0), .int n, .ref (ad 1)].toArray below meth c H locs 0 0 (MQ below (cQv (fun nw lu => ∃ (d0 : Nat → Int32), (za 0 11 d0) ∧ (lu = [(0, .inl (cy 0, 12, .inl d0))])) D 2 0 ad g A) [.ref (ad 0), .int n, .ref (ad 1)].toArray s 0 0 A) (F0 m 2 ls [])  := by
    intro d_2_3409
    induction d_2_3409 with
    | zero => intro v_2_3211 c_2_3213 z_2_3212 zc_2_3214 mu_2_3410; exact absurd mu_2_3410 (Nat.not_lt_zero _)
    | succ d_2_3409 ih_2_3411 =>
      intro v_2_3211 c_2_3213 z_2_3212 zc_2_3214 mu_2_3410 H locs hO ls hl
      refine lv_iload_n hx hb ddX11_putByMinutes_2 rfl (lv_at hl 0 rfl) ?_
      refine lv_iload_n hx hb ddX11_putByMinutes_3 rfl (lv_at hl 2 rfl) ?_
      refine lv_icmp_ge (tgt := 63) hx hb ddX11_putByMinutes_4 (by decide) (fun h_4_3412 => ?_) (fun h_4_3412 => ?_)
      · have q_4_3413 := zr_le h_4_3412
        exact cg_vret (nw := fun _ => 0) hC hr hlk hO.same (Nat.le_of_ble_eq_true rfl) (Nat.le_of_ble_eq_true rfl) (⟨c_2_3213, zc_2_3214, rfl⟩) ddX11_putByMinutes_63
      · have q_4_3414 := zr_nle h_4_3412
        have z_4_3415 : zi 1 11 v_2_3211 := zu_lt q_4_3414 z_2_3212 p_n (by decide)
        have z_4_3416 : zi 2 12 n := zd_lt q_4_3414 z_2_3212 p_n (by decide)
        refine lv_aload_n hx hb ddX11_putByMinutes_7 rfl (lv_at hl 1 rfl) ?_
        refine lv_iload_n hx hb ddX11_putByMinutes_8 rfl (lv_at hl 0 rfl) ?_
        refine zg_iald hC hO 0 (by decide) rfl zc_2_3214 (zi_in z_4_3415 (by decide)) ddX11_putByMinutes_9 (fun v_9_3417 z_9_3418 => ?_)
        refine lv_istore (lv' := [(4, .int v_9_3417), (3, .int v_2_3211), (0, .ref (ad 0)), (1, .int n), (2, .ref (ad 1))]) hx hb ddX11_putByMinutes_10 hl (by decide) rfl (fun ls hl => ?_)
        refine lv_iload_n hx hb ddX11_putByMinutes_12 rfl (lv_at hl 1 rfl) ?_
        refine lv_istore (lv' := [(5, .int v_2_3211), (4, .int v_9_3417), (3, .int v_2_3211), (0, .ref (ad 0)), (1, .int n), (2, .ref (ad 1))]) hx hb ddX11_putByMinutes_13 hl (by decide) rfl (fun ls hl => ?_)
        have loop_15_3605 : ∀ (d_15_3606 : Nat) (v_15_3536 : Int32) (c_15_3538 : Nat → Int32), zi 0 11 v_15_3536 → za 0 11 c_15_3538 → (v_15_3536.toInt - 0 + 1).toNat < d_15_3606 → ∀ (H : Heap) (locs : List Loc), cO D cy A s.heap s 2 ad (cup [(0, .inl (cy 0, 12, .inl c_15_3538))] g) H locs → ∀ ls : Array Slot, lv_has ls 6 [(5, .int v_15_3536), (4, .int v_9_3417), (3, .int v_2_3211), (0, .ref (ad 0)), (1, .int n), (2, .ref (ad 1))] → W p l e { frames := 0, cells := 0, slots := 0, locals := 0 } s m [.ref (ad 0), .int n, .ref (ad 1)].toArray below meth c H locs 0 0 (MQ below (cQv (fun nw lu => ∃ (d0 : Nat → Int32), (za 0 11 d0) ∧ (lu = [(0, .inl (cy 0, 12, .inl d0))])) D 2 0 ad g A) [.ref (ad 0), .int n, .ref (ad 1)].toArray s 0 0 A) (F0 m 15 ls [])  := by
          intro d_15_3606
          induction d_15_3606 with
          | zero => intro v_15_3536 c_15_3538 z_15_3537 zc_15_3539 mu_15_3607; exact absurd mu_15_3607 (Nat.not_lt_zero _)
          | succ d_15_3606 ih_15_3608 =>
            intro v_15_3536 c_15_3538 z_15_3537 zc_15_3539 mu_15_3607 H locs hO ls hl
            refine lv_iload hx hb ddX11_putByMinutes_15 (lv_at hl 0 rfl) ?_
            have J_51_3639 : ∀ (H : Heap) (locs : List Loc), cO D cy A s.heap s 2 ad (cup [(0, .inl (cy 0, 12, .inl c_15_3538))] g) H locs → ∀ ls : Array Slot, lv_has ls 6 [(5, .int v_15_3536), (4, .int v_9_3417), (3, .int v_2_3211), (0, .ref (ad 0)), (1, .int n), (2, .ref (ad 1))] → W p l e { frames := 0, cells := 0, slots := 0, locals := 0 } s m [.ref (ad 0), .int n, .ref (ad 1)].toArray below meth c H locs 0 0 (MQ below (cQv (fun nw lu => ∃ (d0 : Nat → Int32), (za 0 11 d0) ∧ (lu = [(0, .inl (cy 0, 12, .inl d0))])) D 2 0 ad g A) [.ref (ad 0), .int n, .ref (ad 1)].toArray s 0 0 A) (F0 m 51 ls []) := by
              intro  H locs hO ls hl
              refine lv_aload_n hx hb ddX11_putByMinutes_51 rfl (lv_at hl 3 rfl) ?_
              refine lv_iload hx hb ddX11_putByMinutes_52 (lv_at hl 0 rfl) ?_
              refine lv_iload hx hb ddX11_putByMinutes_54 (lv_at hl 1 rfl) ?_
              refine zg_iast hC hO 0 (by decide) rfl zc_15_3539 z_9_3418 (zi_in z_15_3537 (by decide)) ddX11_putByMinutes_56 (fun H locs c_56_3640 zc_56_3641 hO => ?_)
              have hO : cO D cy A s.heap s 2 ad (cup [(0, .inl (cy 0, 12, .inl c_56_3640))] g) _ _ := hO
              obtain ⟨v_57_3642, e_57_3643, z_57_3644, q_57_3645⟩ := zi_inc (e := 2) (f := 12) 1 z_4_3415 (by decide)
              refine lv_iinc (v := v_57_3642) (lv' := [(3, .int v_57_3642), (5, .int v_15_3536), (4, .int v_9_3417), (0, .ref (ad 0)), (1, .int n), (2, .ref (ad 1))]) hx hb ddX11_putByMinutes_57 hl (k := 2) rfl e_57_3643 (by decide) rfl (fun ls hl => ?_)
              refine lv_goto (tgt := 2) hx hb ddX11_putByMinutes_60 (by decide) ?_
              exact ih_2_3411 v_57_3642 c_56_3640 (zi_w (c := 1) (d := 12) z_57_3644 (by decide)) zc_56_3641 (zm_up q_57_3645 ((zi_w (c := 1) (d := 12) z_57_3644 (by decide))).2 (by decide) mu_2_3410) _ _ hO ls (lv_sub hl [0, 3, 4, 5] rfl)
            refine lv_if_le (tgt := 51) hx hb ddX11_putByMinutes_17 (by decide) (fun h_17_3609 => ?_) (fun h_17_3609 => ?_)
            · have q_17_3646 := zr_le h_17_3609
              have z_17_3647 : zi 0 0 v_15_3536 := zu_le q_17_3646 z_15_3537 (zi_k (a := 0) (b := 0) (x := 0) rfl) (by decide)
              exact J_51_3639  _ _ hO ls (lv_sub hl [0, 1, 2, 3, 4, 5] rfl)
            · have q_17_3648 := zr_nle h_17_3609
              have z_17_3649 : zi 1 11 v_15_3536 := zd_lt q_17_3648 (zi_k (a := 0) (b := 0) (x := 0) rfl) z_15_3537 (by decide)
              refine lv_aload_n hx hb ddX11_putByMinutes_20 rfl (lv_at hl 5 rfl) ?_
              refine lv_aload_n hx hb ddX11_putByMinutes_21 rfl (lv_at hl 3 rfl) ?_
              refine lv_iload hx hb ddX11_putByMinutes_22 (lv_at hl 0 rfl) ?_
              refine lv_iconst (v := 1) hx hb ddX11_putByMinutes_24 (by decide) ?_
              refine lv_isub hx hb ddX11_putByMinutes_25 ?_
              refine zg_top2 (P := fun v => zi 0 10 v) (E := fun v => v.toInt = v_15_3536.toInt + -1) (zi_subk z_17_3649 (n := 1) (by decide) (by decide)) (fun v_25_3650 z_25_3651 q_25_3652 => ?_)
              refine zg_iald hC hO 0 (by decide) rfl zc_15_3539 (zi_in z_25_3651 (by decide)) ddX11_putByMinutes_26 (fun v_26_3653 z_26_3654 => ?_)
              refine zg_iald hC hO 1 (by decide) a1 (za_all _) (zi_in z_26_3654 (by decide)) ddX11_putByMinutes_27 (fun v_27_3655 z_27_3656 => ?_)
              refine lv_aload_n hx hb ddX11_putByMinutes_28 rfl (lv_at hl 5 rfl) ?_
              refine lv_iload hx hb ddX11_putByMinutes_29 (lv_at hl 1 rfl) ?_
              refine zg_iald hC hO 1 (by decide) a1 (za_all _) (zi_in z_9_3418 (by decide)) ddX11_putByMinutes_31 (fun v_31_3657 z_31_3658 => ?_)
              refine lv_icmp_le (tgt := 51) hx hb ddX11_putByMinutes_32 (by decide) (fun h_32_3659 => ?_) (fun h_32_3659 => ?_)
              · have q_32_3660 := zr_le h_32_3659
                exact J_51_3639  _ _ hO ls (lv_sub hl [0, 1, 2, 3, 4, 5] rfl)
              · have q_32_3661 := zr_nle h_32_3659
                have z_32_3662 : zi (-2147483648) 2147483646 v_31_3657 := zu_lt q_32_3661 z_31_3658 z_27_3656 (by decide)
                have z_32_3663 : zi (-2147483647) 2147483647 v_27_3655 := zd_lt q_32_3661 z_31_3658 z_27_3656 (by decide)
                refine lv_aload_n hx hb ddX11_putByMinutes_35 rfl (lv_at hl 3 rfl) ?_
                refine lv_iload hx hb ddX11_putByMinutes_36 (lv_at hl 0 rfl) ?_
                refine lv_aload_n hx hb ddX11_putByMinutes_38 rfl (lv_at hl 3 rfl) ?_
                refine lv_iload hx hb ddX11_putByMinutes_39 (lv_at hl 0 rfl) ?_
                refine lv_iconst (v := 1) hx hb ddX11_putByMinutes_41 (by decide) ?_
                refine lv_isub hx hb ddX11_putByMinutes_42 ?_
                refine zg_top2 (P := fun v => zi 0 10 v) (E := fun v => v.toInt = v_15_3536.toInt + -1) (zi_subk z_17_3649 (n := 1) (by decide) (by decide)) (fun v_42_3664 z_42_3665 q_42_3666 => ?_)
                refine zg_iald hC hO 0 (by decide) rfl zc_15_3539 (zi_in z_42_3665 (by decide)) ddX11_putByMinutes_43 (fun v_43_3667 z_43_3668 => ?_)
                refine zg_iast hC hO 0 (by decide) rfl zc_15_3539 z_43_3668 (zi_in z_17_3649 (by decide)) ddX11_putByMinutes_44 (fun H locs c_44_3669 zc_44_3670 hO => ?_)
                have hO : cO D cy A s.heap s 2 ad (cup [(0, .inl (cy 0, 12, .inl c_44_3669))] g) _ _ := hO
                obtain ⟨v_45_3671, e_45_3672, z_45_3673, q_45_3674⟩ := zi_inc (e := 0) (f := 10) (-1) z_17_3649 (by decide)
                refine lv_iinc (v := v_45_3671) (lv' := [(5, .int v_45_3671), (4, .int v_9_3417), (3, .int v_2_3211), (0, .ref (ad 0)), (1, .int n), (2, .ref (ad 1))]) hx hb ddX11_putByMinutes_45 hl (k := 0) rfl e_45_3672 (by decide) rfl (fun ls hl => ?_)
                refine lv_goto (tgt := 15) hx hb ddX11_putByMinutes_48 (by decide) ?_
                exact ih_15_3608 v_45_3671 c_44_3669 (zi_w (c := 0) (d := 11) z_45_3673 (by decide)) zc_44_3670 (zm_dn q_45_3674 ((zi_w (c := 0) (d := 11) z_45_3673 (by decide))).1 (by decide) mu_15_3607) _ _ hO ls (lv_sub hl [0, 1, 2, 3, 4, 5] rfl)
        exact loop_15_3605 (((v_2_3211 : Int32).toInt - 0 + 1).toNat + 1) v_2_3211 c_2_3213 (zi_w (c := 0) (d := 11) z_4_3415 (by decide)) zc_2_3214 (Nat.lt_succ_self _) _ _ hO ls (lv_sub hl [0, 1, 2, 3, 4, 5] rfl)
  exact loop_2_3408 ((12 + 1 - (1 : Int32).toInt).toNat + 1) 1 c0 (zi_k (a := 1) (b := 12) (x := 1) rfl) ha0 (Nat.lt_succ_self _) _ _ hO ls (lv_sub hl [0, 1, 2, 3] rfl)

theorem ddX7_clear_0 : decode cX7_clear 0 = .ok (.aload_n 0, 1) := by decide +kernel
theorem ddX7_clear_1 : decode cX7_clear 1 = .ok (.iconst 0, 1) := by decide +kernel
theorem ddX7_clear_2 : decode cX7_clear 2 = .ok (.putfield 59, 3) := by decide +kernel
theorem ddX7_clear_5 : decode cX7_clear 5 = .ok (.aload_n 0, 1) := by decide +kernel
theorem ddX7_clear_6 : decode cX7_clear 6 = .ok (.iconst 0, 1) := by decide +kernel
theorem ddX7_clear_7 : decode cX7_clear 7 = .ok (.putfield 63, 3) := by decide +kernel
theorem ddX7_clear_10 : decode cX7_clear 10 = .ok (.aload_n 0, 1) := by decide +kernel
theorem ddX7_clear_11 : decode cX7_clear 11 = .ok (.iconst 0, 1) := by decide +kernel
theorem ddX7_clear_12 : decode cX7_clear 12 = .ok (.putfield 66, 3) := by decide +kernel
theorem ddX7_clear_15 : decode cX7_clear 15 = .ok (.aload_n 0, 1) := by decide +kernel
theorem ddX7_clear_16 : decode cX7_clear 16 = .ok (.iconst 0, 1) := by decide +kernel
theorem ddX7_clear_17 : decode cX7_clear 17 = .ok (.putfield 69, 3) := by decide +kernel
theorem ddX7_clear_20 : decode cX7_clear 20 = .ok (.aload_n 0, 1) := by decide +kernel
theorem ddX7_clear_21 : decode cX7_clear 21 = .ok (.getfield 25, 3) := by decide +kernel
theorem ddX7_clear_24 : decode cX7_clear 24 = .ok (.iconst (-1), 1) := by decide +kernel
theorem ddX7_clear_25 : decode cX7_clear 25 = .ok (.invokestatic 72, 3) := by decide +kernel
theorem ddX7_clear_28 : decode cX7_clear 28 = .ok (.aload_n 0, 1) := by decide +kernel
theorem ddX7_clear_29 : decode cX7_clear 29 = .ok (.getfield 40, 3) := by decide +kernel
theorem ddX7_clear_32 : decode cX7_clear 32 = .ok (.iconst 0, 1) := by decide +kernel
theorem ddX7_clear_33 : decode cX7_clear 33 = .ok (.invokestatic 72, 3) := by decide +kernel
theorem ddX7_clear_36 : decode cX7_clear 36 = .ok (.aload_n 0, 1) := by decide +kernel
theorem ddX7_clear_37 : decode cX7_clear 37 = .ok (.getfield 55, 3) := by decide +kernel
theorem ddX7_clear_40 : decode cX7_clear 40 = .ok (.invokevirtual 78, 3) := by decide +kernel
theorem ddX7_clear_43 : decode cX7_clear 43 = .ok (.return_, 1) := by decide +kernel
def wq_k_X7_clear : List Cond := Cond.code yX7_clear cX7_clear 1 none :: (([Cond.fieldLink RX7 59 "CrowToll$Road" "birds" "I", Cond.fieldLink RX7 63 "CrowToll$Road" "posts" "I", Cond.fieldLink RX7 66 "CrowToll$Road" "carts" "I", Cond.fieldLink RX7 69 "CrowToll$Road" "maybe" "I", Cond.fieldLink RX7 25 "CrowToll$Road" "seatOf" "[I", Cond.methodLink RX7 72 yJ7_fill_53178, Cond.static yJ7_fill_53178, Cond.initialized RJ7, Cond.code yJ7_fill_53178 cJ7_fill_53178 4 none, Cond.fieldLink RX7 40 "CrowToll$Road" "seated" "[I", Cond.fieldLink RX7 55 "CrowToll$Road" "law" "LCrowToll$Law;", Cond.methodLink RX7 78 yX4_clear, Cond.instanceMethod yX4_clear, Cond.selects RX4 yX4_clear yX4_clear, Cond.initialized RX4, Cond.code yX4_clear cX4_clear 1 none, Cond.fieldLink RX4 18 "CrowToll$Law" "steps" "I", Cond.fieldLink RX4 22 "CrowToll$Law" "units" "I", Cond.fieldLink RX4 25 "CrowToll$Law" "isTold" "Z"] : List Cond) ++ wsX40 ++ wsX70)
set_option maxRecDepth 20000 in
theorem gr_k_X7_clear_k_fill_5s : GoodIn wq_k_X7_clear wq_k_fill_5s := List.forall_mem_cons.mpr ⟨⟨(List.mem_of_getElem? (i := 9) rfl), good_of_word rfl⟩, (fun _ h => absurd h List.not_mem_nil)⟩
set_option maxRecDepth 20000 in
theorem gq_k_X7_clear_k_fill_5s_72 : GoodIn wq_k_X7_clear (va_wsS RX7 72 yJ7_fill_53178 wq_k_fill_5s) := goodIn_app (List.forall_mem_cons.mpr ⟨⟨(List.mem_of_getElem? (i := 6) rfl), good_of_word rfl⟩, List.forall_mem_cons.mpr ⟨⟨(List.mem_of_getElem? (i := 7) rfl), good_of_word rfl⟩, List.forall_mem_cons.mpr ⟨⟨(List.mem_of_getElem? (i := 8) rfl), good_of_word rfl⟩, (fun _ h => absurd h List.not_mem_nil)⟩⟩⟩) gr_k_X7_clear_k_fill_5s
set_option maxRecDepth 20000 in
theorem gr_k_X7_clear_k_fill_4s : GoodIn wq_k_X7_clear wq_k_fill_4s := List.forall_mem_cons.mpr ⟨⟨(List.mem_of_getElem? (i := 9) rfl), good_of_word rfl⟩, (fun _ h => absurd h List.not_mem_nil)⟩
set_option maxRecDepth 20000 in
theorem gq_k_X7_clear_k_fill_4s_72 : GoodIn wq_k_X7_clear (va_wsS RX7 72 yJ7_fill_53178 wq_k_fill_4s) := goodIn_app (List.forall_mem_cons.mpr ⟨⟨(List.mem_of_getElem? (i := 6) rfl), good_of_word rfl⟩, List.forall_mem_cons.mpr ⟨⟨(List.mem_of_getElem? (i := 7) rfl), good_of_word rfl⟩, List.forall_mem_cons.mpr ⟨⟨(List.mem_of_getElem? (i := 8) rfl), good_of_word rfl⟩, (fun _ h => absurd h List.not_mem_nil)⟩⟩⟩) gr_k_X7_clear_k_fill_4s
set_option maxRecDepth 20000 in
theorem gr_k_X7_clear_k_X4_clear : GoodIn wq_k_X7_clear wq_k_X4_clear := List.forall_mem_cons.mpr ⟨⟨(List.mem_of_getElem? (i := 16) rfl), good_of_word rfl⟩, List.forall_mem_append.mpr ⟨List.forall_mem_cons.mpr ⟨⟨(List.mem_of_getElem? (i := 17) rfl), good_of_word rfl⟩, List.forall_mem_cons.mpr ⟨⟨(List.mem_of_getElem? (i := 18) rfl), good_of_word rfl⟩, List.forall_mem_cons.mpr ⟨⟨(List.mem_of_getElem? (i := 19) rfl), good_of_word rfl⟩, (fun _ h => absurd h List.not_mem_nil)⟩⟩⟩, fun w h => ⟨(fun w h => List.mem_cons_of_mem _ (List.mem_append_left _ (List.mem_append_right _ h))) w h, good_of_word (List.all_eq_true.mp gw_X4 w h)⟩⟩⟩
set_option maxRecDepth 20000 in
theorem gq_k_X7_clear_k_X4_clear_78 : GoodIn wq_k_X7_clear (wsV RX7 78 RX4 yX4_clear wq_k_X4_clear) := goodIn_app (List.forall_mem_cons.mpr ⟨⟨(List.mem_of_getElem? (i := 12) rfl), good_of_word rfl⟩, List.forall_mem_cons.mpr ⟨⟨(List.mem_of_getElem? (i := 13) rfl), good_of_word rfl⟩, List.forall_mem_cons.mpr ⟨⟨(List.mem_of_getElem? (i := 14) rfl), good_of_word rfl⟩, List.forall_mem_cons.mpr ⟨⟨(List.mem_of_getElem? (i := 15) rfl), good_of_word rfl⟩, (fun _ h => absurd h List.not_mem_nil)⟩⟩⟩⟩) gr_k_X7_clear_k_X4_clear
set_option maxHeartbeats 8000000 in
set_option maxRecDepth 100000 in
theorem k_X7_clear (l : Launch) (D : va_G) (cy : Nat → ClassId) (ad : Nat → Nat) (g : Nat → va_E) {u0_0 : Value} {u0_1 : Value} {u0_2 : Value} {u0_3 : Value} {x0_5 : Int32} {u0_6 : Value} {u0_7 : Value} {u0_8 : Value} {u0_9 : Value} {x0_11 : Int32} {u0_12 : Value} {u0_13 : Value} {u0_14 : Value} {x0_15 : Int32} {x0_16 : Int32} {c1 : Nat → Int32} {c2 : Nat → Int32} {u3_0 : Value} {x3_1 : Int32} {x3_2 : Int32} {x3_3 : Int32} {u3_4 : Value} (o0 : g 0 = .inr (7, [u0_0, u0_1, u0_2, u0_3, .ref (ad 1), .int x0_5, u0_6, u0_7, u0_8, u0_9, .ref (ad 2), .int x0_11, u0_12, u0_13, u0_14, .int x0_15, .int x0_16, .ref (ad 3)])) (a1 : g 1 = .inl (cy 0, 5, .inl c1)) (a2 : g 2 = .inl (cy 0, 4, .inl c2)) (o3 : g 3 = .inr (4, [u3_0, .int x3_1, .int x3_2, .int x3_3, u3_4])) (b0_5 : zi 0 5 x0_5) (b0_11 : zi 0 4 x0_11) (b0_16 : zi 0 12 x0_16) (ha1 : za (-1) 3 c1) (ha2 : za 0 5 c2) (b3_1 : zi 0 300 x3_1) (b3_3 : zi 0 1 x3_3) : cMv l yX7_clear wq_k_X7_clear { frames := 1, cells := 0, slots := 0, locals := 23 } 4 0 0 0 D cy ad g [.ref (ad 0)] (fun nw lu => ∃ (d1 : Nat → Int32) (d2 : Nat → Int32), (za (-1) 3 d1) ∧ (za 0 5 d2) ∧ (lu = [(0, .inr (7, [u0_0, u0_1, u0_2, u0_3, .ref (ad 1), .int 0, u0_6, u0_7, u0_8, u0_9, .ref (ad 2), .int 0, u0_12, u0_13, u0_14, .int 0, .int 0, .ref (ad 3)])), (1, .inl (cy 0, 5, .inl d1)), (2, .inl (cy 0, 4, .inl d2)), (3, .inr (4, [u3_0, .int 0, .int 0, .int 0, u3_4]))])) := by
  refine cM_of (Qc := fun A => cQv (fun nw lu => ∃ (d1 : Nat → Int32) (d2 : Nat → Int32), (za (-1) 3 d1) ∧ (za 0 5 d2) ∧ (lu = [(0, .inr (7, [u0_0, u0_1, u0_2, u0_3, .ref (ad 1), .int 0, u0_6, u0_7, u0_8, u0_9, .ref (ad 2), .int 0, u0_12, u0_13, u0_14, .int 0, .int 0, .ref (ad 3)])), (1, .inl (cy 0, 5, .inl d1)), (2, .inl (cy 0, 4, .inl d2)), (3, .inr (4, [u3_0, .int 0, .int 0, .int 0, u3_4]))])) D 4 0 ad g A) (cc := cX7_clear) (maxL := 1) (ret := none) (by decide) rfl (Nat.le_of_ble_eq_true rfl) ?_
  intro p e s m below meth c A hC hr hlk hnm hO ls hl
  have hC : CallFix p m c cX7_clear 1 s [.ref (ad 0)].toArray wq_k_X7_clear RX7 := hC
  obtain ⟨hx, hb, hml, hown, hts⟩ := id hC
  have hl : lv_has ls 1 [(0, .ref (ad 0))] := hl
  have i_X4 : ∀ w ∈ wsX40, w ∈ wq_k_X7_clear := fun w h => List.mem_cons_of_mem _ (List.mem_append_left _ (List.mem_append_right _ h))
  have i_X7 : ∀ w ∈ wsX70, w ∈ wq_k_X7_clear := fun w h => List.mem_cons_of_mem _ (List.mem_append_right _ h)
  have hO := hO.notes [(0, .inr (7, [u0_0, u0_1, u0_2, u0_3, .ref (ad 1), .int x0_5, u0_6, u0_7, u0_8, u0_9, .ref (ad 2), .int x0_11, u0_12, u0_13, u0_14, .int x0_15, .int x0_16, .ref (ad 3)])), (1, .inl (cy 0, 5, .inl c1)), (2, .inl (cy 0, 4, .inl c2)), (3, .inr (4, [u3_0, .int x3_1, .int x3_2, .int x3_3, u3_4]))] (List.forall_mem_cons.mpr ⟨o0, List.forall_mem_cons.mpr ⟨a1, List.forall_mem_cons.mpr ⟨a2, List.forall_mem_cons.mpr ⟨o3, (fun _ h => absurd h List.not_mem_nil)⟩⟩⟩⟩)
  refine lv_aload_n hx hb ddX7_clear_0 rfl (lv_at hl 0 rfl) ?_
  refine lv_iconst (v := 0) hx hb ddX7_clear_1 (by decide) ?_
  refine cg_put hC hO 0 (by decide) rfl rfl i_X7 tyX7_ok nmX7 5 (by decide) (List.mem_of_getElem? (i := 1) rfl) rfl rfl rfl (Nat.le_of_ble_eq_true rfl) ddX7_clear_2 (fun H locs hO => ?_)
  have hO : cO D cy A s.heap s 4 ad (cup [(0, .inr (7, [u0_0, u0_1, u0_2, u0_3, .ref (ad 1), .int 0, u0_6, u0_7, u0_8, u0_9, .ref (ad 2), .int x0_11, u0_12, u0_13, u0_14, .int x0_15, .int x0_16, .ref (ad 3)])), (1, .inl (cy 0, 5, .inl c1)), (2, .inl (cy 0, 4, .inl c2)), (3, .inr (4, [u3_0, .int x3_1, .int x3_2, .int x3_3, u3_4]))] g) _ _ := hO
  refine lv_aload_n hx hb ddX7_clear_5 rfl (lv_at hl 0 rfl) ?_
  refine lv_iconst (v := 0) hx hb ddX7_clear_6 (by decide) ?_
  refine cg_put hC hO 0 (by decide) rfl rfl i_X7 tyX7_ok nmX7 11 (by decide) (List.mem_of_getElem? (i := 2) rfl) rfl rfl rfl (Nat.le_of_ble_eq_true rfl) ddX7_clear_7 (fun H locs hO => ?_)
  have hO : cO D cy A s.heap s 4 ad (cup [(0, .inr (7, [u0_0, u0_1, u0_2, u0_3, .ref (ad 1), .int 0, u0_6, u0_7, u0_8, u0_9, .ref (ad 2), .int 0, u0_12, u0_13, u0_14, .int x0_15, .int x0_16, .ref (ad 3)])), (1, .inl (cy 0, 5, .inl c1)), (2, .inl (cy 0, 4, .inl c2)), (3, .inr (4, [u3_0, .int x3_1, .int x3_2, .int x3_3, u3_4]))] g) _ _ := hO
  refine lv_aload_n hx hb ddX7_clear_10 rfl (lv_at hl 0 rfl) ?_
  refine lv_iconst (v := 0) hx hb ddX7_clear_11 (by decide) ?_
  refine cg_put hC hO 0 (by decide) rfl rfl i_X7 tyX7_ok nmX7 16 (by decide) (List.mem_of_getElem? (i := 3) rfl) rfl rfl rfl (Nat.le_of_ble_eq_true rfl) ddX7_clear_12 (fun H locs hO => ?_)
  have hO : cO D cy A s.heap s 4 ad (cup [(0, .inr (7, [u0_0, u0_1, u0_2, u0_3, .ref (ad 1), .int 0, u0_6, u0_7, u0_8, u0_9, .ref (ad 2), .int 0, u0_12, u0_13, u0_14, .int x0_15, .int 0, .ref (ad 3)])), (1, .inl (cy 0, 5, .inl c1)), (2, .inl (cy 0, 4, .inl c2)), (3, .inr (4, [u3_0, .int x3_1, .int x3_2, .int x3_3, u3_4]))] g) _ _ := hO
  refine lv_aload_n hx hb ddX7_clear_15 rfl (lv_at hl 0 rfl) ?_
  refine lv_iconst (v := 0) hx hb ddX7_clear_16 (by decide) ?_
  refine cg_put hC hO 0 (by decide) rfl rfl i_X7 tyX7_ok nmX7 15 (by decide) (List.mem_of_getElem? (i := 4) rfl) rfl rfl rfl (Nat.le_of_ble_eq_true rfl) ddX7_clear_17 (fun H locs hO => ?_)
  have hO : cO D cy A s.heap s 4 ad (cup [(0, .inr (7, [u0_0, u0_1, u0_2, u0_3, .ref (ad 1), .int 0, u0_6, u0_7, u0_8, u0_9, .ref (ad 2), .int 0, u0_12, u0_13, u0_14, .int 0, .int 0, .ref (ad 3)])), (1, .inl (cy 0, 5, .inl c1)), (2, .inl (cy 0, 4, .inl c2)), (3, .inr (4, [u3_0, .int x3_1, .int x3_2, .int x3_3, u3_4]))] g) _ _ := hO
  refine lv_aload_n hx hb ddX7_clear_20 rfl (lv_at hl 0 rfl) ?_
  refine cg_get hC hO 0 (by decide) rfl rfl i_X7 4 (by decide) (List.mem_of_getElem? (i := 5) rfl) rfl ddX7_clear_21 ?_
  refine lv_iconst (v := (-1)) hx hb ddX7_clear_24 (by decide) ?_
  refine cg_Sv (As := [.ref (ad 1), .int (-1)]) (rest := []) (mc := 0) (ms := 0) (rm := { frames := 0, cells := 0, slots := 0, locals := 0 }) hC hl.1 hO [1] (by decide +kernel) (k_fill_5s l D cy _ _ (c0 := c1) (x := (-1)) rfl ha1 (zi_k (a := (-1)) (b := 3) (x := (-1)) rfl)) gq_k_X7_clear_k_fill_5s_72 rfl rfl rfl 2 (by decide +kernel) ⟨Nat.le_of_ble_eq_true rfl, Nat.le_of_ble_eq_true rfl⟩ rfl rfl (Nat.le_of_ble_eq_true rfl) ddX7_clear_25 ⟨Nat.le_of_ble_eq_true rfl, Nat.le_of_ble_eq_true rfl⟩ (fun nw_25_27 l_25_28 H locs hw hO => ?_)
  obtain ⟨d0_25_30, z_25_31, rfl⟩ := hw
  have hO := hO.mrg (lk := [(1, .inl (cy 0, 5, .inl d0_25_30))]) (lm := [(0, .inr (7, [u0_0, u0_1, u0_2, u0_3, .ref (ad 1), .int 0, u0_6, u0_7, u0_8, u0_9, .ref (ad 2), .int 0, u0_12, u0_13, u0_14, .int 0, .int 0, .ref (ad 3)])), (1, .inl (cy 0, 5, .inl d0_25_30)), (2, .inl (cy 0, 4, .inl c2)), (3, .inr (4, [u3_0, .int x3_1, .int x3_2, .int x3_3, u3_4]))]) rfl rfl rfl
  refine lv_aload_n hx hb ddX7_clear_28 rfl (lv_at hl 0 rfl) ?_
  refine cg_get hC hO 0 (by decide) rfl rfl i_X7 10 (by decide) (List.mem_of_getElem? (i := 10) rfl) rfl ddX7_clear_29 ?_
  refine lv_iconst (v := 0) hx hb ddX7_clear_32 (by decide) ?_
  refine cg_Sv (As := [.ref (ad 2), .int 0]) (rest := []) (mc := 0) (ms := 0) (rm := { frames := 0, cells := 0, slots := 0, locals := 0 }) hC hl.1 hO [2] (by decide +kernel) (k_fill_4s l D cy _ _ (c0 := c2) (x := 0) rfl ha2 (zi_k (a := 0) (b := 5) (x := 0) rfl)) gq_k_X7_clear_k_fill_4s_72 rfl rfl rfl 2 (by decide +kernel) ⟨Nat.le_of_ble_eq_true rfl, Nat.le_of_ble_eq_true rfl⟩ rfl rfl (Nat.le_of_ble_eq_true rfl) ddX7_clear_33 ⟨Nat.le_of_ble_eq_true rfl, Nat.le_of_ble_eq_true rfl⟩ (fun nw_33_32 l_33_33 H locs hw hO => ?_)
  obtain ⟨d0_33_35, z_33_36, rfl⟩ := hw
  have hO := hO.mrg (lk := [(2, .inl (cy 0, 4, .inl d0_33_35))]) (lm := [(0, .inr (7, [u0_0, u0_1, u0_2, u0_3, .ref (ad 1), .int 0, u0_6, u0_7, u0_8, u0_9, .ref (ad 2), .int 0, u0_12, u0_13, u0_14, .int 0, .int 0, .ref (ad 3)])), (1, .inl (cy 0, 5, .inl d0_25_30)), (2, .inl (cy 0, 4, .inl d0_33_35)), (3, .inr (4, [u3_0, .int x3_1, .int x3_2, .int x3_3, u3_4]))]) rfl rfl rfl
  refine lv_aload_n hx hb ddX7_clear_36 rfl (lv_at hl 0 rfl) ?_
  refine cg_get hC hO 0 (by decide) rfl rfl i_X7 17 (by decide) (List.mem_of_getElem? (i := 11) rfl) rfl ddX7_clear_37 ?_
  refine cg_Vv (As := []) (rest := []) (mc := 0) (ms := 0) (rm := { frames := 0, cells := 0, slots := 0, locals := 0 }) hC hl.1 hO [3] (by decide +kernel) (k_X4_clear l D cy _ _ (u0_0 := u3_0) (x0_1 := x3_1) (x0_2 := x3_2) (x0_3 := x3_3) (u0_4 := u3_4) rfl b3_1 b3_3) gq_k_X7_clear_k_X4_clear_78 rfl rfl rfl 0 (by decide +kernel) ⟨Nat.le_of_ble_eq_true rfl, Nat.le_of_ble_eq_true rfl⟩ rfl (by decide) rfl rfl rfl (Nat.le_of_ble_eq_true rfl) ddX7_clear_40 ⟨Nat.le_of_ble_eq_true rfl, Nat.le_of_ble_eq_true rfl⟩ (fun nw_40_37 l_40_38 H locs hw hO => ?_)
  obtain rfl := hw
  have hO := hO.mrg (lk := [(3, .inr (4, [u3_0, .int 0, .int 0, .int 0, u3_4]))]) (lm := [(0, .inr (7, [u0_0, u0_1, u0_2, u0_3, .ref (ad 1), .int 0, u0_6, u0_7, u0_8, u0_9, .ref (ad 2), .int 0, u0_12, u0_13, u0_14, .int 0, .int 0, .ref (ad 3)])), (1, .inl (cy 0, 5, .inl d0_25_30)), (2, .inl (cy 0, 4, .inl d0_33_35)), (3, .inr (4, [u3_0, .int 0, .int 0, .int 0, u3_4]))]) rfl rfl rfl
  exact cg_vret (nw := fun _ => 0) hC hr hlk hO.same (Nat.le_of_ble_eq_true rfl) (Nat.le_of_ble_eq_true rfl) (⟨d0_25_30, d0_33_35, z_25_31, z_33_36, rfl⟩) ddX7_clear_43

theorem ddX7_becomes_0 : decode cX7_becomes 0 = .ok (.aload_n 0, 1) := by decide +kernel
theorem ddX7_becomes_1 : decode cX7_becomes 1 = .ok (.aload_n 1, 1) := by decide +kernel
theorem ddX7_becomes_2 : decode cX7_becomes 2 = .ok (.getfield 59, 3) := by decide +kernel
theorem ddX7_becomes_5 : decode cX7_becomes 5 = .ok (.putfield 59, 3) := by decide +kernel
theorem ddX7_becomes_8 : decode cX7_becomes 8 = .ok (.aload_n 0, 1) := by decide +kernel
theorem ddX7_becomes_9 : decode cX7_becomes 9 = .ok (.aload_n 1, 1) := by decide +kernel
theorem ddX7_becomes_10 : decode cX7_becomes 10 = .ok (.getfield 63, 3) := by decide +kernel
theorem ddX7_becomes_13 : decode cX7_becomes 13 = .ok (.putfield 63, 3) := by decide +kernel
theorem ddX7_becomes_16 : decode cX7_becomes 16 = .ok (.aload_n 0, 1) := by decide +kernel
theorem ddX7_becomes_17 : decode cX7_becomes 17 = .ok (.aload_n 1, 1) := by decide +kernel
theorem ddX7_becomes_18 : decode cX7_becomes 18 = .ok (.getfield 66, 3) := by decide +kernel
theorem ddX7_becomes_21 : decode cX7_becomes 21 = .ok (.putfield 66, 3) := by decide +kernel
theorem ddX7_becomes_24 : decode cX7_becomes 24 = .ok (.aload_n 0, 1) := by decide +kernel
theorem ddX7_becomes_25 : decode cX7_becomes 25 = .ok (.aload_n 1, 1) := by decide +kernel
theorem ddX7_becomes_26 : decode cX7_becomes 26 = .ok (.getfield 69, 3) := by decide +kernel
theorem ddX7_becomes_29 : decode cX7_becomes 29 = .ok (.putfield 69, 3) := by decide +kernel
theorem ddX7_becomes_32 : decode cX7_becomes 32 = .ok (.aload_n 1, 1) := by decide +kernel
theorem ddX7_becomes_33 : decode cX7_becomes 33 = .ok (.getfield 15, 3) := by decide +kernel
theorem ddX7_becomes_36 : decode cX7_becomes 36 = .ok (.iconst 0, 1) := by decide +kernel
theorem ddX7_becomes_37 : decode cX7_becomes 37 = .ok (.aload_n 0, 1) := by decide +kernel
theorem ddX7_becomes_38 : decode cX7_becomes 38 = .ok (.getfield 15, 3) := by decide +kernel
theorem ddX7_becomes_41 : decode cX7_becomes 41 = .ok (.iconst 0, 1) := by decide +kernel
theorem ddX7_becomes_42 : decode cX7_becomes 42 = .ok (.iconst 5, 1) := by decide +kernel
theorem ddX7_becomes_43 : decode cX7_becomes 43 = .ok (.invokestatic 81, 3) := by decide +kernel
theorem ddX7_becomes_46 : decode cX7_becomes 46 = .ok (.aload_n 1, 1) := by decide +kernel
theorem ddX7_becomes_47 : decode cX7_becomes 47 = .ok (.getfield 19, 3) := by decide +kernel
theorem ddX7_becomes_50 : decode cX7_becomes 50 = .ok (.iconst 0, 1) := by decide +kernel
theorem ddX7_becomes_51 : decode cX7_becomes 51 = .ok (.aload_n 0, 1) := by decide +kernel
theorem ddX7_becomes_52 : decode cX7_becomes 52 = .ok (.getfield 19, 3) := by decide +kernel
theorem ddX7_becomes_55 : decode cX7_becomes 55 = .ok (.iconst 0, 1) := by decide +kernel
theorem ddX7_becomes_56 : decode cX7_becomes 56 = .ok (.iconst 5, 1) := by decide +kernel
theorem ddX7_becomes_57 : decode cX7_becomes 57 = .ok (.invokestatic 81, 3) := by decide +kernel
theorem ddX7_becomes_60 : decode cX7_becomes 60 = .ok (.aload_n 1, 1) := by decide +kernel
theorem ddX7_becomes_61 : decode cX7_becomes 61 = .ok (.getfield 22, 3) := by decide +kernel
theorem ddX7_becomes_64 : decode cX7_becomes 64 = .ok (.iconst 0, 1) := by decide +kernel
theorem ddX7_becomes_65 : decode cX7_becomes 65 = .ok (.aload_n 0, 1) := by decide +kernel
theorem ddX7_becomes_66 : decode cX7_becomes 66 = .ok (.getfield 22, 3) := by decide +kernel
theorem ddX7_becomes_69 : decode cX7_becomes 69 = .ok (.iconst 0, 1) := by decide +kernel
theorem ddX7_becomes_70 : decode cX7_becomes 70 = .ok (.iconst 5, 1) := by decide +kernel
theorem ddX7_becomes_71 : decode cX7_becomes 71 = .ok (.invokestatic 81, 3) := by decide +kernel
theorem ddX7_becomes_74 : decode cX7_becomes 74 = .ok (.aload_n 1, 1) := by decide +kernel
theorem ddX7_becomes_75 : decode cX7_becomes 75 = .ok (.getfield 25, 3) := by decide +kernel
theorem ddX7_becomes_78 : decode cX7_becomes 78 = .ok (.iconst 0, 1) := by decide +kernel
theorem ddX7_becomes_79 : decode cX7_becomes 79 = .ok (.aload_n 0, 1) := by decide +kernel
theorem ddX7_becomes_80 : decode cX7_becomes 80 = .ok (.getfield 25, 3) := by decide +kernel
theorem ddX7_becomes_83 : decode cX7_becomes 83 = .ok (.iconst 0, 1) := by decide +kernel
theorem ddX7_becomes_84 : decode cX7_becomes 84 = .ok (.iconst 5, 1) := by decide +kernel
theorem ddX7_becomes_85 : decode cX7_becomes 85 = .ok (.invokestatic 81, 3) := by decide +kernel
theorem ddX7_becomes_88 : decode cX7_becomes 88 = .ok (.aload_n 1, 1) := by decide +kernel
theorem ddX7_becomes_89 : decode cX7_becomes 89 = .ok (.getfield 31, 3) := by decide +kernel
theorem ddX7_becomes_92 : decode cX7_becomes 92 = .ok (.iconst 0, 1) := by decide +kernel
theorem ddX7_becomes_93 : decode cX7_becomes 93 = .ok (.aload_n 0, 1) := by decide +kernel
theorem ddX7_becomes_94 : decode cX7_becomes 94 = .ok (.getfield 31, 3) := by decide +kernel
theorem ddX7_becomes_97 : decode cX7_becomes 97 = .ok (.iconst 0, 1) := by decide +kernel
theorem ddX7_becomes_98 : decode cX7_becomes 98 = .ok (.iconst 4, 1) := by decide +kernel
theorem ddX7_becomes_99 : decode cX7_becomes 99 = .ok (.invokestatic 81, 3) := by decide +kernel
theorem ddX7_becomes_102 : decode cX7_becomes 102 = .ok (.aload_n 1, 1) := by decide +kernel
theorem ddX7_becomes_103 : decode cX7_becomes 103 = .ok (.getfield 34, 3) := by decide +kernel
theorem ddX7_becomes_106 : decode cX7_becomes 106 = .ok (.iconst 0, 1) := by decide +kernel
theorem ddX7_becomes_107 : decode cX7_becomes 107 = .ok (.aload_n 0, 1) := by decide +kernel
theorem ddX7_becomes_108 : decode cX7_becomes 108 = .ok (.getfield 34, 3) := by decide +kernel
theorem ddX7_becomes_111 : decode cX7_becomes 111 = .ok (.iconst 0, 1) := by decide +kernel
theorem ddX7_becomes_112 : decode cX7_becomes 112 = .ok (.iconst 4, 1) := by decide +kernel
theorem ddX7_becomes_113 : decode cX7_becomes 113 = .ok (.invokestatic 81, 3) := by decide +kernel
theorem ddX7_becomes_116 : decode cX7_becomes 116 = .ok (.aload_n 1, 1) := by decide +kernel
theorem ddX7_becomes_117 : decode cX7_becomes 117 = .ok (.getfield 37, 3) := by decide +kernel
theorem ddX7_becomes_120 : decode cX7_becomes 120 = .ok (.iconst 0, 1) := by decide +kernel
theorem ddX7_becomes_121 : decode cX7_becomes 121 = .ok (.aload_n 0, 1) := by decide +kernel
theorem ddX7_becomes_122 : decode cX7_becomes 122 = .ok (.getfield 37, 3) := by decide +kernel
theorem ddX7_becomes_125 : decode cX7_becomes 125 = .ok (.iconst 0, 1) := by decide +kernel
theorem ddX7_becomes_126 : decode cX7_becomes 126 = .ok (.bipush 20, 2) := by decide +kernel
theorem ddX7_becomes_128 : decode cX7_becomes 128 = .ok (.invokestatic 81, 3) := by decide +kernel
theorem ddX7_becomes_131 : decode cX7_becomes 131 = .ok (.aload_n 1, 1) := by decide +kernel
theorem ddX7_becomes_132 : decode cX7_becomes 132 = .ok (.getfield 40, 3) := by decide +kernel
theorem ddX7_becomes_135 : decode cX7_becomes 135 = .ok (.iconst 0, 1) := by decide +kernel
theorem ddX7_becomes_136 : decode cX7_becomes 136 = .ok (.aload_n 0, 1) := by decide +kernel
theorem ddX7_becomes_137 : decode cX7_becomes 137 = .ok (.getfield 40, 3) := by decide +kernel
theorem ddX7_becomes_140 : decode cX7_becomes 140 = .ok (.iconst 0, 1) := by decide +kernel
theorem ddX7_becomes_141 : decode cX7_becomes 141 = .ok (.iconst 4, 1) := by decide +kernel
theorem ddX7_becomes_142 : decode cX7_becomes 142 = .ok (.invokestatic 81, 3) := by decide +kernel
theorem ddX7_becomes_145 : decode cX7_becomes 145 = .ok (.aload_n 1, 1) := by decide +kernel
theorem ddX7_becomes_146 : decode cX7_becomes 146 = .ok (.getfield 46, 3) := by decide +kernel
theorem ddX7_becomes_149 : decode cX7_becomes 149 = .ok (.iconst 0, 1) := by decide +kernel
theorem ddX7_becomes_150 : decode cX7_becomes 150 = .ok (.aload_n 0, 1) := by decide +kernel
theorem ddX7_becomes_151 : decode cX7_becomes 151 = .ok (.getfield 46, 3) := by decide +kernel
theorem ddX7_becomes_154 : decode cX7_becomes 154 = .ok (.iconst 0, 1) := by decide +kernel
theorem ddX7_becomes_155 : decode cX7_becomes 155 = .ok (.bipush 12, 2) := by decide +kernel
theorem ddX7_becomes_157 : decode cX7_becomes 157 = .ok (.invokestatic 81, 3) := by decide +kernel
theorem ddX7_becomes_160 : decode cX7_becomes 160 = .ok (.aload_n 1, 1) := by decide +kernel
theorem ddX7_becomes_161 : decode cX7_becomes 161 = .ok (.getfield 49, 3) := by decide +kernel
theorem ddX7_becomes_164 : decode cX7_becomes 164 = .ok (.iconst 0, 1) := by decide +kernel
theorem ddX7_becomes_165 : decode cX7_becomes 165 = .ok (.aload_n 0, 1) := by decide +kernel
theorem ddX7_becomes_166 : decode cX7_becomes 166 = .ok (.getfield 49, 3) := by decide +kernel
theorem ddX7_becomes_169 : decode cX7_becomes 169 = .ok (.iconst 0, 1) := by decide +kernel
theorem ddX7_becomes_170 : decode cX7_becomes 170 = .ok (.bipush 12, 2) := by decide +kernel
theorem ddX7_becomes_172 : decode cX7_becomes 172 = .ok (.invokestatic 81, 3) := by decide +kernel
theorem ddX7_becomes_175 : decode cX7_becomes 175 = .ok (.aload_n 0, 1) := by decide +kernel
theorem ddX7_becomes_176 : decode cX7_becomes 176 = .ok (.getfield 55, 3) := by decide +kernel
theorem ddX7_becomes_179 : decode cX7_becomes 179 = .ok (.aload_n 1, 1) := by decide +kernel
theorem ddX7_becomes_180 : decode cX7_becomes 180 = .ok (.getfield 55, 3) := by decide +kernel
theorem ddX7_becomes_183 : decode cX7_becomes 183 = .ok (.invokevirtual 87, 3) := by decide +kernel
theorem ddX7_becomes_186 : decode cX7_becomes 186 = .ok (.return_, 1) := by decide +kernel
def wq_k_X7_becomes : List Cond := Cond.code yX7_becomes cX7_becomes 2 none :: (([Cond.fieldLink RX7 59 "CrowToll$Road" "birds" "I", Cond.fieldLink RX7 63 "CrowToll$Road" "posts" "I", Cond.fieldLink RX7 66 "CrowToll$Road" "carts" "I", Cond.fieldLink RX7 69 "CrowToll$Road" "maybe" "I", Cond.fieldLink RX7 15 "CrowToll$Road" "counts" "[I", Cond.methodLink RX7 81 arraycopyName, Cond.native arraycopyName, Cond.static arraycopyName, Cond.initialized "java/lang/System", Cond.fieldLink RX7 19 "CrowToll$Road" "gap" "[I", Cond.fieldLink RX7 22 "CrowToll$Road" "takes" "[I", Cond.fieldLink RX7 25 "CrowToll$Road" "seatOf" "[I", Cond.fieldLink RX7 31 "CrowToll$Road" "at" "[I", Cond.fieldLink RX7 34 "CrowToll$Road" "toll" "[I", Cond.fieldLink RX7 37 "CrowToll$Road" "seat" "[I", Cond.fieldLink RX7 40 "CrowToll$Road" "seated" "[I", Cond.fieldLink RX7 46 "CrowToll$Road" "minute" "[I", Cond.fieldLink RX7 49 "CrowToll$Road" "sacks" "[I", Cond.fieldLink RX7 55 "CrowToll$Road" "law" "LCrowToll$Law;", Cond.methodLink RX7 87 yX4_becomes, Cond.instanceMethod yX4_becomes, Cond.selects RX4 yX4_becomes yX4_becomes, Cond.initialized RX4, Cond.code yX4_becomes cX4_becomes 2 none, Cond.fieldLink RX4 18 "CrowToll$Law" "steps" "I", Cond.fieldLink RX4 22 "CrowToll$Law" "units" "I", Cond.fieldLink RX4 25 "CrowToll$Law" "isTold" "Z", Cond.fieldLink RX4 11 "CrowToll$Law" "step" "[I", Cond.methodLink RX4 29 arraycopyName] : List Cond) ++ wsX40 ++ wsX70)
set_option maxRecDepth 20000 in
theorem gr_k_X7_becomes_k_X4_becomes : GoodIn wq_k_X7_becomes wq_k_X4_becomes := List.forall_mem_cons.mpr ⟨⟨(List.mem_of_getElem? (i := 24) rfl), good_of_word rfl⟩, List.forall_mem_append.mpr ⟨List.forall_mem_cons.mpr ⟨⟨(List.mem_of_getElem? (i := 25) rfl), good_of_word rfl⟩, List.forall_mem_cons.mpr ⟨⟨(List.mem_of_getElem? (i := 26) rfl), good_of_word rfl⟩, List.forall_mem_cons.mpr ⟨⟨(List.mem_of_getElem? (i := 27) rfl), good_of_word rfl⟩, List.forall_mem_cons.mpr ⟨⟨(List.mem_of_getElem? (i := 28) rfl), good_of_word rfl⟩, List.forall_mem_cons.mpr ⟨⟨(List.mem_of_getElem? (i := 29) rfl), good_of_word rfl⟩, List.forall_mem_cons.mpr ⟨⟨(List.mem_of_getElem? (i := 7) rfl), good_of_word rfl⟩, List.forall_mem_cons.mpr ⟨⟨(List.mem_of_getElem? (i := 8) rfl), good_of_word rfl⟩, List.forall_mem_cons.mpr ⟨⟨(List.mem_of_getElem? (i := 9) rfl), good_of_word rfl⟩, (fun _ h => absurd h List.not_mem_nil)⟩⟩⟩⟩⟩⟩⟩⟩, fun w h => ⟨(fun w h => List.mem_cons_of_mem _ (List.mem_append_left _ (List.mem_append_right _ h))) w h, good_of_word (List.all_eq_true.mp gw_X4 w h)⟩⟩⟩
set_option maxRecDepth 20000 in
theorem gq_k_X7_becomes_k_X4_becomes_87 : GoodIn wq_k_X7_becomes (wsV RX7 87 RX4 yX4_becomes wq_k_X4_becomes) := goodIn_app (List.forall_mem_cons.mpr ⟨⟨(List.mem_of_getElem? (i := 20) rfl), good_of_word rfl⟩, List.forall_mem_cons.mpr ⟨⟨(List.mem_of_getElem? (i := 21) rfl), good_of_word rfl⟩, List.forall_mem_cons.mpr ⟨⟨(List.mem_of_getElem? (i := 22) rfl), good_of_word rfl⟩, List.forall_mem_cons.mpr ⟨⟨(List.mem_of_getElem? (i := 23) rfl), good_of_word rfl⟩, (fun _ h => absurd h List.not_mem_nil)⟩⟩⟩⟩) gr_k_X7_becomes_k_X4_becomes
set_option maxHeartbeats 8000000 in
set_option maxRecDepth 100000 in
theorem k_X7_becomes (l : Launch) (D : va_G) (cy : Nat → ClassId) (ad : Nat → Nat) (g : Nat → va_E) {u0_0 : Value} {x0_5 : Int32} {u0_6 : Value} {x0_11 : Int32} {u0_12 : Value} {x0_15 : Int32} {x0_16 : Int32} {u1_0 : Value} {x1_5 : Int32} {u1_6 : Value} {x1_11 : Int32} {u1_12 : Value} {x1_15 : Int32} {x1_16 : Int32} {c2 : Nat → Int32} {c3 : Nat → Int32} {c4 : Nat → Int32} {c5 : Nat → Int32} {c6 : Nat → Int32} {c7 : Nat → Int32} {c8 : Nat → Int32} {c9 : Nat → Int32} {c10 : Nat → Int32} {c11 : Nat → Int32} {c12 : Nat → Int32} {c13 : Nat → Int32} {c14 : Nat → Int32} {c15 : Nat → Int32} {c16 : Nat → Int32} {c17 : Nat → Int32} {c18 : Nat → Int32} {c19 : Nat → Int32} {c20 : Nat → Int32} {c21 : Nat → Int32} {x22_1 : Int32} {x22_2 : Int32} {x22_3 : Int32} {u22_4 : Value} {x23_1 : Int32} {x23_2 : Int32} {x23_3 : Int32} {u23_4 : Value} {c24 : Nat → Int32} {c25 : Nat → Int32} (o0 : g 0 = .inr (7, [u0_0, .ref (ad 3), .ref (ad 5), .ref (ad 7), .ref (ad 9), .int x0_5, u0_6, .ref (ad 11), .ref (ad 13), .ref (ad 15), .ref (ad 17), .int x0_11, u0_12, .ref (ad 19), .ref (ad 21), .int x0_15, .int x0_16, .ref (ad 22)])) (o1 : g 1 = .inr (7, [u1_0, .ref (ad 2), .ref (ad 4), .ref (ad 6), .ref (ad 8), .int x1_5, u1_6, .ref (ad 10), .ref (ad 12), .ref (ad 14), .ref (ad 16), .int x1_11, u1_12, .ref (ad 18), .ref (ad 20), .int x1_15, .int x1_16, .ref (ad 23)])) (a2 : g 2 = .inl (cy 0, 5, .inl c2)) (a3 : g 3 = .inl (cy 0, 5, .inl c3)) (a4 : g 4 = .inl (cy 0, 5, .inl c4)) (a5 : g 5 = .inl (cy 0, 5, .inl c5)) (a6 : g 6 = .inl (cy 0, 5, .inl c6)) (a7 : g 7 = .inl (cy 0, 5, .inl c7)) (a8 : g 8 = .inl (cy 0, 5, .inl c8)) (a9 : g 9 = .inl (cy 0, 5, .inl c9)) (a10 : g 10 = .inl (cy 0, 4, .inl c10)) (a11 : g 11 = .inl (cy 0, 4, .inl c11)) (a12 : g 12 = .inl (cy 0, 4, .inl c12)) (a13 : g 13 = .inl (cy 0, 4, .inl c13)) (a14 : g 14 = .inl (cy 0, 20, .inl c14)) (a15 : g 15 = .inl (cy 0, 20, .inl c15)) (a16 : g 16 = .inl (cy 0, 4, .inl c16)) (a17 : g 17 = .inl (cy 0, 4, .inl c17)) (a18 : g 18 = .inl (cy 0, 12, .inl c18)) (a19 : g 19 = .inl (cy 0, 12, .inl c19)) (a20 : g 20 = .inl (cy 0, 12, .inl c20)) (a21 : g 21 = .inl (cy 0, 12, .inl c21)) (o22 : g 22 = .inr (4, [.ref (ad 24), .int x22_1, .int x22_2, .int x22_3, u22_4])) (o23 : g 23 = .inr (4, [.ref (ad 25), .int x23_1, .int x23_2, .int x23_3, u23_4])) (a24 : g 24 = .inl (cy 0, 300, .inl c24)) (a25 : g 25 = .inl (cy 0, 300, .inl c25)) (b0_5 : zi 0 5 x0_5) (b0_11 : zi 0 4 x0_11) (b0_16 : zi 0 12 x0_16) (b1_5 : zi 0 5 x1_5) (b1_11 : zi 0 4 x1_11) (b1_16 : zi 0 12 x1_16) (ha8 : za (-1) 3 c8) (ha9 : za (-1) 3 c9) (ha14 : za 0 4 c14) (ha15 : za 0 4 c15) (ha16 : za 0 5 c16) (ha17 : za 0 5 c17) (b22_1 : zi 0 300 x22_1) (b22_3 : zi 0 1 x22_3) (b23_1 : zi 0 300 x23_1) (b23_3 : zi 0 1 x23_3) : cMv l yX7_becomes wq_k_X7_becomes { frames := 2, cells := 0, slots := 0, locals := 81 } 26 0 0 0 D cy ad g [.ref (ad 0), .ref (ad 1)] (fun nw lu => ∃ (d3 : Nat → Int32) (d5 : Nat → Int32) (d7 : Nat → Int32) (d9 : Nat → Int32) (d11 : Nat → Int32) (d13 : Nat → Int32) (d15 : Nat → Int32) (d17 : Nat → Int32) (d19 : Nat → Int32) (d21 : Nat → Int32) (d24 : Nat → Int32), (za (-1) 3 d9) ∧ (za 0 4 d15) ∧ (za 0 5 d17) ∧ (lu = [(0, .inr (7, [u0_0, .ref (ad 3), .ref (ad 5), .ref (ad 7), .ref (ad 9), .int x1_5, u0_6, .ref (ad 11), .ref (ad 13), .ref (ad 15), .ref (ad 17), .int x1_11, u0_12, .ref (ad 19), .ref (ad 21), .int x1_15, .int x1_16, .ref (ad 22)])), (3, .inl (cy 0, 5, .inl d3)), (5, .inl (cy 0, 5, .inl d5)), (7, .inl (cy 0, 5, .inl d7)), (9, .inl (cy 0, 5, .inl d9)), (11, .inl (cy 0, 4, .inl d11)), (13, .inl (cy 0, 4, .inl d13)), (15, .inl (cy 0, 20, .inl d15)), (17, .inl (cy 0, 4, .inl d17)), (19, .inl (cy 0, 12, .inl d19)), (21, .inl (cy 0, 12, .inl d21)), (22, .inr (4, [.ref (ad 24), .int x23_1, .int x23_2, .int x23_3, u22_4])), (24, .inl (cy 0, 300, .inl d24))])) := by
  refine cM_of (Qc := fun A => cQv (fun nw lu => ∃ (d3 : Nat → Int32) (d5 : Nat → Int32) (d7 : Nat → Int32) (d9 : Nat → Int32) (d11 : Nat → Int32) (d13 : Nat → Int32) (d15 : Nat → Int32) (d17 : Nat → Int32) (d19 : Nat → Int32) (d21 : Nat → Int32) (d24 : Nat → Int32), (za (-1) 3 d9) ∧ (za 0 4 d15) ∧ (za 0 5 d17) ∧ (lu = [(0, .inr (7, [u0_0, .ref (ad 3), .ref (ad 5), .ref (ad 7), .ref (ad 9), .int x1_5, u0_6, .ref (ad 11), .ref (ad 13), .ref (ad 15), .ref (ad 17), .int x1_11, u0_12, .ref (ad 19), .ref (ad 21), .int x1_15, .int x1_16, .ref (ad 22)])), (3, .inl (cy 0, 5, .inl d3)), (5, .inl (cy 0, 5, .inl d5)), (7, .inl (cy 0, 5, .inl d7)), (9, .inl (cy 0, 5, .inl d9)), (11, .inl (cy 0, 4, .inl d11)), (13, .inl (cy 0, 4, .inl d13)), (15, .inl (cy 0, 20, .inl d15)), (17, .inl (cy 0, 4, .inl d17)), (19, .inl (cy 0, 12, .inl d19)), (21, .inl (cy 0, 12, .inl d21)), (22, .inr (4, [.ref (ad 24), .int x23_1, .int x23_2, .int x23_3, u22_4])), (24, .inl (cy 0, 300, .inl d24))])) D 26 0 ad g A) (cc := cX7_becomes) (maxL := 2) (ret := none) (by decide) rfl (Nat.le_of_ble_eq_true rfl) ?_
  intro p e s m below meth c A hC hr hlk hnm hO ls hl
  have hC : CallFix p m c cX7_becomes 2 s [.ref (ad 0), .ref (ad 1)].toArray wq_k_X7_becomes RX7 := hC
  obtain ⟨hx, hb, hml, hown, hts⟩ := id hC
  have hl : lv_has ls 2 [(0, .ref (ad 0)), (1, .ref (ad 1))] := hl
  have i_X4 : ∀ w ∈ wsX40, w ∈ wq_k_X7_becomes := fun w h => List.mem_cons_of_mem _ (List.mem_append_left _ (List.mem_append_right _ h))
  have i_X7 : ∀ w ∈ wsX70, w ∈ wq_k_X7_becomes := fun w h => List.mem_cons_of_mem _ (List.mem_append_right _ h)
  have hO := hO.notes [(0, .inr (7, [u0_0, .ref (ad 3), .ref (ad 5), .ref (ad 7), .ref (ad 9), .int x0_5, u0_6, .ref (ad 11), .ref (ad 13), .ref (ad 15), .ref (ad 17), .int x0_11, u0_12, .ref (ad 19), .ref (ad 21), .int x0_15, .int x0_16, .ref (ad 22)])), (3, .inl (cy 0, 5, .inl c3)), (5, .inl (cy 0, 5, .inl c5)), (7, .inl (cy 0, 5, .inl c7)), (9, .inl (cy 0, 5, .inl c9)), (11, .inl (cy 0, 4, .inl c11)), (13, .inl (cy 0, 4, .inl c13)), (15, .inl (cy 0, 20, .inl c15)), (17, .inl (cy 0, 4, .inl c17)), (19, .inl (cy 0, 12, .inl c19)), (21, .inl (cy 0, 12, .inl c21)), (22, .inr (4, [.ref (ad 24), .int x22_1, .int x22_2, .int x22_3, u22_4])), (24, .inl (cy 0, 300, .inl c24))] (List.forall_mem_cons.mpr ⟨o0, List.forall_mem_cons.mpr ⟨a3, List.forall_mem_cons.mpr ⟨a5, List.forall_mem_cons.mpr ⟨a7, List.forall_mem_cons.mpr ⟨a9, List.forall_mem_cons.mpr ⟨a11, List.forall_mem_cons.mpr ⟨a13, List.forall_mem_cons.mpr ⟨a15, List.forall_mem_cons.mpr ⟨a17, List.forall_mem_cons.mpr ⟨a19, List.forall_mem_cons.mpr ⟨a21, List.forall_mem_cons.mpr ⟨o22, List.forall_mem_cons.mpr ⟨a24, (fun _ h => absurd h List.not_mem_nil)⟩⟩⟩⟩⟩⟩⟩⟩⟩⟩⟩⟩⟩)
  refine lv_aload_n hx hb ddX7_becomes_0 rfl (lv_at hl 0 rfl) ?_
  refine lv_aload_n hx hb ddX7_becomes_1 rfl (lv_at hl 1 rfl) ?_
  refine cg_get hC hO 1 (by decide) o1 rfl i_X7 5 (by decide) (List.mem_of_getElem? (i := 1) rfl) rfl ddX7_becomes_2 ?_
  refine cg_put hC hO 0 (by decide) rfl rfl i_X7 tyX7_ok nmX7 5 (by decide) (List.mem_of_getElem? (i := 1) rfl) rfl rfl rfl (Nat.le_of_ble_eq_true rfl) ddX7_becomes_5 (fun H locs hO => ?_)
  have hO : cO D cy A s.heap s 26 ad (cup [(0, .inr (7, [u0_0, .ref (ad 3), .ref (ad 5), .ref (ad 7), .ref (ad 9), .int x1_5, u0_6, .ref (ad 11), .ref (ad 13), .ref (ad 15), .ref (ad 17), .int x0_11, u0_12, .ref (ad 19), .ref (ad 21), .int x0_15, .int x0_16, .ref (ad 22)])), (3, .inl (cy 0, 5, .inl c3)), (5, .inl (cy 0, 5, .inl c5)), (7, .inl (cy 0, 5, .inl c7)), (9, .inl (cy 0, 5, .inl c9)), (11, .inl (cy 0, 4, .inl c11)), (13, .inl (cy 0, 4, .inl c13)), (15, .inl (cy 0, 20, .inl c15)), (17, .inl (cy 0, 4, .inl c17)), (19, .inl (cy 0, 12, .inl c19)), (21, .inl (cy 0, 12, .inl c21)), (22, .inr (4, [.ref (ad 24), .int x22_1, .int x22_2, .int x22_3, u22_4])), (24, .inl (cy 0, 300, .inl c24))] g) _ _ := hO
  refine lv_aload_n hx hb ddX7_becomes_8 rfl (lv_at hl 0 rfl) ?_
  refine lv_aload_n hx hb ddX7_becomes_9 rfl (lv_at hl 1 rfl) ?_
  refine cg_get hC hO 1 (by decide) o1 rfl i_X7 11 (by decide) (List.mem_of_getElem? (i := 2) rfl) rfl ddX7_becomes_10 ?_
  refine cg_put hC hO 0 (by decide) rfl rfl i_X7 tyX7_ok nmX7 11 (by decide) (List.mem_of_getElem? (i := 2) rfl) rfl rfl rfl (Nat.le_of_ble_eq_true rfl) ddX7_becomes_13 (fun H locs hO => ?_)
  have hO : cO D cy A s.heap s 26 ad (cup [(0, .inr (7, [u0_0, .ref (ad 3), .ref (ad 5), .ref (ad 7), .ref (ad 9), .int x1_5, u0_6, .ref (ad 11), .ref (ad 13), .ref (ad 15), .ref (ad 17), .int x1_11, u0_12, .ref (ad 19), .ref (ad 21), .int x0_15, .int x0_16, .ref (ad 22)])), (3, .inl (cy 0, 5, .inl c3)), (5, .inl (cy 0, 5, .inl c5)), (7, .inl (cy 0, 5, .inl c7)), (9, .inl (cy 0, 5, .inl c9)), (11, .inl (cy 0, 4, .inl c11)), (13, .inl (cy 0, 4, .inl c13)), (15, .inl (cy 0, 20, .inl c15)), (17, .inl (cy 0, 4, .inl c17)), (19, .inl (cy 0, 12, .inl c19)), (21, .inl (cy 0, 12, .inl c21)), (22, .inr (4, [.ref (ad 24), .int x22_1, .int x22_2, .int x22_3, u22_4])), (24, .inl (cy 0, 300, .inl c24))] g) _ _ := hO
  refine lv_aload_n hx hb ddX7_becomes_16 rfl (lv_at hl 0 rfl) ?_
  refine lv_aload_n hx hb ddX7_becomes_17 rfl (lv_at hl 1 rfl) ?_
  refine cg_get hC hO 1 (by decide) o1 rfl i_X7 16 (by decide) (List.mem_of_getElem? (i := 3) rfl) rfl ddX7_becomes_18 ?_
  refine cg_put hC hO 0 (by decide) rfl rfl i_X7 tyX7_ok nmX7 16 (by decide) (List.mem_of_getElem? (i := 3) rfl) rfl rfl rfl (Nat.le_of_ble_eq_true rfl) ddX7_becomes_21 (fun H locs hO => ?_)
  have hO : cO D cy A s.heap s 26 ad (cup [(0, .inr (7, [u0_0, .ref (ad 3), .ref (ad 5), .ref (ad 7), .ref (ad 9), .int x1_5, u0_6, .ref (ad 11), .ref (ad 13), .ref (ad 15), .ref (ad 17), .int x1_11, u0_12, .ref (ad 19), .ref (ad 21), .int x0_15, .int x1_16, .ref (ad 22)])), (3, .inl (cy 0, 5, .inl c3)), (5, .inl (cy 0, 5, .inl c5)), (7, .inl (cy 0, 5, .inl c7)), (9, .inl (cy 0, 5, .inl c9)), (11, .inl (cy 0, 4, .inl c11)), (13, .inl (cy 0, 4, .inl c13)), (15, .inl (cy 0, 20, .inl c15)), (17, .inl (cy 0, 4, .inl c17)), (19, .inl (cy 0, 12, .inl c19)), (21, .inl (cy 0, 12, .inl c21)), (22, .inr (4, [.ref (ad 24), .int x22_1, .int x22_2, .int x22_3, u22_4])), (24, .inl (cy 0, 300, .inl c24))] g) _ _ := hO
  refine lv_aload_n hx hb ddX7_becomes_24 rfl (lv_at hl 0 rfl) ?_
  refine lv_aload_n hx hb ddX7_becomes_25 rfl (lv_at hl 1 rfl) ?_
  refine cg_get hC hO 1 (by decide) o1 rfl i_X7 15 (by decide) (List.mem_of_getElem? (i := 4) rfl) rfl ddX7_becomes_26 ?_
  refine cg_put hC hO 0 (by decide) rfl rfl i_X7 tyX7_ok nmX7 15 (by decide) (List.mem_of_getElem? (i := 4) rfl) rfl rfl rfl (Nat.le_of_ble_eq_true rfl) ddX7_becomes_29 (fun H locs hO => ?_)
  have hO : cO D cy A s.heap s 26 ad (cup [(0, .inr (7, [u0_0, .ref (ad 3), .ref (ad 5), .ref (ad 7), .ref (ad 9), .int x1_5, u0_6, .ref (ad 11), .ref (ad 13), .ref (ad 15), .ref (ad 17), .int x1_11, u0_12, .ref (ad 19), .ref (ad 21), .int x1_15, .int x1_16, .ref (ad 22)])), (3, .inl (cy 0, 5, .inl c3)), (5, .inl (cy 0, 5, .inl c5)), (7, .inl (cy 0, 5, .inl c7)), (9, .inl (cy 0, 5, .inl c9)), (11, .inl (cy 0, 4, .inl c11)), (13, .inl (cy 0, 4, .inl c13)), (15, .inl (cy 0, 20, .inl c15)), (17, .inl (cy 0, 4, .inl c17)), (19, .inl (cy 0, 12, .inl c19)), (21, .inl (cy 0, 12, .inl c21)), (22, .inr (4, [.ref (ad 24), .int x22_1, .int x22_2, .int x22_3, u22_4])), (24, .inl (cy 0, 300, .inl c24))] g) _ _ := hO
  refine lv_aload_n hx hb ddX7_becomes_32 rfl (lv_at hl 1 rfl) ?_
  refine cg_get hC hO 1 (by decide) o1 rfl i_X7 1 (by decide) (List.mem_of_getElem? (i := 5) rfl) rfl ddX7_becomes_33 ?_
  refine lv_iconst (v := 0) hx hb ddX7_becomes_36 (by decide) ?_
  refine lv_aload_n hx hb ddX7_becomes_37 rfl (lv_at hl 0 rfl) ?_
  refine cg_get hC hO 0 (by decide) rfl rfl i_X7 1 (by decide) (List.mem_of_getElem? (i := 5) rfl) rfl ddX7_becomes_38 ?_
  refine lv_iconst (v := 0) hx hb ddX7_becomes_41 (by decide) ?_
  refine lv_iconst (v := 5) hx hb ddX7_becomes_42 (by decide) ?_
  refine zg_copy (a := (-2147483648)) (b := 2147483647) hC hl.1 hO (List.mem_of_getElem? (i := 6) rfl) (List.mem_of_getElem? (i := 7) rfl) (List.mem_of_getElem? (i := 8) rfl) (List.mem_of_getElem? (i := 9) rfl) 2 3 (by decide) (by decide) a2 rfl (za_all _) (za_all _) (zi_k (a := 0) (b := 0) (x := 0) rfl) (zi_k (a := 0) (b := 0) (x := 0) rfl) (zi_k (a := 5) (b := 5) (x := 5) rfl) (by decide) (Nat.le_of_ble_eq_true rfl) (Nat.le_of_ble_eq_true rfl) ddX7_becomes_43 (fun H locs c_43_49 zc_43_50 hO => ?_)
  have hO : cO D cy A s.heap s 26 ad (cup [(0, .inr (7, [u0_0, .ref (ad 3), .ref (ad 5), .ref (ad 7), .ref (ad 9), .int x1_5, u0_6, .ref (ad 11), .ref (ad 13), .ref (ad 15), .ref (ad 17), .int x1_11, u0_12, .ref (ad 19), .ref (ad 21), .int x1_15, .int x1_16, .ref (ad 22)])), (3, .inl (cy 0, 5, .inl c_43_49)), (5, .inl (cy 0, 5, .inl c5)), (7, .inl (cy 0, 5, .inl c7)), (9, .inl (cy 0, 5, .inl c9)), (11, .inl (cy 0, 4, .inl c11)), (13, .inl (cy 0, 4, .inl c13)), (15, .inl (cy 0, 20, .inl c15)), (17, .inl (cy 0, 4, .inl c17)), (19, .inl (cy 0, 12, .inl c19)), (21, .inl (cy 0, 12, .inl c21)), (22, .inr (4, [.ref (ad 24), .int x22_1, .int x22_2, .int x22_3, u22_4])), (24, .inl (cy 0, 300, .inl c24))] g) _ _ := hO
  refine lv_aload_n hx hb ddX7_becomes_46 rfl (lv_at hl 1 rfl) ?_
  refine cg_get hC hO 1 (by decide) o1 rfl i_X7 2 (by decide) (List.mem_of_getElem? (i := 10) rfl) rfl ddX7_becomes_47 ?_
  refine lv_iconst (v := 0) hx hb ddX7_becomes_50 (by decide) ?_
  refine lv_aload_n hx hb ddX7_becomes_51 rfl (lv_at hl 0 rfl) ?_
  refine cg_get hC hO 0 (by decide) rfl rfl i_X7 2 (by decide) (List.mem_of_getElem? (i := 10) rfl) rfl ddX7_becomes_52 ?_
  refine lv_iconst (v := 0) hx hb ddX7_becomes_55 (by decide) ?_
  refine lv_iconst (v := 5) hx hb ddX7_becomes_56 (by decide) ?_
  refine zg_copy (a := (-2147483648)) (b := 2147483647) hC hl.1 hO (List.mem_of_getElem? (i := 6) rfl) (List.mem_of_getElem? (i := 7) rfl) (List.mem_of_getElem? (i := 8) rfl) (List.mem_of_getElem? (i := 9) rfl) 4 5 (by decide) (by decide) a4 rfl (za_all _) (za_all _) (zi_k (a := 0) (b := 0) (x := 0) rfl) (zi_k (a := 0) (b := 0) (x := 0) rfl) (zi_k (a := 5) (b := 5) (x := 5) rfl) (by decide) (Nat.le_of_ble_eq_true rfl) (Nat.le_of_ble_eq_true rfl) ddX7_becomes_57 (fun H locs c_57_51 zc_57_52 hO => ?_)
  have hO : cO D cy A s.heap s 26 ad (cup [(0, .inr (7, [u0_0, .ref (ad 3), .ref (ad 5), .ref (ad 7), .ref (ad 9), .int x1_5, u0_6, .ref (ad 11), .ref (ad 13), .ref (ad 15), .ref (ad 17), .int x1_11, u0_12, .ref (ad 19), .ref (ad 21), .int x1_15, .int x1_16, .ref (ad 22)])), (3, .inl (cy 0, 5, .inl c_43_49)), (5, .inl (cy 0, 5, .inl c_57_51)), (7, .inl (cy 0, 5, .inl c7)), (9, .inl (cy 0, 5, .inl c9)), (11, .inl (cy 0, 4, .inl c11)), (13, .inl (cy 0, 4, .inl c13)), (15, .inl (cy 0, 20, .inl c15)), (17, .inl (cy 0, 4, .inl c17)), (19, .inl (cy 0, 12, .inl c19)), (21, .inl (cy 0, 12, .inl c21)), (22, .inr (4, [.ref (ad 24), .int x22_1, .int x22_2, .int x22_3, u22_4])), (24, .inl (cy 0, 300, .inl c24))] g) _ _ := hO
  refine lv_aload_n hx hb ddX7_becomes_60 rfl (lv_at hl 1 rfl) ?_
  refine cg_get hC hO 1 (by decide) o1 rfl i_X7 3 (by decide) (List.mem_of_getElem? (i := 11) rfl) rfl ddX7_becomes_61 ?_
  refine lv_iconst (v := 0) hx hb ddX7_becomes_64 (by decide) ?_
  refine lv_aload_n hx hb ddX7_becomes_65 rfl (lv_at hl 0 rfl) ?_
  refine cg_get hC hO 0 (by decide) rfl rfl i_X7 3 (by decide) (List.mem_of_getElem? (i := 11) rfl) rfl ddX7_becomes_66 ?_
  refine lv_iconst (v := 0) hx hb ddX7_becomes_69 (by decide) ?_
  refine lv_iconst (v := 5) hx hb ddX7_becomes_70 (by decide) ?_
  refine zg_copy (a := (-2147483648)) (b := 2147483647) hC hl.1 hO (List.mem_of_getElem? (i := 6) rfl) (List.mem_of_getElem? (i := 7) rfl) (List.mem_of_getElem? (i := 8) rfl) (List.mem_of_getElem? (i := 9) rfl) 6 7 (by decide) (by decide) a6 rfl (za_all _) (za_all _) (zi_k (a := 0) (b := 0) (x := 0) rfl) (zi_k (a := 0) (b := 0) (x := 0) rfl) (zi_k (a := 5) (b := 5) (x := 5) rfl) (by decide) (Nat.le_of_ble_eq_true rfl) (Nat.le_of_ble_eq_true rfl) ddX7_becomes_71 (fun H locs c_71_53 zc_71_54 hO => ?_)
  have hO : cO D cy A s.heap s 26 ad (cup [(0, .inr (7, [u0_0, .ref (ad 3), .ref (ad 5), .ref (ad 7), .ref (ad 9), .int x1_5, u0_6, .ref (ad 11), .ref (ad 13), .ref (ad 15), .ref (ad 17), .int x1_11, u0_12, .ref (ad 19), .ref (ad 21), .int x1_15, .int x1_16, .ref (ad 22)])), (3, .inl (cy 0, 5, .inl c_43_49)), (5, .inl (cy 0, 5, .inl c_57_51)), (7, .inl (cy 0, 5, .inl c_71_53)), (9, .inl (cy 0, 5, .inl c9)), (11, .inl (cy 0, 4, .inl c11)), (13, .inl (cy 0, 4, .inl c13)), (15, .inl (cy 0, 20, .inl c15)), (17, .inl (cy 0, 4, .inl c17)), (19, .inl (cy 0, 12, .inl c19)), (21, .inl (cy 0, 12, .inl c21)), (22, .inr (4, [.ref (ad 24), .int x22_1, .int x22_2, .int x22_3, u22_4])), (24, .inl (cy 0, 300, .inl c24))] g) _ _ := hO
  refine lv_aload_n hx hb ddX7_becomes_74 rfl (lv_at hl 1 rfl) ?_
  refine cg_get hC hO 1 (by decide) o1 rfl i_X7 4 (by decide) (List.mem_of_getElem? (i := 12) rfl) rfl ddX7_becomes_75 ?_
  refine lv_iconst (v := 0) hx hb ddX7_becomes_78 (by decide) ?_
  refine lv_aload_n hx hb ddX7_becomes_79 rfl (lv_at hl 0 rfl) ?_
  refine cg_get hC hO 0 (by decide) rfl rfl i_X7 4 (by decide) (List.mem_of_getElem? (i := 12) rfl) rfl ddX7_becomes_80 ?_
  refine lv_iconst (v := 0) hx hb ddX7_becomes_83 (by decide) ?_
  refine lv_iconst (v := 5) hx hb ddX7_becomes_84 (by decide) ?_
  refine zg_copy (a := (-1)) (b := 3) hC hl.1 hO (List.mem_of_getElem? (i := 6) rfl) (List.mem_of_getElem? (i := 7) rfl) (List.mem_of_getElem? (i := 8) rfl) (List.mem_of_getElem? (i := 9) rfl) 8 9 (by decide) (by decide) a8 rfl ha8 ha9 (zi_k (a := 0) (b := 0) (x := 0) rfl) (zi_k (a := 0) (b := 0) (x := 0) rfl) (zi_k (a := 5) (b := 5) (x := 5) rfl) (by decide) (Nat.le_of_ble_eq_true rfl) (Nat.le_of_ble_eq_true rfl) ddX7_becomes_85 (fun H locs c_85_55 zc_85_56 hO => ?_)
  have hO : cO D cy A s.heap s 26 ad (cup [(0, .inr (7, [u0_0, .ref (ad 3), .ref (ad 5), .ref (ad 7), .ref (ad 9), .int x1_5, u0_6, .ref (ad 11), .ref (ad 13), .ref (ad 15), .ref (ad 17), .int x1_11, u0_12, .ref (ad 19), .ref (ad 21), .int x1_15, .int x1_16, .ref (ad 22)])), (3, .inl (cy 0, 5, .inl c_43_49)), (5, .inl (cy 0, 5, .inl c_57_51)), (7, .inl (cy 0, 5, .inl c_71_53)), (9, .inl (cy 0, 5, .inl c_85_55)), (11, .inl (cy 0, 4, .inl c11)), (13, .inl (cy 0, 4, .inl c13)), (15, .inl (cy 0, 20, .inl c15)), (17, .inl (cy 0, 4, .inl c17)), (19, .inl (cy 0, 12, .inl c19)), (21, .inl (cy 0, 12, .inl c21)), (22, .inr (4, [.ref (ad 24), .int x22_1, .int x22_2, .int x22_3, u22_4])), (24, .inl (cy 0, 300, .inl c24))] g) _ _ := hO
  refine lv_aload_n hx hb ddX7_becomes_88 rfl (lv_at hl 1 rfl) ?_
  refine cg_get hC hO 1 (by decide) o1 rfl i_X7 7 (by decide) (List.mem_of_getElem? (i := 13) rfl) rfl ddX7_becomes_89 ?_
  refine lv_iconst (v := 0) hx hb ddX7_becomes_92 (by decide) ?_
  refine lv_aload_n hx hb ddX7_becomes_93 rfl (lv_at hl 0 rfl) ?_
  refine cg_get hC hO 0 (by decide) rfl rfl i_X7 7 (by decide) (List.mem_of_getElem? (i := 13) rfl) rfl ddX7_becomes_94 ?_
  refine lv_iconst (v := 0) hx hb ddX7_becomes_97 (by decide) ?_
  refine lv_iconst (v := 4) hx hb ddX7_becomes_98 (by decide) ?_
  refine zg_copy (a := (-2147483648)) (b := 2147483647) hC hl.1 hO (List.mem_of_getElem? (i := 6) rfl) (List.mem_of_getElem? (i := 7) rfl) (List.mem_of_getElem? (i := 8) rfl) (List.mem_of_getElem? (i := 9) rfl) 10 11 (by decide) (by decide) a10 rfl (za_all _) (za_all _) (zi_k (a := 0) (b := 0) (x := 0) rfl) (zi_k (a := 0) (b := 0) (x := 0) rfl) (zi_k (a := 4) (b := 4) (x := 4) rfl) (by decide) (Nat.le_of_ble_eq_true rfl) (Nat.le_of_ble_eq_true rfl) ddX7_becomes_99 (fun H locs c_99_57 zc_99_58 hO => ?_)
  have hO : cO D cy A s.heap s 26 ad (cup [(0, .inr (7, [u0_0, .ref (ad 3), .ref (ad 5), .ref (ad 7), .ref (ad 9), .int x1_5, u0_6, .ref (ad 11), .ref (ad 13), .ref (ad 15), .ref (ad 17), .int x1_11, u0_12, .ref (ad 19), .ref (ad 21), .int x1_15, .int x1_16, .ref (ad 22)])), (3, .inl (cy 0, 5, .inl c_43_49)), (5, .inl (cy 0, 5, .inl c_57_51)), (7, .inl (cy 0, 5, .inl c_71_53)), (9, .inl (cy 0, 5, .inl c_85_55)), (11, .inl (cy 0, 4, .inl c_99_57)), (13, .inl (cy 0, 4, .inl c13)), (15, .inl (cy 0, 20, .inl c15)), (17, .inl (cy 0, 4, .inl c17)), (19, .inl (cy 0, 12, .inl c19)), (21, .inl (cy 0, 12, .inl c21)), (22, .inr (4, [.ref (ad 24), .int x22_1, .int x22_2, .int x22_3, u22_4])), (24, .inl (cy 0, 300, .inl c24))] g) _ _ := hO
  refine lv_aload_n hx hb ddX7_becomes_102 rfl (lv_at hl 1 rfl) ?_
  refine cg_get hC hO 1 (by decide) o1 rfl i_X7 8 (by decide) (List.mem_of_getElem? (i := 14) rfl) rfl ddX7_becomes_103 ?_
  refine lv_iconst (v := 0) hx hb ddX7_becomes_106 (by decide) ?_
  refine lv_aload_n hx hb ddX7_becomes_107 rfl (lv_at hl 0 rfl) ?_
  refine cg_get hC hO 0 (by decide) rfl rfl i_X7 8 (by decide) (List.mem_of_getElem? (i := 14) rfl) rfl ddX7_becomes_108 ?_
  refine lv_iconst (v := 0) hx hb ddX7_becomes_111 (by decide) ?_
  refine lv_iconst (v := 4) hx hb ddX7_becomes_112 (by decide) ?_
  refine zg_copy (a := (-2147483648)) (b := 2147483647) hC hl.1 hO (List.mem_of_getElem? (i := 6) rfl) (List.mem_of_getElem? (i := 7) rfl) (List.mem_of_getElem? (i := 8) rfl) (List.mem_of_getElem? (i := 9) rfl) 12 13 (by decide) (by decide) a12 rfl (za_all _) (za_all _) (zi_k (a := 0) (b := 0) (x := 0) rfl) (zi_k (a := 0) (b := 0) (x := 0) rfl) (zi_k (a := 4) (b := 4) (x := 4) rfl) (by decide) (Nat.le_of_ble_eq_true rfl) (Nat.le_of_ble_eq_true rfl) ddX7_becomes_113 (fun H locs c_113_59 zc_113_60 hO => ?_)
  have hO : cO D cy A s.heap s 26 ad (cup [(0, .inr (7, [u0_0, .ref (ad 3), .ref (ad 5), .ref (ad 7), .ref (ad 9), .int x1_5, u0_6, .ref (ad 11), .ref (ad 13), .ref (ad 15), .ref (ad 17), .int x1_11, u0_12, .ref (ad 19), .ref (ad 21), .int x1_15, .int x1_16, .ref (ad 22)])), (3, .inl (cy 0, 5, .inl c_43_49)), (5, .inl (cy 0, 5, .inl c_57_51)), (7, .inl (cy 0, 5, .inl c_71_53)), (9, .inl (cy 0, 5, .inl c_85_55)), (11, .inl (cy 0, 4, .inl c_99_57)), (13, .inl (cy 0, 4, .inl c_113_59)), (15, .inl (cy 0, 20, .inl c15)), (17, .inl (cy 0, 4, .inl c17)), (19, .inl (cy 0, 12, .inl c19)), (21, .inl (cy 0, 12, .inl c21)), (22, .inr (4, [.ref (ad 24), .int x22_1, .int x22_2, .int x22_3, u22_4])), (24, .inl (cy 0, 300, .inl c24))] g) _ _ := hO
  refine lv_aload_n hx hb ddX7_becomes_116 rfl (lv_at hl 1 rfl) ?_
  refine cg_get hC hO 1 (by decide) o1 rfl i_X7 9 (by decide) (List.mem_of_getElem? (i := 15) rfl) rfl ddX7_becomes_117 ?_
  refine lv_iconst (v := 0) hx hb ddX7_becomes_120 (by decide) ?_
  refine lv_aload_n hx hb ddX7_becomes_121 rfl (lv_at hl 0 rfl) ?_
  refine cg_get hC hO 0 (by decide) rfl rfl i_X7 9 (by decide) (List.mem_of_getElem? (i := 15) rfl) rfl ddX7_becomes_122 ?_
  refine lv_iconst (v := 0) hx hb ddX7_becomes_125 (by decide) ?_
  refine lv_bipush (v := 20) hx hb ddX7_becomes_126 (by decide) ?_
  refine zg_copy (a := 0) (b := 4) hC hl.1 hO (List.mem_of_getElem? (i := 6) rfl) (List.mem_of_getElem? (i := 7) rfl) (List.mem_of_getElem? (i := 8) rfl) (List.mem_of_getElem? (i := 9) rfl) 14 15 (by decide) (by decide) a14 rfl ha14 ha15 (zi_k (a := 0) (b := 0) (x := 0) rfl) (zi_k (a := 0) (b := 0) (x := 0) rfl) (zi_k (a := 20) (b := 20) (x := 20) rfl) (by decide) (Nat.le_of_ble_eq_true rfl) (Nat.le_of_ble_eq_true rfl) ddX7_becomes_128 (fun H locs c_128_61 zc_128_62 hO => ?_)
  have hO : cO D cy A s.heap s 26 ad (cup [(0, .inr (7, [u0_0, .ref (ad 3), .ref (ad 5), .ref (ad 7), .ref (ad 9), .int x1_5, u0_6, .ref (ad 11), .ref (ad 13), .ref (ad 15), .ref (ad 17), .int x1_11, u0_12, .ref (ad 19), .ref (ad 21), .int x1_15, .int x1_16, .ref (ad 22)])), (3, .inl (cy 0, 5, .inl c_43_49)), (5, .inl (cy 0, 5, .inl c_57_51)), (7, .inl (cy 0, 5, .inl c_71_53)), (9, .inl (cy 0, 5, .inl c_85_55)), (11, .inl (cy 0, 4, .inl c_99_57)), (13, .inl (cy 0, 4, .inl c_113_59)), (15, .inl (cy 0, 20, .inl c_128_61)), (17, .inl (cy 0, 4, .inl c17)), (19, .inl (cy 0, 12, .inl c19)), (21, .inl (cy 0, 12, .inl c21)), (22, .inr (4, [.ref (ad 24), .int x22_1, .int x22_2, .int x22_3, u22_4])), (24, .inl (cy 0, 300, .inl c24))] g) _ _ := hO
  refine lv_aload_n hx hb ddX7_becomes_131 rfl (lv_at hl 1 rfl) ?_
  refine cg_get hC hO 1 (by decide) o1 rfl i_X7 10 (by decide) (List.mem_of_getElem? (i := 16) rfl) rfl ddX7_becomes_132 ?_
  refine lv_iconst (v := 0) hx hb ddX7_becomes_135 (by decide) ?_
  refine lv_aload_n hx hb ddX7_becomes_136 rfl (lv_at hl 0 rfl) ?_
  refine cg_get hC hO 0 (by decide) rfl rfl i_X7 10 (by decide) (List.mem_of_getElem? (i := 16) rfl) rfl ddX7_becomes_137 ?_
  refine lv_iconst (v := 0) hx hb ddX7_becomes_140 (by decide) ?_
  refine lv_iconst (v := 4) hx hb ddX7_becomes_141 (by decide) ?_
  refine zg_copy (a := 0) (b := 5) hC hl.1 hO (List.mem_of_getElem? (i := 6) rfl) (List.mem_of_getElem? (i := 7) rfl) (List.mem_of_getElem? (i := 8) rfl) (List.mem_of_getElem? (i := 9) rfl) 16 17 (by decide) (by decide) a16 rfl ha16 ha17 (zi_k (a := 0) (b := 0) (x := 0) rfl) (zi_k (a := 0) (b := 0) (x := 0) rfl) (zi_k (a := 4) (b := 4) (x := 4) rfl) (by decide) (Nat.le_of_ble_eq_true rfl) (Nat.le_of_ble_eq_true rfl) ddX7_becomes_142 (fun H locs c_142_63 zc_142_64 hO => ?_)
  have hO : cO D cy A s.heap s 26 ad (cup [(0, .inr (7, [u0_0, .ref (ad 3), .ref (ad 5), .ref (ad 7), .ref (ad 9), .int x1_5, u0_6, .ref (ad 11), .ref (ad 13), .ref (ad 15), .ref (ad 17), .int x1_11, u0_12, .ref (ad 19), .ref (ad 21), .int x1_15, .int x1_16, .ref (ad 22)])), (3, .inl (cy 0, 5, .inl c_43_49)), (5, .inl (cy 0, 5, .inl c_57_51)), (7, .inl (cy 0, 5, .inl c_71_53)), (9, .inl (cy 0, 5, .inl c_85_55)), (11, .inl (cy 0, 4, .inl c_99_57)), (13, .inl (cy 0, 4, .inl c_113_59)), (15, .inl (cy 0, 20, .inl c_128_61)), (17, .inl (cy 0, 4, .inl c_142_63)), (19, .inl (cy 0, 12, .inl c19)), (21, .inl (cy 0, 12, .inl c21)), (22, .inr (4, [.ref (ad 24), .int x22_1, .int x22_2, .int x22_3, u22_4])), (24, .inl (cy 0, 300, .inl c24))] g) _ _ := hO
  refine lv_aload_n hx hb ddX7_becomes_145 rfl (lv_at hl 1 rfl) ?_
  refine cg_get hC hO 1 (by decide) o1 rfl i_X7 13 (by decide) (List.mem_of_getElem? (i := 17) rfl) rfl ddX7_becomes_146 ?_
  refine lv_iconst (v := 0) hx hb ddX7_becomes_149 (by decide) ?_
  refine lv_aload_n hx hb ddX7_becomes_150 rfl (lv_at hl 0 rfl) ?_
  refine cg_get hC hO 0 (by decide) rfl rfl i_X7 13 (by decide) (List.mem_of_getElem? (i := 17) rfl) rfl ddX7_becomes_151 ?_
  refine lv_iconst (v := 0) hx hb ddX7_becomes_154 (by decide) ?_
  refine lv_bipush (v := 12) hx hb ddX7_becomes_155 (by decide) ?_
  refine zg_copy (a := (-2147483648)) (b := 2147483647) hC hl.1 hO (List.mem_of_getElem? (i := 6) rfl) (List.mem_of_getElem? (i := 7) rfl) (List.mem_of_getElem? (i := 8) rfl) (List.mem_of_getElem? (i := 9) rfl) 18 19 (by decide) (by decide) a18 rfl (za_all _) (za_all _) (zi_k (a := 0) (b := 0) (x := 0) rfl) (zi_k (a := 0) (b := 0) (x := 0) rfl) (zi_k (a := 12) (b := 12) (x := 12) rfl) (by decide) (Nat.le_of_ble_eq_true rfl) (Nat.le_of_ble_eq_true rfl) ddX7_becomes_157 (fun H locs c_157_65 zc_157_66 hO => ?_)
  have hO : cO D cy A s.heap s 26 ad (cup [(0, .inr (7, [u0_0, .ref (ad 3), .ref (ad 5), .ref (ad 7), .ref (ad 9), .int x1_5, u0_6, .ref (ad 11), .ref (ad 13), .ref (ad 15), .ref (ad 17), .int x1_11, u0_12, .ref (ad 19), .ref (ad 21), .int x1_15, .int x1_16, .ref (ad 22)])), (3, .inl (cy 0, 5, .inl c_43_49)), (5, .inl (cy 0, 5, .inl c_57_51)), (7, .inl (cy 0, 5, .inl c_71_53)), (9, .inl (cy 0, 5, .inl c_85_55)), (11, .inl (cy 0, 4, .inl c_99_57)), (13, .inl (cy 0, 4, .inl c_113_59)), (15, .inl (cy 0, 20, .inl c_128_61)), (17, .inl (cy 0, 4, .inl c_142_63)), (19, .inl (cy 0, 12, .inl c_157_65)), (21, .inl (cy 0, 12, .inl c21)), (22, .inr (4, [.ref (ad 24), .int x22_1, .int x22_2, .int x22_3, u22_4])), (24, .inl (cy 0, 300, .inl c24))] g) _ _ := hO
  refine lv_aload_n hx hb ddX7_becomes_160 rfl (lv_at hl 1 rfl) ?_
  refine cg_get hC hO 1 (by decide) o1 rfl i_X7 14 (by decide) (List.mem_of_getElem? (i := 18) rfl) rfl ddX7_becomes_161 ?_
  refine lv_iconst (v := 0) hx hb ddX7_becomes_164 (by decide) ?_
  refine lv_aload_n hx hb ddX7_becomes_165 rfl (lv_at hl 0 rfl) ?_
  refine cg_get hC hO 0 (by decide) rfl rfl i_X7 14 (by decide) (List.mem_of_getElem? (i := 18) rfl) rfl ddX7_becomes_166 ?_
  refine lv_iconst (v := 0) hx hb ddX7_becomes_169 (by decide) ?_
  refine lv_bipush (v := 12) hx hb ddX7_becomes_170 (by decide) ?_
  refine zg_copy (a := (-2147483648)) (b := 2147483647) hC hl.1 hO (List.mem_of_getElem? (i := 6) rfl) (List.mem_of_getElem? (i := 7) rfl) (List.mem_of_getElem? (i := 8) rfl) (List.mem_of_getElem? (i := 9) rfl) 20 21 (by decide) (by decide) a20 rfl (za_all _) (za_all _) (zi_k (a := 0) (b := 0) (x := 0) rfl) (zi_k (a := 0) (b := 0) (x := 0) rfl) (zi_k (a := 12) (b := 12) (x := 12) rfl) (by decide) (Nat.le_of_ble_eq_true rfl) (Nat.le_of_ble_eq_true rfl) ddX7_becomes_172 (fun H locs c_172_67 zc_172_68 hO => ?_)
  have hO : cO D cy A s.heap s 26 ad (cup [(0, .inr (7, [u0_0, .ref (ad 3), .ref (ad 5), .ref (ad 7), .ref (ad 9), .int x1_5, u0_6, .ref (ad 11), .ref (ad 13), .ref (ad 15), .ref (ad 17), .int x1_11, u0_12, .ref (ad 19), .ref (ad 21), .int x1_15, .int x1_16, .ref (ad 22)])), (3, .inl (cy 0, 5, .inl c_43_49)), (5, .inl (cy 0, 5, .inl c_57_51)), (7, .inl (cy 0, 5, .inl c_71_53)), (9, .inl (cy 0, 5, .inl c_85_55)), (11, .inl (cy 0, 4, .inl c_99_57)), (13, .inl (cy 0, 4, .inl c_113_59)), (15, .inl (cy 0, 20, .inl c_128_61)), (17, .inl (cy 0, 4, .inl c_142_63)), (19, .inl (cy 0, 12, .inl c_157_65)), (21, .inl (cy 0, 12, .inl c_172_67)), (22, .inr (4, [.ref (ad 24), .int x22_1, .int x22_2, .int x22_3, u22_4])), (24, .inl (cy 0, 300, .inl c24))] g) _ _ := hO
  refine lv_aload_n hx hb ddX7_becomes_175 rfl (lv_at hl 0 rfl) ?_
  refine cg_get hC hO 0 (by decide) rfl rfl i_X7 17 (by decide) (List.mem_of_getElem? (i := 19) rfl) rfl ddX7_becomes_176 ?_
  refine lv_aload_n hx hb ddX7_becomes_179 rfl (lv_at hl 1 rfl) ?_
  refine cg_get hC hO 1 (by decide) o1 rfl i_X7 17 (by decide) (List.mem_of_getElem? (i := 19) rfl) rfl ddX7_becomes_180 ?_
  refine cg_Vv (As := [.ref (ad 23)]) (rest := []) (mc := 0) (ms := 0) (rm := { frames := 1, cells := 0, slots := 0, locals := 60 }) hC hl.1 hO [22, 23, 25, 24] (by decide +kernel) (k_X4_becomes l D cy _ _ (c3 := c24) (x0_1 := x22_1) (x0_2 := x22_2) (x0_3 := x22_3) (u0_4 := u22_4) (c2 := c25) (x1_1 := x23_1) (x1_2 := x23_2) (x1_3 := x23_3) (u1_4 := u23_4) rfl o23 a25 rfl b22_1 b22_3 b23_1 b23_3) gq_k_X7_becomes_k_X4_becomes_87 rfl rfl rfl 1 (by decide +kernel) ⟨Nat.le_of_ble_eq_true rfl, Nat.le_of_ble_eq_true rfl⟩ rfl (by decide) rfl rfl rfl (Nat.le_of_ble_eq_true rfl) ddX7_becomes_183 ⟨Nat.le_of_ble_eq_true rfl, Nat.le_of_ble_eq_true rfl⟩ (fun nw_183_69 l_183_70 H locs hw hO => ?_)
  obtain ⟨d3_183_72, rfl⟩ := hw
  have hO := hO.mrg (lk := [(22, .inr (4, [.ref (ad 24), .int x23_1, .int x23_2, .int x23_3, u22_4])), (24, .inl (cy 0, 300, .inl d3_183_72))]) (lm := [(0, .inr (7, [u0_0, .ref (ad 3), .ref (ad 5), .ref (ad 7), .ref (ad 9), .int x1_5, u0_6, .ref (ad 11), .ref (ad 13), .ref (ad 15), .ref (ad 17), .int x1_11, u0_12, .ref (ad 19), .ref (ad 21), .int x1_15, .int x1_16, .ref (ad 22)])), (3, .inl (cy 0, 5, .inl c_43_49)), (5, .inl (cy 0, 5, .inl c_57_51)), (7, .inl (cy 0, 5, .inl c_71_53)), (9, .inl (cy 0, 5, .inl c_85_55)), (11, .inl (cy 0, 4, .inl c_99_57)), (13, .inl (cy 0, 4, .inl c_113_59)), (15, .inl (cy 0, 20, .inl c_128_61)), (17, .inl (cy 0, 4, .inl c_142_63)), (19, .inl (cy 0, 12, .inl c_157_65)), (21, .inl (cy 0, 12, .inl c_172_67)), (22, .inr (4, [.ref (ad 24), .int x23_1, .int x23_2, .int x23_3, u22_4])), (24, .inl (cy 0, 300, .inl d3_183_72))]) rfl rfl rfl
  exact cg_vret (nw := fun _ => 0) hC hr hlk hO.same (Nat.le_of_ble_eq_true rfl) (Nat.le_of_ble_eq_true rfl) (⟨c_43_49, c_57_51, c_71_53, c_85_55, c_99_57, c_113_59, c_128_61, c_142_63, c_157_65, c_172_67, d3_183_72, zc_85_56, zc_128_62, zc_142_64, rfl⟩) ddX7_becomes_186

theorem ddX9_add_0 : decode cX9_add 0 = .ok (.aload_n 0, 1) := by decide +kernel
theorem ddX9_add_1 : decode cX9_add 1 = .ok (.getfield 21, 3) := by decide +kernel
theorem ddX9_add_4 : decode cX9_add 4 = .ok (.bipush 24, 2) := by decide +kernel
theorem ddX9_add_6 : decode cX9_add 6 = .ok (.if_icmp .ge 33, 3) := by decide +kernel
theorem ddX9_add_9 : decode cX9_add 9 = .ok (.aload_n 0, 1) := by decide +kernel
theorem ddX9_add_10 : decode cX9_add 10 = .ok (.getfield 9, 3) := by decide +kernel
theorem ddX9_add_13 : decode cX9_add 13 = .ok (.aload_n 0, 1) := by decide +kernel
theorem ddX9_add_14 : decode cX9_add 14 = .ok (.getfield 21, 3) := by decide +kernel
theorem ddX9_add_17 : decode cX9_add 17 = .ok (.iload_n 1, 1) := by decide +kernel
theorem ddX9_add_18 : decode cX9_add 18 = .ok (.iastore, 1) := by decide +kernel
theorem ddX9_add_19 : decode cX9_add 19 = .ok (.aload_n 0, 1) := by decide +kernel
theorem ddX9_add_20 : decode cX9_add 20 = .ok (.getfield 15, 3) := by decide +kernel
theorem ddX9_add_23 : decode cX9_add 23 = .ok (.aload_n 0, 1) := by decide +kernel
theorem ddX9_add_24 : decode cX9_add 24 = .ok (.getfield 21, 3) := by decide +kernel
theorem ddX9_add_27 : decode cX9_add 27 = .ok (.iload_n 2, 1) := by decide +kernel
theorem ddX9_add_28 : decode cX9_add 28 = .ok (.iastore, 1) := by decide +kernel
theorem ddX9_add_29 : decode cX9_add 29 = .ok (.aload_n 0, 1) := by decide +kernel
theorem ddX9_add_30 : decode cX9_add 30 = .ok (.dup, 1) := by decide +kernel
theorem ddX9_add_31 : decode cX9_add 31 = .ok (.getfield 21, 3) := by decide +kernel
theorem ddX9_add_34 : decode cX9_add 34 = .ok (.iconst 1, 1) := by decide +kernel
theorem ddX9_add_35 : decode cX9_add 35 = .ok (.iadd, 1) := by decide +kernel
theorem ddX9_add_36 : decode cX9_add 36 = .ok (.putfield 21, 3) := by decide +kernel
theorem ddX9_add_39 : decode cX9_add 39 = .ok (.return_, 1) := by decide +kernel
def wq_k_X9_add : List Cond := Cond.code yX9_add cX9_add 3 none :: (([Cond.fieldLink RX9 21 "CrowToll$Stand" "carts" "I", Cond.fieldLink RX9 9 "CrowToll$Stand" "minute" "[I", Cond.fieldLink RX9 15 "CrowToll$Stand" "sacks" "[I"] : List Cond) ++ wsX90)
set_option maxHeartbeats 8000000 in
set_option maxRecDepth 100000 in
theorem k_X9_add (l : Launch) (D : va_G) (cy : Nat → ClassId) (ad : Nat → Nat) (g : Nat → va_E) {u0_2 : Value} {u0_3 : Value} {x0_4 : Int32} {c1 : Nat → Int32} {c2 : Nat → Int32} {itsMinute : Int32} {itsSacks : Int32} (o0 : g 0 = .inr (9, [.ref (ad 1), .ref (ad 2), u0_2, u0_3, .int x0_4])) (a1 : g 1 = .inl (cy 0, 24, .inl c1)) (a2 : g 2 = .inl (cy 0, 24, .inl c2)) (b0_4 : zi 0 24 x0_4) : cMv l yX9_add wq_k_X9_add { frames := 0, cells := 0, slots := 0, locals := 0 } 3 0 0 0 D cy ad g [.ref (ad 0), .int itsMinute, .int itsSacks] (fun nw lu => ∃ (y0_4 : Int32) (d1 : Nat → Int32) (d2 : Nat → Int32), (zi 1 24 y0_4) ∧ (lu = [(0, .inr (9, [.ref (ad 1), .ref (ad 2), u0_2, u0_3, .int y0_4])), (1, .inl (cy 0, 24, .inl d1)), (2, .inl (cy 0, 24, .inl d2))])) := by
  refine cM_of (Qc := fun A => cQv (fun nw lu => ∃ (y0_4 : Int32) (d1 : Nat → Int32) (d2 : Nat → Int32), (zi 1 24 y0_4) ∧ (lu = [(0, .inr (9, [.ref (ad 1), .ref (ad 2), u0_2, u0_3, .int y0_4])), (1, .inl (cy 0, 24, .inl d1)), (2, .inl (cy 0, 24, .inl d2))])) D 3 0 ad g A) (cc := cX9_add) (maxL := 3) (ret := none) (by decide) rfl (Nat.le_of_ble_eq_true rfl) ?_
  intro p e s m below meth c A hC hr hlk hnm hO ls hl
  have hC : CallFix p m c cX9_add 3 s [.ref (ad 0), .int itsMinute, .int itsSacks].toArray wq_k_X9_add RX9 := hC
  obtain ⟨hx, hb, hml, hown, hts⟩ := id hC
  have hl : lv_has ls 3 [(0, .ref (ad 0)), (1, .int itsMinute), (2, .int itsSacks)] := hl
  have i_X9 : ∀ w ∈ wsX90, w ∈ wq_k_X9_add := fun w h => List.mem_cons_of_mem _ (List.mem_append_right _ h)
  have hO := hO.notes [(0, .inr (9, [.ref (ad 1), .ref (ad 2), u0_2, u0_3, .int x0_4])), (1, .inl (cy 0, 24, .inl c1)), (2, .inl (cy 0, 24, .inl c2))] (List.forall_mem_cons.mpr ⟨o0, List.forall_mem_cons.mpr ⟨a1, List.forall_mem_cons.mpr ⟨a2, (fun _ h => absurd h List.not_mem_nil)⟩⟩⟩)
  refine lv_aload_n hx hb ddX9_add_0 rfl (lv_at hl 0 rfl) ?_
  refine cg_get hC hO 0 (by decide) rfl rfl i_X9 4 (by decide) (List.mem_of_getElem? (i := 1) rfl) rfl ddX9_add_1 ?_
  refine lv_bipush (v := 24) hx hb ddX9_add_4 (by decide) ?_
  refine lv_icmp_ge (tgt := 39) hx hb ddX9_add_6 (by decide) (fun h_6_25 => ?_) (fun h_6_25 => ?_)
  · have q_6_26 := zr_le h_6_25
    have z_6_27 : zi 24 24 x0_4 := zd_le q_6_26 (zi_k (a := 24) (b := 24) (x := 24) rfl) b0_4 (by decide)
    exact cg_vret (nw := fun _ => 0) hC hr hlk hO.same (Nat.le_of_ble_eq_true rfl) (Nat.le_of_ble_eq_true rfl) (⟨x0_4, c1, c2, (zi_w (c := 1) (d := 24) z_6_27 (by decide)), rfl⟩) ddX9_add_39
  · have q_6_28 := zr_nle h_6_25
    have z_6_29 : zi 0 23 x0_4 := zu_lt q_6_28 b0_4 (zi_k (a := 24) (b := 24) (x := 24) rfl) (by decide)
    refine lv_aload_n hx hb ddX9_add_9 rfl (lv_at hl 0 rfl) ?_
    refine cg_get hC hO 0 (by decide) rfl rfl i_X9 0 (by decide) (List.mem_of_getElem? (i := 2) rfl) rfl ddX9_add_10 ?_
    refine lv_aload_n hx hb ddX9_add_13 rfl (lv_at hl 0 rfl) ?_
    refine cg_get hC hO 0 (by decide) rfl rfl i_X9 4 (by decide) (List.mem_of_getElem? (i := 1) rfl) rfl ddX9_add_14 ?_
    refine lv_iload_n hx hb ddX9_add_17 rfl (lv_at hl 1 rfl) ?_
    refine zg_iast hC hO 1 (by decide) rfl (za_all _) (zi_all itsMinute) (zi_in z_6_29 (by decide)) ddX9_add_18 (fun H locs c_18_30 zc_18_31 hO => ?_)
    have hO : cO D cy A s.heap s 3 ad (cup [(0, .inr (9, [.ref (ad 1), .ref (ad 2), u0_2, u0_3, .int x0_4])), (1, .inl (cy 0, 24, .inl c_18_30)), (2, .inl (cy 0, 24, .inl c2))] g) _ _ := hO
    refine lv_aload_n hx hb ddX9_add_19 rfl (lv_at hl 0 rfl) ?_
    refine cg_get hC hO 0 (by decide) rfl rfl i_X9 1 (by decide) (List.mem_of_getElem? (i := 3) rfl) rfl ddX9_add_20 ?_
    refine lv_aload_n hx hb ddX9_add_23 rfl (lv_at hl 0 rfl) ?_
    refine cg_get hC hO 0 (by decide) rfl rfl i_X9 4 (by decide) (List.mem_of_getElem? (i := 1) rfl) rfl ddX9_add_24 ?_
    refine lv_iload_n hx hb ddX9_add_27 rfl (lv_at hl 2 rfl) ?_
    refine zg_iast hC hO 2 (by decide) rfl (za_all _) (zi_all itsSacks) (zi_in z_6_29 (by decide)) ddX9_add_28 (fun H locs c_28_32 zc_28_33 hO => ?_)
    have hO : cO D cy A s.heap s 3 ad (cup [(0, .inr (9, [.ref (ad 1), .ref (ad 2), u0_2, u0_3, .int x0_4])), (1, .inl (cy 0, 24, .inl c_18_30)), (2, .inl (cy 0, 24, .inl c_28_32))] g) _ _ := hO
    refine lv_aload_n hx hb ddX9_add_29 rfl (lv_at hl 0 rfl) ?_
    refine lv_dup hx hb ddX9_add_30 rfl ?_
    refine cg_get hC hO 0 (by decide) rfl rfl i_X9 4 (by decide) (List.mem_of_getElem? (i := 1) rfl) rfl ddX9_add_31 ?_
    refine lv_iconst (v := 1) hx hb ddX9_add_34 (by decide) ?_
    refine lv_iadd hx hb ddX9_add_35 ?_
    refine zg_top2 (P := fun v => zi 1 24 v) (E := fun v => v.toInt = x0_4.toInt + 1) (zi_addk z_6_29 (n := 1) (by decide) (by decide)) (fun v_35_34 z_35_35 q_35_36 => ?_)
    refine cg_put hC hO 0 (by decide) rfl rfl i_X9 tyX9_ok nmX9 4 (by decide) (List.mem_of_getElem? (i := 1) rfl) rfl rfl rfl (Nat.le_of_ble_eq_true rfl) ddX9_add_36 (fun H locs hO => ?_)
    have hO : cO D cy A s.heap s 3 ad (cup [(0, .inr (9, [.ref (ad 1), .ref (ad 2), u0_2, u0_3, .int v_35_34])), (1, .inl (cy 0, 24, .inl c_18_30)), (2, .inl (cy 0, 24, .inl c_28_32))] g) _ _ := hO
    exact cg_vret (nw := fun _ => 0) hC hr hlk hO.same (Nat.le_of_ble_eq_true rfl) (Nat.le_of_ble_eq_true rfl) (⟨v_35_34, c_18_30, c_28_32, z_35_35, rfl⟩) ddX9_add_39

