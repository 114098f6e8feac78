theorem ddX12_isLetter_0 : decode cX12_isLetter 0 = .ok (.iload_n 0, 1) := by decide +kernel
theorem ddX12_isLetter_1 : decode cX12_isLetter 1 = .ok (.bipush 97, 2) := by decide +kernel
theorem ddX12_isLetter_3 : decode cX12_isLetter 3 = .ok (.if_icmp .lt 13, 3) := by decide +kernel
theorem ddX12_isLetter_6 : decode cX12_isLetter 6 = .ok (.iload_n 0, 1) := by decide +kernel
theorem ddX12_isLetter_7 : decode cX12_isLetter 7 = .ok (.bipush 122, 2) := by decide +kernel
theorem ddX12_isLetter_9 : decode cX12_isLetter 9 = .ok (.if_icmp .gt 7, 3) := by decide +kernel
theorem ddX12_isLetter_12 : decode cX12_isLetter 12 = .ok (.iconst 1, 1) := by decide +kernel
theorem ddX12_isLetter_13 : decode cX12_isLetter 13 = .ok (.goto 4, 3) := by decide +kernel
theorem ddX12_isLetter_16 : decode cX12_isLetter 16 = .ok (.iconst 0, 1) := by decide +kernel
theorem ddX12_isLetter_17 : decode cX12_isLetter 17 = .ok (.ireturn, 1) := by decide +kernel
def wq_k_X12_isLetter : List Cond := Cond.code yX12_isLetter cX12_isLetter 1 (some .boolean) :: (([] : List Cond))
set_option maxHeartbeats 8000000 in
set_option maxRecDepth 100000 in
theorem k_X12_isLetter (l : Launch) (D : va_G) (cy : Nat → ClassId) (ad : Nat → Nat) (g : Nat → va_E) {n : Int32}  : cMi l yX12_isLetter wq_k_X12_isLetter { frames := 0, cells := 0, slots := 0, locals := 0 } 0 0 0 0 D cy ad g [.int n] (fun r nw lu => ((zi 97 122 n) ∧ ((97 : Int32).toInt ≤ (n : Int32).toInt) ∧ ((n : Int32).toInt ≤ (122 : Int32).toInt) ∧ (r = 1) ∧ (lu = [])) ∨ (((¬ (97 ≤ n.toInt ∧ n.toInt ≤ 122))) ∧ (r = 0) ∧ (lu = []))) := by
  refine cM_of (Qc := fun A => cQi (fun r nw lu => ((zi 97 122 n) ∧ ((97 : Int32).toInt ≤ (n : Int32).toInt) ∧ ((n : Int32).toInt ≤ (122 : Int32).toInt) ∧ (r = 1) ∧ (lu = [])) ∨ (((¬ (97 ≤ n.toInt ∧ n.toInt ≤ 122))) ∧ (r = 0) ∧ (lu = []))) D 0 0 ad g A) (cc := cX12_isLetter) (maxL := 1) (ret := (some .boolean)) (by decide) rfl (Nat.le_of_ble_eq_true rfl) ?_
  intro p e s m below meth c A hC hr hlk hnm hO ls hl
  have hC : CallFix p m c cX12_isLetter 1 s [.int n].toArray wq_k_X12_isLetter RX12 := hC
  obtain ⟨hx, hb, hml, hown, hts⟩ := id hC
  have hl : lv_has ls 1 [(0, .int n)] := hl
  refine lv_iload_n hx hb ddX12_isLetter_0 rfl (lv_at hl 0 rfl) ?_
  refine lv_bipush (v := 97) hx hb ddX12_isLetter_1 (by decide) ?_
  refine lv_icmp_lt (tgt := 16) hx hb ddX12_isLetter_3 (by decide) (fun h_3_11 => ?_) (fun h_3_11 => ?_)
  · have q_3_12 := zr_lt h_3_11
    have z_3_13 : zi (-2147483648) 96 n := zu_lt q_3_12 (zi_all n) (zi_k (a := 97) (b := 97) (x := 97) rfl) (by decide)
    refine lv_iconst (v := 0) hx hb ddX12_isLetter_16 (by decide) ?_
    exact cg_iret (nw := fun _ => 0) hC hr hlk hO.same rfl (Nat.le_of_ble_eq_true rfl) (Nat.le_of_ble_eq_true rfl) (Or.inr ⟨(by have z1 : (97 : Int32).toInt = 97 := (by decide); have z2 : (122 : Int32).toInt = 122 := (by decide); omega), rfl, rfl⟩) ddX12_isLetter_17
  · have q_3_14 := zr_nlt h_3_11
    have z_3_15 : zi 97 2147483647 n := zd_le q_3_14 (zi_k (a := 97) (b := 97) (x := 97) rfl) (zi_all n) (by decide)
    refine lv_iload_n hx hb ddX12_isLetter_6 rfl (lv_at hl 0 rfl) ?_
    refine lv_bipush (v := 122) hx hb ddX12_isLetter_7 (by decide) ?_
    refine lv_icmp_gt (tgt := 16) hx hb ddX12_isLetter_9 (by decide) (fun h_9_16 => ?_) (fun h_9_16 => ?_)
    · have q_9_17 := zr_lt h_9_16
      have z_9_18 : zi 123 2147483647 n := zd_lt q_9_17 (zi_k (a := 122) (b := 122) (x := 122) rfl) z_3_15 (by decide)
      refine lv_iconst (v := 0) hx hb ddX12_isLetter_16 (by decide) ?_
      exact cg_iret (nw := fun _ => 0) hC hr hlk hO.same rfl (Nat.le_of_ble_eq_true rfl) (Nat.le_of_ble_eq_true rfl) (Or.inr ⟨(by have z1 : (97 : Int32).toInt = 97 := (by decide); have z2 : (122 : Int32).toInt = 122 := (by decide); omega), rfl, rfl⟩) ddX12_isLetter_17
    · have q_9_19 := zr_nlt h_9_16
      have z_9_20 : zi 97 122 n := zu_le q_9_19 z_3_15 (zi_k (a := 122) (b := 122) (x := 122) rfl) (by decide)
      refine lv_iconst (v := 1) hx hb ddX12_isLetter_12 (by decide) ?_
      refine lv_goto (tgt := 17) hx hb ddX12_isLetter_13 (by decide) ?_
      exact cg_iret (nw := fun _ => 0) hC hr hlk hO.same rfl (Nat.le_of_ble_eq_true rfl) (Nat.le_of_ble_eq_true rfl) (Or.inl ⟨z_9_20, q_3_14, q_9_19, rfl, rfl⟩) ddX12_isLetter_17

theorem ddX12_two_0 : decode cX12_two 0 = .ok (.iload_n 0, 1) := by decide +kernel
theorem ddX12_two_1 : decode cX12_two 1 = .ok (.tableswitch 202 37 62 #[143, 188, 202, 202, 202, 127, 119, 202, 123, 202, 131, 202, 202, 202, 202, 202, 202, 202, 202, 202, 202, 202, 202, 155, 177, 166], 119) := by decide +kernel
theorem ddX12_two_120 : decode cX12_two 120 = .ok (.iload_n 1, 1) := by decide +kernel
theorem ddX12_two_121 : decode cX12_two 121 = .ok (.iload_n 2, 1) := by decide +kernel
theorem ddX12_two_122 : decode cX12_two 122 = .ok (.iadd, 1) := by decide +kernel
theorem ddX12_two_123 : decode cX12_two 123 = .ok (.ireturn, 1) := by decide +kernel
theorem ddX12_two_124 : decode cX12_two 124 = .ok (.iload_n 1, 1) := by decide +kernel
theorem ddX12_two_125 : decode cX12_two 125 = .ok (.iload_n 2, 1) := by decide +kernel
theorem ddX12_two_126 : decode cX12_two 126 = .ok (.isub, 1) := by decide +kernel
theorem ddX12_two_127 : decode cX12_two 127 = .ok (.ireturn, 1) := by decide +kernel
theorem ddX12_two_128 : decode cX12_two 128 = .ok (.iload_n 1, 1) := by decide +kernel
theorem ddX12_two_129 : decode cX12_two 129 = .ok (.iload_n 2, 1) := by decide +kernel
theorem ddX12_two_130 : decode cX12_two 130 = .ok (.imul, 1) := by decide +kernel
theorem ddX12_two_131 : decode cX12_two 131 = .ok (.ireturn, 1) := by decide +kernel
theorem ddX12_two_132 : decode cX12_two 132 = .ok (.iload_n 2, 1) := by decide +kernel
theorem ddX12_two_133 : decode cX12_two 133 = .ok (.ifCond .ne 7, 3) := by decide +kernel
theorem ddX12_two_136 : decode cX12_two 136 = .ok (.iconst 0, 1) := by decide +kernel
theorem ddX12_two_137 : decode cX12_two 137 = .ok (.goto 6, 3) := by decide +kernel
theorem ddX12_two_140 : decode cX12_two 140 = .ok (.iload_n 1, 1) := by decide +kernel
theorem ddX12_two_141 : decode cX12_two 141 = .ok (.iload_n 2, 1) := by decide +kernel
theorem ddX12_two_142 : decode cX12_two 142 = .ok (.idiv, 1) := by decide +kernel
theorem ddX12_two_143 : decode cX12_two 143 = .ok (.ireturn, 1) := by decide +kernel
theorem ddX12_two_144 : decode cX12_two 144 = .ok (.iload_n 2, 1) := by decide +kernel
theorem ddX12_two_145 : decode cX12_two 145 = .ok (.ifCond .ne 7, 3) := by decide +kernel
theorem ddX12_two_148 : decode cX12_two 148 = .ok (.iconst 0, 1) := by decide +kernel
theorem ddX12_two_149 : decode cX12_two 149 = .ok (.goto 6, 3) := by decide +kernel
theorem ddX12_two_152 : decode cX12_two 152 = .ok (.iload_n 1, 1) := by decide +kernel
theorem ddX12_two_153 : decode cX12_two 153 = .ok (.iload_n 2, 1) := by decide +kernel
theorem ddX12_two_154 : decode cX12_two 154 = .ok (.irem, 1) := by decide +kernel
theorem ddX12_two_155 : decode cX12_two 155 = .ok (.ireturn, 1) := by decide +kernel
theorem ddX12_two_156 : decode cX12_two 156 = .ok (.iload_n 1, 1) := by decide +kernel
theorem ddX12_two_157 : decode cX12_two 157 = .ok (.iload_n 2, 1) := by decide +kernel
theorem ddX12_two_158 : decode cX12_two 158 = .ok (.if_icmp .ge 7, 3) := by decide +kernel
theorem ddX12_two_161 : decode cX12_two 161 = .ok (.iconst 1, 1) := by decide +kernel
theorem ddX12_two_162 : decode cX12_two 162 = .ok (.goto 4, 3) := by decide +kernel
theorem ddX12_two_165 : decode cX12_two 165 = .ok (.iconst 0, 1) := by decide +kernel
theorem ddX12_two_166 : decode cX12_two 166 = .ok (.ireturn, 1) := by decide +kernel
theorem ddX12_two_167 : decode cX12_two 167 = .ok (.iload_n 1, 1) := by decide +kernel
theorem ddX12_two_168 : decode cX12_two 168 = .ok (.iload_n 2, 1) := by decide +kernel
theorem ddX12_two_169 : decode cX12_two 169 = .ok (.if_icmp .le 7, 3) := by decide +kernel
theorem ddX12_two_172 : decode cX12_two 172 = .ok (.iconst 1, 1) := by decide +kernel
theorem ddX12_two_173 : decode cX12_two 173 = .ok (.goto 4, 3) := by decide +kernel
theorem ddX12_two_176 : decode cX12_two 176 = .ok (.iconst 0, 1) := by decide +kernel
theorem ddX12_two_177 : decode cX12_two 177 = .ok (.ireturn, 1) := by decide +kernel
theorem ddX12_two_178 : decode cX12_two 178 = .ok (.iload_n 1, 1) := by decide +kernel
theorem ddX12_two_179 : decode cX12_two 179 = .ok (.iload_n 2, 1) := by decide +kernel
theorem ddX12_two_180 : decode cX12_two 180 = .ok (.if_icmp .ne 7, 3) := by decide +kernel
theorem ddX12_two_183 : decode cX12_two 183 = .ok (.iconst 1, 1) := by decide +kernel
theorem ddX12_two_184 : decode cX12_two 184 = .ok (.goto 4, 3) := by decide +kernel
theorem ddX12_two_187 : decode cX12_two 187 = .ok (.iconst 0, 1) := by decide +kernel
theorem ddX12_two_188 : decode cX12_two 188 = .ok (.ireturn, 1) := by decide +kernel
theorem ddX12_two_189 : decode cX12_two 189 = .ok (.iload_n 1, 1) := by decide +kernel
theorem ddX12_two_190 : decode cX12_two 190 = .ok (.ifCond .eq 11, 3) := by decide +kernel
theorem ddX12_two_193 : decode cX12_two 193 = .ok (.iload_n 2, 1) := by decide +kernel
theorem ddX12_two_194 : decode cX12_two 194 = .ok (.ifCond .eq 7, 3) := by decide +kernel
theorem ddX12_two_197 : decode cX12_two 197 = .ok (.iconst 1, 1) := by decide +kernel
theorem ddX12_two_198 : decode cX12_two 198 = .ok (.goto 4, 3) := by decide +kernel
theorem ddX12_two_201 : decode cX12_two 201 = .ok (.iconst 0, 1) := by decide +kernel
theorem ddX12_two_202 : decode cX12_two 202 = .ok (.ireturn, 1) := by decide +kernel
theorem ddX12_two_203 : decode cX12_two 203 = .ok (.iload_n 1, 1) := by decide +kernel
theorem ddX12_two_204 : decode cX12_two 204 = .ok (.ifCond .ne 7, 3) := by decide +kernel
theorem ddX12_two_207 : decode cX12_two 207 = .ok (.iload_n 2, 1) := by decide +kernel
theorem ddX12_two_208 : decode cX12_two 208 = .ok (.ifCond .eq 7, 3) := by decide +kernel
theorem ddX12_two_211 : decode cX12_two 211 = .ok (.iconst 1, 1) := by decide +kernel
theorem ddX12_two_212 : decode cX12_two 212 = .ok (.goto 4, 3) := by decide +kernel
theorem ddX12_two_215 : decode cX12_two 215 = .ok (.iconst 0, 1) := by decide +kernel
theorem ddX12_two_216 : decode cX12_two 216 = .ok (.ireturn, 1) := by decide +kernel
def wq_k_X12_two : List Cond := Cond.code yX12_two cX12_two 3 (some .int) :: (([] : List Cond))
set_option maxHeartbeats 8000000 in
set_option maxRecDepth 100000 in
theorem k_X12_two (l : Launch) (D : va_G) (cy : Nat → ClassId) (ad : Nat → Nat) (g : Nat → va_E) {cx : Int32} {ax : Int32} {bx : Int32}  : cMi l yX12_two wq_k_X12_two { frames := 0, cells := 0, slots := 0, locals := 0 } 0 0 0 0 D cy ad g [.int cx, .int ax, .int bx] (fun r nw lu => lu = []) := by
  refine cM_of (Qc := fun A => cQi (fun r nw lu => lu = []) D 0 0 ad g A) (cc := cX12_two) (maxL := 3) (ret := (some .int)) (by decide) rfl (Nat.le_of_ble_eq_true rfl) ?_
  intro p e s m below meth c A hC hr hlk hnm hO ls hl
  have hC : CallFix p m c cX12_two 3 s [.int cx, .int ax, .int bx].toArray wq_k_X12_two RX12 := hC
  obtain ⟨hx, hb, hml, hown, hts⟩ := id hC
  have hl : lv_has ls 3 [(0, .int cx), (1, .int ax), (2, .int bx)] := hl
  refine lv_iload_n hx hb ddX12_two_0 rfl (lv_at hl 0 rfl) ?_
  by_cases hs_1_139_0 : cx = 37
  · refine lv_tableIn (tgt := 144) hx hb ddX12_two_1 (by rw [hs_1_139_0]; decide) (by rw [hs_1_139_0]; decide) (by rw [hs_1_139_0]; rfl) (by decide) ?_
    refine lv_iload_n hx hb ddX12_two_144 rfl (lv_at hl 2 rfl) ?_
    refine lv_if_ne (tgt := 152) hx hb ddX12_two_145 (by decide) (fun h_145_140 => ?_) (fun h_145_140 => ?_)
    · refine lv_iload_n hx hb ddX12_two_152 rfl (lv_at hl 1 rfl) ?_
      refine lv_iload_n hx hb ddX12_two_153 rfl (lv_at hl 2 rfl) ?_
      refine lv_irem hx hb ddX12_two_154 h_145_140 ?_
      refine lv_topi (fun v_154_141 _ => ?_)
      exact cg_iret (nw := fun _ => 0) hC hr hlk hO.same rfl (Nat.le_of_ble_eq_true rfl) (Nat.le_of_ble_eq_true rfl) rfl ddX12_two_155
    · have q_145_142 := zr_eq h_145_140
      have z_145_143 : zi 0 0 bx := ze_eq q_145_142 (zi_all bx) (zi_k (a := 0) (b := 0) (x := 0) rfl)
      refine lv_iconst (v := 0) hx hb ddX12_two_148 (by decide) ?_
      refine lv_goto (tgt := 155) hx hb ddX12_two_149 (by decide) ?_
      exact cg_iret (nw := fun _ => 0) hC hr hlk hO.same rfl (Nat.le_of_ble_eq_true rfl) (Nat.le_of_ble_eq_true rfl) rfl ddX12_two_155
  by_cases hs_1_139_1 : cx = 38
  · refine lv_tableIn (tgt := 189) hx hb ddX12_two_1 (by rw [hs_1_139_1]; decide) (by rw [hs_1_139_1]; decide) (by rw [hs_1_139_1]; rfl) (by decide) ?_
    refine lv_iload_n hx hb ddX12_two_189 rfl (lv_at hl 1 rfl) ?_
    refine lv_if_eq (tgt := 201) hx hb ddX12_two_190 (by decide) (fun h_190_144 => ?_) (fun h_190_144 => ?_)
    · have q_190_145 := zr_eq h_190_144
      have z_190_146 : zi 0 0 ax := ze_eq q_190_145 (zi_all ax) (zi_k (a := 0) (b := 0) (x := 0) rfl)
      refine lv_iconst (v := 0) hx hb ddX12_two_201 (by decide) ?_
      exact cg_iret (nw := fun _ => 0) hC hr hlk hO.same rfl (Nat.le_of_ble_eq_true rfl) (Nat.le_of_ble_eq_true rfl) rfl ddX12_two_202
    · refine lv_iload_n hx hb ddX12_two_193 rfl (lv_at hl 2 rfl) ?_
      refine lv_if_eq (tgt := 201) hx hb ddX12_two_194 (by decide) (fun h_194_147 => ?_) (fun h_194_147 => ?_)
      · have q_194_148 := zr_eq h_194_147
        have z_194_149 : zi 0 0 bx := ze_eq q_194_148 (zi_all bx) (zi_k (a := 0) (b := 0) (x := 0) rfl)
        refine lv_iconst (v := 0) hx hb ddX12_two_201 (by decide) ?_
        exact cg_iret (nw := fun _ => 0) hC hr hlk hO.same rfl (Nat.le_of_ble_eq_true rfl) (Nat.le_of_ble_eq_true rfl) rfl ddX12_two_202
      · refine lv_iconst (v := 1) hx hb ddX12_two_197 (by decide) ?_
        refine lv_goto (tgt := 202) hx hb ddX12_two_198 (by decide) ?_
        exact cg_iret (nw := fun _ => 0) hC hr hlk hO.same rfl (Nat.le_of_ble_eq_true rfl) (Nat.le_of_ble_eq_true rfl) rfl ddX12_two_202
  by_cases hs_1_139_2 : cx = 39
  · refine lv_tableIn (tgt := 203) hx hb ddX12_two_1 (by rw [hs_1_139_2]; decide) (by rw [hs_1_139_2]; decide) (by rw [hs_1_139_2]; rfl) (by decide) ?_
    refine lv_iload_n hx hb ddX12_two_203 rfl (lv_at hl 1 rfl) ?_
    refine lv_if_ne (tgt := 211) hx hb ddX12_two_204 (by decide) (fun h_204_150 => ?_) (fun h_204_150 => ?_)
    · refine lv_iconst (v := 1) hx hb ddX12_two_211 (by decide) ?_
      refine lv_goto (tgt := 216) hx hb ddX12_two_212 (by decide) ?_
      exact cg_iret (nw := fun _ => 0) hC hr hlk hO.same rfl (Nat.le_of_ble_eq_true rfl) (Nat.le_of_ble_eq_true rfl) rfl ddX12_two_216
    · have q_204_151 := zr_eq h_204_150
      have z_204_152 : zi 0 0 ax := ze_eq q_204_151 (zi_all ax) (zi_k (a := 0) (b := 0) (x := 0) rfl)
      refine lv_iload_n hx hb ddX12_two_207 rfl (lv_at hl 2 rfl) ?_
      refine lv_if_eq (tgt := 215) hx hb ddX12_two_208 (by decide) (fun h_208_153 => ?_) (fun h_208_153 => ?_)
      · have q_208_154 := zr_eq h_208_153
        have z_208_155 : zi 0 0 bx := ze_eq q_208_154 (zi_all bx) (zi_k (a := 0) (b := 0) (x := 0) rfl)
        refine lv_iconst (v := 0) hx hb ddX12_two_215 (by decide) ?_
        exact cg_iret (nw := fun _ => 0) hC hr hlk hO.same rfl (Nat.le_of_ble_eq_true rfl) (Nat.le_of_ble_eq_true rfl) rfl ddX12_two_216
      · refine lv_iconst (v := 1) hx hb ddX12_two_211 (by decide) ?_
        refine lv_goto (tgt := 216) hx hb ddX12_two_212 (by decide) ?_
        exact cg_iret (nw := fun _ => 0) hC hr hlk hO.same rfl (Nat.le_of_ble_eq_true rfl) (Nat.le_of_ble_eq_true rfl) rfl ddX12_two_216
  by_cases hs_1_139_3 : cx = 40
  · refine lv_tableIn (tgt := 203) hx hb ddX12_two_1 (by rw [hs_1_139_3]; decide) (by rw [hs_1_139_3]; decide) (by rw [hs_1_139_3]; rfl) (by decide) ?_
    refine lv_iload_n hx hb ddX12_two_203 rfl (lv_at hl 1 rfl) ?_
    refine lv_if_ne (tgt := 211) hx hb ddX12_two_204 (by decide) (fun h_204_156 => ?_) (fun h_204_156 => ?_)
    · refine lv_iconst (v := 1) hx hb ddX12_two_211 (by decide) ?_
      refine lv_goto (tgt := 216) hx hb ddX12_two_212 (by decide) ?_
      exact cg_iret (nw := fun _ => 0) hC hr hlk hO.same rfl (Nat.le_of_ble_eq_true rfl) (Nat.le_of_ble_eq_true rfl) rfl ddX12_two_216
    · have q_204_157 := zr_eq h_204_156
      have z_204_158 : zi 0 0 ax := ze_eq q_204_157 (zi_all ax) (zi_k (a := 0) (b := 0) (x := 0) rfl)
      refine lv_iload_n hx hb ddX12_two_207 rfl (lv_at hl 2 rfl) ?_
      refine lv_if_eq (tgt := 215) hx hb ddX12_two_208 (by decide) (fun h_208_159 => ?_) (fun h_208_159 => ?_)
      · have q_208_160 := zr_eq h_208_159
        have z_208_161 : zi 0 0 bx := ze_eq q_208_160 (zi_all bx) (zi_k (a := 0) (b := 0) (x := 0) rfl)
        refine lv_iconst (v := 0) hx hb ddX12_two_215 (by decide) ?_
        exact cg_iret (nw := fun _ => 0) hC hr hlk hO.same rfl (Nat.le_of_ble_eq_true rfl) (Nat.le_of_ble_eq_true rfl) rfl ddX12_two_216
      · refine lv_iconst (v := 1) hx hb ddX12_two_211 (by decide) ?_
        refine lv_goto (tgt := 216) hx hb ddX12_two_212 (by decide) ?_
        exact cg_iret (nw := fun _ => 0) hC hr hlk hO.same rfl (Nat.le_of_ble_eq_true rfl) (Nat.le_of_ble_eq_true rfl) rfl ddX12_two_216
  by_cases hs_1_139_4 : cx = 41
  · refine lv_tableIn (tgt := 203) hx hb ddX12_two_1 (by rw [hs_1_139_4]; decide) (by rw [hs_1_139_4]; decide) (by rw [hs_1_139_4]; rfl) (by decide) ?_
    refine lv_iload_n hx hb ddX12_two_203 rfl (lv_at hl 1 rfl) ?_
    refine lv_if_ne (tgt := 211) hx hb ddX12_two_204 (by decide) (fun h_204_162 => ?_) (fun h_204_162 => ?_)
    · refine lv_iconst (v := 1) hx hb ddX12_two_211 (by decide) ?_
      refine lv_goto (tgt := 216) hx hb ddX12_two_212 (by decide) ?_
      exact cg_iret (nw := fun _ => 0) hC hr hlk hO.same rfl (Nat.le_of_ble_eq_true rfl) (Nat.le_of_ble_eq_true rfl) rfl ddX12_two_216
    · have q_204_163 := zr_eq h_204_162
      have z_204_164 : zi 0 0 ax := ze_eq q_204_163 (zi_all ax) (zi_k (a := 0) (b := 0) (x := 0) rfl)
      refine lv_iload_n hx hb ddX12_two_207 rfl (lv_at hl 2 rfl) ?_
      refine lv_if_eq (tgt := 215) hx hb ddX12_two_208 (by decide) (fun h_208_165 => ?_) (fun h_208_165 => ?_)
      · have q_208_166 := zr_eq h_208_165
        have z_208_167 : zi 0 0 bx := ze_eq q_208_166 (zi_all bx) (zi_k (a := 0) (b := 0) (x := 0) rfl)
        refine lv_iconst (v := 0) hx hb ddX12_two_215 (by decide) ?_
        exact cg_iret (nw := fun _ => 0) hC hr hlk hO.same rfl (Nat.le_of_ble_eq_true rfl) (Nat.le_of_ble_eq_true rfl) rfl ddX12_two_216
      · refine lv_iconst (v := 1) hx hb ddX12_two_211 (by decide) ?_
        refine lv_goto (tgt := 216) hx hb ddX12_two_212 (by decide) ?_
        exact cg_iret (nw := fun _ => 0) hC hr hlk hO.same rfl (Nat.le_of_ble_eq_true rfl) (Nat.le_of_ble_eq_true rfl) rfl ddX12_two_216
  by_cases hs_1_139_5 : cx = 42
  · refine lv_tableIn (tgt := 128) hx hb ddX12_two_1 (by rw [hs_1_139_5]; decide) (by rw [hs_1_139_5]; decide) (by rw [hs_1_139_5]; rfl) (by decide) ?_
    refine lv_iload_n hx hb ddX12_two_128 rfl (lv_at hl 1 rfl) ?_
    refine lv_iload_n hx hb ddX12_two_129 rfl (lv_at hl 2 rfl) ?_
    refine lv_imul hx hb ddX12_two_130 ?_
    refine lv_topi (fun v_130_168 _ => ?_)
    exact cg_iret (nw := fun _ => 0) hC hr hlk hO.same rfl (Nat.le_of_ble_eq_true rfl) (Nat.le_of_ble_eq_true rfl) rfl ddX12_two_131
  by_cases hs_1_139_6 : cx = 43
  · refine lv_tableIn (tgt := 120) hx hb ddX12_two_1 (by rw [hs_1_139_6]; decide) (by rw [hs_1_139_6]; decide) (by rw [hs_1_139_6]; rfl) (by decide) ?_
    refine lv_iload_n hx hb ddX12_two_120 rfl (lv_at hl 1 rfl) ?_
    refine lv_iload_n hx hb ddX12_two_121 rfl (lv_at hl 2 rfl) ?_
    refine lv_iadd hx hb ddX12_two_122 ?_
    refine lv_topi (fun v_122_169 _ => ?_)
    exact cg_iret (nw := fun _ => 0) hC hr hlk hO.same rfl (Nat.le_of_ble_eq_true rfl) (Nat.le_of_ble_eq_true rfl) rfl ddX12_two_123
  by_cases hs_1_139_7 : cx = 44
  · refine lv_tableIn (tgt := 203) hx hb ddX12_two_1 (by rw [hs_1_139_7]; decide) (by rw [hs_1_139_7]; decide) (by rw [hs_1_139_7]; rfl) (by decide) ?_
    refine lv_iload_n hx hb ddX12_two_203 rfl (lv_at hl 1 rfl) ?_
    refine lv_if_ne (tgt := 211) hx hb ddX12_two_204 (by decide) (fun h_204_170 => ?_) (fun h_204_170 => ?_)
    · refine lv_iconst (v := 1) hx hb ddX12_two_211 (by decide) ?_
      refine lv_goto (tgt := 216) hx hb ddX12_two_212 (by decide) ?_
      exact cg_iret (nw := fun _ => 0) hC hr hlk hO.same rfl (Nat.le_of_ble_eq_true rfl) (Nat.le_of_ble_eq_true rfl) rfl ddX12_two_216
    · have q_204_171 := zr_eq h_204_170
      have z_204_172 : zi 0 0 ax := ze_eq q_204_171 (zi_all ax) (zi_k (a := 0) (b := 0) (x := 0) rfl)
      refine lv_iload_n hx hb ddX12_two_207 rfl (lv_at hl 2 rfl) ?_
      refine lv_if_eq (tgt := 215) hx hb ddX12_two_208 (by decide) (fun h_208_173 => ?_) (fun h_208_173 => ?_)
      · have q_208_174 := zr_eq h_208_173
        have z_208_175 : zi 0 0 bx := ze_eq q_208_174 (zi_all bx) (zi_k (a := 0) (b := 0) (x := 0) rfl)
        refine lv_iconst (v := 0) hx hb ddX12_two_215 (by decide) ?_
        exact cg_iret (nw := fun _ => 0) hC hr hlk hO.same rfl (Nat.le_of_ble_eq_true rfl) (Nat.le_of_ble_eq_true rfl) rfl ddX12_two_216
      · refine lv_iconst (v := 1) hx hb ddX12_two_211 (by decide) ?_
        refine lv_goto (tgt := 216) hx hb ddX12_two_212 (by decide) ?_
        exact cg_iret (nw := fun _ => 0) hC hr hlk hO.same rfl (Nat.le_of_ble_eq_true rfl) (Nat.le_of_ble_eq_true rfl) rfl ddX12_two_216
  by_cases hs_1_139_8 : cx = 45
  · refine lv_tableIn (tgt := 124) hx hb ddX12_two_1 (by rw [hs_1_139_8]; decide) (by rw [hs_1_139_8]; decide) (by rw [hs_1_139_8]; rfl) (by decide) ?_
    refine lv_iload_n hx hb ddX12_two_124 rfl (lv_at hl 1 rfl) ?_
    refine lv_iload_n hx hb ddX12_two_125 rfl (lv_at hl 2 rfl) ?_
    refine lv_isub hx hb ddX12_two_126 ?_
    refine lv_topi (fun v_126_176 _ => ?_)
    exact cg_iret (nw := fun _ => 0) hC hr hlk hO.same rfl (Nat.le_of_ble_eq_true rfl) (Nat.le_of_ble_eq_true rfl) rfl ddX12_two_127
  by_cases hs_1_139_9 : cx = 46
  · refine lv_tableIn (tgt := 203) hx hb ddX12_two_1 (by rw [hs_1_139_9]; decide) (by rw [hs_1_139_9]; decide) (by rw [hs_1_139_9]; rfl) (by decide) ?_
    refine lv_iload_n hx hb ddX12_two_203 rfl (lv_at hl 1 rfl) ?_
    refine lv_if_ne (tgt := 211) hx hb ddX12_two_204 (by decide) (fun h_204_177 => ?_) (fun h_204_177 => ?_)
    · refine lv_iconst (v := 1) hx hb ddX12_two_211 (by decide) ?_
      refine lv_goto (tgt := 216) hx hb ddX12_two_212 (by decide) ?_
      exact cg_iret (nw := fun _ => 0) hC hr hlk hO.same rfl (Nat.le_of_ble_eq_true rfl) (Nat.le_of_ble_eq_true rfl) rfl ddX12_two_216
    · have q_204_178 := zr_eq h_204_177
      have z_204_179 : zi 0 0 ax := ze_eq q_204_178 (zi_all ax) (zi_k (a := 0) (b := 0) (x := 0) rfl)
      refine lv_iload_n hx hb ddX12_two_207 rfl (lv_at hl 2 rfl) ?_
      refine lv_if_eq (tgt := 215) hx hb ddX12_two_208 (by decide) (fun h_208_180 => ?_) (fun h_208_180 => ?_)
      · have q_208_181 := zr_eq h_208_180
        have z_208_182 : zi 0 0 bx := ze_eq q_208_181 (zi_all bx) (zi_k (a := 0) (b := 0) (x := 0) rfl)
        refine lv_iconst (v := 0) hx hb ddX12_two_215 (by decide) ?_
        exact cg_iret (nw := fun _ => 0) hC hr hlk hO.same rfl (Nat.le_of_ble_eq_true rfl) (Nat.le_of_ble_eq_true rfl) rfl ddX12_two_216
      · refine lv_iconst (v := 1) hx hb ddX12_two_211 (by decide) ?_
        refine lv_goto (tgt := 216) hx hb ddX12_two_212 (by decide) ?_
        exact cg_iret (nw := fun _ => 0) hC hr hlk hO.same rfl (Nat.le_of_ble_eq_true rfl) (Nat.le_of_ble_eq_true rfl) rfl ddX12_two_216
  by_cases hs_1_139_10 : cx = 47
  · refine lv_tableIn (tgt := 132) hx hb ddX12_two_1 (by rw [hs_1_139_10]; decide) (by rw [hs_1_139_10]; decide) (by rw [hs_1_139_10]; rfl) (by decide) ?_
    refine lv_iload_n hx hb ddX12_two_132 rfl (lv_at hl 2 rfl) ?_
    refine lv_if_ne (tgt := 140) hx hb ddX12_two_133 (by decide) (fun h_133_183 => ?_) (fun h_133_183 => ?_)
    · refine lv_iload_n hx hb ddX12_two_140 rfl (lv_at hl 1 rfl) ?_
      refine lv_iload_n hx hb ddX12_two_141 rfl (lv_at hl 2 rfl) ?_
      refine lv_idiv hx hb ddX12_two_142 h_133_183 ?_
      refine lv_topi (fun v_142_184 _ => ?_)
      exact cg_iret (nw := fun _ => 0) hC hr hlk hO.same rfl (Nat.le_of_ble_eq_true rfl) (Nat.le_of_ble_eq_true rfl) rfl ddX12_two_143
    · have q_133_185 := zr_eq h_133_183
      have z_133_186 : zi 0 0 bx := ze_eq q_133_185 (zi_all bx) (zi_k (a := 0) (b := 0) (x := 0) rfl)
      refine lv_iconst (v := 0) hx hb ddX12_two_136 (by decide) ?_
      refine lv_goto (tgt := 143) hx hb ddX12_two_137 (by decide) ?_
      exact cg_iret (nw := fun _ => 0) hC hr hlk hO.same rfl (Nat.le_of_ble_eq_true rfl) (Nat.le_of_ble_eq_true rfl) rfl ddX12_two_143
  by_cases hs_1_139_11 : cx = 48
  · refine lv_tableIn (tgt := 203) hx hb ddX12_two_1 (by rw [hs_1_139_11]; decide) (by rw [hs_1_139_11]; decide) (by rw [hs_1_139_11]; rfl) (by decide) ?_
    refine lv_iload_n hx hb ddX12_two_203 rfl (lv_at hl 1 rfl) ?_
    refine lv_if_ne (tgt := 211) hx hb ddX12_two_204 (by decide) (fun h_204_187 => ?_) (fun h_204_187 => ?_)
    · refine lv_iconst (v := 1) hx hb ddX12_two_211 (by decide) ?_
      refine lv_goto (tgt := 216) hx hb ddX12_two_212 (by decide) ?_
      exact cg_iret (nw := fun _ => 0) hC hr hlk hO.same rfl (Nat.le_of_ble_eq_true rfl) (Nat.le_of_ble_eq_true rfl) rfl ddX12_two_216
    · have q_204_188 := zr_eq h_204_187
      have z_204_189 : zi 0 0 ax := ze_eq q_204_188 (zi_all ax) (zi_k (a := 0) (b := 0) (x := 0) rfl)
      refine lv_iload_n hx hb ddX12_two_207 rfl (lv_at hl 2 rfl) ?_
      refine lv_if_eq (tgt := 215) hx hb ddX12_two_208 (by decide) (fun h_208_190 => ?_) (fun h_208_190 => ?_)
      · have q_208_191 := zr_eq h_208_190
        have z_208_192 : zi 0 0 bx := ze_eq q_208_191 (zi_all bx) (zi_k (a := 0) (b := 0) (x := 0) rfl)
        refine lv_iconst (v := 0) hx hb ddX12_two_215 (by decide) ?_
        exact cg_iret (nw := fun _ => 0) hC hr hlk hO.same rfl (Nat.le_of_ble_eq_true rfl) (Nat.le_of_ble_eq_true rfl) rfl ddX12_two_216
      · refine lv_iconst (v := 1) hx hb ddX12_two_211 (by decide) ?_
        refine lv_goto (tgt := 216) hx hb ddX12_two_212 (by decide) ?_
        exact cg_iret (nw := fun _ => 0) hC hr hlk hO.same rfl (Nat.le_of_ble_eq_true rfl) (Nat.le_of_ble_eq_true rfl) rfl ddX12_two_216
  by_cases hs_1_139_12 : cx = 49
  · refine lv_tableIn (tgt := 203) hx hb ddX12_two_1 (by rw [hs_1_139_12]; decide) (by rw [hs_1_139_12]; decide) (by rw [hs_1_139_12]; rfl) (by decide) ?_
    refine lv_iload_n hx hb ddX12_two_203 rfl (lv_at hl 1 rfl) ?_
    refine lv_if_ne (tgt := 211) hx hb ddX12_two_204 (by decide) (fun h_204_193 => ?_) (fun h_204_193 => ?_)
    · refine lv_iconst (v := 1) hx hb ddX12_two_211 (by decide) ?_
      refine lv_goto (tgt := 216) hx hb ddX12_two_212 (by decide) ?_
      exact cg_iret (nw := fun _ => 0) hC hr hlk hO.same rfl (Nat.le_of_ble_eq_true rfl) (Nat.le_of_ble_eq_true rfl) rfl ddX12_two_216
    · have q_204_194 := zr_eq h_204_193
      have z_204_195 : zi 0 0 ax := ze_eq q_204_194 (zi_all ax) (zi_k (a := 0) (b := 0) (x := 0) rfl)
      refine lv_iload_n hx hb ddX12_two_207 rfl (lv_at hl 2 rfl) ?_
      refine lv_if_eq (tgt := 215) hx hb ddX12_two_208 (by decide) (fun h_208_196 => ?_) (fun h_208_196 => ?_)
      · have q_208_197 := zr_eq h_208_196
        have z_208_198 : zi 0 0 bx := ze_eq q_208_197 (zi_all bx) (zi_k (a := 0) (b := 0) (x := 0) rfl)
        refine lv_iconst (v := 0) hx hb ddX12_two_215 (by decide) ?_
        exact cg_iret (nw := fun _ => 0) hC hr hlk hO.same rfl (Nat.le_of_ble_eq_true rfl) (Nat.le_of_ble_eq_true rfl) rfl ddX12_two_216
      · refine lv_iconst (v := 1) hx hb ddX12_two_211 (by decide) ?_
        refine lv_goto (tgt := 216) hx hb ddX12_two_212 (by decide) ?_
        exact cg_iret (nw := fun _ => 0) hC hr hlk hO.same rfl (Nat.le_of_ble_eq_true rfl) (Nat.le_of_ble_eq_true rfl) rfl ddX12_two_216
  by_cases hs_1_139_13 : cx = 50
  · refine lv_tableIn (tgt := 203) hx hb ddX12_two_1 (by rw [hs_1_139_13]; decide) (by rw [hs_1_139_13]; decide) (by rw [hs_1_139_13]; rfl) (by decide) ?_
    refine lv_iload_n hx hb ddX12_two_203 rfl (lv_at hl 1 rfl) ?_
    refine lv_if_ne (tgt := 211) hx hb ddX12_two_204 (by decide) (fun h_204_199 => ?_) (fun h_204_199 => ?_)
    · refine lv_iconst (v := 1) hx hb ddX12_two_211 (by decide) ?_
      refine lv_goto (tgt := 216) hx hb ddX12_two_212 (by decide) ?_
      exact cg_iret (nw := fun _ => 0) hC hr hlk hO.same rfl (Nat.le_of_ble_eq_true rfl) (Nat.le_of_ble_eq_true rfl) rfl ddX12_two_216
    · have q_204_200 := zr_eq h_204_199
      have z_204_201 : zi 0 0 ax := ze_eq q_204_200 (zi_all ax) (zi_k (a := 0) (b := 0) (x := 0) rfl)
      refine lv_iload_n hx hb ddX12_two_207 rfl (lv_at hl 2 rfl) ?_
      refine lv_if_eq (tgt := 215) hx hb ddX12_two_208 (by decide) (fun h_208_202 => ?_) (fun h_208_202 => ?_)
      · have q_208_203 := zr_eq h_208_202
        have z_208_204 : zi 0 0 bx := ze_eq q_208_203 (zi_all bx) (zi_k (a := 0) (b := 0) (x := 0) rfl)
        refine lv_iconst (v := 0) hx hb ddX12_two_215 (by decide) ?_
        exact cg_iret (nw := fun _ => 0) hC hr hlk hO.same rfl (Nat.le_of_ble_eq_true rfl) (Nat.le_of_ble_eq_true rfl) rfl ddX12_two_216
      · refine lv_iconst (v := 1) hx hb ddX12_two_211 (by decide) ?_
        refine lv_goto (tgt := 216) hx hb ddX12_two_212 (by decide) ?_
        exact cg_iret (nw := fun _ => 0) hC hr hlk hO.same rfl (Nat.le_of_ble_eq_true rfl) (Nat.le_of_ble_eq_true rfl) rfl ddX12_two_216
  by_cases hs_1_139_14 : cx = 51
  · refine lv_tableIn (tgt := 203) hx hb ddX12_two_1 (by rw [hs_1_139_14]; decide) (by rw [hs_1_139_14]; decide) (by rw [hs_1_139_14]; rfl) (by decide) ?_
    refine lv_iload_n hx hb ddX12_two_203 rfl (lv_at hl 1 rfl) ?_
    refine lv_if_ne (tgt := 211) hx hb ddX12_two_204 (by decide) (fun h_204_205 => ?_) (fun h_204_205 => ?_)
    · refine lv_iconst (v := 1) hx hb ddX12_two_211 (by decide) ?_
      refine lv_goto (tgt := 216) hx hb ddX12_two_212 (by decide) ?_
      exact cg_iret (nw := fun _ => 0) hC hr hlk hO.same rfl (Nat.le_of_ble_eq_true rfl) (Nat.le_of_ble_eq_true rfl) rfl ddX12_two_216
    · have q_204_206 := zr_eq h_204_205
      have z_204_207 : zi 0 0 ax := ze_eq q_204_206 (zi_all ax) (zi_k (a := 0) (b := 0) (x := 0) rfl)
      refine lv_iload_n hx hb ddX12_two_207 rfl (lv_at hl 2 rfl) ?_
      refine lv_if_eq (tgt := 215) hx hb ddX12_two_208 (by decide) (fun h_208_208 => ?_) (fun h_208_208 => ?_)
      · have q_208_209 := zr_eq h_208_208
        have z_208_210 : zi 0 0 bx := ze_eq q_208_209 (zi_all bx) (zi_k (a := 0) (b := 0) (x := 0) rfl)
        refine lv_iconst (v := 0) hx hb ddX12_two_215 (by decide) ?_
        exact cg_iret (nw := fun _ => 0) hC hr hlk hO.same rfl (Nat.le_of_ble_eq_true rfl) (Nat.le_of_ble_eq_true rfl) rfl ddX12_two_216
      · refine lv_iconst (v := 1) hx hb ddX12_two_211 (by decide) ?_
        refine lv_goto (tgt := 216) hx hb ddX12_two_212 (by decide) ?_
        exact cg_iret (nw := fun _ => 0) hC hr hlk hO.same rfl (Nat.le_of_ble_eq_true rfl) (Nat.le_of_ble_eq_true rfl) rfl ddX12_two_216
  by_cases hs_1_139_15 : cx = 52
  · refine lv_tableIn (tgt := 203) hx hb ddX12_two_1 (by rw [hs_1_139_15]; decide) (by rw [hs_1_139_15]; decide) (by rw [hs_1_139_15]; rfl) (by decide) ?_
    refine lv_iload_n hx hb ddX12_two_203 rfl (lv_at hl 1 rfl) ?_
    refine lv_if_ne (tgt := 211) hx hb ddX12_two_204 (by decide) (fun h_204_211 => ?_) (fun h_204_211 => ?_)
    · refine lv_iconst (v := 1) hx hb ddX12_two_211 (by decide) ?_
      refine lv_goto (tgt := 216) hx hb ddX12_two_212 (by decide) ?_
      exact cg_iret (nw := fun _ => 0) hC hr hlk hO.same rfl (Nat.le_of_ble_eq_true rfl) (Nat.le_of_ble_eq_true rfl) rfl ddX12_two_216
    · have q_204_212 := zr_eq h_204_211
      have z_204_213 : zi 0 0 ax := ze_eq q_204_212 (zi_all ax) (zi_k (a := 0) (b := 0) (x := 0) rfl)
      refine lv_iload_n hx hb ddX12_two_207 rfl (lv_at hl 2 rfl) ?_
      refine lv_if_eq (tgt := 215) hx hb ddX12_two_208 (by decide) (fun h_208_214 => ?_) (fun h_208_214 => ?_)
      · have q_208_215 := zr_eq h_208_214
        have z_208_216 : zi 0 0 bx := ze_eq q_208_215 (zi_all bx) (zi_k (a := 0) (b := 0) (x := 0) rfl)
        refine lv_iconst (v := 0) hx hb ddX12_two_215 (by decide) ?_
        exact cg_iret (nw := fun _ => 0) hC hr hlk hO.same rfl (Nat.le_of_ble_eq_true rfl) (Nat.le_of_ble_eq_true rfl) rfl ddX12_two_216
      · refine lv_iconst (v := 1) hx hb ddX12_two_211 (by decide) ?_
        refine lv_goto (tgt := 216) hx hb ddX12_two_212 (by decide) ?_
        exact cg_iret (nw := fun _ => 0) hC hr hlk hO.same rfl (Nat.le_of_ble_eq_true rfl) (Nat.le_of_ble_eq_true rfl) rfl ddX12_two_216
  by_cases hs_1_139_16 : cx = 53
  · refine lv_tableIn (tgt := 203) hx hb ddX12_two_1 (by rw [hs_1_139_16]; decide) (by rw [hs_1_139_16]; decide) (by rw [hs_1_139_16]; rfl) (by decide) ?_
    refine lv_iload_n hx hb ddX12_two_203 rfl (lv_at hl 1 rfl) ?_
    refine lv_if_ne (tgt := 211) hx hb ddX12_two_204 (by decide) (fun h_204_217 => ?_) (fun h_204_217 => ?_)
    · refine lv_iconst (v := 1) hx hb ddX12_two_211 (by decide) ?_
      refine lv_goto (tgt := 216) hx hb ddX12_two_212 (by decide) ?_
      exact cg_iret (nw := fun _ => 0) hC hr hlk hO.same rfl (Nat.le_of_ble_eq_true rfl) (Nat.le_of_ble_eq_true rfl) rfl ddX12_two_216
    · have q_204_218 := zr_eq h_204_217
      have z_204_219 : zi 0 0 ax := ze_eq q_204_218 (zi_all ax) (zi_k (a := 0) (b := 0) (x := 0) rfl)
      refine lv_iload_n hx hb ddX12_two_207 rfl (lv_at hl 2 rfl) ?_
      refine lv_if_eq (tgt := 215) hx hb ddX12_two_208 (by decide) (fun h_208_220 => ?_) (fun h_208_220 => ?_)
      · have q_208_221 := zr_eq h_208_220
        have z_208_222 : zi 0 0 bx := ze_eq q_208_221 (zi_all bx) (zi_k (a := 0) (b := 0) (x := 0) rfl)
        refine lv_iconst (v := 0) hx hb ddX12_two_215 (by decide) ?_
        exact cg_iret (nw := fun _ => 0) hC hr hlk hO.same rfl (Nat.le_of_ble_eq_true rfl) (Nat.le_of_ble_eq_true rfl) rfl ddX12_two_216
      · refine lv_iconst (v := 1) hx hb ddX12_two_211 (by decide) ?_
        refine lv_goto (tgt := 216) hx hb ddX12_two_212 (by decide) ?_
        exact cg_iret (nw := fun _ => 0) hC hr hlk hO.same rfl (Nat.le_of_ble_eq_true rfl) (Nat.le_of_ble_eq_true rfl) rfl ddX12_two_216
  by_cases hs_1_139_17 : cx = 54
  · refine lv_tableIn (tgt := 203) hx hb ddX12_two_1 (by rw [hs_1_139_17]; decide) (by rw [hs_1_139_17]; decide) (by rw [hs_1_139_17]; rfl) (by decide) ?_
    refine lv_iload_n hx hb ddX12_two_203 rfl (lv_at hl 1 rfl) ?_
    refine lv_if_ne (tgt := 211) hx hb ddX12_two_204 (by decide) (fun h_204_223 => ?_) (fun h_204_223 => ?_)
    · refine lv_iconst (v := 1) hx hb ddX12_two_211 (by decide) ?_
      refine lv_goto (tgt := 216) hx hb ddX12_two_212 (by decide) ?_
      exact cg_iret (nw := fun _ => 0) hC hr hlk hO.same rfl (Nat.le_of_ble_eq_true rfl) (Nat.le_of_ble_eq_true rfl) rfl ddX12_two_216
    · have q_204_224 := zr_eq h_204_223
      have z_204_225 : zi 0 0 ax := ze_eq q_204_224 (zi_all ax) (zi_k (a := 0) (b := 0) (x := 0) rfl)
      refine lv_iload_n hx hb ddX12_two_207 rfl (lv_at hl 2 rfl) ?_
      refine lv_if_eq (tgt := 215) hx hb ddX12_two_208 (by decide) (fun h_208_226 => ?_) (fun h_208_226 => ?_)
      · have q_208_227 := zr_eq h_208_226
        have z_208_228 : zi 0 0 bx := ze_eq q_208_227 (zi_all bx) (zi_k (a := 0) (b := 0) (x := 0) rfl)
        refine lv_iconst (v := 0) hx hb ddX12_two_215 (by decide) ?_
        exact cg_iret (nw := fun _ => 0) hC hr hlk hO.same rfl (Nat.le_of_ble_eq_true rfl) (Nat.le_of_ble_eq_true rfl) rfl ddX12_two_216
      · refine lv_iconst (v := 1) hx hb ddX12_two_211 (by decide) ?_
        refine lv_goto (tgt := 216) hx hb ddX12_two_212 (by decide) ?_
        exact cg_iret (nw := fun _ => 0) hC hr hlk hO.same rfl (Nat.le_of_ble_eq_true rfl) (Nat.le_of_ble_eq_true rfl) rfl ddX12_two_216
  by_cases hs_1_139_18 : cx = 55
  · refine lv_tableIn (tgt := 203) hx hb ddX12_two_1 (by rw [hs_1_139_18]; decide) (by rw [hs_1_139_18]; decide) (by rw [hs_1_139_18]; rfl) (by decide) ?_
    refine lv_iload_n hx hb ddX12_two_203 rfl (lv_at hl 1 rfl) ?_
    refine lv_if_ne (tgt := 211) hx hb ddX12_two_204 (by decide) (fun h_204_229 => ?_) (fun h_204_229 => ?_)
    · refine lv_iconst (v := 1) hx hb ddX12_two_211 (by decide) ?_
      refine lv_goto (tgt := 216) hx hb ddX12_two_212 (by decide) ?_
      exact cg_iret (nw := fun _ => 0) hC hr hlk hO.same rfl (Nat.le_of_ble_eq_true rfl) (Nat.le_of_ble_eq_true rfl) rfl ddX12_two_216
    · have q_204_230 := zr_eq h_204_229
      have z_204_231 : zi 0 0 ax := ze_eq q_204_230 (zi_all ax) (zi_k (a := 0) (b := 0) (x := 0) rfl)
      refine lv_iload_n hx hb ddX12_two_207 rfl (lv_at hl 2 rfl) ?_
      refine lv_if_eq (tgt := 215) hx hb ddX12_two_208 (by decide) (fun h_208_232 => ?_) (fun h_208_232 => ?_)
      · have q_208_233 := zr_eq h_208_232
        have z_208_234 : zi 0 0 bx := ze_eq q_208_233 (zi_all bx) (zi_k (a := 0) (b := 0) (x := 0) rfl)
        refine lv_iconst (v := 0) hx hb ddX12_two_215 (by decide) ?_
        exact cg_iret (nw := fun _ => 0) hC hr hlk hO.same rfl (Nat.le_of_ble_eq_true rfl) (Nat.le_of_ble_eq_true rfl) rfl ddX12_two_216
      · refine lv_iconst (v := 1) hx hb ddX12_two_211 (by decide) ?_
        refine lv_goto (tgt := 216) hx hb ddX12_two_212 (by decide) ?_
        exact cg_iret (nw := fun _ => 0) hC hr hlk hO.same rfl (Nat.le_of_ble_eq_true rfl) (Nat.le_of_ble_eq_true rfl) rfl ddX12_two_216
  by_cases hs_1_139_19 : cx = 56
  · refine lv_tableIn (tgt := 203) hx hb ddX12_two_1 (by rw [hs_1_139_19]; decide) (by rw [hs_1_139_19]; decide) (by rw [hs_1_139_19]; rfl) (by decide) ?_
    refine lv_iload_n hx hb ddX12_two_203 rfl (lv_at hl 1 rfl) ?_
    refine lv_if_ne (tgt := 211) hx hb ddX12_two_204 (by decide) (fun h_204_235 => ?_) (fun h_204_235 => ?_)
    · refine lv_iconst (v := 1) hx hb ddX12_two_211 (by decide) ?_
      refine lv_goto (tgt := 216) hx hb ddX12_two_212 (by decide) ?_
      exact cg_iret (nw := fun _ => 0) hC hr hlk hO.same rfl (Nat.le_of_ble_eq_true rfl) (Nat.le_of_ble_eq_true rfl) rfl ddX12_two_216
    · have q_204_236 := zr_eq h_204_235
      have z_204_237 : zi 0 0 ax := ze_eq q_204_236 (zi_all ax) (zi_k (a := 0) (b := 0) (x := 0) rfl)
      refine lv_iload_n hx hb ddX12_two_207 rfl (lv_at hl 2 rfl) ?_
      refine lv_if_eq (tgt := 215) hx hb ddX12_two_208 (by decide) (fun h_208_238 => ?_) (fun h_208_238 => ?_)
      · have q_208_239 := zr_eq h_208_238
        have z_208_240 : zi 0 0 bx := ze_eq q_208_239 (zi_all bx) (zi_k (a := 0) (b := 0) (x := 0) rfl)
        refine lv_iconst (v := 0) hx hb ddX12_two_215 (by decide) ?_
        exact cg_iret (nw := fun _ => 0) hC hr hlk hO.same rfl (Nat.le_of_ble_eq_true rfl) (Nat.le_of_ble_eq_true rfl) rfl ddX12_two_216
      · refine lv_iconst (v := 1) hx hb ddX12_two_211 (by decide) ?_
        refine lv_goto (tgt := 216) hx hb ddX12_two_212 (by decide) ?_
        exact cg_iret (nw := fun _ => 0) hC hr hlk hO.same rfl (Nat.le_of_ble_eq_true rfl) (Nat.le_of_ble_eq_true rfl) rfl ddX12_two_216
  by_cases hs_1_139_20 : cx = 57
  · refine lv_tableIn (tgt := 203) hx hb ddX12_two_1 (by rw [hs_1_139_20]; decide) (by rw [hs_1_139_20]; decide) (by rw [hs_1_139_20]; rfl) (by decide) ?_
    refine lv_iload_n hx hb ddX12_two_203 rfl (lv_at hl 1 rfl) ?_
    refine lv_if_ne (tgt := 211) hx hb ddX12_two_204 (by decide) (fun h_204_241 => ?_) (fun h_204_241 => ?_)
    · refine lv_iconst (v := 1) hx hb ddX12_two_211 (by decide) ?_
      refine lv_goto (tgt := 216) hx hb ddX12_two_212 (by decide) ?_
      exact cg_iret (nw := fun _ => 0) hC hr hlk hO.same rfl (Nat.le_of_ble_eq_true rfl) (Nat.le_of_ble_eq_true rfl) rfl ddX12_two_216
    · have q_204_242 := zr_eq h_204_241
      have z_204_243 : zi 0 0 ax := ze_eq q_204_242 (zi_all ax) (zi_k (a := 0) (b := 0) (x := 0) rfl)
      refine lv_iload_n hx hb ddX12_two_207 rfl (lv_at hl 2 rfl) ?_
      refine lv_if_eq (tgt := 215) hx hb ddX12_two_208 (by decide) (fun h_208_244 => ?_) (fun h_208_244 => ?_)
      · have q_208_245 := zr_eq h_208_244
        have z_208_246 : zi 0 0 bx := ze_eq q_208_245 (zi_all bx) (zi_k (a := 0) (b := 0) (x := 0) rfl)
        refine lv_iconst (v := 0) hx hb ddX12_two_215 (by decide) ?_
        exact cg_iret (nw := fun _ => 0) hC hr hlk hO.same rfl (Nat.le_of_ble_eq_true rfl) (Nat.le_of_ble_eq_true rfl) rfl ddX12_two_216
      · refine lv_iconst (v := 1) hx hb ddX12_two_211 (by decide) ?_
        refine lv_goto (tgt := 216) hx hb ddX12_two_212 (by decide) ?_
        exact cg_iret (nw := fun _ => 0) hC hr hlk hO.same rfl (Nat.le_of_ble_eq_true rfl) (Nat.le_of_ble_eq_true rfl) rfl ddX12_two_216
  by_cases hs_1_139_21 : cx = 58
  · refine lv_tableIn (tgt := 203) hx hb ddX12_two_1 (by rw [hs_1_139_21]; decide) (by rw [hs_1_139_21]; decide) (by rw [hs_1_139_21]; rfl) (by decide) ?_
    refine lv_iload_n hx hb ddX12_two_203 rfl (lv_at hl 1 rfl) ?_
    refine lv_if_ne (tgt := 211) hx hb ddX12_two_204 (by decide) (fun h_204_247 => ?_) (fun h_204_247 => ?_)
    · refine lv_iconst (v := 1) hx hb ddX12_two_211 (by decide) ?_
      refine lv_goto (tgt := 216) hx hb ddX12_two_212 (by decide) ?_
      exact cg_iret (nw := fun _ => 0) hC hr hlk hO.same rfl (Nat.le_of_ble_eq_true rfl) (Nat.le_of_ble_eq_true rfl) rfl ddX12_two_216
    · have q_204_248 := zr_eq h_204_247
      have z_204_249 : zi 0 0 ax := ze_eq q_204_248 (zi_all ax) (zi_k (a := 0) (b := 0) (x := 0) rfl)
      refine lv_iload_n hx hb ddX12_two_207 rfl (lv_at hl 2 rfl) ?_
      refine lv_if_eq (tgt := 215) hx hb ddX12_two_208 (by decide) (fun h_208_250 => ?_) (fun h_208_250 => ?_)
      · have q_208_251 := zr_eq h_208_250
        have z_208_252 : zi 0 0 bx := ze_eq q_208_251 (zi_all bx) (zi_k (a := 0) (b := 0) (x := 0) rfl)
        refine lv_iconst (v := 0) hx hb ddX12_two_215 (by decide) ?_
        exact cg_iret (nw := fun _ => 0) hC hr hlk hO.same rfl (Nat.le_of_ble_eq_true rfl) (Nat.le_of_ble_eq_true rfl) rfl ddX12_two_216
      · refine lv_iconst (v := 1) hx hb ddX12_two_211 (by decide) ?_
        refine lv_goto (tgt := 216) hx hb ddX12_two_212 (by decide) ?_
        exact cg_iret (nw := fun _ => 0) hC hr hlk hO.same rfl (Nat.le_of_ble_eq_true rfl) (Nat.le_of_ble_eq_true rfl) rfl ddX12_two_216
  by_cases hs_1_139_22 : cx = 59
  · refine lv_tableIn (tgt := 203) hx hb ddX12_two_1 (by rw [hs_1_139_22]; decide) (by rw [hs_1_139_22]; decide) (by rw [hs_1_139_22]; rfl) (by decide) ?_
    refine lv_iload_n hx hb ddX12_two_203 rfl (lv_at hl 1 rfl) ?_
    refine lv_if_ne (tgt := 211) hx hb ddX12_two_204 (by decide) (fun h_204_253 => ?_) (fun h_204_253 => ?_)
    · refine lv_iconst (v := 1) hx hb ddX12_two_211 (by decide) ?_
      refine lv_goto (tgt := 216) hx hb ddX12_two_212 (by decide) ?_
      exact cg_iret (nw := fun _ => 0) hC hr hlk hO.same rfl (Nat.le_of_ble_eq_true rfl) (Nat.le_of_ble_eq_true rfl) rfl ddX12_two_216
    · have q_204_254 := zr_eq h_204_253
      have z_204_255 : zi 0 0 ax := ze_eq q_204_254 (zi_all ax) (zi_k (a := 0) (b := 0) (x := 0) rfl)
      refine lv_iload_n hx hb ddX12_two_207 rfl (lv_at hl 2 rfl) ?_
      refine lv_if_eq (tgt := 215) hx hb ddX12_two_208 (by decide) (fun h_208_256 => ?_) (fun h_208_256 => ?_)
      · have q_208_257 := zr_eq h_208_256
        have z_208_258 : zi 0 0 bx := ze_eq q_208_257 (zi_all bx) (zi_k (a := 0) (b := 0) (x := 0) rfl)
        refine lv_iconst (v := 0) hx hb ddX12_two_215 (by decide) ?_
        exact cg_iret (nw := fun _ => 0) hC hr hlk hO.same rfl (Nat.le_of_ble_eq_true rfl) (Nat.le_of_ble_eq_true rfl) rfl ddX12_two_216
      · refine lv_iconst (v := 1) hx hb ddX12_two_211 (by decide) ?_
        refine lv_goto (tgt := 216) hx hb ddX12_two_212 (by decide) ?_
        exact cg_iret (nw := fun _ => 0) hC hr hlk hO.same rfl (Nat.le_of_ble_eq_true rfl) (Nat.le_of_ble_eq_true rfl) rfl ddX12_two_216
  by_cases hs_1_139_23 : cx = 60
  · refine lv_tableIn (tgt := 156) hx hb ddX12_two_1 (by rw [hs_1_139_23]; decide) (by rw [hs_1_139_23]; decide) (by rw [hs_1_139_23]; rfl) (by decide) ?_
    refine lv_iload_n hx hb ddX12_two_156 rfl (lv_at hl 1 rfl) ?_
    refine lv_iload_n hx hb ddX12_two_157 rfl (lv_at hl 2 rfl) ?_
    refine lv_icmp_ge (tgt := 165) hx hb ddX12_two_158 (by decide) (fun h_158_259 => ?_) (fun h_158_259 => ?_)
    · have q_158_260 := zr_le h_158_259
      refine lv_iconst (v := 0) hx hb ddX12_two_165 (by decide) ?_
      exact cg_iret (nw := fun _ => 0) hC hr hlk hO.same rfl (Nat.le_of_ble_eq_true rfl) (Nat.le_of_ble_eq_true rfl) rfl ddX12_two_166
    · have q_158_261 := zr_nle h_158_259
      have z_158_262 : zi (-2147483648) 2147483646 ax := zu_lt q_158_261 (zi_all ax) (zi_all bx) (by decide)
      have z_158_263 : zi (-2147483647) 2147483647 bx := zd_lt q_158_261 (zi_all ax) (zi_all bx) (by decide)
      refine lv_iconst (v := 1) hx hb ddX12_two_161 (by decide) ?_
      refine lv_goto (tgt := 166) hx hb ddX12_two_162 (by decide) ?_
      exact cg_iret (nw := fun _ => 0) hC hr hlk hO.same rfl (Nat.le_of_ble_eq_true rfl) (Nat.le_of_ble_eq_true rfl) rfl ddX12_two_166
  by_cases hs_1_139_24 : cx = 61
  · refine lv_tableIn (tgt := 178) hx hb ddX12_two_1 (by rw [hs_1_139_24]; decide) (by rw [hs_1_139_24]; decide) (by rw [hs_1_139_24]; rfl) (by decide) ?_
    refine lv_iload_n hx hb ddX12_two_178 rfl (lv_at hl 1 rfl) ?_
    refine lv_iload_n hx hb ddX12_two_179 rfl (lv_at hl 2 rfl) ?_
    refine lv_icmp_ne (tgt := 187) hx hb ddX12_two_180 (by decide) (fun h_180_264 => ?_) (fun h_180_264 => ?_)
    · refine lv_iconst (v := 0) hx hb ddX12_two_187 (by decide) ?_
      exact cg_iret (nw := fun _ => 0) hC hr hlk hO.same rfl (Nat.le_of_ble_eq_true rfl) (Nat.le_of_ble_eq_true rfl) rfl ddX12_two_188
    · have q_180_265 := zr_eq h_180_264
      refine lv_iconst (v := 1) hx hb ddX12_two_183 (by decide) ?_
      refine lv_goto (tgt := 188) hx hb ddX12_two_184 (by decide) ?_
      exact cg_iret (nw := fun _ => 0) hC hr hlk hO.same rfl (Nat.le_of_ble_eq_true rfl) (Nat.le_of_ble_eq_true rfl) rfl ddX12_two_188
  by_cases hs_1_139_25 : cx = 62
  · refine lv_tableIn (tgt := 167) hx hb ddX12_two_1 (by rw [hs_1_139_25]; decide) (by rw [hs_1_139_25]; decide) (by rw [hs_1_139_25]; rfl) (by decide) ?_
    refine lv_iload_n hx hb ddX12_two_167 rfl (lv_at hl 1 rfl) ?_
    refine lv_iload_n hx hb ddX12_two_168 rfl (lv_at hl 2 rfl) ?_
    refine lv_icmp_le (tgt := 176) hx hb ddX12_two_169 (by decide) (fun h_169_266 => ?_) (fun h_169_266 => ?_)
    · have q_169_267 := zr_le h_169_266
      refine lv_iconst (v := 0) hx hb ddX12_two_176 (by decide) ?_
      exact cg_iret (nw := fun _ => 0) hC hr hlk hO.same rfl (Nat.le_of_ble_eq_true rfl) (Nat.le_of_ble_eq_true rfl) rfl ddX12_two_177
    · have q_169_268 := zr_nle h_169_266
      have z_169_269 : zi (-2147483648) 2147483646 bx := zu_lt q_169_268 (zi_all bx) (zi_all ax) (by decide)
      have z_169_270 : zi (-2147483647) 2147483647 ax := zd_lt q_169_268 (zi_all bx) (zi_all ax) (by decide)
      refine lv_iconst (v := 1) hx hb ddX12_two_172 (by decide) ?_
      refine lv_goto (tgt := 177) hx hb ddX12_two_173 (by decide) ?_
      exact cg_iret (nw := fun _ => 0) hC hr hlk hO.same rfl (Nat.le_of_ble_eq_true rfl) (Nat.le_of_ble_eq_true rfl) rfl ddX12_two_177
  refine lv_tableOut (tgt := 203) hx hb ddX12_two_1 (tsw_out_37_62 cx hs_1_139_0 hs_1_139_1 hs_1_139_2 hs_1_139_3 hs_1_139_4 hs_1_139_5 hs_1_139_6 hs_1_139_7 hs_1_139_8 hs_1_139_9 hs_1_139_10 hs_1_139_11 hs_1_139_12 hs_1_139_13 hs_1_139_14 hs_1_139_15 hs_1_139_16 hs_1_139_17 hs_1_139_18 hs_1_139_19 hs_1_139_20 hs_1_139_21 hs_1_139_22 hs_1_139_23 hs_1_139_24 hs_1_139_25) (by decide) ?_
  refine lv_iload_n hx hb ddX12_two_203 rfl (lv_at hl 1 rfl) ?_
  refine lv_if_ne (tgt := 211) hx hb ddX12_two_204 (by decide) (fun h_204_271 => ?_) (fun h_204_271 => ?_)
  · refine lv_iconst (v := 1) hx hb ddX12_two_211 (by decide) ?_
    refine lv_goto (tgt := 216) hx hb ddX12_two_212 (by decide) ?_
    exact cg_iret (nw := fun _ => 0) hC hr hlk hO.same rfl (Nat.le_of_ble_eq_true rfl) (Nat.le_of_ble_eq_true rfl) rfl ddX12_two_216
  · have q_204_272 := zr_eq h_204_271
    have z_204_273 : zi 0 0 ax := ze_eq q_204_272 (zi_all ax) (zi_k (a := 0) (b := 0) (x := 0) rfl)
    refine lv_iload_n hx hb ddX12_two_207 rfl (lv_at hl 2 rfl) ?_
    refine lv_if_eq (tgt := 215) hx hb ddX12_two_208 (by decide) (fun h_208_274 => ?_) (fun h_208_274 => ?_)
    · have q_208_275 := zr_eq h_208_274
      have z_208_276 : zi 0 0 bx := ze_eq q_208_275 (zi_all bx) (zi_k (a := 0) (b := 0) (x := 0) rfl)
      refine lv_iconst (v := 0) hx hb ddX12_two_215 (by decide) ?_
      exact cg_iret (nw := fun _ => 0) hC hr hlk hO.same rfl (Nat.le_of_ble_eq_true rfl) (Nat.le_of_ble_eq_true rfl) rfl ddX12_two_216
    · refine lv_iconst (v := 1) hx hb ddX12_two_211 (by decide) ?_
      refine lv_goto (tgt := 216) hx hb ddX12_two_212 (by decide) ?_
      exact cg_iret (nw := fun _ => 0) hC hr hlk hO.same rfl (Nat.le_of_ble_eq_true rfl) (Nat.le_of_ble_eq_true rfl) rfl ddX12_two_216

theorem ddX12_comes_0 : decode cX12_comes 0 = .ok (.aload_n 0, 1) := by decide +kernel
theorem ddX12_comes_1 : decode cX12_comes 1 = .ok (.getfield 70, 3) := by decide +kernel
theorem ddX12_comes_4 : decode cX12_comes 4 = .ok (.aload_n 0, 1) := by decide +kernel
theorem ddX12_comes_5 : decode cX12_comes 5 = .ok (.getfield 286, 3) := by decide +kernel
theorem ddX12_comes_8 : decode cX12_comes 8 = .ok (.baload, 1) := by decide +kernel
theorem ddX12_comes_9 : decode cX12_comes 9 = .ok (.ifCond .ne 5, 3) := by decide +kernel
theorem ddX12_comes_12 : decode cX12_comes 12 = .ok (.iload_n 2, 1) := by decide +kernel
theorem ddX12_comes_13 : decode cX12_comes 13 = .ok (.ireturn, 1) := by decide +kernel
theorem ddX12_comes_14 : decode cX12_comes 14 = .ok (.iconst 0, 1) := by decide +kernel
theorem ddX12_comes_15 : decode cX12_comes 15 = .ok (.istore 4, 2) := by decide +kernel
theorem ddX12_comes_17 : decode cX12_comes 17 = .ok (.sipush 490, 3) := by decide +kernel
theorem ddX12_comes_20 : decode cX12_comes 20 = .ok (.aload_n 0, 1) := by decide +kernel
theorem ddX12_comes_21 : decode cX12_comes 21 = .ok (.getfield 286, 3) := by decide +kernel
theorem ddX12_comes_24 : decode cX12_comes 24 = .ok (.imul, 1) := by decide +kernel
theorem ddX12_comes_25 : decode cX12_comes 25 = .ok (.istore 5, 2) := by decide +kernel
theorem ddX12_comes_27 : decode cX12_comes 27 = .ok (.iload 5, 2) := by decide +kernel
theorem ddX12_comes_29 : decode cX12_comes 29 = .ok (.aload_n 0, 1) := by decide +kernel
theorem ddX12_comes_30 : decode cX12_comes 30 = .ok (.getfield 63, 3) := by decide +kernel
theorem ddX12_comes_33 : decode cX12_comes 33 = .ok (.aload_n 0, 1) := by decide +kernel
theorem ddX12_comes_34 : decode cX12_comes 34 = .ok (.getfield 286, 3) := by decide +kernel
theorem ddX12_comes_37 : decode cX12_comes 37 = .ok (.iaload, 1) := by decide +kernel
theorem ddX12_comes_38 : decode cX12_comes 38 = .ok (.if_icmp .ge 148, 3) := by decide +kernel
theorem ddX12_comes_41 : decode cX12_comes 41 = .ok (.aload_n 0, 1) := by decide +kernel
theorem ddX12_comes_42 : decode cX12_comes 42 = .ok (.getfield 83, 3) := by decide +kernel
theorem ddX12_comes_45 : decode cX12_comes 45 = .ok (.iload 5, 2) := by decide +kernel
theorem ddX12_comes_47 : decode cX12_comes 47 = .ok (.iaload, 1) := by decide +kernel
theorem ddX12_comes_48 : decode cX12_comes 48 = .ok (.istore 6, 2) := by decide +kernel
theorem ddX12_comes_50 : decode cX12_comes 50 = .ok (.iload 6, 2) := by decide +kernel
theorem ddX12_comes_52 : decode cX12_comes 52 = .ok (.bipush 126, 2) := by decide +kernel
theorem ddX12_comes_54 : decode cX12_comes 54 = .ok (.if_icmp .ne 32, 3) := by decide +kernel
theorem ddX12_comes_57 : decode cX12_comes 57 = .ok (.aload_n 0, 1) := by decide +kernel
theorem ddX12_comes_58 : decode cX12_comes 58 = .ok (.getfield 95, 3) := by decide +kernel
theorem ddX12_comes_61 : decode cX12_comes 61 = .ok (.iload 4, 2) := by decide +kernel
theorem ddX12_comes_63 : decode cX12_comes 63 = .ok (.iconst 1, 1) := by decide +kernel
theorem ddX12_comes_64 : decode cX12_comes 64 = .ok (.isub, 1) := by decide +kernel
theorem ddX12_comes_65 : decode cX12_comes 65 = .ok (.aload_n 0, 1) := by decide +kernel
theorem ddX12_comes_66 : decode cX12_comes 66 = .ok (.getfield 95, 3) := by decide +kernel
theorem ddX12_comes_69 : decode cX12_comes 69 = .ok (.iload 4, 2) := by decide +kernel
theorem ddX12_comes_71 : decode cX12_comes 71 = .ok (.iconst 1, 1) := by decide +kernel
theorem ddX12_comes_72 : decode cX12_comes 72 = .ok (.isub, 1) := by decide +kernel
theorem ddX12_comes_73 : decode cX12_comes 73 = .ok (.iaload, 1) := by decide +kernel
theorem ddX12_comes_74 : decode cX12_comes 74 = .ok (.ifCond .ne 7, 3) := by decide +kernel
theorem ddX12_comes_77 : decode cX12_comes 77 = .ok (.iconst 1, 1) := by decide +kernel
theorem ddX12_comes_78 : decode cX12_comes 78 = .ok (.goto 4, 3) := by decide +kernel
theorem ddX12_comes_81 : decode cX12_comes 81 = .ok (.iconst 0, 1) := by decide +kernel
theorem ddX12_comes_82 : decode cX12_comes 82 = .ok (.iastore, 1) := by decide +kernel
theorem ddX12_comes_83 : decode cX12_comes 83 = .ok (.goto 97, 3) := by decide +kernel
theorem ddX12_comes_86 : decode cX12_comes 86 = .ok (.iload 6, 2) := by decide +kernel
theorem ddX12_comes_88 : decode cX12_comes 88 = .ok (.invokestatic 231, 3) := by decide +kernel
theorem ddX12_comes_91 : decode cX12_comes 91 = .ok (.ifCond .eq 56, 3) := by decide +kernel
theorem ddX12_comes_94 : decode cX12_comes 94 = .ok (.aload_n 0, 1) := by decide +kernel
theorem ddX12_comes_95 : decode cX12_comes 95 = .ok (.getfield 95, 3) := by decide +kernel
theorem ddX12_comes_98 : decode cX12_comes 98 = .ok (.iload 4, 2) := by decide +kernel
theorem ddX12_comes_100 : decode cX12_comes 100 = .ok (.iload 6, 2) := by decide +kernel
theorem ddX12_comes_102 : decode cX12_comes 102 = .ok (.bipush 110, 2) := by decide +kernel
theorem ddX12_comes_104 : decode cX12_comes 104 = .ok (.if_icmp .ne 13, 3) := by decide +kernel
theorem ddX12_comes_107 : decode cX12_comes 107 = .ok (.aload_n 0, 1) := by decide +kernel
theorem ddX12_comes_108 : decode cX12_comes 108 = .ok (.getfield 86, 3) := by decide +kernel
theorem ddX12_comes_111 : decode cX12_comes 111 = .ok (.iload 5, 2) := by decide +kernel
theorem ddX12_comes_113 : decode cX12_comes 113 = .ok (.iaload, 1) := by decide +kernel
theorem ddX12_comes_114 : decode cX12_comes 114 = .ok (.goto 26, 3) := by decide +kernel
theorem ddX12_comes_117 : decode cX12_comes 117 = .ok (.iload 6, 2) := by decide +kernel
theorem ddX12_comes_119 : decode cX12_comes 119 = .ok (.bipush 115, 2) := by decide +kernel
theorem ddX12_comes_121 : decode cX12_comes 121 = .ok (.if_icmp .ne 7, 3) := by decide +kernel
theorem ddX12_comes_124 : decode cX12_comes 124 = .ok (.iload_n 1, 1) := by decide +kernel
theorem ddX12_comes_125 : decode cX12_comes 125 = .ok (.goto 15, 3) := by decide +kernel
theorem ddX12_comes_128 : decode cX12_comes 128 = .ok (.iload 6, 2) := by decide +kernel
theorem ddX12_comes_130 : decode cX12_comes 130 = .ok (.bipush 116, 2) := by decide +kernel
theorem ddX12_comes_132 : decode cX12_comes 132 = .ok (.if_icmp .ne 7, 3) := by decide +kernel
theorem ddX12_comes_135 : decode cX12_comes 135 = .ok (.iload_n 2, 1) := by decide +kernel
theorem ddX12_comes_136 : decode cX12_comes 136 = .ok (.goto 4, 3) := by decide +kernel
theorem ddX12_comes_139 : decode cX12_comes 139 = .ok (.iload_n 3, 1) := by decide +kernel
theorem ddX12_comes_140 : decode cX12_comes 140 = .ok (.iastore, 1) := by decide +kernel
theorem ddX12_comes_141 : decode cX12_comes 141 = .ok (.iinc 4 1, 3) := by decide +kernel
theorem ddX12_comes_144 : decode cX12_comes 144 = .ok (.goto 36, 3) := by decide +kernel
theorem ddX12_comes_147 : decode cX12_comes 147 = .ok (.iinc 4 (-1), 3) := by decide +kernel
theorem ddX12_comes_150 : decode cX12_comes 150 = .ok (.aload_n 0, 1) := by decide +kernel
theorem ddX12_comes_151 : decode cX12_comes 151 = .ok (.getfield 95, 3) := by decide +kernel
theorem ddX12_comes_154 : decode cX12_comes 154 = .ok (.iload 4, 2) := by decide +kernel
theorem ddX12_comes_156 : decode cX12_comes 156 = .ok (.iconst 1, 1) := by decide +kernel
theorem ddX12_comes_157 : decode cX12_comes 157 = .ok (.isub, 1) := by decide +kernel
theorem ddX12_comes_158 : decode cX12_comes 158 = .ok (.iload 6, 2) := by decide +kernel
theorem ddX12_comes_160 : decode cX12_comes 160 = .ok (.aload_n 0, 1) := by decide +kernel
theorem ddX12_comes_161 : decode cX12_comes 161 = .ok (.getfield 95, 3) := by decide +kernel
theorem ddX12_comes_164 : decode cX12_comes 164 = .ok (.iload 4, 2) := by decide +kernel
theorem ddX12_comes_166 : decode cX12_comes 166 = .ok (.iconst 1, 1) := by decide +kernel
theorem ddX12_comes_167 : decode cX12_comes 167 = .ok (.isub, 1) := by decide +kernel
theorem ddX12_comes_168 : decode cX12_comes 168 = .ok (.iaload, 1) := by decide +kernel
theorem ddX12_comes_169 : decode cX12_comes 169 = .ok (.aload_n 0, 1) := by decide +kernel
theorem ddX12_comes_170 : decode cX12_comes 170 = .ok (.getfield 95, 3) := by decide +kernel
theorem ddX12_comes_173 : decode cX12_comes 173 = .ok (.iload 4, 2) := by decide +kernel
theorem ddX12_comes_175 : decode cX12_comes 175 = .ok (.iaload, 1) := by decide +kernel
theorem ddX12_comes_176 : decode cX12_comes 176 = .ok (.invokestatic 359, 3) := by decide +kernel
theorem ddX12_comes_179 : decode cX12_comes 179 = .ok (.iastore, 1) := by decide +kernel
theorem ddX12_comes_180 : decode cX12_comes 180 = .ok (.iinc 5 1, 3) := by decide +kernel
theorem ddX12_comes_183 : decode cX12_comes 183 = .ok (.goto (-156), 3) := by decide +kernel
theorem ddX12_comes_186 : decode cX12_comes 186 = .ok (.aload_n 0, 1) := by decide +kernel
theorem ddX12_comes_187 : decode cX12_comes 187 = .ok (.getfield 95, 3) := by decide +kernel
theorem ddX12_comes_190 : decode cX12_comes 190 = .ok (.iconst 0, 1) := by decide +kernel
theorem ddX12_comes_191 : decode cX12_comes 191 = .ok (.iaload, 1) := by decide +kernel
theorem ddX12_comes_192 : decode cX12_comes 192 = .ok (.ifCond .ge 7, 3) := by decide +kernel
theorem ddX12_comes_195 : decode cX12_comes 195 = .ok (.iconst 0, 1) := by decide +kernel
theorem ddX12_comes_196 : decode cX12_comes 196 = .ok (.goto 27, 3) := by decide +kernel
theorem ddX12_comes_199 : decode cX12_comes 199 = .ok (.aload_n 0, 1) := by decide +kernel
theorem ddX12_comes_200 : decode cX12_comes 200 = .ok (.getfield 95, 3) := by decide +kernel
theorem ddX12_comes_203 : decode cX12_comes 203 = .ok (.iconst 0, 1) := by decide +kernel
theorem ddX12_comes_204 : decode cX12_comes 204 = .ok (.iaload, 1) := by decide +kernel
theorem ddX12_comes_205 : decode cX12_comes 205 = .ok (.sipush 9999, 3) := by decide +kernel
theorem ddX12_comes_208 : decode cX12_comes 208 = .ok (.if_icmp .le 9, 3) := by decide +kernel
theorem ddX12_comes_211 : decode cX12_comes 211 = .ok (.sipush 9999, 3) := by decide +kernel
theorem ddX12_comes_214 : decode cX12_comes 214 = .ok (.goto 9, 3) := by decide +kernel
theorem ddX12_comes_217 : decode cX12_comes 217 = .ok (.aload_n 0, 1) := by decide +kernel
theorem ddX12_comes_218 : decode cX12_comes 218 = .ok (.getfield 95, 3) := by decide +kernel
theorem ddX12_comes_221 : decode cX12_comes 221 = .ok (.iconst 0, 1) := by decide +kernel
theorem ddX12_comes_222 : decode cX12_comes 222 = .ok (.iaload, 1) := by decide +kernel
theorem ddX12_comes_223 : decode cX12_comes 223 = .ok (.ireturn, 1) := by decide +kernel
def wq_k_X12_comes : List Cond := Cond.code yX12_comes cX12_comes 7 (some .int) :: (([Cond.fieldLink RX12 70 "CrowTollModel" "isLaw" "[Z", Cond.fieldLink RX12 286 "CrowTollModel" "bank" "I", Cond.fieldLink RX12 63 "CrowTollModel" "ruleTo" "[I", Cond.fieldLink RX12 83 "CrowTollModel" "code" "[I", Cond.methodLink RX12 231 yX12_isLetter, Cond.static yX12_isLetter, Cond.initialized RX12, Cond.code yX12_isLetter cX12_isLetter 1 (some .boolean), Cond.fieldLink RX12 95 "CrowTollModel" "pile" "[I", Cond.fieldLink RX12 86 "CrowTollModel" "codeNumber" "[I", Cond.methodLink RX12 359 yX12_two, Cond.static yX12_two, Cond.code yX12_two cX12_two 3 (some .int)] : List Cond) ++ wsX120)
set_option maxRecDepth 20000 in
theorem gr_k_X12_comes_k_X12_isLetter : GoodIn wq_k_X12_comes wq_k_X12_isLetter := List.forall_mem_cons.mpr ⟨⟨(List.mem_of_getElem? (i := 8) rfl), good_of_word rfl⟩, (fun _ h => absurd h List.not_mem_nil)⟩
set_option maxRecDepth 20000 in
theorem gq_k_X12_comes_k_X12_isLetter_231 : GoodIn wq_k_X12_comes (va_wsS RX12 231 yX12_isLetter wq_k_X12_isLetter) := goodIn_app (List.forall_mem_cons.mpr ⟨⟨(List.mem_of_getElem? (i := 5) rfl), good_of_word rfl⟩, List.forall_mem_cons.mpr ⟨⟨(List.mem_of_getElem? (i := 6) rfl), good_of_word rfl⟩, List.forall_mem_cons.mpr ⟨⟨(List.mem_of_getElem? (i := 7) rfl), good_of_word rfl⟩, (fun _ h => absurd h List.not_mem_nil)⟩⟩⟩) gr_k_X12_comes_k_X12_isLetter
set_option maxRecDepth 20000 in
theorem gr_k_X12_comes_k_X12_two : GoodIn wq_k_X12_comes wq_k_X12_two := List.forall_mem_cons.mpr ⟨⟨(List.mem_of_getElem? (i := 13) rfl), good_of_word rfl⟩, (fun _ h => absurd h List.not_mem_nil)⟩
set_option maxRecDepth 20000 in
theorem gq_k_X12_comes_k_X12_two_359 : GoodIn wq_k_X12_comes (va_wsS RX12 359 yX12_two wq_k_X12_two) := goodIn_app (List.forall_mem_cons.mpr ⟨⟨(List.mem_of_getElem? (i := 11) rfl), good_of_word rfl⟩, List.forall_mem_cons.mpr ⟨⟨(List.mem_of_getElem? (i := 12) rfl), good_of_word rfl⟩, List.forall_mem_cons.mpr ⟨⟨(List.mem_of_getElem? (i := 7) rfl), good_of_word rfl⟩, (fun _ h => absurd h List.not_mem_nil)⟩⟩⟩) gr_k_X12_comes_k_X12_two
set_option maxHeartbeats 8000000 in
set_option maxRecDepth 100000 in
theorem k_X12_comes (l : Launch) (D : va_G) (cy : Nat → ClassId) (ad : Nat → Nat) (g : Nat → va_E) {u0_0 : Value} {u0_1 : Value} {u0_2 : Value} {u0_3 : Value} {u0_4 : Value} {u0_5 : Value} {u0_6 : Value} {u0_7 : Value} {u0_8 : Value} {u0_9 : Value} {u0_10 : Value} {u0_11 : Value} {u0_12 : Value} {u0_13 : Value} {u0_14 : Value} {u0_15 : Value} {u0_16 : Value} {u0_17 : Value} {u0_18 : Value} {u0_19 : Value} {u0_20 : Value} {u0_21 : Value} {u0_22 : Value} {u0_23 : Value} {u0_24 : Value} {u0_26 : Value} {u0_28 : Value} {u0_29 : Value} {u0_30 : Value} {u0_33 : Value} {u0_34 : Value} {x0_36 : Int32} {u0_37 : Value} {u0_38 : Value} {u0_39 : Value} {u0_40 : Value} {u0_41 : Value} {u0_42 : Value} {u0_43 : Value} {u0_44 : Value} {u0_45 : Value} {u0_46 : Value} {u0_47 : Value} {u0_48 : Value} {u0_49 : Value} {u0_50 : Value} {u0_51 : Value} {u0_52 : Value} {u0_53 : Value} {u0_54 : Value} {u0_55 : Value} {u0_56 : Value} {u0_57 : Value} {u0_58 : Value} {u0_59 : Value} {u0_60 : Value} {u0_61 : Value} {u0_62 : Value} {u0_63 : Value} {u0_64 : Value} {u0_65 : Value} {u0_66 : Value} {u0_67 : Value} {u0_68 : Value} {u0_69 : Value} {u0_70 : Value} {u0_71 : Value} {u0_72 : Value} {u0_73 : Value} {c1 : Nat → Int32} {c2 : Nat → Int32} {c3 : Nat → Int32} {c4 : Nat → Int32} {c5 : Nat → Int32} {sacks : Int32} {its : Int32} {nth : Int32} (o0 : g 0 = .inr (12, [u0_0, u0_1, u0_2, u0_3, u0_4, u0_5, u0_6, u0_7, u0_8, u0_9, u0_10, u0_11, u0_12, u0_13, u0_14, u0_15, u0_16, u0_17, u0_18, u0_19, u0_20, u0_21, u0_22, u0_23, u0_24, .ref (ad 2), u0_26, .ref (ad 1), u0_28, u0_29, u0_30, .ref (ad 3), .ref (ad 4), u0_33, u0_34, .ref (ad 5), .int x0_36, u0_37, u0_38, u0_39, u0_40, u0_41, u0_42, u0_43, u0_44, u0_45, u0_46, u0_47, u0_48, u0_49, u0_50, u0_51, u0_52, u0_53, u0_54, u0_55, u0_56, u0_57, u0_58, u0_59, u0_60, u0_61, u0_62, u0_63, u0_64, u0_65, u0_66, u0_67, u0_68, u0_69, u0_70, u0_71, u0_72, u0_73])) (a1 : g 1 = .inl (cy 2, 2, .inl c1)) (a2 : g 2 = .inl (cy 0, 2, .inl c2)) (a3 : g 3 = .inl (cy 0, 980, .inl c3)) (a4 : g 4 = .inl (cy 0, 980, .inl c4)) (a5 : g 5 = .inl (cy 0, 60, .inl c5)) (b0_36 : zi 0 1 x0_36) (ha1 : za 0 1 c1) (ha2 : za 0 980 c2) (hF : zf c1 c3 c2 x0_36) : cMi l yX12_comes wq_k_X12_comes { frames := 1, cells := 0, slots := 0, locals := 22 } 6 0 0 0 D cy ad g [.ref (ad 0), .int sacks, .int its, .int nth] (fun r nw lu => ∃ (d5 : Nat → Int32), lu = [(5, .inl (cy 0, 60, .inl d5))]) := by
  refine cM_of (Qc := fun A => cQi (fun r nw lu => ∃ (d5 : Nat → Int32), lu = [(5, .inl (cy 0, 60, .inl d5))]) D 6 0 ad g A) (cc := cX12_comes) (maxL := 7) (ret := (some .int)) (by decide) rfl (Nat.le_of_ble_eq_true rfl) ?_
  intro p e s m below meth c A hC hr hlk hnm hO ls hl
  have hC : CallFix p m c cX12_comes 7 s [.ref (ad 0), .int sacks, .int its, .int nth].toArray wq_k_X12_comes RX12 := hC
  obtain ⟨hx, hb, hml, hown, hts⟩ := id hC
  have hl : lv_has ls 7 [(0, .ref (ad 0)), (1, .int sacks), (2, .int its), (3, .int nth)] := hl
  have i_X12 : ∀ w ∈ wsX120, w ∈ wq_k_X12_comes := fun w h => List.mem_cons_of_mem _ (List.mem_append_right _ h)
  have hO := hO.notes [(5, .inl (cy 0, 60, .inl c5))] (List.forall_mem_cons.mpr ⟨a5, (fun _ h => absurd h List.not_mem_nil)⟩)
  refine lv_aload_n hx hb ddX12_comes_0 rfl (lv_at hl 0 rfl) ?_
  refine cg_get hC hO 0 (by decide) o0 rfl i_X12 27 (by decide) (List.mem_of_getElem? (i := 1) rfl) rfl ddX12_comes_1 ?_
  refine lv_aload_n hx hb ddX12_comes_4 rfl (lv_at hl 0 rfl) ?_
  refine cg_get hC hO 0 (by decide) o0 rfl i_X12 36 (by decide) (List.mem_of_getElem? (i := 2) rfl) rfl ddX12_comes_5 ?_
  refine zg_zaldE hC hO 1 (by decide) a1 ha1 (zi_in b0_36 (by decide)) ddX12_comes_8 (fun v_8_3893 z_8_3894 el_8_3895 => ?_)
  refine lv_if_ne (tgt := 14) hx hb ddX12_comes_9 (by decide) (fun h_9_3896 => ?_) (fun h_9_3896 => ?_)
  · have q_9_3897 := zr_ne h_9_3896
    have z_9_3898 : zi 1 1 v_8_3893 := zn_lo q_9_3897 z_8_3894 (zi_k (a := 0) (b := 0) (x := 0) rfl) (by decide)
    refine lv_iconst (v := 0) hx hb ddX12_comes_14 (by decide) ?_
    refine lv_istore (lv' := [(4, .int 0), (0, .ref (ad 0)), (1, .int sacks), (2, .int its), (3, .int nth)]) hx hb ddX12_comes_15 hl (by decide) rfl (fun ls hl => ?_)
    refine lv_sipush (v := 490) hx hb ddX12_comes_17 (by decide) ?_
    refine lv_aload_n hx hb ddX12_comes_20 rfl (lv_at hl 1 rfl) ?_
    refine cg_get hC hO 0 (by decide) o0 rfl i_X12 36 (by decide) (List.mem_of_getElem? (i := 2) rfl) rfl ddX12_comes_21 ?_
    refine lv_imul hx hb ddX12_comes_24 ?_
    refine zg_top2 (P := fun v => zi 0 490 v) (E := fun v => v.toInt = 490 * (x0_36 : Int32).toInt) (zi_mulk (zi_k (a := 490) (b := 490) (x := 490) rfl) b0_36 (n := 490) (by decide) (by decide)) (fun v_24_3899 z_24_3900 q_24_3901 => ?_)
    refine lv_istore (lv' := [(5, .int v_24_3899), (4, .int 0), (0, .ref (ad 0)), (1, .int sacks), (2, .int its), (3, .int nth)]) hx hb ddX12_comes_25 hl (by decide) rfl (fun ls hl => ?_)
    have loop_27_5844 : ∀ (d_27_5845 : Nat) (v_27_5590 : Int32) (v_27_5592 : Int32) (c_27_5594 : Nat → Int32), zi 0 980 v_27_5590 → zi 0 60 v_27_5592 → za (-2147483648) 2147483647 c_27_5594 → drun c3 (490 * x0_36.toInt).toNat ((v_27_5590 : Int32).toInt - 490 * x0_36.toInt).toNat = some (v_27_5592 : Int32).toInt.toNat → 490 * x0_36.toInt ≤ (v_27_5590 : Int32).toInt → (980 + 1 - v_27_5590.toInt).toNat < d_27_5845 → ∀ (H : Heap) (locs : List Loc), cO D cy A s.heap s 6 ad (cup [(5, .inl (cy 0, 60, .inl c_27_5594))] g) H locs → ∀ ls : Array Slot, lv_has ls 7 [(5, .int v_27_5590), (4, .int v_27_5592), (0, .ref (ad 0)), (1, .int sacks), (2, .int its), (3, .int nth)] → W p l e { frames := 1, cells := 0, slots := 0, locals := 22 } s m [.ref (ad 0), .int sacks, .int its, .int nth].toArray below meth c H locs 0 0 (MQ below (cQi (fun r nw lu => ∃ (d5 : Nat → Int32), lu = [(5, .inl (cy 0, 60, .inl d5))]) D 6 0 ad g A) [.ref (ad 0), .int sacks, .int its, .int nth].toArray s 0 0 A) (F0 m 27 ls [])  := by
      intro d_27_5845
      induction d_27_5845 with
      | zero => intro v_27_5590 v_27_5592 c_27_5594 z_27_5591 z_27_5593 zc_27_5595 hd_27_5596 kg_27_5597 mu_27_5846; exact absurd mu_27_5846 (Nat.not_lt_zero _)
      | succ d_27_5845 ih_27_5847 =>
        intro v_27_5590 v_27_5592 c_27_5594 z_27_5591 z_27_5593 zc_27_5595 hd_27_5596 kg_27_5597 mu_27_5846 H locs hO ls hl
        refine lv_iload hx hb ddX12_comes_27 (lv_at hl 0 rfl) ?_
        refine lv_aload_n hx hb ddX12_comes_29 rfl (lv_at hl 2 rfl) ?_
        refine cg_get hC hO 0 (by decide) o0 rfl i_X12 25 (by decide) (List.mem_of_getElem? (i := 3) rfl) rfl ddX12_comes_30 ?_
        refine lv_aload_n hx hb ddX12_comes_33 rfl (lv_at hl 2 rfl) ?_
        refine cg_get hC hO 0 (by decide) o0 rfl i_X12 36 (by decide) (List.mem_of_getElem? (i := 2) rfl) rfl ddX12_comes_34 ?_
        refine zg_ialdE hC hO 2 (by decide) a2 ha2 (zi_in b0_36 (by decide)) ddX12_comes_37 (fun v_37_5848 z_37_5849 el_37_5850 => ?_)
        refine lv_icmp_ge (tgt := 186) hx hb ddX12_comes_38 (by decide) (fun h_38_5851 => ?_) (fun h_38_5851 => ?_)
        · have q_38_5965 := zr_le h_38_5851
          refine lv_aload_n hx hb ddX12_comes_186 rfl (lv_at hl 2 rfl) ?_
          refine cg_get hC hO 0 (by decide) o0 rfl i_X12 35 (by decide) (List.mem_of_getElem? (i := 9) rfl) rfl ddX12_comes_187 ?_
          refine lv_iconst (v := 0) hx hb ddX12_comes_190 (by decide) ?_
          refine zg_iald hC hO 5 (by decide) rfl zc_27_5595 (cin (by decide)) ddX12_comes_191 (fun v_191_5966 z_191_5967 => ?_)
          refine lv_if_ge (tgt := 199) hx hb ddX12_comes_192 (by decide) (fun h_192_5968 => ?_) (fun h_192_5968 => ?_)
          · have q_192_5969 := zr_le h_192_5968
            have z_192_5970 : zi 0 2147483647 v_191_5966 := zd_le q_192_5969 (zi_k (a := 0) (b := 0) (x := 0) rfl) z_191_5967 (by decide)
            refine lv_aload_n hx hb ddX12_comes_199 rfl (lv_at hl 2 rfl) ?_
            refine cg_get hC hO 0 (by decide) o0 rfl i_X12 35 (by decide) (List.mem_of_getElem? (i := 9) rfl) rfl ddX12_comes_200 ?_
            refine lv_iconst (v := 0) hx hb ddX12_comes_203 (by decide) ?_
            refine zg_iald hC hO 5 (by decide) rfl zc_27_5595 (cin (by decide)) ddX12_comes_204 (fun v_204_5971 z_204_5972 => ?_)
            refine lv_sipush (v := 9999) hx hb ddX12_comes_205 (by decide) ?_
            refine lv_icmp_le (tgt := 217) hx hb ddX12_comes_208 (by decide) (fun h_208_5973 => ?_) (fun h_208_5973 => ?_)
            · have q_208_5974 := zr_le h_208_5973
              have z_208_5975 : zi (-2147483648) 9999 v_204_5971 := zu_le q_208_5974 z_204_5972 (zi_k (a := 9999) (b := 9999) (x := 9999) rfl) (by decide)
              refine lv_aload_n hx hb ddX12_comes_217 rfl (lv_at hl 2 rfl) ?_
              refine cg_get hC hO 0 (by decide) o0 rfl i_X12 35 (by decide) (List.mem_of_getElem? (i := 9) rfl) rfl ddX12_comes_218 ?_
              refine lv_iconst (v := 0) hx hb ddX12_comes_221 (by decide) ?_
              refine zg_iald hC hO 5 (by decide) rfl zc_27_5595 (cin (by decide)) ddX12_comes_222 (fun v_222_5976 z_222_5977 => ?_)
              exact cg_iret (nw := fun _ => 0) hC hr hlk hO.same rfl (Nat.le_of_ble_eq_true rfl) (Nat.le_of_ble_eq_true rfl) (⟨c_27_5594, rfl⟩) ddX12_comes_223
            · have q_208_5978 := zr_nle h_208_5973
              have z_208_5979 : zi 10000 2147483647 v_204_5971 := zd_lt q_208_5978 (zi_k (a := 9999) (b := 9999) (x := 9999) rfl) z_204_5972 (by decide)
              refine lv_sipush (v := 9999) hx hb ddX12_comes_211 (by decide) ?_
              refine lv_goto (tgt := 223) hx hb ddX12_comes_214 (by decide) ?_
              exact cg_iret (nw := fun _ => 0) hC hr hlk hO.same rfl (Nat.le_of_ble_eq_true rfl) (Nat.le_of_ble_eq_true rfl) (⟨c_27_5594, rfl⟩) ddX12_comes_223
          · have q_192_5980 := zr_nle h_192_5968
            have z_192_5981 : zi (-2147483648) (-1) v_191_5966 := zu_lt q_192_5980 z_191_5967 (zi_k (a := 0) (b := 0) (x := 0) rfl) (by decide)
            refine lv_iconst (v := 0) hx hb ddX12_comes_195 (by decide) ?_
            refine lv_goto (tgt := 223) hx hb ddX12_comes_196 (by decide) ?_
            exact cg_iret (nw := fun _ => 0) hC hr hlk hO.same rfl (Nat.le_of_ble_eq_true rfl) (Nat.le_of_ble_eq_true rfl) (⟨c_27_5594, rfl⟩) ddX12_comes_223
        · have q_38_5982 := zr_nle h_38_5851
          have z_38_5983 : zi 0 979 v_27_5590 := zu_lt q_38_5982 z_27_5591 z_37_5849 (by decide)
          have z_38_5984 : zi 1 980 v_37_5848 := zd_lt q_38_5982 z_27_5591 z_37_5849 (by decide)
          refine lv_aload_n hx hb ddX12_comes_41 rfl (lv_at hl 2 rfl) ?_
          refine cg_get hC hO 0 (by decide) o0 rfl i_X12 31 (by decide) (List.mem_of_getElem? (i := 4) rfl) rfl ddX12_comes_42 ?_
          refine lv_iload hx hb ddX12_comes_45 (lv_at hl 0 rfl) ?_
          refine zg_ialdE hC hO 3 (by decide) a3 (za_all _) (zi_in z_38_5983 (by decide)) ddX12_comes_47 (fun v_47_5985 z_47_5986 el_47_5987 => ?_)
          obtain ⟨len_48_5988, nn_48_5989, e1_48_5990, e2_48_5991, e3_48_5992⟩ := hF (by rw [el_8_3895]; exact h_9_3896)
          rw [el_37_5850] at e1_48_5990
          obtain ⟨np_48_5993, hs_48_5994, hdn_48_5995⟩ := drun_at e3_48_5992 (show (v_27_5590.toInt - 490 * x0_36.toInt).toNat < len_48_5988 by omega) hd_27_5596
          have hk_48_5996 : (490 * x0_36.toInt).toNat + (v_27_5590.toInt - 490 * x0_36.toInt).toNat = v_27_5590.toNatClampNeg := by have e : v_27_5590.toNatClampNeg = v_27_5590.toInt.toNat := rfl; omega
          rw [hk_48_5996, el_47_5987] at hs_48_5994
          refine lv_istore (lv' := [(6, .int v_47_5985), (5, .int v_27_5590), (4, .int v_27_5592), (0, .ref (ad 0)), (1, .int sacks), (2, .int its), (3, .int nth)]) hx hb ddX12_comes_48 hl (by decide) rfl (fun ls hl => ?_)
          refine lv_iload hx hb ddX12_comes_50 (lv_at hl 0 rfl) ?_
          refine lv_bipush (v := 126) hx hb ddX12_comes_52 (by decide) ?_
          refine lv_icmp_ne (tgt := 86) hx hb ddX12_comes_54 (by decide) (fun h_54_5997 => ?_) (fun h_54_5997 => ?_)
          · refine lv_iload hx hb ddX12_comes_86 (lv_at hl 0 rfl) ?_
            refine cg_Si (As := [.int v_47_5985]) (rest := []) (mc := 0) (ms := 0) (rm := { frames := 0, cells := 0, slots := 0, locals := 0 }) hC hl.1 hO [] (by decide +kernel) (k_X12_isLetter l D cy _ _ (n := v_47_5985) ) gq_k_X12_comes_k_X12_isLetter_231 rfl rfl rfl 1 (by decide +kernel) ⟨Nat.le_of_ble_eq_true rfl, Nat.le_of_ble_eq_true rfl⟩ rfl rfl (Nat.le_of_ble_eq_true rfl) ddX12_comes_88 ⟨Nat.le_of_ble_eq_true rfl, Nat.le_of_ble_eq_true rfl⟩ (fun r_88_6000 nw_88_5998 l_88_5999 H locs hw hO => ?_)
            rcases hw with hw | hw
            · obtain ⟨z_88_6001, q_88_6002, q_88_6003, rfl, rfl⟩ := hw
              have hO : cO D cy A s.heap s 6 ad (cup [(5, .inl (cy 0, 60, .inl c_27_5594))] g) _ _ := hO
              have q_88_6004 := q_88_6002
              have q_88_6005 := q_88_6003
              refine lv_if_eq (tgt := 147) hx hb ddX12_comes_91 (by decide) (fun h => absurd h (by decide)) (fun _ => ?_)
              obtain ⟨a1_94_6006, a2_94_6007⟩ := dstep_let hs_48_5994 h_54_5997 (by have z1 : (97 : Int32).toInt = 97 := (by decide); have z2 : (122 : Int32).toInt = 122 := (by decide); omega)
              have z_94_6008 : zi 0 59 v_27_5592 := by have := z_27_5593; exact ⟨by omega, by omega⟩
              refine lv_aload_n hx hb ddX12_comes_94 rfl (lv_at hl 3 rfl) ?_
              refine cg_get hC hO 0 (by decide) o0 rfl i_X12 35 (by decide) (List.mem_of_getElem? (i := 9) rfl) rfl ddX12_comes_95 ?_
              refine lv_iload hx hb ddX12_comes_98 (lv_at hl 2 rfl) ?_
              refine lv_iload hx hb ddX12_comes_100 (lv_at hl 0 rfl) ?_
              refine lv_bipush (v := 110) hx hb ddX12_comes_102 (by decide) ?_
              have J_140_6021 : ∀ (v_140_6020 : Int32), ∀ (H : Heap) (locs : List Loc), cO D cy A s.heap s 6 ad (cup [(5, .inl (cy 0, 60, .inl c_27_5594))] g) H locs → ∀ ls : Array Slot, lv_has ls 7 [(6, .int v_47_5985), (5, .int v_27_5590), (4, .int v_27_5592), (0, .ref (ad 0)), (1, .int sacks), (2, .int its), (3, .int nth)] → W p l e { frames := 1, cells := 0, slots := 0, locals := 22 } s m [.ref (ad 0), .int sacks, .int its, .int nth].toArray below meth c H locs 0 0 (MQ below (cQi (fun r nw lu => ∃ (d5 : Nat → Int32), lu = [(5, .inl (cy 0, 60, .inl d5))]) D 6 0 ad g A) [.ref (ad 0), .int sacks, .int its, .int nth].toArray s 0 0 A) (F0 m 140 ls [.int v_140_6020, .int v_27_5592, .ref (ad 5)]) := by
                intro v_140_6020 H locs hO ls hl
                refine zg_iast hC hO 5 (by decide) rfl zc_27_5595 (zi_all v_140_6020) (zi_in z_94_6008 (by decide)) ddX12_comes_140 (fun H locs c_140_6022 zc_140_6023 hO => ?_)
                have hO : cO D cy A s.heap s 6 ad (cup [(5, .inl (cy 0, 60, .inl c_140_6022))] g) _ _ := hO
                obtain ⟨v_141_6024, e_141_6025, z_141_6026, q_141_6027⟩ := zi_inc (e := 1) (f := 60) 1 z_94_6008 (by decide)
                refine lv_iinc (v := v_141_6024) (lv' := [(4, .int v_141_6024), (6, .int v_47_5985), (5, .int v_27_5590), (0, .ref (ad 0)), (1, .int sacks), (2, .int its), (3, .int nth)]) hx hb ddX12_comes_141 hl (k := 2) rfl e_141_6025 (by decide) rfl (fun ls hl => ?_)
                refine lv_goto (tgt := 180) hx hb ddX12_comes_144 (by decide) ?_
                obtain ⟨v_180_6028, e_180_6029, z_180_6030, q_180_6031⟩ := zi_inc (e := 1) (f := 980) 1 z_38_5983 (by decide)
                refine lv_iinc (v := v_180_6028) (lv' := [(5, .int v_180_6028), (4, .int v_141_6024), (6, .int v_47_5985), (0, .ref (ad 0)), (1, .int sacks), (2, .int its), (3, .int nth)]) hx hb ddX12_comes_180 hl (k := 2) rfl e_180_6029 (by decide) rfl (fun ls hl => ?_)
                refine lv_goto (tgt := 27) hx hb ddX12_comes_183 (by decide) ?_
                exact ih_27_5847 v_180_6028 v_141_6024 c_140_6022 (zi_w (c := 0) (d := 980) z_180_6030 (by decide)) (zi_w (c := 0) (d := 60) z_141_6026 (by decide)) zc_140_6023 (drun_back hdn_48_5995 (by omega) (by omega)) (by omega) (zm_up q_180_6031 ((zi_w (c := 0) (d := 980) z_180_6030 (by decide))).2 (by decide) mu_27_5846) _ _ hO ls (lv_sub hl [0, 1, 3, 4, 5, 6] rfl)
              refine lv_icmp_ne (tgt := 117) hx hb ddX12_comes_104 (by decide) (fun h_104_6009 => ?_) (fun h_104_6009 => ?_)
              · refine lv_iload hx hb ddX12_comes_117 (lv_at hl 0 rfl) ?_
                refine lv_bipush (v := 115) hx hb ddX12_comes_119 (by decide) ?_
                refine lv_icmp_ne (tgt := 128) hx hb ddX12_comes_121 (by decide) (fun h_121_6032 => ?_) (fun h_121_6032 => ?_)
                · refine lv_iload hx hb ddX12_comes_128 (lv_at hl 0 rfl) ?_
                  refine lv_bipush (v := 116) hx hb ddX12_comes_130 (by decide) ?_
                  refine lv_icmp_ne (tgt := 139) hx hb ddX12_comes_132 (by decide) (fun h_132_6033 => ?_) (fun h_132_6033 => ?_)
                  · refine lv_iload_n hx hb ddX12_comes_139 rfl (lv_at hl 6 rfl) ?_
                    exact J_140_6021 nth _ _ hO ls (lv_sub hl [0, 1, 2, 3, 4, 5, 6] rfl)
                  · have q_132_6034 := zr_eq h_132_6033
                    have z_132_6035 : zi 116 116 v_47_5985 := ze_eq q_132_6034 z_88_6001 (zi_k (a := 116) (b := 116) (x := 116) rfl)
                    refine lv_iload_n hx hb ddX12_comes_135 rfl (lv_at hl 5 rfl) ?_
                    refine lv_goto (tgt := 140) hx hb ddX12_comes_136 (by decide) ?_
                    exact J_140_6021 its _ _ hO ls (lv_sub hl [0, 1, 2, 3, 4, 5, 6] rfl)
                · have q_121_6036 := zr_eq h_121_6032
                  have z_121_6037 : zi 115 115 v_47_5985 := ze_eq q_121_6036 z_88_6001 (zi_k (a := 115) (b := 115) (x := 115) rfl)
                  refine lv_iload_n hx hb ddX12_comes_124 rfl (lv_at hl 4 rfl) ?_
                  refine lv_goto (tgt := 140) hx hb ddX12_comes_125 (by decide) ?_
                  exact J_140_6021 sacks _ _ hO ls (lv_sub hl [0, 1, 2, 3, 4, 5, 6] rfl)
              · have q_104_6038 := zr_eq h_104_6009
                have z_104_6039 : zi 110 110 v_47_5985 := ze_eq q_104_6038 z_88_6001 (zi_k (a := 110) (b := 110) (x := 110) rfl)
                refine lv_aload_n hx hb ddX12_comes_107 rfl (lv_at hl 3 rfl) ?_
                refine cg_get hC hO 0 (by decide) o0 rfl i_X12 32 (by decide) (List.mem_of_getElem? (i := 10) rfl) rfl ddX12_comes_108 ?_
                refine lv_iload hx hb ddX12_comes_111 (lv_at hl 1 rfl) ?_
                refine zg_iald hC hO 4 (by decide) a4 (za_all _) (zi_in z_38_5983 (by decide)) ddX12_comes_113 (fun v_113_6040 z_113_6041 => ?_)
                refine lv_goto (tgt := 140) hx hb ddX12_comes_114 (by decide) ?_
                exact J_140_6021 v_113_6040 _ _ hO ls (lv_sub hl [0, 1, 2, 3, 4, 5, 6] rfl)
            · obtain ⟨xf_88_6042, rfl, rfl⟩ := hw
              have hO : cO D cy A s.heap s 6 ad (cup [(5, .inl (cy 0, 60, .inl c_27_5594))] g) _ _ := hO
              refine lv_if_eq (tgt := 147) hx hb ddX12_comes_91 (by decide) (fun _ => ?_) (fun h => absurd h (by decide))
              obtain ⟨a1_147_6043, a2_147_6044⟩ := dstep_op hs_48_5994 h_54_5997 xf_88_6042
              have z_147_6045 : zi 2 60 v_27_5592 := by have := z_27_5593; exact ⟨by omega, by omega⟩
              obtain ⟨v_147_6046, e_147_6047, z_147_6048, q_147_6049⟩ := zi_inc (e := 1) (f := 59) (-1) z_147_6045 (by decide)
              refine lv_iinc (v := v_147_6046) (lv' := [(4, .int v_147_6046), (6, .int v_47_5985), (5, .int v_27_5590), (0, .ref (ad 0)), (1, .int sacks), (2, .int its), (3, .int nth)]) hx hb ddX12_comes_147 hl (k := 2) rfl e_147_6047 (by decide) rfl (fun ls hl => ?_)
              refine lv_aload_n hx hb ddX12_comes_150 rfl (lv_at hl 3 rfl) ?_
              refine cg_get hC hO 0 (by decide) o0 rfl i_X12 35 (by decide) (List.mem_of_getElem? (i := 9) rfl) rfl ddX12_comes_151 ?_
              refine lv_iload hx hb ddX12_comes_154 (lv_at hl 0 rfl) ?_
              refine lv_iconst (v := 1) hx hb ddX12_comes_156 (by decide) ?_
              refine lv_isub hx hb ddX12_comes_157 ?_
              refine zg_top2 (P := fun v => zi 0 58 v) (E := fun v => v.toInt = v_147_6046.toInt + -1) (zi_subk z_147_6048 (n := 1) (by decide) (by decide)) (fun v_157_6050 z_157_6051 q_157_6052 => ?_)
              refine lv_iload hx hb ddX12_comes_158 (lv_at hl 1 rfl) ?_
              refine lv_aload_n hx hb ddX12_comes_160 rfl (lv_at hl 3 rfl) ?_
              refine cg_get hC hO 0 (by decide) o0 rfl i_X12 35 (by decide) (List.mem_of_getElem? (i := 9) rfl) rfl ddX12_comes_161 ?_
              refine lv_iload hx hb ddX12_comes_164 (lv_at hl 0 rfl) ?_
              refine lv_iconst (v := 1) hx hb ddX12_comes_166 (by decide) ?_
              refine lv_isub hx hb ddX12_comes_167 ?_
              refine zg_top2 (P := fun v => zi 0 58 v) (E := fun v => v.toInt = v_147_6046.toInt + -1) (zi_subk z_147_6048 (n := 1) (by decide) (by decide)) (fun v_167_6053 z_167_6054 q_167_6055 => ?_)
              refine zg_iald hC hO 5 (by decide) rfl zc_27_5595 (zi_in z_167_6054 (by decide)) ddX12_comes_168 (fun v_168_6056 z_168_6057 => ?_)
              refine lv_aload_n hx hb ddX12_comes_169 rfl (lv_at hl 3 rfl) ?_
              refine cg_get hC hO 0 (by decide) o0 rfl i_X12 35 (by decide) (List.mem_of_getElem? (i := 9) rfl) rfl ddX12_comes_170 ?_
              refine lv_iload hx hb ddX12_comes_173 (lv_at hl 0 rfl) ?_
              refine zg_iald hC hO 5 (by decide) rfl zc_27_5595 (zi_in z_147_6048 (by decide)) ddX12_comes_175 (fun v_175_6058 z_175_6059 => ?_)
              refine cg_Si (As := [.int v_47_5985, .int v_168_6056, .int v_175_6058]) (rest := [.int v_157_6050, .ref (ad 5)]) (mc := 0) (ms := 0) (rm := { frames := 0, cells := 0, slots := 0, locals := 0 }) hC hl.1 hO [] (by decide +kernel) (k_X12_two l D cy _ _ (cx := v_47_5985) (ax := v_168_6056) (bx := v_175_6058) ) gq_k_X12_comes_k_X12_two_359 rfl rfl rfl 3 (by decide +kernel) ⟨Nat.le_of_ble_eq_true rfl, Nat.le_of_ble_eq_true rfl⟩ rfl rfl (Nat.le_of_ble_eq_true rfl) ddX12_comes_176 ⟨Nat.le_of_ble_eq_true rfl, Nat.le_of_ble_eq_true rfl⟩ (fun r_176_6062 nw_176_6060 l_176_6061 H locs hw hO => ?_)
              obtain rfl := hw
              have hO : cO D cy A s.heap s 6 ad (cup [(5, .inl (cy 0, 60, .inl c_27_5594))] g) _ _ := hO
              refine zg_iast hC hO 5 (by decide) rfl zc_27_5595 (zi_all r_176_6062) (zi_in z_157_6051 (by decide)) ddX12_comes_179 (fun H locs c_179_6063 zc_179_6064 hO => ?_)
              have hO : cO D cy A s.heap s 6 ad (cup [(5, .inl (cy 0, 60, .inl c_179_6063))] g) _ _ := hO
              obtain ⟨v_180_6065, e_180_6066, z_180_6067, q_180_6068⟩ := zi_inc (e := 1) (f := 980) 1 z_38_5983 (by decide)
              refine lv_iinc (v := v_180_6065) (lv' := [(5, .int v_180_6065), (4, .int v_147_6046), (6, .int v_47_5985), (0, .ref (ad 0)), (1, .int sacks), (2, .int its), (3, .int nth)]) hx hb ddX12_comes_180 hl (k := 2) rfl e_180_6066 (by decide) rfl (fun ls hl => ?_)
              refine lv_goto (tgt := 27) hx hb ddX12_comes_183 (by decide) ?_
              exact ih_27_5847 v_180_6065 v_147_6046 c_179_6063 (zi_w (c := 0) (d := 980) z_180_6067 (by decide)) (zi_w (c := 0) (d := 60) z_147_6048 (by decide)) zc_179_6064 (drun_back hdn_48_5995 (by omega) (by omega)) (by omega) (zm_up q_180_6068 ((zi_w (c := 0) (d := 980) z_180_6067 (by decide))).2 (by decide) mu_27_5846) _ _ hO ls (lv_sub hl [0, 1, 3, 4, 5, 6] rfl)
          · have q_54_6069 := zr_eq h_54_5997
            have z_54_6070 : zi 126 126 v_47_5985 := ze_eq q_54_6069 z_47_5986 (zi_k (a := 126) (b := 126) (x := 126) rfl)
            obtain ⟨a1_57_6071, a2_57_6072⟩ := dstep_not hs_48_5994 h_54_5997
            have z_57_6073 : zi 1 60 v_27_5592 := by have := z_27_5593; exact ⟨by omega, by omega⟩
            refine lv_aload_n hx hb ddX12_comes_57 rfl (lv_at hl 3 rfl) ?_
            refine cg_get hC hO 0 (by decide) o0 rfl i_X12 35 (by decide) (List.mem_of_getElem? (i := 9) rfl) rfl ddX12_comes_58 ?_
            refine lv_iload hx hb ddX12_comes_61 (lv_at hl 2 rfl) ?_
            refine lv_iconst (v := 1) hx hb ddX12_comes_63 (by decide) ?_
            refine lv_isub hx hb ddX12_comes_64 ?_
            refine zg_top2 (P := fun v => zi 0 59 v) (E := fun v => v.toInt = v_27_5592.toInt + -1) (zi_subk z_57_6073 (n := 1) (by decide) (by decide)) (fun v_64_6074 z_64_6075 q_64_6076 => ?_)
            refine lv_aload_n hx hb ddX12_comes_65 rfl (lv_at hl 3 rfl) ?_
            refine cg_get hC hO 0 (by decide) o0 rfl i_X12 35 (by decide) (List.mem_of_getElem? (i := 9) rfl) rfl ddX12_comes_66 ?_
            refine lv_iload hx hb ddX12_comes_69 (lv_at hl 2 rfl) ?_
            refine lv_iconst (v := 1) hx hb ddX12_comes_71 (by decide) ?_
            refine lv_isub hx hb ddX12_comes_72 ?_
            refine zg_top2 (P := fun v => zi 0 59 v) (E := fun v => v.toInt = v_27_5592.toInt + -1) (zi_subk z_57_6073 (n := 1) (by decide) (by decide)) (fun v_72_6077 z_72_6078 q_72_6079 => ?_)
            refine zg_iald hC hO 5 (by decide) rfl zc_27_5595 (zi_in z_72_6078 (by decide)) ddX12_comes_73 (fun v_73_6080 z_73_6081 => ?_)
            have J_82_6087 : ∀ (v_82_6085 : Int32), zi 0 1 v_82_6085 → ∀ (H : Heap) (locs : List Loc), cO D cy A s.heap s 6 ad (cup [(5, .inl (cy 0, 60, .inl c_27_5594))] g) H locs → ∀ ls : Array Slot, lv_has ls 7 [(6, .int v_47_5985), (5, .int v_27_5590), (4, .int v_27_5592), (0, .ref (ad 0)), (1, .int sacks), (2, .int its), (3, .int nth)] → W p l e { frames := 1, cells := 0, slots := 0, locals := 22 } s m [.ref (ad 0), .int sacks, .int its, .int nth].toArray below meth c H locs 0 0 (MQ below (cQi (fun r nw lu => ∃ (d5 : Nat → Int32), lu = [(5, .inl (cy 0, 60, .inl d5))]) D 6 0 ad g A) [.ref (ad 0), .int sacks, .int its, .int nth].toArray s 0 0 A) (F0 m 82 ls [.int v_82_6085, .int v_64_6074, .ref (ad 5)]) := by
              intro v_82_6085 z_82_6086 H locs hO ls hl
              refine zg_iast hC hO 5 (by decide) rfl zc_27_5595 (zi_w (c := (-2147483648)) (d := 2147483647) z_82_6086 (by decide)) (zi_in z_64_6075 (by decide)) ddX12_comes_82 (fun H locs c_82_6088 zc_82_6089 hO => ?_)
              have hO : cO D cy A s.heap s 6 ad (cup [(5, .inl (cy 0, 60, .inl c_82_6088))] g) _ _ := hO
              refine lv_goto (tgt := 180) hx hb ddX12_comes_83 (by decide) ?_
              obtain ⟨v_180_6090, e_180_6091, z_180_6092, q_180_6093⟩ := zi_inc (e := 1) (f := 980) 1 z_38_5983 (by decide)
              refine lv_iinc (v := v_180_6090) (lv' := [(5, .int v_180_6090), (6, .int v_47_5985), (4, .int v_27_5592), (0, .ref (ad 0)), (1, .int sacks), (2, .int its), (3, .int nth)]) hx hb ddX12_comes_180 hl (k := 1) rfl e_180_6091 (by decide) rfl (fun ls hl => ?_)
              refine lv_goto (tgt := 27) hx hb ddX12_comes_183 (by decide) ?_
              exact ih_27_5847 v_180_6090 v_27_5592 c_82_6088 (zi_w (c := 0) (d := 980) z_180_6092 (by decide)) (zi_w (c := 0) (d := 60) z_57_6073 (by decide)) zc_82_6089 (drun_back hdn_48_5995 (by omega) (by omega)) (by omega) (zm_up q_180_6093 ((zi_w (c := 0) (d := 980) z_180_6092 (by decide))).2 (by decide) mu_27_5846) _ _ hO ls (lv_sub hl [0, 2, 3, 4, 5, 6] rfl)
            refine lv_if_ne (tgt := 81) hx hb ddX12_comes_74 (by decide) (fun h_74_6082 => ?_) (fun h_74_6082 => ?_)
            · refine lv_iconst (v := 0) hx hb ddX12_comes_81 (by decide) ?_
              exact J_82_6087 0 (zi_k (a := 0) (b := 1) (x := 0) rfl) _ _ hO ls (lv_sub hl [0, 1, 2, 3, 4, 5, 6] rfl)
            · have q_74_6094 := zr_eq h_74_6082
              have z_74_6095 : zi 0 0 v_73_6080 := ze_eq q_74_6094 z_73_6081 (zi_k (a := 0) (b := 0) (x := 0) rfl)
              refine lv_iconst (v := 1) hx hb ddX12_comes_77 (by decide) ?_
              refine lv_goto (tgt := 82) hx hb ddX12_comes_78 (by decide) ?_
              exact J_82_6087 1 (zi_k (a := 0) (b := 1) (x := 1) rfl) _ _ hO ls (lv_sub hl [0, 1, 2, 3, 4, 5, 6] rfl)
    exact loop_27_5844 ((980 + 1 - (v_24_3899 : Int32).toInt).toNat + 1) v_24_3899 0 c5 (zi_w (c := 0) (d := 980) z_24_3900 (by decide)) (zi_k (a := 0) (b := 60) (x := 0) rfl) (za_all _) (drun_0 (by omega) (by decide)) (by omega) (Nat.lt_succ_self _) _ _ hO ls (lv_sub hl [0, 1, 2, 3, 4, 5] rfl)
  · have q_9_6096 := zr_eq h_9_3896
    have z_9_6097 : zi 0 0 v_8_3893 := ze_eq q_9_6096 z_8_3894 (zi_k (a := 0) (b := 0) (x := 0) rfl)
    refine lv_iload_n hx hb ddX12_comes_12 rfl (lv_at hl 2 rfl) ?_
    exact cg_iret (nw := fun _ => 0) hC hr hlk hO.same rfl (Nat.le_of_ble_eq_true rfl) (Nat.le_of_ble_eq_true rfl) (⟨c5, rfl⟩) ddX12_comes_13

theorem ddX12_isIn_0 : decode cX12_isIn 0 = .ok (.iload_n 0, 1) := by decide +kernel
theorem ddX12_isIn_1 : decode cX12_isIn 1 = .ok (.iload_n 1, 1) := by decide +kernel
theorem ddX12_isIn_2 : decode cX12_isIn 2 = .ok (.if_icmp .lt 12, 3) := by decide +kernel
theorem ddX12_isIn_5 : decode cX12_isIn 5 = .ok (.iload_n 0, 1) := by decide +kernel
theorem ddX12_isIn_6 : decode cX12_isIn 6 = .ok (.iload_n 2, 1) := by decide +kernel
theorem ddX12_isIn_7 : decode cX12_isIn 7 = .ok (.if_icmp .gt 7, 3) := by decide +kernel
theorem ddX12_isIn_10 : decode cX12_isIn 10 = .ok (.iconst 1, 1) := by decide +kernel
theorem ddX12_isIn_11 : decode cX12_isIn 11 = .ok (.goto 4, 3) := by decide +kernel
theorem ddX12_isIn_14 : decode cX12_isIn 14 = .ok (.iconst 0, 1) := by decide +kernel
theorem ddX12_isIn_15 : decode cX12_isIn 15 = .ok (.ireturn, 1) := by decide +kernel
def wq_k_X12_isIn : List Cond := Cond.code yX12_isIn cX12_isIn 3 (some .boolean) :: (([] : List Cond))
set_option maxHeartbeats 8000000 in
set_option maxRecDepth 100000 in
theorem k_X12_isIn (l : Launch) (D : va_G) (cy : Nat → ClassId) (ad : Nat → Nat) (g : Nat → va_E) {v : Int32} {least : Int32} {most : Int32}  : cMi l yX12_isIn wq_k_X12_isIn { frames := 0, cells := 0, slots := 0, locals := 0 } 0 0 0 0 D cy ad g [.int v, .int least, .int most] (fun r nw lu => (((least : Int32).toInt ≤ (v : Int32).toInt) ∧ ((v : Int32).toInt ≤ (most : Int32).toInt) ∧ (r = 1) ∧ (lu = [])) ∨ ((r = 0) ∧ (lu = []))) := by
  refine cM_of (Qc := fun A => cQi (fun r nw lu => (((least : Int32).toInt ≤ (v : Int32).toInt) ∧ ((v : Int32).toInt ≤ (most : Int32).toInt) ∧ (r = 1) ∧ (lu = [])) ∨ ((r = 0) ∧ (lu = []))) D 0 0 ad g A) (cc := cX12_isIn) (maxL := 3) (ret := (some .boolean)) (by decide) rfl (Nat.le_of_ble_eq_true rfl) ?_
  intro p e s m below meth c A hC hr hlk hnm hO ls hl
  have hC : CallFix p m c cX12_isIn 3 s [.int v, .int least, .int most].toArray wq_k_X12_isIn RX12 := hC
  obtain ⟨hx, hb, hml, hown, hts⟩ := id hC
  have hl : lv_has ls 3 [(0, .int v), (1, .int least), (2, .int most)] := hl
  refine lv_iload_n hx hb ddX12_isIn_0 rfl (lv_at hl 0 rfl) ?_
  refine lv_iload_n hx hb ddX12_isIn_1 rfl (lv_at hl 1 rfl) ?_
  refine lv_icmp_lt (tgt := 14) hx hb ddX12_isIn_2 (by decide) (fun h_2_11 => ?_) (fun h_2_11 => ?_)
  · have q_2_12 := zr_lt h_2_11
    have z_2_13 : zi (-2147483648) 2147483646 v := zu_lt q_2_12 (zi_all v) (zi_all least) (by decide)
    have z_2_14 : zi (-2147483647) 2147483647 least := zd_lt q_2_12 (zi_all v) (zi_all least) (by decide)
    refine lv_iconst (v := 0) hx hb ddX12_isIn_14 (by decide) ?_
    exact cg_iret (nw := fun _ => 0) hC hr hlk hO.same rfl (Nat.le_of_ble_eq_true rfl) (Nat.le_of_ble_eq_true rfl) (Or.inr ⟨rfl, rfl⟩) ddX12_isIn_15
  · have q_2_15 := zr_nlt h_2_11
    refine lv_iload_n hx hb ddX12_isIn_5 rfl (lv_at hl 0 rfl) ?_
    refine lv_iload_n hx hb ddX12_isIn_6 rfl (lv_at hl 2 rfl) ?_
    refine lv_icmp_gt (tgt := 14) hx hb ddX12_isIn_7 (by decide) (fun h_7_16 => ?_) (fun h_7_16 => ?_)
    · have q_7_17 := zr_lt h_7_16
      have z_7_18 : zi (-2147483648) 2147483646 most := zu_lt q_7_17 (zi_all most) (zi_all v) (by decide)
      have z_7_19 : zi (-2147483647) 2147483647 v := zd_lt q_7_17 (zi_all most) (zi_all v) (by decide)
      refine lv_iconst (v := 0) hx hb ddX12_isIn_14 (by decide) ?_
      exact cg_iret (nw := fun _ => 0) hC hr hlk hO.same rfl (Nat.le_of_ble_eq_true rfl) (Nat.le_of_ble_eq_true rfl) (Or.inr ⟨rfl, rfl⟩) ddX12_isIn_15
    · have q_7_20 := zr_nlt h_7_16
      refine lv_iconst (v := 1) hx hb ddX12_isIn_10 (by decide) ?_
      refine lv_goto (tgt := 15) hx hb ddX12_isIn_11 (by decide) ?_
      exact cg_iret (nw := fun _ => 0) hC hr hlk hO.same rfl (Nat.le_of_ble_eq_true rfl) (Nat.le_of_ble_eq_true rfl) (Or.inl ⟨q_2_15, q_7_20, rfl, rfl⟩) ddX12_isIn_15

theorem ddX12_birdMany_0 : decode cX12_birdMany 0 = .ok (.aload_n 0, 1) := by decide +kernel
theorem ddX12_birdMany_1 : decode cX12_birdMany 1 = .ok (.getfield 20, 3) := by decide +kernel
theorem ddX12_birdMany_4 : decode cX12_birdMany 4 = .ok (.aload_n 0, 1) := by decide +kernel
theorem ddX12_birdMany_5 : decode cX12_birdMany 5 = .ok (.getfield 286, 3) := by decide +kernel
theorem ddX12_birdMany_8 : decode cX12_birdMany 8 = .ok (.iaload, 1) := by decide +kernel
theorem ddX12_birdMany_9 : decode cX12_birdMany 9 = .ok (.ireturn, 1) := by decide +kernel
def wq_k_X12_birdMany : List Cond := Cond.code yX12_birdMany cX12_birdMany 1 (some .int) :: (([Cond.fieldLink RX12 20 "CrowTollModel" "birds" "[I", Cond.fieldLink RX12 286 "CrowTollModel" "bank" "I"] : List Cond) ++ wsX120)
set_option maxHeartbeats 8000000 in
set_option maxRecDepth 100000 in
theorem k_X12_birdMany (l : Launch) (D : va_G) (cy : Nat → ClassId) (ad : Nat → Nat) (g : Nat → va_E) {u0_0 : Value} {u0_1 : Value} {u0_2 : Value} {u0_3 : Value} {u0_4 : Value} {u0_5 : Value} {u0_6 : Value} {u0_7 : Value} {u0_8 : Value} {u0_9 : Value} {u0_10 : Value} {u0_12 : Value} {u0_13 : Value} {u0_14 : Value} {u0_15 : Value} {u0_16 : Value} {u0_17 : Value} {u0_18 : Value} {u0_19 : Value} {u0_20 : Value} {u0_21 : Value} {u0_22 : Value} {u0_23 : Value} {u0_24 : Value} {u0_25 : Value} {u0_26 : Value} {u0_27 : Value} {u0_28 : Value} {u0_29 : Value} {u0_30 : Value} {u0_31 : Value} {u0_32 : Value} {u0_33 : Value} {u0_34 : Value} {u0_35 : Value} {x0_36 : Int32} {u0_37 : Value} {u0_38 : Value} {u0_39 : Value} {u0_40 : Value} {u0_41 : Value} {u0_42 : Value} {u0_43 : Value} {u0_44 : Value} {u0_45 : Value} {u0_46 : Value} {u0_47 : Value} {u0_48 : Value} {u0_49 : Value} {u0_50 : Value} {u0_51 : Value} {u0_52 : Value} {u0_53 : Value} {u0_54 : Value} {u0_55 : Value} {u0_56 : Value} {u0_57 : Value} {u0_58 : Value} {u0_59 : Value} {u0_60 : Value} {u0_61 : Value} {u0_62 : Value} {u0_63 : Value} {u0_64 : Value} {u0_65 : Value} {u0_66 : Value} {u0_67 : Value} {u0_68 : Value} {u0_69 : Value} {u0_70 : Value} {u0_71 : Value} {u0_72 : Value} {u0_73 : Value} {c1 : Nat → Int32} (o0 : g 0 = .inr (12, [u0_0, u0_1, u0_2, u0_3, u0_4, u0_5, u0_6, u0_7, u0_8, u0_9, u0_10, .ref (ad 1), u0_12, u0_13, u0_14, u0_15, u0_16, u0_17, u0_18, u0_19, u0_20, u0_21, u0_22, u0_23, u0_24, u0_25, u0_26, u0_27, u0_28, u0_29, u0_30, u0_31, u0_32, u0_33, u0_34, u0_35, .int x0_36, u0_37, u0_38, u0_39, u0_40, u0_41, u0_42, u0_43, u0_44, u0_45, u0_46, u0_47, u0_48, u0_49, u0_50, u0_51, u0_52, u0_53, u0_54, u0_55, u0_56, u0_57, u0_58, u0_59, u0_60, u0_61, u0_62, u0_63, u0_64, u0_65, u0_66, u0_67, u0_68, u0_69, u0_70, u0_71, u0_72, u0_73])) (a1 : g 1 = .inl (cy 0, 2, .inl c1)) (b0_36 : zi 0 1 x0_36) (ha1 : za 0 5 c1) : cMi l yX12_birdMany wq_k_X12_birdMany { frames := 0, cells := 0, slots := 0, locals := 0 } 2 0 0 0 D cy ad g [.ref (ad 0)] (fun r nw lu => (zi 0 5 r) ∧ (c1 (x0_36 : Int32).toNatClampNeg = r) ∧ (lu = [])) := by
  refine cM_of (Qc := fun A => cQi (fun r nw lu => (zi 0 5 r) ∧ (c1 (x0_36 : Int32).toNatClampNeg = r) ∧ (lu = [])) D 2 0 ad g A) (cc := cX12_birdMany) (maxL := 1) (ret := (some .int)) (by decide) rfl (Nat.le_of_ble_eq_true rfl) ?_
  intro p e s m below meth c A hC hr hlk hnm hO ls hl
  have hC : CallFix p m c cX12_birdMany 1 s [.ref (ad 0)].toArray wq_k_X12_birdMany RX12 := hC
  obtain ⟨hx, hb, hml, hown, hts⟩ := id hC
  have hl : lv_has ls 1 [(0, .ref (ad 0))] := hl
  have i_X12 : ∀ w ∈ wsX120, w ∈ wq_k_X12_birdMany := fun w h => List.mem_cons_of_mem _ (List.mem_append_right _ h)
  refine lv_aload_n hx hb ddX12_birdMany_0 rfl (lv_at hl 0 rfl) ?_
  refine cg_get hC hO 0 (by decide) o0 rfl i_X12 11 (by decide) (List.mem_of_getElem? (i := 1) rfl) rfl ddX12_birdMany_1 ?_
  refine lv_aload_n hx hb ddX12_birdMany_4 rfl (lv_at hl 0 rfl) ?_
  refine cg_get hC hO 0 (by decide) o0 rfl i_X12 36 (by decide) (List.mem_of_getElem? (i := 2) rfl) rfl ddX12_birdMany_5 ?_
  refine zg_ialdE hC hO 1 (by decide) a1 ha1 (zi_in b0_36 (by decide)) ddX12_birdMany_8 (fun v_8_4 z_8_5 el_8_6 => ?_)
  exact cg_iret (nw := fun _ => 0) hC hr hlk hO.same rfl (Nat.le_of_ble_eq_true rfl) (Nat.le_of_ble_eq_true rfl) (⟨z_8_5, el_8_6, rfl⟩) ddX12_birdMany_9

theorem ddX12_postMany_0 : decode cX12_postMany 0 = .ok (.aload_n 0, 1) := by decide +kernel
theorem ddX12_postMany_1 : decode cX12_postMany 1 = .ok (.getfield 24, 3) := by decide +kernel
theorem ddX12_postMany_4 : decode cX12_postMany 4 = .ok (.aload_n 0, 1) := by decide +kernel
theorem ddX12_postMany_5 : decode cX12_postMany 5 = .ok (.getfield 286, 3) := by decide +kernel
theorem ddX12_postMany_8 : decode cX12_postMany 8 = .ok (.iaload, 1) := by decide +kernel
theorem ddX12_postMany_9 : decode cX12_postMany 9 = .ok (.ireturn, 1) := by decide +kernel
def wq_k_X12_postMany : List Cond := Cond.code yX12_postMany cX12_postMany 1 (some .int) :: (([Cond.fieldLink RX12 24 "CrowTollModel" "posts" "[I", Cond.fieldLink RX12 286 "CrowTollModel" "bank" "I"] : List Cond) ++ wsX120)
set_option maxHeartbeats 8000000 in
set_option maxRecDepth 100000 in
theorem k_X12_postMany (l : Launch) (D : va_G) (cy : Nat → ClassId) (ad : Nat → Nat) (g : Nat → va_E) {u0_0 : Value} {u0_1 : Value} {u0_2 : Value} {u0_3 : Value} {u0_4 : Value} {u0_5 : Value} {u0_6 : Value} {u0_7 : Value} {u0_8 : Value} {u0_9 : Value} {u0_10 : Value} {u0_11 : Value} {u0_13 : Value} {u0_14 : Value} {u0_15 : Value} {u0_16 : Value} {u0_17 : Value} {u0_18 : Value} {u0_19 : Value} {u0_20 : Value} {u0_21 : Value} {u0_22 : Value} {u0_23 : Value} {u0_24 : Value} {u0_25 : Value} {u0_26 : Value} {u0_27 : Value} {u0_28 : Value} {u0_29 : Value} {u0_30 : Value} {u0_31 : Value} {u0_32 : Value} {u0_33 : Value} {u0_34 : Value} {u0_35 : Value} {x0_36 : Int32} {u0_37 : Value} {u0_38 : Value} {u0_39 : Value} {u0_40 : Value} {u0_41 : Value} {u0_42 : Value} {u0_43 : Value} {u0_44 : Value} {u0_45 : Value} {u0_46 : Value} {u0_47 : Value} {u0_48 : Value} {u0_49 : Value} {u0_50 : Value} {u0_51 : Value} {u0_52 : Value} {u0_53 : Value} {u0_54 : Value} {u0_55 : Value} {u0_56 : Value} {u0_57 : Value} {u0_58 : Value} {u0_59 : Value} {u0_60 : Value} {u0_61 : Value} {u0_62 : Value} {u0_63 : Value} {u0_64 : Value} {u0_65 : Value} {u0_66 : Value} {u0_67 : Value} {u0_68 : Value} {u0_69 : Value} {u0_70 : Value} {u0_71 : Value} {u0_72 : Value} {u0_73 : Value} {c1 : Nat → Int32} (o0 : g 0 = .inr (12, [u0_0, u0_1, u0_2, u0_3, u0_4, u0_5, u0_6, u0_7, u0_8, u0_9, u0_10, u0_11, .ref (ad 1), u0_13, u0_14, u0_15, u0_16, u0_17, u0_18, u0_19, u0_20, u0_21, u0_22, u0_23, u0_24, u0_25, u0_26, u0_27, u0_28, u0_29, u0_30, u0_31, u0_32, u0_33, u0_34, u0_35, .int x0_36, u0_37, u0_38, u0_39, u0_40, u0_41, u0_42, u0_43, u0_44, u0_45, u0_46, u0_47, u0_48, u0_49, u0_50, u0_51, u0_52, u0_53, u0_54, u0_55, u0_56, u0_57, u0_58, u0_59, u0_60, u0_61, u0_62, u0_63, u0_64, u0_65, u0_66, u0_67, u0_68, u0_69, u0_70, u0_71, u0_72, u0_73])) (a1 : g 1 = .inl (cy 0, 2, .inl c1)) (b0_36 : zi 0 1 x0_36) (ha1 : za 0 4 c1) : cMi l yX12_postMany wq_k_X12_postMany { frames := 0, cells := 0, slots := 0, locals := 0 } 2 0 0 0 D cy ad g [.ref (ad 0)] (fun r nw lu => (zi 0 4 r) ∧ (c1 (x0_36 : Int32).toNatClampNeg = r) ∧ (lu = [])) := by
  refine cM_of (Qc := fun A => cQi (fun r nw lu => (zi 0 4 r) ∧ (c1 (x0_36 : Int32).toNatClampNeg = r) ∧ (lu = [])) D 2 0 ad g A) (cc := cX12_postMany) (maxL := 1) (ret := (some .int)) (by decide) rfl (Nat.le_of_ble_eq_true rfl) ?_
  intro p e s m below meth c A hC hr hlk hnm hO ls hl
  have hC : CallFix p m c cX12_postMany 1 s [.ref (ad 0)].toArray wq_k_X12_postMany RX12 := hC
  obtain ⟨hx, hb, hml, hown, hts⟩ := id hC
  have hl : lv_has ls 1 [(0, .ref (ad 0))] := hl
  have i_X12 : ∀ w ∈ wsX120, w ∈ wq_k_X12_postMany := fun w h => List.mem_cons_of_mem _ (List.mem_append_right _ h)
  refine lv_aload_n hx hb ddX12_postMany_0 rfl (lv_at hl 0 rfl) ?_
  refine cg_get hC hO 0 (by decide) o0 rfl i_X12 12 (by decide) (List.mem_of_getElem? (i := 1) rfl) rfl ddX12_postMany_1 ?_
  refine lv_aload_n hx hb ddX12_postMany_4 rfl (lv_at hl 0 rfl) ?_
  refine cg_get hC hO 0 (by decide) o0 rfl i_X12 36 (by decide) (List.mem_of_getElem? (i := 2) rfl) rfl ddX12_postMany_5 ?_
  refine zg_ialdE hC hO 1 (by decide) a1 ha1 (zi_in b0_36 (by decide)) ddX12_postMany_8 (fun v_8_4 z_8_5 el_8_6 => ?_)
  exact cg_iret (nw := fun _ => 0) hC hr hlk hO.same rfl (Nat.le_of_ble_eq_true rfl) (Nat.le_of_ble_eq_true rfl) (⟨z_8_5, el_8_6, rfl⟩) ddX12_postMany_9

theorem ddX12_isBird_0 : decode cX12_isBird 0 = .ok (.iload_n 1, 1) := by decide +kernel
theorem ddX12_isBird_1 : decode cX12_isBird 1 = .ok (.iconst 0, 1) := by decide +kernel
theorem ddX12_isBird_2 : decode cX12_isBird 2 = .ok (.aload_n 0, 1) := by decide +kernel
theorem ddX12_isBird_3 : decode cX12_isBird 3 = .ok (.invokevirtual 363, 3) := by decide +kernel
theorem ddX12_isBird_6 : decode cX12_isBird 6 = .ok (.iconst 1, 1) := by decide +kernel
theorem ddX12_isBird_7 : decode cX12_isBird 7 = .ok (.isub, 1) := by decide +kernel
theorem ddX12_isBird_8 : decode cX12_isBird 8 = .ok (.invokestatic 366, 3) := by decide +kernel
theorem ddX12_isBird_11 : decode cX12_isBird 11 = .ok (.ireturn, 1) := by decide +kernel
def wq_k_X12_isBird : List Cond := Cond.code yX12_isBird cX12_isBird 2 (some .boolean) :: (([Cond.methodLink RX12 363 yX12_birdMany, Cond.instanceMethod yX12_birdMany, Cond.selects RX12 yX12_birdMany yX12_birdMany, Cond.initialized RX12, Cond.code yX12_birdMany cX12_birdMany 1 (some .int), Cond.fieldLink RX12 20 "CrowTollModel" "birds" "[I", Cond.fieldLink RX12 286 "CrowTollModel" "bank" "I", Cond.methodLink RX12 366 yX12_isIn, Cond.static yX12_isIn, Cond.code yX12_isIn cX12_isIn 3 (some .boolean)] : List Cond) ++ wsX120)
set_option maxRecDepth 20000 in
theorem gr_k_X12_isBird_k_X12_birdMany : GoodIn wq_k_X12_isBird wq_k_X12_birdMany := List.forall_mem_cons.mpr ⟨⟨(List.mem_of_getElem? (i := 5) rfl), good_of_word rfl⟩, List.forall_mem_append.mpr ⟨List.forall_mem_cons.mpr ⟨⟨(List.mem_of_getElem? (i := 6) rfl), good_of_word rfl⟩, List.forall_mem_cons.mpr ⟨⟨(List.mem_of_getElem? (i := 7) rfl), good_of_word rfl⟩, (fun _ h => absurd h List.not_mem_nil)⟩⟩, fun w h => ⟨(fun w h => List.mem_cons_of_mem _ (List.mem_append_right _ h)) w h, good_of_word (List.all_eq_true.mp gw_X12 w h)⟩⟩⟩
set_option maxRecDepth 20000 in
theorem gq_k_X12_isBird_k_X12_birdMany_363 : GoodIn wq_k_X12_isBird (wsV RX12 363 RX12 yX12_birdMany wq_k_X12_birdMany) := goodIn_app (List.forall_mem_cons.mpr ⟨⟨(List.mem_of_getElem? (i := 1) rfl), good_of_word rfl⟩, List.forall_mem_cons.mpr ⟨⟨(List.mem_of_getElem? (i := 2) rfl), good_of_word rfl⟩, List.forall_mem_cons.mpr ⟨⟨(List.mem_of_getElem? (i := 3) rfl), good_of_word rfl⟩, List.forall_mem_cons.mpr ⟨⟨(List.mem_of_getElem? (i := 4) rfl), good_of_word rfl⟩, (fun _ h => absurd h List.not_mem_nil)⟩⟩⟩⟩) gr_k_X12_isBird_k_X12_birdMany
set_option maxRecDepth 20000 in
theorem gr_k_X12_isBird_k_X12_isIn : GoodIn wq_k_X12_isBird wq_k_X12_isIn := List.forall_mem_cons.mpr ⟨⟨(List.mem_of_getElem? (i := 10) rfl), good_of_word rfl⟩, (fun _ h => absurd h List.not_mem_nil)⟩
set_option maxRecDepth 20000 in
theorem gq_k_X12_isBird_k_X12_isIn_366 : GoodIn wq_k_X12_isBird (va_wsS RX12 366 yX12_isIn wq_k_X12_isIn) := goodIn_app (List.forall_mem_cons.mpr ⟨⟨(List.mem_of_getElem? (i := 8) rfl), good_of_word rfl⟩, List.forall_mem_cons.mpr ⟨⟨(List.mem_of_getElem? (i := 9) rfl), good_of_word rfl⟩, List.forall_mem_cons.mpr ⟨⟨(List.mem_of_getElem? (i := 4) rfl), good_of_word rfl⟩, (fun _ h => absurd h List.not_mem_nil)⟩⟩⟩) gr_k_X12_isBird_k_X12_isIn
set_option maxHeartbeats 8000000 in
set_option maxRecDepth 100000 in
theorem k_X12_isBird (l : Launch) (D : va_G) (cy : Nat → ClassId) (ad : Nat → Nat) (g : Nat → va_E) {u0_0 : Value} {u0_1 : Value} {u0_2 : Value} {u0_3 : Value} {u0_4 : Value} {u0_5 : Value} {u0_6 : Value} {u0_7 : Value} {u0_8 : Value} {u0_9 : Value} {u0_10 : Value} {u0_12 : Value} {u0_13 : Value} {u0_14 : Value} {u0_15 : Value} {u0_16 : Value} {u0_17 : Value} {u0_18 : Value} {u0_19 : Value} {u0_20 : Value} {u0_21 : Value} {u0_22 : Value} {u0_23 : Value} {u0_24 : Value} {u0_25 : Value} {u0_26 : Value} {u0_27 : Value} {u0_28 : Value} {u0_29 : Value} {u0_30 : Value} {u0_31 : Value} {u0_32 : Value} {u0_33 : Value} {u0_34 : Value} {u0_35 : Value} {x0_36 : Int32} {u0_37 : Value} {u0_38 : Value} {u0_39 : Value} {u0_40 : Value} {u0_41 : Value} {u0_42 : Value} {u0_43 : Value} {u0_44 : Value} {u0_45 : Value} {u0_46 : Value} {u0_47 : Value} {u0_48 : Value} {u0_49 : Value} {u0_50 : Value} {u0_51 : Value} {u0_52 : Value} {u0_53 : Value} {u0_54 : Value} {u0_55 : Value} {u0_56 : Value} {u0_57 : Value} {u0_58 : Value} {u0_59 : Value} {u0_60 : Value} {u0_61 : Value} {u0_62 : Value} {u0_63 : Value} {u0_64 : Value} {u0_65 : Value} {u0_66 : Value} {u0_67 : Value} {u0_68 : Value} {u0_69 : Value} {u0_70 : Value} {u0_71 : Value} {u0_72 : Value} {u0_73 : Value} {c1 : Nat → Int32} {n : Int32} (o0 : g 0 = .inr (12, [u0_0, u0_1, u0_2, u0_3, u0_4, u0_5, u0_6, u0_7, u0_8, u0_9, u0_10, .ref (ad 1), u0_12, u0_13, u0_14, u0_15, u0_16, u0_17, u0_18, u0_19, u0_20, u0_21, u0_22, u0_23, u0_24, u0_25, u0_26, u0_27, u0_28, u0_29, u0_30, u0_31, u0_32, u0_33, u0_34, u0_35, .int x0_36, u0_37, u0_38, u0_39, u0_40, u0_41, u0_42, u0_43, u0_44, u0_45, u0_46, u0_47, u0_48, u0_49, u0_50, u0_51, u0_52, u0_53, u0_54, u0_55, u0_56, u0_57, u0_58, u0_59, u0_60, u0_61, u0_62, u0_63, u0_64, u0_65, u0_66, u0_67, u0_68, u0_69, u0_70, u0_71, u0_72, u0_73])) (a1 : g 1 = .inl (cy 0, 2, .inl c1)) (b0_36 : zi 0 1 x0_36) (ha1 : za 0 5 c1) : cMi l yX12_isBird wq_k_X12_isBird { frames := 1, cells := 0, slots := 0, locals := 22 } 2 0 0 0 D cy ad g [.ref (ad 0), .int n] (fun r nw lu => ((zi 0 4 n) ∧ ((0 : Int32).toInt ≤ (n : Int32).toInt) ∧ (r = 1) ∧ (lu = [])) ∨ ((r = 0) ∧ (lu = []))) := by
  refine cM_of (Qc := fun A => cQi (fun r nw lu => ((zi 0 4 n) ∧ ((0 : Int32).toInt ≤ (n : Int32).toInt) ∧ (r = 1) ∧ (lu = [])) ∨ ((r = 0) ∧ (lu = []))) D 2 0 ad g A) (cc := cX12_isBird) (maxL := 2) (ret := (some .boolean)) (by decide) rfl (Nat.le_of_ble_eq_true rfl) ?_
  intro p e s m below meth c A hC hr hlk hnm hO ls hl
  have hC : CallFix p m c cX12_isBird 2 s [.ref (ad 0), .int n].toArray wq_k_X12_isBird RX12 := hC
  obtain ⟨hx, hb, hml, hown, hts⟩ := id hC
  have hl : lv_has ls 2 [(0, .ref (ad 0)), (1, .int n)] := hl
  have i_X12 : ∀ w ∈ wsX120, w ∈ wq_k_X12_isBird := fun w h => List.mem_cons_of_mem _ (List.mem_append_right _ h)
  refine lv_iload_n hx hb ddX12_isBird_0 rfl (lv_at hl 1 rfl) ?_
  refine lv_iconst (v := 0) hx hb ddX12_isBird_1 (by decide) ?_
  refine lv_aload_n hx hb ddX12_isBird_2 rfl (lv_at hl 0 rfl) ?_
  refine cg_Vi (As := []) (rest := [.int 0, .int n]) (mc := 0) (ms := 0) (rm := { frames := 0, cells := 0, slots := 0, locals := 0 }) hC hl.1 hO [0, 1] (by decide +kernel) (k_X12_birdMany l D cy _ _ (u0_0 := u0_0) (u0_1 := u0_1) (u0_2 := u0_2) (u0_3 := u0_3) (u0_4 := u0_4) (u0_5 := u0_5) (u0_6 := u0_6) (u0_7 := u0_7) (u0_8 := u0_8) (u0_9 := u0_9) (u0_10 := u0_10) (c1 := c1) (u0_12 := u0_12) (u0_13 := u0_13) (u0_14 := u0_14) (u0_15 := u0_15) (u0_16 := u0_16) (u0_17 := u0_17) (u0_18 := u0_18) (u0_19 := u0_19) (u0_20 := u0_20) (u0_21 := u0_21) (u0_22 := u0_22) (u0_23 := u0_23) (u0_24 := u0_24) (u0_25 := u0_25) (u0_26 := u0_26) (u0_27 := u0_27) (u0_28 := u0_28) (u0_29 := u0_29) (u0_30 := u0_30) (u0_31 := u0_31) (u0_32 := u0_32) (u0_33 := u0_33) (u0_34 := u0_34) (u0_35 := u0_35) (x0_36 := x0_36) (u0_37 := u0_37) (u0_38 := u0_38) (u0_39 := u0_39) (u0_40 := u0_40) (u0_41 := u0_41) (u0_42 := u0_42) (u0_43 := u0_43) (u0_44 := u0_44) (u0_45 := u0_45) (u0_46 := u0_46) (u0_47 := u0_47) (u0_48 := u0_48) (u0_49 := u0_49) (u0_50 := u0_50) (u0_51 := u0_51) (u0_52 := u0_52) (u0_53 := u0_53) (u0_54 := u0_54) (u0_55 := u0_55) (u0_56 := u0_56) (u0_57 := u0_57) (u0_58 := u0_58) (u0_59 := u0_59) (u0_60 := u0_60) (u0_61 := u0_61) (u0_62 := u0_62) (u0_63 := u0_63) (u0_64 := u0_64) (u0_65 := u0_65) (u0_66 := u0_66) (u0_67 := u0_67) (u0_68 := u0_68) (u0_69 := u0_69) (u0_70 := u0_70) (u0_71 := u0_71) (u0_72 := u0_72) (u0_73 := u0_73) o0 a1 b0_36 ha1) gq_k_X12_isBird_k_X12_birdMany_363 rfl rfl rfl 0 (by decide +kernel) ⟨Nat.le_of_ble_eq_true rfl, Nat.le_of_ble_eq_true rfl⟩ rfl (by decide) o0 rfl rfl (Nat.le_of_ble_eq_true rfl) ddX12_isBird_3 ⟨Nat.le_of_ble_eq_true rfl, Nat.le_of_ble_eq_true rfl⟩ (fun r_3_22 nw_3_20 l_3_21 H locs hw hO => ?_)
  obtain ⟨z_3_23, el_3_24, rfl⟩ := hw
  have hO : cO D cy A s.heap s 2 ad (cup [] g) _ _ := hO
  refine lv_iconst (v := 1) hx hb ddX12_isBird_6 (by decide) ?_
  refine lv_isub hx hb ddX12_isBird_7 ?_
  refine zg_top2 (P := fun v => zi (-1) 4 v) (E := fun v => v.toInt = r_3_22.toInt + -1) (zi_subk z_3_23 (n := 1) (by decide) (by decide)) (fun v_7_25 z_7_26 q_7_27 => ?_)
  refine cg_Si (As := [.int n, .int 0, .int v_7_25]) (rest := []) (mc := 0) (ms := 0) (rm := { frames := 0, cells := 0, slots := 0, locals := 0 }) hC hl.1 hO [] (by decide +kernel) (k_X12_isIn l D cy _ _ (v := n) (least := 0) (most := v_7_25) ) gq_k_X12_isBird_k_X12_isIn_366 rfl rfl rfl 3 (by decide +kernel) ⟨Nat.le_of_ble_eq_true rfl, Nat.le_of_ble_eq_true rfl⟩ rfl rfl (Nat.le_of_ble_eq_true rfl) ddX12_isBird_8 ⟨Nat.le_of_ble_eq_true rfl, Nat.le_of_ble_eq_true rfl⟩ (fun r_8_30 nw_8_28 l_8_29 H locs hw hO => ?_)
  rcases hw with hw | hw
  · obtain ⟨q_8_31, q_8_32, rfl, rfl⟩ := hw
    have hO : cO D cy A s.heap s 2 ad (cup [] g) _ _ := hO
    have q_8_33 := q_8_31
    have z_8_34 : zi 0 2147483647 n := zd_le q_8_33 (zi_k (a := 0) (b := 0) (x := 0) rfl) (zi_all n) (by decide)
    have q_8_35 := q_8_32
    have z_8_36 : zi 0 4 n := zu_le q_8_35 z_8_34 z_7_26 (by decide)
    have z_8_37 : zi 0 4 v_7_25 := zd_le q_8_35 z_8_34 z_7_26 (by decide)
    have z_8_38 : zi 1 5 r_3_22 := zp_add q_7_27 z_8_37 z_3_23 (by decide)
    exact cg_iret (nw := fun _ => 0) hC hr hlk hO.same rfl (Nat.le_of_ble_eq_true rfl) (Nat.le_of_ble_eq_true rfl) (Or.inl ⟨z_8_36, q_8_33, rfl, rfl⟩) ddX12_isBird_11
  · obtain ⟨rfl, rfl⟩ := hw
    have hO : cO D cy A s.heap s 2 ad (cup [] g) _ _ := hO
    exact cg_iret (nw := fun _ => 0) hC hr hlk hO.same rfl (Nat.le_of_ble_eq_true rfl) (Nat.le_of_ble_eq_true rfl) (Or.inr ⟨rfl, rfl⟩) ddX12_isBird_11

theorem ddX12_isPost_0 : decode cX12_isPost 0 = .ok (.iload_n 1, 1) := by decide +kernel
theorem ddX12_isPost_1 : decode cX12_isPost 1 = .ok (.iconst 0, 1) := by decide +kernel
theorem ddX12_isPost_2 : decode cX12_isPost 2 = .ok (.aload_n 0, 1) := by decide +kernel
theorem ddX12_isPost_3 : decode cX12_isPost 3 = .ok (.invokevirtual 370, 3) := by decide +kernel
theorem ddX12_isPost_6 : decode cX12_isPost 6 = .ok (.iconst 1, 1) := by decide +kernel
theorem ddX12_isPost_7 : decode cX12_isPost 7 = .ok (.isub, 1) := by decide +kernel
theorem ddX12_isPost_8 : decode cX12_isPost 8 = .ok (.invokestatic 366, 3) := by decide +kernel
theorem ddX12_isPost_11 : decode cX12_isPost 11 = .ok (.ireturn, 1) := by decide +kernel
def wq_k_X12_isPost : List Cond := Cond.code yX12_isPost cX12_isPost 2 (some .boolean) :: (([Cond.methodLink RX12 370 yX12_postMany, Cond.instanceMethod yX12_postMany, Cond.selects RX12 yX12_postMany yX12_postMany, Cond.initialized RX12, Cond.code yX12_postMany cX12_postMany 1 (some .int), Cond.fieldLink RX12 24 "CrowTollModel" "posts" "[I", Cond.fieldLink RX12 286 "CrowTollModel" "bank" "I", Cond.methodLink RX12 366 yX12_isIn, Cond.static yX12_isIn, Cond.code yX12_isIn cX12_isIn 3 (some .boolean)] : List Cond) ++ wsX120)
set_option maxRecDepth 20000 in
theorem gr_k_X12_isPost_k_X12_postMany : GoodIn wq_k_X12_isPost wq_k_X12_postMany := List.forall_mem_cons.mpr ⟨⟨(List.mem_of_getElem? (i := 5) rfl), good_of_word rfl⟩, List.forall_mem_append.mpr ⟨List.forall_mem_cons.mpr ⟨⟨(List.mem_of_getElem? (i := 6) rfl), good_of_word rfl⟩, List.forall_mem_cons.mpr ⟨⟨(List.mem_of_getElem? (i := 7) rfl), good_of_word rfl⟩, (fun _ h => absurd h List.not_mem_nil)⟩⟩, fun w h => ⟨(fun w h => List.mem_cons_of_mem _ (List.mem_append_right _ h)) w h, good_of_word (List.all_eq_true.mp gw_X12 w h)⟩⟩⟩
set_option maxRecDepth 20000 in
theorem gq_k_X12_isPost_k_X12_postMany_370 : GoodIn wq_k_X12_isPost (wsV RX12 370 RX12 yX12_postMany wq_k_X12_postMany) := goodIn_app (List.forall_mem_cons.mpr ⟨⟨(List.mem_of_getElem? (i := 1) rfl), good_of_word rfl⟩, List.forall_mem_cons.mpr ⟨⟨(List.mem_of_getElem? (i := 2) rfl), good_of_word rfl⟩, List.forall_mem_cons.mpr ⟨⟨(List.mem_of_getElem? (i := 3) rfl), good_of_word rfl⟩, List.forall_mem_cons.mpr ⟨⟨(List.mem_of_getElem? (i := 4) rfl), good_of_word rfl⟩, (fun _ h => absurd h List.not_mem_nil)⟩⟩⟩⟩) gr_k_X12_isPost_k_X12_postMany
set_option maxRecDepth 20000 in
theorem gr_k_X12_isPost_k_X12_isIn : GoodIn wq_k_X12_isPost wq_k_X12_isIn := List.forall_mem_cons.mpr ⟨⟨(List.mem_of_getElem? (i := 10) rfl), good_of_word rfl⟩, (fun _ h => absurd h List.not_mem_nil)⟩
set_option maxRecDepth 20000 in
theorem gq_k_X12_isPost_k_X12_isIn_366 : GoodIn wq_k_X12_isPost (va_wsS RX12 366 yX12_isIn wq_k_X12_isIn) := goodIn_app (List.forall_mem_cons.mpr ⟨⟨(List.mem_of_getElem? (i := 8) rfl), good_of_word rfl⟩, List.forall_mem_cons.mpr ⟨⟨(List.mem_of_getElem? (i := 9) rfl), good_of_word rfl⟩, List.forall_mem_cons.mpr ⟨⟨(List.mem_of_getElem? (i := 4) rfl), good_of_word rfl⟩, (fun _ h => absurd h List.not_mem_nil)⟩⟩⟩) gr_k_X12_isPost_k_X12_isIn
set_option maxHeartbeats 8000000 in
set_option maxRecDepth 100000 in
theorem k_X12_isPost (l : Launch) (D : va_G) (cy : Nat → ClassId) (ad : Nat → Nat) (g : Nat → va_E) {u0_0 : Value} {u0_1 : Value} {u0_2 : Value} {u0_3 : Value} {u0_4 : Value} {u0_5 : Value} {u0_6 : Value} {u0_7 : Value} {u0_8 : Value} {u0_9 : Value} {u0_10 : Value} {u0_11 : Value} {u0_13 : Value} {u0_14 : Value} {u0_15 : Value} {u0_16 : Value} {u0_17 : Value} {u0_18 : Value} {u0_19 : Value} {u0_20 : Value} {u0_21 : Value} {u0_22 : Value} {u0_23 : Value} {u0_24 : Value} {u0_25 : Value} {u0_26 : Value} {u0_27 : Value} {u0_28 : Value} {u0_29 : Value} {u0_30 : Value} {u0_31 : Value} {u0_32 : Value} {u0_33 : Value} {u0_34 : Value} {u0_35 : Value} {x0_36 : Int32} {u0_37 : Value} {u0_38 : Value} {u0_39 : Value} {u0_40 : Value} {u0_41 : Value} {u0_42 : Value} {u0_43 : Value} {u0_44 : Value} {u0_45 : Value} {u0_46 : Value} {u0_47 : Value} {u0_48 : Value} {u0_49 : Value} {u0_50 : Value} {u0_51 : Value} {u0_52 : Value} {u0_53 : Value} {u0_54 : Value} {u0_55 : Value} {u0_56 : Value} {u0_57 : Value} {u0_58 : Value} {u0_59 : Value} {u0_60 : Value} {u0_61 : Value} {u0_62 : Value} {u0_63 : Value} {u0_64 : Value} {u0_65 : Value} {u0_66 : Value} {u0_67 : Value} {u0_68 : Value} {u0_69 : Value} {u0_70 : Value} {u0_71 : Value} {u0_72 : Value} {u0_73 : Value} {c1 : Nat → Int32} {n : Int32} (o0 : g 0 = .inr (12, [u0_0, u0_1, u0_2, u0_3, u0_4, u0_5, u0_6, u0_7, u0_8, u0_9, u0_10, u0_11, .ref (ad 1), u0_13, u0_14, u0_15, u0_16, u0_17, u0_18, u0_19, u0_20, u0_21, u0_22, u0_23, u0_24, u0_25, u0_26, u0_27, u0_28, u0_29, u0_30, u0_31, u0_32, u0_33, u0_34, u0_35, .int x0_36, u0_37, u0_38, u0_39, u0_40, u0_41, u0_42, u0_43, u0_44, u0_45, u0_46, u0_47, u0_48, u0_49, u0_50, u0_51, u0_52, u0_53, u0_54, u0_55, u0_56, u0_57, u0_58, u0_59, u0_60, u0_61, u0_62, u0_63, u0_64, u0_65, u0_66, u0_67, u0_68, u0_69, u0_70, u0_71, u0_72, u0_73])) (a1 : g 1 = .inl (cy 0, 2, .inl c1)) (b0_36 : zi 0 1 x0_36) (ha1 : za 0 4 c1) : cMi l yX12_isPost wq_k_X12_isPost { frames := 1, cells := 0, slots := 0, locals := 22 } 2 0 0 0 D cy ad g [.ref (ad 0), .int n] (fun r nw lu => ((zi 0 3 n) ∧ ((0 : Int32).toInt ≤ (n : Int32).toInt) ∧ (r = 1) ∧ (lu = [])) ∨ ((r = 0) ∧ (lu = []))) := by
  refine cM_of (Qc := fun A => cQi (fun r nw lu => ((zi 0 3 n) ∧ ((0 : Int32).toInt ≤ (n : Int32).toInt) ∧ (r = 1) ∧ (lu = [])) ∨ ((r = 0) ∧ (lu = []))) D 2 0 ad g A) (cc := cX12_isPost) (maxL := 2) (ret := (some .boolean)) (by decide) rfl (Nat.le_of_ble_eq_true rfl) ?_
  intro p e s m below meth c A hC hr hlk hnm hO ls hl
  have hC : CallFix p m c cX12_isPost 2 s [.ref (ad 0), .int n].toArray wq_k_X12_isPost RX12 := hC
  obtain ⟨hx, hb, hml, hown, hts⟩ := id hC
  have hl : lv_has ls 2 [(0, .ref (ad 0)), (1, .int n)] := hl
  have i_X12 : ∀ w ∈ wsX120, w ∈ wq_k_X12_isPost := fun w h => List.mem_cons_of_mem _ (List.mem_append_right _ h)
  refine lv_iload_n hx hb ddX12_isPost_0 rfl (lv_at hl 1 rfl) ?_
  refine lv_iconst (v := 0) hx hb ddX12_isPost_1 (by decide) ?_
  refine lv_aload_n hx hb ddX12_isPost_2 rfl (lv_at hl 0 rfl) ?_
  refine cg_Vi (As := []) (rest := [.int 0, .int n]) (mc := 0) (ms := 0) (rm := { frames := 0, cells := 0, slots := 0, locals := 0 }) hC hl.1 hO [0, 1] (by decide +kernel) (k_X12_postMany l D cy _ _ (u0_0 := u0_0) (u0_1 := u0_1) (u0_2 := u0_2) (u0_3 := u0_3) (u0_4 := u0_4) (u0_5 := u0_5) (u0_6 := u0_6) (u0_7 := u0_7) (u0_8 := u0_8) (u0_9 := u0_9) (u0_10 := u0_10) (u0_11 := u0_11) (c1 := c1) (u0_13 := u0_13) (u0_14 := u0_14) (u0_15 := u0_15) (u0_16 := u0_16) (u0_17 := u0_17) (u0_18 := u0_18) (u0_19 := u0_19) (u0_20 := u0_20) (u0_21 := u0_21) (u0_22 := u0_22) (u0_23 := u0_23) (u0_24 := u0_24) (u0_25 := u0_25) (u0_26 := u0_26) (u0_27 := u0_27) (u0_28 := u0_28) (u0_29 := u0_29) (u0_30 := u0_30) (u0_31 := u0_31) (u0_32 := u0_32) (u0_33 := u0_33) (u0_34 := u0_34) (u0_35 := u0_35) (x0_36 := x0_36) (u0_37 := u0_37) (u0_38 := u0_38) (u0_39 := u0_39) (u0_40 := u0_40) (u0_41 := u0_41) (u0_42 := u0_42) (u0_43 := u0_43) (u0_44 := u0_44) (u0_45 := u0_45) (u0_46 := u0_46) (u0_47 := u0_47) (u0_48 := u0_48) (u0_49 := u0_49) (u0_50 := u0_50) (u0_51 := u0_51) (u0_52 := u0_52) (u0_53 := u0_53) (u0_54 := u0_54) (u0_55 := u0_55) (u0_56 := u0_56) (u0_57 := u0_57) (u0_58 := u0_58) (u0_59 := u0_59) (u0_60 := u0_60) (u0_61 := u0_61) (u0_62 := u0_62) (u0_63 := u0_63) (u0_64 := u0_64) (u0_65 := u0_65) (u0_66 := u0_66) (u0_67 := u0_67) (u0_68 := u0_68) (u0_69 := u0_69) (u0_70 := u0_70) (u0_71 := u0_71) (u0_72 := u0_72) (u0_73 := u0_73) o0 a1 b0_36 ha1) gq_k_X12_isPost_k_X12_postMany_370 rfl rfl rfl 0 (by decide +kernel) ⟨Nat.le_of_ble_eq_true rfl, Nat.le_of_ble_eq_true rfl⟩ rfl (by decide) o0 rfl rfl (Nat.le_of_ble_eq_true rfl) ddX12_isPost_3 ⟨Nat.le_of_ble_eq_true rfl, Nat.le_of_ble_eq_true rfl⟩ (fun r_3_22 nw_3_20 l_3_21 H locs hw hO => ?_)
  obtain ⟨z_3_23, el_3_24, rfl⟩ := hw
  have hO : cO D cy A s.heap s 2 ad (cup [] g) _ _ := hO
  refine lv_iconst (v := 1) hx hb ddX12_isPost_6 (by decide) ?_
  refine lv_isub hx hb ddX12_isPost_7 ?_
  refine zg_top2 (P := fun v => zi (-1) 3 v) (E := fun v => v.toInt = r_3_22.toInt + -1) (zi_subk z_3_23 (n := 1) (by decide) (by decide)) (fun v_7_25 z_7_26 q_7_27 => ?_)
  refine cg_Si (As := [.int n, .int 0, .int v_7_25]) (rest := []) (mc := 0) (ms := 0) (rm := { frames := 0, cells := 0, slots := 0, locals := 0 }) hC hl.1 hO [] (by decide +kernel) (k_X12_isIn l D cy _ _ (v := n) (least := 0) (most := v_7_25) ) gq_k_X12_isPost_k_X12_isIn_366 rfl rfl rfl 3 (by decide +kernel) ⟨Nat.le_of_ble_eq_true rfl, Nat.le_of_ble_eq_true rfl⟩ rfl rfl (Nat.le_of_ble_eq_true rfl) ddX12_isPost_8 ⟨Nat.le_of_ble_eq_true rfl, Nat.le_of_ble_eq_true rfl⟩ (fun r_8_30 nw_8_28 l_8_29 H locs hw hO => ?_)
  rcases hw with hw | hw
  · obtain ⟨q_8_31, q_8_32, rfl, rfl⟩ := hw
    have hO : cO D cy A s.heap s 2 ad (cup [] g) _ _ := hO
    have q_8_33 := q_8_31
    have z_8_34 : zi 0 2147483647 n := zd_le q_8_33 (zi_k (a := 0) (b := 0) (x := 0) rfl) (zi_all n) (by decide)
    have q_8_35 := q_8_32
    have z_8_36 : zi 0 3 n := zu_le q_8_35 z_8_34 z_7_26 (by decide)
    have z_8_37 : zi 0 3 v_7_25 := zd_le q_8_35 z_8_34 z_7_26 (by decide)
    have z_8_38 : zi 1 4 r_3_22 := zp_add q_7_27 z_8_37 z_3_23 (by decide)
    exact cg_iret (nw := fun _ => 0) hC hr hlk hO.same rfl (Nat.le_of_ble_eq_true rfl) (Nat.le_of_ble_eq_true rfl) (Or.inl ⟨z_8_36, q_8_33, rfl, rfl⟩) ddX12_isPost_11
  · obtain ⟨rfl, rfl⟩ := hw
    have hO : cO D cy A s.heap s 2 ad (cup [] g) _ _ := hO
    exact cg_iret (nw := fun _ => 0) hC hr hlk hO.same rfl (Nat.le_of_ble_eq_true rfl) (Nat.le_of_ble_eq_true rfl) (Or.inr ⟨rfl, rfl⟩) ddX12_isPost_11

theorem ddX12_isCart_0 : decode cX12_isCart 0 = .ok (.iload_n 1, 1) := by decide +kernel
theorem ddX12_isCart_1 : decode cX12_isCart 1 = .ok (.iconst 0, 1) := by decide +kernel
theorem ddX12_isCart_2 : decode cX12_isCart 2 = .ok (.aload_n 0, 1) := by decide +kernel
theorem ddX12_isCart_3 : decode cX12_isCart 3 = .ok (.getfield 98, 3) := by decide +kernel
theorem ddX12_isCart_6 : decode cX12_isCart 6 = .ok (.iconst 0, 1) := by decide +kernel
theorem ddX12_isCart_7 : decode cX12_isCart 7 = .ok (.iaload, 1) := by decide +kernel
theorem ddX12_isCart_8 : decode cX12_isCart 8 = .ok (.iconst 1, 1) := by decide +kernel
theorem ddX12_isCart_9 : decode cX12_isCart 9 = .ok (.isub, 1) := by decide +kernel
theorem ddX12_isCart_10 : decode cX12_isCart 10 = .ok (.invokestatic 366, 3) := by decide +kernel
theorem ddX12_isCart_13 : decode cX12_isCart 13 = .ok (.ireturn, 1) := by decide +kernel
def wq_k_X12_isCart : List Cond := Cond.code yX12_isCart cX12_isCart 2 (some .boolean) :: (([Cond.fieldLink RX12 98 "CrowTollModel" "state" "[I", Cond.methodLink RX12 366 yX12_isIn, Cond.static yX12_isIn, Cond.initialized RX12, Cond.code yX12_isIn cX12_isIn 3 (some .boolean)] : List Cond) ++ wsX120)
set_option maxRecDepth 20000 in
theorem gr_k_X12_isCart_k_X12_isIn : GoodIn wq_k_X12_isCart wq_k_X12_isIn := List.forall_mem_cons.mpr ⟨⟨(List.mem_of_getElem? (i := 5) rfl), good_of_word rfl⟩, (fun _ h => absurd h List.not_mem_nil)⟩
set_option maxRecDepth 20000 in
theorem gq_k_X12_isCart_k_X12_isIn_366 : GoodIn wq_k_X12_isCart (va_wsS RX12 366 yX12_isIn wq_k_X12_isIn) := goodIn_app (List.forall_mem_cons.mpr ⟨⟨(List.mem_of_getElem? (i := 2) rfl), good_of_word rfl⟩, List.forall_mem_cons.mpr ⟨⟨(List.mem_of_getElem? (i := 3) rfl), good_of_word rfl⟩, List.forall_mem_cons.mpr ⟨⟨(List.mem_of_getElem? (i := 4) rfl), good_of_word rfl⟩, (fun _ h => absurd h List.not_mem_nil)⟩⟩⟩) gr_k_X12_isCart_k_X12_isIn
set_option maxHeartbeats 8000000 in
set_option maxRecDepth 100000 in
theorem k_X12_isCart (l : Launch) (D : va_G) (cy : Nat → ClassId) (ad : Nat → Nat) (g : Nat → va_E) {u0_0 : Value} {u0_1 : Value} {u0_2 : Value} {u0_3 : Value} {u0_4 : Value} {u0_5 : Value} {u0_6 : Value} {u0_7 : Value} {u0_8 : Value} {u0_9 : Value} {u0_10 : Value} {u0_11 : Value} {u0_12 : Value} {u0_13 : Value} {u0_14 : Value} {u0_15 : Value} {u0_16 : Value} {u0_17 : Value} {u0_18 : Value} {u0_19 : Value} {u0_20 : Value} {u0_21 : Value} {u0_22 : Value} {u0_23 : Value} {u0_24 : Value} {u0_25 : Value} {u0_26 : Value} {u0_27 : Value} {u0_28 : Value} {u0_29 : Value} {u0_30 : Value} {u0_31 : Value} {u0_32 : Value} {u0_33 : Value} {u0_34 : Value} {u0_35 : Value} {u0_36 : Value} {u0_37 : Value} {u0_38 : Value} {u0_39 : Value} {u0_40 : Value} {u0_42 : Value} {u0_43 : Value} {u0_44 : Value} {u0_45 : Value} {u0_46 : Value} {u0_47 : Value} {u0_48 : Value} {u0_49 : Value} {u0_50 : Value} {u0_51 : Value} {u0_52 : Value} {u0_53 : Value} {u0_54 : Value} {u0_55 : Value} {u0_56 : Value} {u0_57 : Value} {u0_58 : Value} {u0_59 : Value} {u0_60 : Value} {u0_61 : Value} {u0_62 : Value} {u0_63 : Value} {u0_64 : Value} {u0_65 : Value} {u0_66 : Value} {u0_67 : Value} {u0_68 : Value} {u0_69 : Value} {u0_70 : Value} {u0_71 : Value} {u0_72 : Value} {u0_73 : Value} {c1 : Nat → Int32} {n : Int32} (o0 : g 0 = .inr (12, [u0_0, u0_1, u0_2, u0_3, u0_4, u0_5, u0_6, u0_7, u0_8, u0_9, u0_10, u0_11, u0_12, u0_13, u0_14, u0_15, u0_16, u0_17, u0_18, u0_19, u0_20, u0_21, u0_22, u0_23, u0_24, u0_25, u0_26, u0_27, u0_28, u0_29, u0_30, u0_31, u0_32, u0_33, u0_34, u0_35, u0_36, u0_37, u0_38, u0_39, u0_40, .ref (ad 1), u0_42, u0_43, u0_44, u0_45, u0_46, u0_47, u0_48, u0_49, u0_50, u0_51, u0_52, u0_53, u0_54, u0_55, u0_56, u0_57, u0_58, u0_59, u0_60, u0_61, u0_62, u0_63, u0_64, u0_65, u0_66, u0_67, u0_68, u0_69, u0_70, u0_71, u0_72, u0_73])) (a1 : g 1 = .inl (cy 0, 80, .inl c1)) (ha1 : zs c1) : cMi l yX12_isCart wq_k_X12_isCart { frames := 1, cells := 0, slots := 0, locals := 22 } 2 0 0 0 D cy ad g [.ref (ad 0), .int n] (fun r nw lu => ((zi 0 23 n) ∧ ((0 : Int32).toInt ≤ (n : Int32).toInt) ∧ (r = 1) ∧ (lu = [])) ∨ ((r = 0) ∧ (lu = []))) := by
  refine cM_of (Qc := fun A => cQi (fun r nw lu => ((zi 0 23 n) ∧ ((0 : Int32).toInt ≤ (n : Int32).toInt) ∧ (r = 1) ∧ (lu = [])) ∨ ((r = 0) ∧ (lu = []))) D 2 0 ad g A) (cc := cX12_isCart) (maxL := 2) (ret := (some .boolean)) (by decide) rfl (Nat.le_of_ble_eq_true rfl) ?_
  intro p e s m below meth c A hC hr hlk hnm hO ls hl
  have hC : CallFix p m c cX12_isCart 2 s [.ref (ad 0), .int n].toArray wq_k_X12_isCart RX12 := hC
  obtain ⟨hx, hb, hml, hown, hts⟩ := id hC
  have hl : lv_has ls 2 [(0, .ref (ad 0)), (1, .int n)] := hl
  have i_X12 : ∀ w ∈ wsX120, w ∈ wq_k_X12_isCart := fun w h => List.mem_cons_of_mem _ (List.mem_append_right _ h)
  refine lv_iload_n hx hb ddX12_isCart_0 rfl (lv_at hl 1 rfl) ?_
  refine lv_iconst (v := 0) hx hb ddX12_isCart_1 (by decide) ?_
  refine lv_aload_n hx hb ddX12_isCart_2 rfl (lv_at hl 0 rfl) ?_
  refine cg_get hC hO 0 (by decide) o0 rfl i_X12 41 (by decide) (List.mem_of_getElem? (i := 1) rfl) rfl ddX12_isCart_3 ?_
  refine lv_iconst (v := 0) hx hb ddX12_isCart_6 (by decide) ?_
  refine zg_ialdS hC hO 1 (by decide) a1 ha1 (cin (by decide)) ddX12_isCart_7 (fun v_7_19 z_7_20 el_7_21 => ?_)
  have z_7_22 : zi 0 24 v_7_19 := z_7_20 (by decide)
  refine lv_iconst (v := 1) hx hb ddX12_isCart_8 (by decide) ?_
  refine lv_isub hx hb ddX12_isCart_9 ?_
  refine zg_top2 (P := fun v => zi (-1) 23 v) (E := fun v => v.toInt = v_7_19.toInt + -1) (zi_subk z_7_22 (n := 1) (by decide) (by decide)) (fun v_9_23 z_9_24 q_9_25 => ?_)
  refine cg_Si (As := [.int n, .int 0, .int v_9_23]) (rest := []) (mc := 0) (ms := 0) (rm := { frames := 0, cells := 0, slots := 0, locals := 0 }) hC hl.1 hO [] (by decide +kernel) (k_X12_isIn l D cy _ _ (v := n) (least := 0) (most := v_9_23) ) gq_k_X12_isCart_k_X12_isIn_366 rfl rfl rfl 3 (by decide +kernel) ⟨Nat.le_of_ble_eq_true rfl, Nat.le_of_ble_eq_true rfl⟩ rfl rfl (Nat.le_of_ble_eq_true rfl) ddX12_isCart_10 ⟨Nat.le_of_ble_eq_true rfl, Nat.le_of_ble_eq_true rfl⟩ (fun r_10_28 nw_10_26 l_10_27 H locs hw hO => ?_)
  rcases hw with hw | hw
  · obtain ⟨q_10_29, q_10_30, rfl, rfl⟩ := hw
    have hO : cO D cy A s.heap s 2 ad (cup [] g) _ _ := hO
    have q_10_31 := q_10_29
    have z_10_32 : zi 0 2147483647 n := zd_le q_10_31 (zi_k (a := 0) (b := 0) (x := 0) rfl) (zi_all n) (by decide)
    have q_10_33 := q_10_30
    have z_10_34 : zi 0 23 n := zu_le q_10_33 z_10_32 z_9_24 (by decide)
    have z_10_35 : zi 0 23 v_9_23 := zd_le q_10_33 z_10_32 z_9_24 (by decide)
    have z_10_36 : zi 1 24 v_7_19 := zp_add q_9_25 z_10_35 z_7_22 (by decide)
    exact cg_iret (nw := fun _ => 0) hC hr hlk hO.same rfl (Nat.le_of_ble_eq_true rfl) (Nat.le_of_ble_eq_true rfl) (Or.inl ⟨z_10_34, q_10_31, rfl, rfl⟩) ddX12_isCart_13
  · obtain ⟨rfl, rfl⟩ := hw
    have hO : cO D cy A s.heap s 2 ad (cup [] g) _ _ := hO
    exact cg_iret (nw := fun _ => 0) hC hr hlk hO.same rfl (Nat.le_of_ble_eq_true rfl) (Nat.le_of_ble_eq_true rfl) (Or.inr ⟨rfl, rfl⟩) ddX12_isCart_13

