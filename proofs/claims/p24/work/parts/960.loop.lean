theorem sc_0 {v : Int32} {L : Nat} (hv : 0 ≤ v.toInt ∧ v.toInt + 6 ≤ L) (hL : L ≤ 3072) : vp_in v L := by
  unfold vp_in
  rintro (h1 | h1)
  · have := zr_lt h1
    rw [zi_0] at this
    omega
  · have e : v.toNatClampNeg = v.toInt.toNat := rfl
    omega
set_option maxHeartbeats 8000000 in
set_option maxRecDepth 100000 in
theorem law_loop {p : Program} {e : Env} {s : State} {m : MethodId} {below : List Frame} {meth : Method} {c : Code} (l : Launch) {b L : Nat} {xs : Nat → Int32} {D : va_G} {cy : Nat → ClassId} {ad : Nat → Nat} (hC : CallFix p m c code 4 s #[Value.ref b] lw_tbl RL) (hX : va_X b L xs s s.heap) (hbl : b < s.heap.size) (hL : L ≤ 3072) (hr : meth.sig.returnType = ret) (hlk : meth.locks = false) {cells slots : Nat} (hce : cells + 0 ≤ 600000) (hsl : slots + 0 ≤ 7302250) : ∀ (d : Nat) (v : Int32) (g : Nat → va_E) (H : Heap) (locs : List Loc) (ls : Array Slot), 0 ≤ v.toInt → v.toInt ≤ 3072 → (3073 - v.toInt).toNat < d → INV cy ad g → TE g → cO D cy (fun q : Nat => s.heap.size ≤ q) s.heap s 173 ad (cup [] g) H locs → lv_has ls 4 [(0, .ref b), (1, .ref (ad 0)), (2, .ref (ad 119)), (3, .int v)] → W p l e room_1 s m #[Value.ref b] below meth c H locs cells slots (lw_Z below #[Value.ref b] s) (F0 m 18 ls []) := by
  obtain ⟨hx, hb, hml, hown, hts⟩ := id hC
  intro d
  induction d with
  | zero => intro v g H locs ls _ _ h; exact absurd h (Nat.not_lt_zero _)
  | succ d ih =>
    intro v g H locs ls hv0 hv1 hd hI hT hO hl
    refine lv_iload_n hx hb dL_law_18 rfl (lv_at hl 3 rfl) ?_
    refine lv_aload_n hx hb dL_law_19 rfl (lv_at hl 0 rfl) ?_
    refine va_slen hx hb hX hbl (Nat.not_le.mpr hbl) hO.2.2.2.1 dL_law_20 ?_
    refine lv_bipush (v := 6) hx hb dL_law_21 (by decide) ?_
    refine lv_isub hx hb dL_law_23 ?_
    refine lv_icmp_gt (tgt := 923) hx hb dL_law_24 (by decide) (fun _ => law_end (L := L) (xs := xs) l hC hr hlk hO hce hsl) (fun h => ?_)
    have hv : 0 ≤ v.toInt ∧ v.toInt + 6 ≤ L := by
      have h1 := zr_nlt h
      rw [len_6 hL] at h1
      omega
    refine lv_aload_n hx hb dL_law_27 rfl (lv_at hl 0 rfl) ?_
    refine lv_iload_n hx hb dL_law_28 rfl (lv_at hl 3 rfl) ?_
    refine va_sld hx hb hX hbl (Nat.not_le.mpr hbl) hO.2.2.2.1 (sc_0 hv hL) dL_law_29 ?_
    refine lv_bipush (v := 31) hx hb dL_law_30 (by decide) ?_
    refine lv_iand hx hb dL_law_32 ?_
    refine lv_topi (fun x ex => ?_)
    have K : ∀ (g1 : Nat → va_E) (H1 : Heap) (locs1 : List Loc), INV cy ad g1 → TE g1 → cO D cy (fun q : Nat => s.heap.size ≤ q) s.heap s 173 ad (cup [] g1) H1 locs1 → W p l e room_1 s m #[Value.ref b] below meth c H1 locs1 cells slots (lw_Z below #[Value.ref b] s) (F0 m 917 ls []) := by
      intro g1 H1 locs1 hI1 hT1 hO1
      obtain ⟨w, ew, zw, qw⟩ := zi_inc (e := 6) (f := 3078) (a := 0) (b := 3072) (x := v) 6 ⟨hv0, hv1⟩ (by decide)
      refine lv_iinc (v := w) (lv' := [(3, .int w), (0, .ref b), (1, .ref (ad 0)), (2, .ref (ad 119))]) hx hb dL_law_917 hl (k := 3) rfl ew (by decide) rfl (fun ls hl => ?_)
      refine lv_goto (tgt := 18) hx hb dL_law_920 (by decide) ?_
      exact ih w g1 H1 locs1 ls (by omega) (by omega) (by omega) hI1 hT1 hO1 (lv_sub hl [1, 2, 3, 0] rfl)
    by_cases hs_0 : x = 0
    · refine lv_tableIn (tgt := 156) hx hb dL_law_33 (by rw [hs_0]; decide) (by rw [hs_0]; decide) (by rw [hs_0]; rfl) (by decide) ?_
      exact lc_feed l hC hX hbl hL hv hI hT hO hce hsl hl K
    by_cases hs_1 : x = 1
    · refine lv_tableIn (tgt := 219) hx hb dL_law_33 (by rw [hs_1]; decide) (by rw [hs_1]; decide) (by rw [hs_1]; rfl) (by decide) ?_
      exact lc_end l hC hX hbl hL hv hI hT hO hce hsl hl K
    by_cases hs_2 : x = 2
    · refine lv_tableIn (tgt := 242) hx hb dL_law_33 (by rw [hs_2]; decide) (by rw [hs_2]; decide) (by rw [hs_2]; rfl) (by decide) ?_
      exact lc_road l hC hX hbl hL hv hI hT hO hce hsl hl K
    by_cases hs_3 : x = 3
    · refine lv_tableIn (tgt := 255) hx hb dL_law_33 (by rw [hs_3]; decide) (by rw [hs_3]; decide) (by rw [hs_3]; rfl) (by decide) ?_
      exact lc_fault l hC hX hbl hL hv hI hT hO hce hsl hl K
    by_cases hs_4 : x = 4
    · refine lv_tableIn (tgt := 278) hx hb dL_law_33 (by rw [hs_4]; decide) (by rw [hs_4]; decide) (by rw [hs_4]; rfl) (by decide) ?_
      exact lc_cart l hC hX hbl hL hv hI hT hO hce hsl hl K
    by_cases hs_5 : x = 5
    · refine lv_tableIn (tgt := 311) hx hb dL_law_33 (by rw [hs_5]; decide) (by rw [hs_5]; decide) (by rw [hs_5]; rfl) (by decide) ?_
      exact lc_counter l hC hX hbl hL hv hI hT hO hce hsl hl K
    by_cases hs_6 : x = 6
    · refine lv_tableIn (tgt := 344) hx hb dL_law_33 (by rw [hs_6]; decide) (by rw [hs_6]; decide) (by rw [hs_6]; rfl) (by decide) ?_
      exact lc_pays l hC hX hbl hL hv hI hT hO hce hsl hl K
    by_cases hs_7 : x = 7
    · refine lv_tableIn (tgt := 377) hx hb dL_law_33 (by rw [hs_7]; decide) (by rw [hs_7]; decide) (by rw [hs_7]; rfl) (by decide) ?_
      exact lc_bird l hC hX hbl hL hv hI hT hO hce hsl hl K
    by_cases hs_8 : x = 8
    · refine lv_tableIn (tgt := 410) hx hb dL_law_33 (by rw [hs_8]; decide) (by rw [hs_8]; decide) (by rw [hs_8]; rfl) (by decide) ?_
      exact lc_income l hC hX hbl hL hv hI hT hO hce hsl hl K
    by_cases hs_9 : x = 9
    · refine lv_tableIn (tgt := 433) hx hb dL_law_33 (by rw [hs_9]; decide) (by rw [hs_9]; decide) (by rw [hs_9]; rfl) (by decide) ?_
      exact lc_come l hC hX hbl hL hv hI hT hO hce hsl hl K
    by_cases hs_10 : x = 10
    · refine lv_tableIn (tgt := 466) hx hb dL_law_33 (by rw [hs_10]; decide) (by rw [hs_10]; decide) (by rw [hs_10]; rfl) (by decide) ?_
      exact lc_doubt l hC hX hbl hL hv hI hT hO hce hsl hl K
    by_cases hs_11 : x = 11
    · refine lv_tableIn (tgt := 489) hx hb dL_law_33 (by rw [hs_11]; decide) (by rw [hs_11]; decide) (by rw [hs_11]; rfl) (by decide) ?_
      exact lc_learn l hC hX hbl hL hv hI hT hO hce hsl hl K
    by_cases hs_12 : x = 12
    · refine lv_tableIn (tgt := 522) hx hb dL_law_33 (by rw [hs_12]; decide) (by rw [hs_12]; decide) (by rw [hs_12]; rfl) (by decide) ?_
      exact lc_undo l hC hX hbl hL hv hI hT hO hce hsl hl K
    by_cases hs_13 : x = 13
    · refine lv_tableIn (tgt := 535) hx hb dL_law_33 (by rw [hs_13]; decide) (by rw [hs_13]; decide) (by rw [hs_13]; rfl) (by decide) ?_
      exact lc_redo l hC hX hbl hL hv hI hT hO hce hsl hl K
    by_cases hs_14 : x = 14
    · refine lv_tableIn (tgt := 548) hx hb dL_law_33 (by rw [hs_14]; decide) (by rw [hs_14]; decide) (by rw [hs_14]; rfl) (by decide) ?_
      exact lc_party l hC hX hbl hL hv hI hT hO hce hsl hl K
    by_cases hs_15 : x = 15
    · refine lv_tableIn (tgt := 611) hx hb dL_law_33 (by rw [hs_15]; decide) (by rw [hs_15]; decide) (by rw [hs_15]; rfl) (by decide) ?_
      exact lc_heaps l hC hX hbl hL hv hI hT hO hce hsl hl K
    by_cases hs_16 : x = 16
    · refine lv_tableIn (tgt := 654) hx hb dL_law_33 (by rw [hs_16]; decide) (by rw [hs_16]; decide) (by rw [hs_16]; rfl) (by decide) ?_
      exact lc_rest l hC hX hbl hL hv hI hT hO hce hsl hl K
    by_cases hs_17 : x = 17
    · refine lv_tableIn (tgt := 667) hx hb dL_law_33 (by rw [hs_17]; decide) (by rw [hs_17]; decide) (by rw [hs_17]; rfl) (by decide) ?_
      exact lc_teach l hC hX hbl hL hv hI hT hO hce hsl hl K
    by_cases hs_18 : x = 18
    · refine lv_tableIn (tgt := 690) hx hb dL_law_33 (by rw [hs_18]; decide) (by rw [hs_18]; decide) (by rw [hs_18]; rfl) (by decide) ?_
      exact lc_seats l hC hX hbl hL hv hI hT hO hce hsl hl K
    by_cases hs_19 : x = 19
    · refine lv_tableIn (tgt := 703) hx hb dL_law_33 (by rw [hs_19]; decide) (by rw [hs_19]; decide) (by rw [hs_19]; rfl) (by decide) ?_
      exact lc_lies l hC hX hbl hL hv hI hT hO hce hsl hl K
    by_cases hs_20 : x = 20
    · refine lv_tableIn (tgt := 726) hx hb dL_law_33 (by rw [hs_20]; decide) (by rw [hs_20]; decide) (by rw [hs_20]; rfl) (by decide) ?_
      exact lc_sight l hC hX hbl hL hv hI hT hO hce hsl hl K
    by_cases hs_21 : x = 21
    · refine lv_tableIn (tgt := 769) hx hb dL_law_33 (by rw [hs_21]; decide) (by rw [hs_21]; decide) (by rw [hs_21]; rfl) (by decide) ?_
      exact lc_untell l hC hX hbl hL hv hI hT hO hce hsl hl K
    by_cases hs_22 : x = 22
    · refine lv_tableIn (tgt := 792) hx hb dL_law_33 (by rw [hs_22]; decide) (by rw [hs_22]; decide) (by rw [hs_22]; rfl) (by decide) ?_
      exact lc_later l hC hX hbl hL hv hI hT hO hce hsl hl K
    by_cases hs_23 : x = 23
    · refine lv_tableIn (tgt := 815) hx hb dL_law_33 (by rw [hs_23]; decide) (by rw [hs_23]; decide) (by rw [hs_23]; rfl) (by decide) ?_
      exact lc_came l hC hX hbl hL hv hI hT hO hce hsl hl K
    by_cases hs_24 : x = 24
    · refine lv_tableIn (tgt := 848) hx hb dL_law_33 (by rw [hs_24]; decide) (by rw [hs_24]; decide) (by rw [hs_24]; rfl) (by decide) ?_
      exact lc_image l hC hX hbl hL hv hI hT hO hce hsl hl K
    by_cases hs_25 : x = 25
    · refine lv_tableIn (tgt := 871) hx hb dL_law_33 (by rw [hs_25]; decide) (by rw [hs_25]; decide) (by rw [hs_25]; rfl) (by decide) ?_
      exact lc_back l hC hX hbl hL hv hI hT hO hce hsl hl K
    by_cases hs_26 : x = 26
    · refine lv_tableIn (tgt := 894) hx hb dL_law_33 (by rw [hs_26]; decide) (by rw [hs_26]; decide) (by rw [hs_26]; rfl) (by decide) ?_
      exact lc_about l hC hX hbl hL hv hI hT hO hce hsl hl K
    refine lv_tableOut (tgt := 917) hx hb dL_law_33 (tsw_out_0_26 x hs_0 hs_1 hs_2 hs_3 hs_4 hs_5 hs_6 hs_7 hs_8 hs_9 hs_10 hs_11 hs_12 hs_13 hs_14 hs_15 hs_16 hs_17 hs_18 hs_19 hs_20 hs_21 hs_22 hs_23 hs_24 hs_25 hs_26) (by decide) ?_
    exact K _ _ _ hI hT hO
