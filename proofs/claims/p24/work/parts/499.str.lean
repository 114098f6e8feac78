/-! String constants: the JDK's members over them -/
theorem zi_i2c (x : Int32) : zi 0 65535 ((x.toUInt32 % 65536).toInt32) := by
  have e : (x.toUInt32 % 65536).toInt32.toBitVec.toNat = x.toUInt32.toNat % 65536 := by
    show (x.toUInt32 % 65536).toNat = _
    rw [UInt32.toNat_mod]
    rfl
  have l : x.toUInt32.toNat % 65536 < 65536 := Nat.mod_lt _ (by decide)
  have z := zi_ofNat e (by omega)
  exact ⟨by omega, by omega⟩
theorem zi_narC {x : Int32} (h : zi 0 65535 x) : narrow .char (.int x) = .int x := by
  obtain ⟨h1, h2⟩ := zi_toNat h.1
  have e : x.toUInt32.toUInt16.toUInt32.toInt32 = x := by
    apply Int32.toBitVec_inj.mp
    apply BitVec.eq_of_toNat_eq
    show x.toUInt32.toUInt16.toUInt32.toNat = _
    rw [UInt16.toNat_toUInt32, UInt32.toNat_toUInt16]
    show x.toBitVec.toNat % 2 ^ 16 = _
    exact Nat.mod_eq_of_lt (by omega)
  show Value.int (x.toUInt32.toUInt16.toUInt32.toInt32) = _
  rw [e]
theorem strL_0 : ((50, "bird", 0) : Nat × String × Nat) ∈ strL := List.mem_of_getElem? (i := 0) rfl
theorem strL_1 : ((60, "post", 1) : Nat × String × Nat) ∈ strL := List.mem_of_getElem? (i := 1) rfl
theorem strL_2 : ((65, "cart", 2) : Nat × String × Nat) ∈ strL := List.mem_of_getElem? (i := 2) rfl
theorem strL_3 : ((70, "law", 3) : Nat × String × Nat) ∈ strL := List.mem_of_getElem? (i := 3) rfl
theorem strL_4 : ((89, "counts", 4) : Nat × String × Nat) ∈ strL := List.mem_of_getElem? (i := 4) rfl
theorem strL_5 : ((100, "gap", 5) : Nat × String × Nat) ∈ strL := List.mem_of_getElem? (i := 5) rfl
theorem strL_6 : ((107, "takes", 6) : Nat × String × Nat) ∈ strL := List.mem_of_getElem? (i := 6) rfl
theorem strL_7 : ((118, "at", 7) : Nat × String × Nat) ∈ strL := List.mem_of_getElem? (i := 7) rfl
theorem strL_8 : ((121, "toll", 8) : Nat × String × Nat) ∈ strL := List.mem_of_getElem? (i := 8) rfl
theorem strL_9 : ((157, "sacks", 9) : Nat × String × Nat) ∈ strL := List.mem_of_getElem? (i := 9) rfl
theorem strL_10 : ((161, "maybe", 10) : Nat × String × Nat) ∈ strL := List.mem_of_getElem? (i := 10) rfl
theorem strL_11 : ((181, "not", 11) : Nat × String × Nat) ∈ strL := List.mem_of_getElem? (i := 11) rfl
theorem strL_12 : ((202, "nth", 12) : Nat × String × Nat) ∈ strL := List.mem_of_getElem? (i := 12) rfl
theorem strL_13 : ((204, "or", 13) : Nat × String × Nat) ∈ strL := List.mem_of_getElem? (i := 13) rfl
theorem strL_14 : ((206, "and", 14) : Nat × String × Nat) ∈ strL := List.mem_of_getElem? (i := 14) rfl
theorem strL_15 : ((236, ";()<>=+-*/%", 15) : Nat × String × Nat) ∈ strL := List.mem_of_getElem? (i := 15) rfl
section SROWS
variable {p : Program} {l : Launch} {e : Env} {R : Room} {s : State} {m : MethodId} {args : Array Value} {below : List Frame} {meth : Method} {c : Code} {H : Heap} {locs : List Loc} {cells slots : Nat} {Q : State → Prop}
variable {cc : ByteArray} {pc nL : Nat} {ls : Array Slot} {rest st0 : List Value} {D : va_G} {cy : Nat → ClassId} {A : Nat → Prop} {N k mc ms : Nat} {ad : Nat → Nat} {lu : List (Nat × va_E)} {g : Nat → va_E} {Ts : List Cond} {own : String}
variable {y : MethodName} {ws ws' : List Cond} {rm : Room} {maxL index na : Nat} {ret : Option FieldType} {bytes : ByteArray} {As : List Value}
theorem sg_ldc (hC : CallFix p m c cc nL s args Ts "CrowToll$Reader") (hO : cO D cy A s.heap s N ad g H locs) {tx : String} {q : Nat} (hq : (index, tx, q) ∈ strL) (hdg : decode cc pc = .ok (.ldc index, 2))
    (kk : W p l e R s m args below meth c H locs cells slots Q (F0 m (pc + 2) ls (.ref (cy (100 + q)) :: rest))) : W p l e R s m args below meth c H locs cells slots Q (F0 m pc ls rest) :=
  va_ldcS hC.1 hC.2.1 hC.2.2.2.1 (hO.2.2.2.2.2.2.1 _ hq) hdg kk
theorem sg_val (hC : CallFix p m c cc nL s args Ts own) (hO : cO D cy A s.heap s N ad g H locs) (q : Nat) (hq : q < 16) (hlink : Cond.fieldLink own index "java/lang/String" "value" "[B" ∈ Ts) (hdg : decode cc pc = .ok (.getfield index, 3))
    (kk : W p l e R s m args below meth c H locs cells slots Q (F0 m (pc + 3) ls (.ref (cy (200 + q)) :: rest))) : W p l e R s m args below meth c H locs cells slots Q (F0 m pc ls (.ref (cy (100 + q)) :: rest)) :=
  vk_getf hC.1 hC.2.1 (hO.2.2.2.2.2.1.1 q hq).2.2.1 hO.2.2.2.1 hC.2.2.2.1 (hC.2.2.2.2 _ hlink) (fun _ h => h) hdg kk
theorem sg_cod (hC : CallFix p m c cc nL s args Ts own) (hO : cO D cy A s.heap s N ad g H locs) (q : Nat) (hq : q < 16) (hlink : Cond.fieldLink own index "java/lang/String" "coder" "B" ∈ Ts) (hdg : decode cc pc = .ok (.getfield index, 3))
    (kk : W p l e R s m args below meth c H locs cells slots Q (F0 m (pc + 3) ls (.int 0 :: rest))) : W p l e R s m args below meth c H locs cells slots Q (F0 m pc ls (.ref (cy (100 + q)) :: rest)) :=
  vk_getf hC.1 hC.2.1 (hO.2.2.2.2.2.1.1 q hq).2.1 hO.2.2.2.1 hC.2.2.2.1 (hC.2.2.2.2 _ hlink) (fun _ h => h) hdg kk
theorem sg_com (hC : CallFix p m c cc nL s args Ts own) (hO : cO D cy A s.heap s N ad g H locs) (hlink : Cond.fieldLink own index "java/lang/String" "COMPACT_STRINGS" "Z" ∈ Ts) (hdg : decode cc pc = .ok (.getstatic index, 3))
    (kk : W p l e R s m args below meth c H locs cells slots Q (F0 m (pc + 3) ls (.int 1 :: rest))) : W p l e R s m args below meth c H locs cells slots Q (F0 m pc ls rest) :=
  va_gets hC.1 hC.2.1 hO.2.2.2.2.2.2.2.1 hO.2.2.2.1 hC.2.2.2.1 (hC.2.2.2.2 _ hlink) (fun _ h => h) hdg kk
theorem sg_fmt (hC : CallFix p m c cc nL s args Ts own) (hO : cO D cy A s.heap s N ad g H locs) (hlink : Cond.fieldLink own index "jdk/internal/util/Preconditions" "SIOOBE_FORMATTER" "Ljava/util/function/BiFunction;" ∈ Ts) (hdg : decode cc pc = .ok (.getstatic index, 3))
    (k0 : W p l e R s m args below meth c H locs cells slots Q (F0 m (pc + 3) ls (.null :: rest))) (k1 : ∀ t : Nat, W p l e R s m args below meth c H locs cells slots Q (F0 m (pc + 3) ls (.ref t :: rest))) : W p l e R s m args below meth c H locs cells slots Q (F0 m pc ls rest) := by
  rcases hO.2.2.2.2.2.2.2.2 with z | ⟨t, z⟩
  · exact va_gets hC.1 hC.2.1 z hO.2.2.2.1 hC.2.2.2.1 (hC.2.2.2.2 _ hlink) (fun _ h => h) hdg k0
  · exact va_gets hC.1 hC.2.1 z hO.2.2.2.1 hC.2.2.2.1 (hC.2.2.2.2 _ hlink) (fun _ h => h) hdg (k1 t)
theorem sg_len (hC : CallFix p m c cc nL s args Ts own) (hO : cO D cy A s.heap s N ad g H locs) (q : Nat) (hq : q < 16) {v : Int32} (hv : Int32.ofNat (lenS.getD q 0) = v) (hdg : decode cc pc = .ok (.arraylength, 1))
    (kk : W p l e R s m args below meth c H locs cells slots Q (F0 m (pc + 1) ls (.int v :: rest))) : W p l e R s m args below meth c H locs cells slots Q (F0 m pc ls (.ref (cy (200 + q)) :: rest)) :=
  va_tlen hC.1 hC.2.1 (hO.2.2.2.2.2.1.1 q hq).2.2.2 hO.2.2.2.1 hv hdg kk
theorem sg_bld (hC : CallFix p m c cc nL s args Ts own) (hO : cO D cy A s.heap s N ad g H locs) (q : Nat) (hq : q < 16) {x : Int32} (hin : vp_in x (lenS.getD q 0)) (hdg : decode cc pc = .ok (.baload, 1))
    (kk : ∀ v : Int32, W p l e R s m args below meth c H locs cells slots Q (F0 m (pc + 1) ls (.int v :: rest))) : W p l e R s m args below meth c H locs cells slots Q (F0 m pc ls (.int x :: .ref (cy (200 + q)) :: rest)) :=
  va_tb hC.1 hC.2.1 (hO.2.2.2.2.2.1.1 q hq).2.2.2 hO.2.2.2.1 hin rfl hdg (kk _)
theorem sg_Vi {post : Int32 → (Nat → Nat) → List (Nat × va_E) → Prop} (hC : CallFix p m c cc nL s args Ts own) (hls : ls.size = nL) (hO : cO D cy A s.heap s N ad (cup lu g) H locs) (ps : List Nat) (hps : cps N k ps = true) (q : Nat) (hq : q < 16) (hM : cMi l y ws rm k 0 mc ms D cy (fun i => ad (ps.getD i 0)) (fun i => cup lu g (ps.getD i 0)) (.ref (cy (100 + q)) :: As) post) (hG : GoodIn Ts (wsV own index "java/lang/String" y ws)) (hw : ws = Cond.code y bytes maxL ret :: ws') (hrc : rm.cells = mc) (hrs : rm.slots = ms) (na : Nat) (hd : y.cls = "java/lang/String" ∧ y.cls ≠ "java/lang/invoke/MethodHandle" ∧ y.cls ≠ "java/lang/invoke/VarHandle" ∧ (parseMethodDescriptor y.desc).map (fun d => d.parameters.length) = some na) (hR : rm.frames + 1 ≤ R.frames ∧ 8 + (maxL + 11) + rm.locals ≤ R.locals) (hna : As.length = na) (hst : st0 = As.reverse ++ .ref (cy (100 + q)) :: rest) (hrest : (rest.map fun v => v.category).sum ≤ 8) (hdg : decode cc pc = .ok (.invokevirtual index, 3)) (hf : cells + mc ≤ R.cells ∧ slots + ms ≤ R.slots)
    (kk : ∀ (r : Int32) (nw : Nat → Nat) (l' : List (Nat × va_E)) (H1 : Heap) (locs1 : List Loc), post r nw l' → cO D cy A s.heap s N ad (cup (cmrg N k ps l' lu) g) H1 locs1 → W p l e R s m args below meth c H1 locs1 (cells + mc) (slots + ms) Q (F0 m (pc + 3) ls (.int r :: rest))) : W p l e R s m args below meth c H locs cells slots Q (F0 m pc ls st0) :=
  cg_doi (n := 0) hO hps (va_runV (As := As) (rest := rest) hC (hM H.size) (cwV na hC.2.2.2.2 hG hw hrc hrs hd hR) ⟨cPre_blind, vk_recv hO.2.2.2.2.2.1 hq hO.2.2.2.1, hO.pre hps _⟩ rfl hna hls hst (lv_room hrest) hdg hf) (fun r nw l' H1 locs1 hw hO1 => kk r nw l' H1 locs1 hw (hO1 rfl).back)
end SROWS
