/-! a world as a function: cell i of it lies at ad i and holds g i; 'cup lu g' is g with the cells of lu put over it -/
def cw (N : Nat) (ad : Nat → Nat) (g : Nat → va_E) : va_W := (List.range N).map (fun i => (ad i, g i))
theorem cw_get {N : Nat} {ad : Nat → Nat} {g : Nat → va_E} {i : Nat} (h : i < N) : (cw N ad g)[i]? = some (ad i, g i) := by
  simp [cw, h]
theorem cw_len {N : Nat} {ad : Nat → Nat} {g : Nat → va_E} : (cw N ad g).length = N := by simp [cw]
theorem cw_inv {N : Nat} {ad : Nat → Nat} {g : Nat → va_E} {k : Nat} {q : Nat × va_E} (h : (cw N ad g)[k]? = some q) : k < N ∧ q = (ad k, g k) := by
  have hk : k < N := by
    have := (List.getElem?_eq_some_iff.mp h).1
    rwa [cw_len] at this
  rw [cw_get hk] at h
  exact ⟨hk, (Option.some.inj h).symm⟩
def cup : List (Nat × va_E) → (Nat → va_E) → Nat → va_E
  | [], g, j => g j
  | q :: r, g, j => cond (Nat.beq j q.1) q.2 (cup r g j)
def cins (i : Nat) (e : va_E) : List (Nat × va_E) → List (Nat × va_E)
  | [] => [(i, e)]
  | q :: r => cond (Nat.beq q.1 i) ((i, e) :: r) (q :: cins i e r)
theorem nbeq (a b : Nat) : Nat.beq a b = decide (a = b) := by
  by_cases h : a = b
  · subst h; simp
  · rw [decide_eq_false h]
    cases hb : Nat.beq a b with
    | false => rfl
    | true => exact absurd (Nat.eq_of_beq_eq_true hb) h
theorem cup_cons (q : Nat × va_E) (r : List (Nat × va_E)) (g : Nat → va_E) (j : Nat) : cup (q :: r) g j = if j = q.1 then q.2 else cup r g j := by
  rw [cup, nbeq]
  by_cases h : j = q.1
  · rw [if_pos h, decide_eq_true h]; rfl
  · rw [if_neg h, decide_eq_false h]; rfl
theorem cins_cons (i : Nat) (e : va_E) (q : Nat × va_E) (r : List (Nat × va_E)) : cins i e (q :: r) = if q.1 = i then (i, e) :: r else q :: cins i e r := by
  rw [cins, nbeq]
  by_cases h : q.1 = i
  · rw [if_pos h, decide_eq_true h]; rfl
  · rw [if_neg h, decide_eq_false h]; rfl
theorem cup_ins (i : Nat) (e : va_E) (l : List (Nat × va_E)) (g : Nat → va_E) (j : Nat) : cup (cins i e l) g j = if j = i then e else cup l g j := by
  induction l with
  | nil => rw [cins, cup_cons]
  | cons q r ih =>
    rw [cins_cons]
    by_cases h : q.1 = i
    · rw [if_pos h, cup_cons, cup_cons]
      by_cases h2 : j = i
      · rw [if_pos h2, if_pos h2]
      · rw [if_neg h2, if_neg h2, if_neg (fun z => h2 (z.trans h))]
    · rw [if_neg h, cup_cons, cup_cons, ih]
      by_cases h2 : j = q.1
      · rw [if_pos h2, if_pos h2, if_neg (fun z => h (h2.symm.trans z))]
      · rw [if_neg h2, if_neg h2]
theorem cw_set {N : Nat} {ad : Nat → Nat} {lu : List (Nat × va_E)} {g : Nat → va_E} {i : Nat} {e : va_E} (h : i < N) : (cw N ad (cup lu g)).set i (ad i, e) = cw N ad (cup (cins i e lu) g) := by
  apply List.ext_getElem?
  intro k
  by_cases hk : k < N
  · by_cases hki : i = k
    · subst hki
      rw [List.getElem?_set_self (by rw [cw_len]; exact h), cw_get hk, cup_ins, if_pos rfl]
    · rw [List.getElem?_set_ne hki, cw_get hk, cw_get hk, cup_ins, if_neg (Ne.symm hki)]
  · rw [List.getElem?_eq_none (by rw [List.length_set, cw_len]; omega), List.getElem?_eq_none (by rw [cw_len]; omega)]
/-- addresses: those below N as they were, the new ones behind them -/
def aext (N : Nat) (nw ad : Nat → Nat) : Nat → Nat := fun j => cond (Nat.blt j N) (ad j) (nw (j - N))
theorem aext_lt {N : Nat} {nw ad : Nat → Nat} {j : Nat} (h : j < N) : aext N nw ad j = ad j := by
  have : Nat.blt j N = true := by simp [Nat.blt, Nat.ble_eq]; omega
  rw [aext, this]; rfl
theorem aext_ge {N : Nat} {nw ad : Nat → Nat} {j : Nat} (h : N ≤ j) : aext N nw ad j = nw (j - N) := by
  have : Nat.blt j N = false := by
    cases hb : Nat.blt j N with
    | false => rfl
    | true => simp [Nat.blt, Nat.ble_eq] at hb; omega
  rw [aext, this]; rfl
theorem aext_0 {N : Nat} {nw ad : Nat → Nat} {g : Nat → va_E} : cw N (aext N nw ad) g = cw N ad g := by
  apply List.ext_getElem?
  intro k
  by_cases hk : k < N
  · rw [cw_get hk, cw_get hk, aext_lt hk]
  · rw [List.getElem?_eq_none (by rw [cw_len]; omega), List.getElem?_eq_none (by rw [cw_len]; omega)]
theorem cw_push {N : Nat} {ad : Nat → Nat} {lu : List (Nat × va_E)} {g : Nat → va_E} {a : Nat} {e : va_E} : cw N ad (cup lu g) ++ [(a, e)] = cw (N + 1) (aext N (fun _ => a) ad) (cup (cins N e lu) g) := by
  apply List.ext_getElem?
  intro k
  by_cases hk : k < N
  · rw [List.getElem?_append_left (by rw [cw_len]; exact hk), cw_get hk, cw_get (by omega), aext_lt hk, cup_ins, if_neg (by omega)]
  · rw [List.getElem?_append_right (by rw [cw_len]; omega), cw_len]
    by_cases h2 : k = N
    · subst h2
      rw [Nat.sub_self, cw_get (by omega), aext_ge (Nat.le_refl _), cup_ins, if_pos rfl]
      rfl
    · rw [List.getElem?_eq_none (by simp; omega), List.getElem?_eq_none (by rw [cw_len]; omega)]
/-! the tables: classes, array classes, nest mates' words, the array of Stands -/
abbrev cT (cy : Nat → ClassId) : List (ClassId × FieldType) := [(cy 0, .int), (cy 1, .long), (cy 2, .boolean), (cy 3, .byte), (cy 4, .object "CrowToll$Stand")]
def nestL : List (String × Nat × MethodName × String) := [("CrowToll", 19, ⟨"CrowToll$Reader", "<init>", "()V"⟩, "CrowToll"), ("CrowToll$Reader", 11, ⟨"CrowToll$Road", "<init>", "()V"⟩, "CrowToll"), ("CrowToll$Road", 54, ⟨"CrowToll$Law", "<init>", "()V"⟩, "CrowToll"), ("CrowToll", 26, ⟨"CrowToll$Road", "<init>", "()V"⟩, "CrowToll"), ("CrowToll", 36, ⟨"CrowToll$Stand", "<init>", "()V"⟩, "CrowToll"), ("CrowToll", 54, ⟨"CrowToll$Acts", "<init>", "()V"⟩, "CrowToll"), ("CrowToll$Reader", 208, ⟨"CrowToll", "within", "(III)Z"⟩, "CrowToll"), ("CrowToll$Stand", 47, ⟨"CrowToll", "has", "(II)Z"⟩, "CrowToll"), ("CrowToll$Day", 57, ⟨"CrowToll", "putByMinutes", "([II[I)V"⟩, "CrowToll"), ("CrowToll$Drivers", 77, ⟨"CrowToll", "putByMinutes", "([II[I)V"⟩, "CrowToll"), ("CrowToll$Keepers", 106, ⟨"CrowToll", "putByMinutes", "([II[I)V"⟩, "CrowToll"), ("CrowToll$Keepers", 54, ⟨"CrowToll", "power", "(II)I"⟩, "CrowToll"), ("CrowToll$Keepers", 58, ⟨"CrowToll", "spread", "(III[I)V"⟩, "CrowToll"), ("CrowToll$Watch", 50, ⟨"CrowToll", "has", "(II)Z"⟩, "CrowToll"), ("CrowToll$Sights", 56, ⟨"CrowToll", "within", "(III)Z"⟩, "CrowToll"), ("CrowToll$Sights", 66, ⟨"CrowToll", "putByMinutes", "([II[I)V"⟩, "CrowToll"), ("CrowToll$Sights", 110, ⟨"CrowToll", "has", "(II)Z"⟩, "CrowToll")]
def cV (D : va_G) (cy : Nat → ClassId) (U : State) : Prop := va_K D vwCl (cT cy) U ∧ (∀ q ∈ nestL, va_Nw (.methodLinkNest q.1 q.2.1 q.2.2.1 q.2.2.2) U) ∧ va_AO "CrowToll$Stand" U
theorem cV.warm {D : va_G} {cy : Nat → ClassId} {s U : State} (hW : s.WarmedH U.vm) (h : cV D cy s) : cV D cy U := ⟨va_K.moved hW.alike h.1, fun q hq => va_Nw.warmM hW (h.2.1 q hq), va_AO.moved hW.alike h.2.2⟩
theorem cV.blind {D : va_G} {cy : Nat → ClassId} {U V : State} (e : U.vm = V.vm) (h : cV D cy U) : cV D cy V := by
  have hA : U.vm.Alike V.vm := by rw [e]; exact Vm.Alike.refl V.vm
  exact ⟨va_K.moved hA h.1, fun q hq => va_Nw.same rfl e (h.2.1 q hq), va_AO.moved hA h.2.2⟩
/-! String constants, beside the world: their addresses are cy 100 .. (the Strings) and cy 200 .. (their bytes) -/
def strL : List (Nat × String × Nat) := [(50, "bird", 0), (60, "post", 1), (65, "cart", 2), (70, "law", 3), (89, "counts", 4), (100, "gap", 5), (107, "takes", 6), (118, "at", 7), (121, "toll", 8), (157, "sacks", 9), (161, "maybe", 10), (181, "not", 11), (202, "nth", 12), (204, "or", 13), (206, "and", 14), (236, ";()<>=+-*/%", 15)]
def lenS : List Nat := [4, 4, 4, 3, 6, 3, 5, 2, 4, 5, 5, 3, 3, 2, 3, 11]
def bytS : List (List Int32) := [[98, 105, 114, 100], [112, 111, 115, 116], [99, 97, 114, 116], [108, 97, 119], [99, 111, 117, 110, 116, 115], [103, 97, 112], [116, 97, 107, 101, 115], [97, 116], [116, 111, 108, 108], [115, 97, 99, 107, 115], [109, 97, 121, 98, 101], [110, 111, 116], [110, 116, 104], [111, 114], [97, 110, 100], [59, 40, 41, 60, 62, 61, 43, 45, 42, 47, 37]]
def cE (cy : Nat → ClassId) (A : Nat → Prop) (U : State) (H : Heap) : Prop :=
  vk_S 16 lenS bytS (fun i => cy (100 + i)) (fun i => cy (200 + i)) A U H ∧ (∀ q ∈ strL, vk_R "CrowToll$Reader" q.1 q.2.1 (cy (100 + q.2.2)) U) ∧ va_Z "java/lang/String" "COMPACT_STRINGS" "Z" (.int 1) A U H ∧ va_Zq "jdk/internal/util/Preconditions" "SIOOBE_FORMATTER" "Ljava/util/function/BiFunction;" A U H
theorem cE.to {cy : Nat → ClassId} {A B : Nat → Prop} {U V : State} {H H1 : Heap} (hW : U.WarmedH V.vm) (hk : ∀ a : Nat, a < H.size → ¬ A a → H1[a]? = H[a]?) (hAB : ∀ q, B q → A q) (h : cE cy A U H) : cE cy B V H1 :=
  ⟨((h.1.kept hk).narrow hAB).moved hW.alike, fun q hq => (h.2.1 q hq).warm hW, ((h.2.2.1.kept hk).narrow hAB).moved hW.alike, ((h.2.2.2.kept hk).narrow hAB).moved hW.alike⟩
theorem cE.blind {cy : Nat → ClassId} {A : Nat → Prop} {U V : State} {H : Heap} (e : U.vm = V.vm) (h : cE cy A U H) : cE cy A V H := by
  have hA : U.vm.Alike V.vm := by rw [e]; exact Vm.Alike.refl V.vm
  exact ⟨h.1.moved hA, fun q hq => vk_R.same e.symm (h.2.1 q hq), h.2.2.1.moved hA, h.2.2.2.moved hA⟩
/-- where a method stands: the tables, the cells, their being apart, what has stayed -/
def cO (D : va_G) (cy : Nat → ClassId) (A : Nat → Prop) (H0 : Heap) (s : State) (N : Nat) (ad : Nat → Nat) (g : Nat → va_E) (H : Heap) (locs : List Loc) : Prop :=
  cV D cy s ∧ va_P D vwCl (cw N ad g) H ∧ va_D A (cw N ad g) ∧ va_S A H0 H locs ∧ (∀ q, H0.size ≤ q → A q) ∧ cE cy A s H0
theorem cO.congr {D : va_G} {cy : Nat → ClassId} {A : Nat → Prop} {H0 : Heap} {s : State} {N : Nat} {ad ad' : Nat → Nat} {g g' : Nat → va_E} {H : Heap} {locs : List Loc} (h : cO D cy A H0 s N ad g H locs) (ha : ∀ j, j < N → ad j = ad' j) (hg : ∀ j, j < N → g j = g' j) : cO D cy A H0 s N ad' g' H locs := by
  have e : cw N ad g = cw N ad' g' := by
    apply List.ext_getElem?
    intro k
    by_cases hk : k < N
    · rw [cw_get hk, cw_get hk, ha k hk, hg k hk]
    · rw [List.getElem?_eq_none (by rw [cw_len]; omega), List.getElem?_eq_none (by rw [cw_len]; omega)]
  obtain ⟨h1, h2, h3, h4, h5⟩ := h
  exact ⟨h1, e ▸ h2, e ▸ h3, h4, h5⟩
/-- a cell that is as it was may be written into the list -/
theorem cO.note {D : va_G} {cy : Nat → ClassId} {A : Nat → Prop} {H0 : Heap} {s : State} {N : Nat} {ad : Nat → Nat} {lu : List (Nat × va_E)} {g : Nat → va_E} {H : Heap} {locs : List Loc} (h : cO D cy A H0 s N ad (cup lu g) H locs) (i : Nat) {e : va_E} (he : cup lu g i = e) : cO D cy A H0 s N ad (cup (cins i e lu) g) H locs :=
  h.congr (fun _ _ => rfl) (fun j _ => by
    rw [cup_ins]
    by_cases hj : j = i
    · rw [if_pos hj, hj, he]
    · rw [if_neg hj])
section ROWS
variable {p : Program} {l : Launch} {e : Env} {R : Room} {s : State} {m : MethodId} {args : Array Value} {below : List Frame} {meth : Method} {c : Code} {H : Heap} {locs : List Loc} {cells slots : Nat} {Q : State → Prop}
variable {cc : ByteArray} {pc nL : Nat} {ls : Array Slot} {rest : List Value} {D : va_G} {cy : Nat → ClassId} {A : Nat → Prop} {H0 : Heap} {N : Nat} {ad : Nat → Nat} {lu : List (Nat × va_E)} {g : Nat → va_E} {Ts : List Cond} {own : String}
theorem cg_get (hC : CallFix p m c cc nL s args Ts own) (hO : cO D cy A H0 s N ad g H locs) (i : Nat) (hi : i < N) {ci : Nat} {fs : List Value} (he : g i = .inr (ci, fs)) {C : String} {T : u_T} {Nf index : Nat} (hc : vwCl[ci]? = some (C, T, Nf)) (hin : ∀ w ∈ u_ws C T Nf, w ∈ Ts) (k : Nat) (hk : k < Nf) (hlink : Cond.fieldLink own index (T k).1 (T k).2.1 (T k).2.2.1 ∈ Ts) {v : Value} (hv : fs[k]? = some v) (hdg : decode cc pc = .ok (.getfield index, 3))
    (kk : W p l e R s m args below meth c H locs cells slots Q (F0 m (pc + 3) ls (v :: rest))) : W p l e R s m args below meth c H locs cells slots Q (F0 m pc ls (.ref (ad i) :: rest)) :=
  va_get hC.1 hC.2.1 hC.2.2.2.2 hin hC.2.2.2.1 hO.1.1 hO.2.1 i (by rw [cw_get hi, he]) hc k hk (hC.2.2.2.2 _ hlink) (fun _ h => h) hv hdg kk
theorem cg_put (hC : CallFix p m c cc nL s args Ts own) (hO : cO D cy A H0 s N ad (cup lu g) H locs) (i : Nat) (hi : i < N) {ci : Nat} {fs : List Value} (he : cup lu g i = .inr (ci, fs)) {C : String} {T : u_T} {Nf index : Nat} (hc : vwCl[ci]? = some (C, T, Nf)) (hin : ∀ w ∈ u_ws C T Nf, w ∈ Ts) {ty0 : Nat → FieldType} (hty : ∀ k, k < Nf → parseFieldDescriptor (T k).2.2.1 = some (ty0 k)) (hnm : ∀ a, a < Nf → ∀ b, b < Nf → a ≠ b → (T a).2.1 ≠ (T b).2.1) (k : Nat) (hk : k < Nf) (hlink : Cond.fieldLink own index (T k).1 (T k).2.1 (T k).2.2.1 ∈ Ts) (hfin : (T k).2.2.2 = false) {v : Value} (hn : narrow (ty0 k) v = v) (hfit : fits (ty0 k) v = true) (hl : k < fs.length) (hdg : decode cc pc = .ok (.putfield index, 3))
    (kk : ∀ (H1 : Heap) (locs1 : List Loc), cO D cy A H0 s N ad (cup (cins i (.inr (ci, fs.set k v)) lu) g) H1 locs1 → W p l e R s m args below meth c H1 locs1 cells slots Q (F0 m (pc + 3) ls rest)) : W p l e R s m args below meth c H locs cells slots Q (F0 m pc ls (v :: .ref (ad i) :: rest)) :=
  va_put hC.1 hC.2.1 hC.2.2.2.2 hin ty0 hty hnm hC.2.2.2.1 hO.1.1 hO.2.1 hO.2.2.1 hO.2.2.2.1 i (by rw [cw_get hi, he]) hc k hk (hC.2.2.2.2 _ hlink) (fun _ h => h) hfin (hty k hk) hn hfit hl hdg
    (fun H1 locs1 h1 h2 h3 => kk H1 locs1 ⟨hO.1, by rw [← cw_set hi]; exact h1, by rw [← cw_set hi]; exact h2, h3, hO.2.2.2.2⟩)
theorem cg_putF (hC : CallFix p m c cc nL s args Ts own) (hO : cO D cy A H0 s N ad (cup lu g) H locs) (hnm0 : meth.name = "<init>") (i : Nat) (hi : i < N) {ci : Nat} {fs : List Value} (he : cup lu g i = .inr (ci, fs)) {C : String} {T : u_T} {Nf index : Nat} (hc : vwCl[ci]? = some (C, T, Nf)) (hin : ∀ w ∈ u_ws C T Nf, w ∈ Ts) {ty0 : Nat → FieldType} (hty : ∀ k, k < Nf → parseFieldDescriptor (T k).2.2.1 = some (ty0 k)) (hnm : ∀ a, a < Nf → ∀ b, b < Nf → a ≠ b → (T a).2.1 ≠ (T b).2.1) (k : Nat) (hk : k < Nf) (hlink : Cond.fieldLink own index (T k).1 (T k).2.1 (T k).2.2.1 ∈ Ts) (hfin : (T k).2.2.2 = true) (hdecl : (T k).1 = own) {v : Value} (hn : narrow (ty0 k) v = v) (hfit : fits (ty0 k) v = true) (hl : k < fs.length) (hdg : decode cc pc = .ok (.putfield index, 3))
    (kk : ∀ (H1 : Heap) (locs1 : List Loc), cO D cy A H0 s N ad (cup (cins i (.inr (ci, fs.set k v)) lu) g) H1 locs1 → W p l e R s m args below meth c H1 locs1 cells slots Q (F0 m (pc + 3) ls rest)) : W p l e R s m args below meth c H locs cells slots Q (F0 m pc ls (v :: .ref (ad i) :: rest)) :=
  va_putF hC.1 hC.2.1 hC.2.2.2.2 hin ty0 hty hnm hC.2.2.2.1 hO.1.1 hO.2.1 hO.2.2.1 hO.2.2.2.1 i (by rw [cw_get hi, he]) hc k hk (hC.2.2.2.2 _ hlink) (fun _ h => h) hfin hnm0 hdecl (hty k hk) hn hfit hl hdg
    (fun H1 locs1 h1 h2 h3 => kk H1 locs1 ⟨hO.1, by rw [← cw_set hi]; exact h1, by rw [← cw_set hi]; exact h2, h3, hO.2.2.2.2⟩)
theorem cg_iald (hC : CallFix p m c cc nL s args Ts own) (hO : cO D cy A H0 s N ad g H locs) (i : Nat) (hi : i < N) {n : Nat} {f : Nat → Int32} (he : g i = .inl (cy 0, n, .inl f)) {x : Int32} (hin : vp_in x n) (hdg : decode cc pc = .ok (.iaload, 1))
    (kk : W p l e R s m args below meth c H locs cells slots Q (F0 m (pc + 1) ls (.int (f x.toNatClampNeg) :: rest))) : W p l e R s m args below meth c H locs cells slots Q (F0 m pc ls (.int x :: .ref (ad i) :: rest)) :=
  va_iald hC.1 hC.2.1 hO.1.1 hO.2.1 i 0 (by rw [cw_get hi, he]) rfl hin hdg kk
theorem cg_lald (hC : CallFix p m c cc nL s args Ts own) (hO : cO D cy A H0 s N ad g H locs) (i : Nat) (hi : i < N) {n : Nat} {f : Nat → Int64} (he : g i = .inl (cy 1, n, .inr (.inl f))) {x : Int32} (hin : vp_in x n) (hdg : decode cc pc = .ok (.laload, 1))
    (kk : W p l e R s m args below meth c H locs cells slots Q (F0 m (pc + 1) ls (.long (f x.toNatClampNeg) :: rest))) : W p l e R s m args below meth c H locs cells slots Q (F0 m pc ls (.int x :: .ref (ad i) :: rest)) :=
  va_lald hC.1 hC.2.1 hO.1.1 hO.2.1 i 1 (by rw [cw_get hi, he]) rfl hin hdg kk
theorem cg_zald (hC : CallFix p m c cc nL s args Ts own) (hO : cO D cy A H0 s N ad g H locs) (i : Nat) (hi : i < N) {n : Nat} {f : Nat → Int32} (he : g i = .inl (cy 2, n, .inl f)) {x : Int32} (hin : vp_in x n) (hdg : decode cc pc = .ok (.baload, 1))
    (kk : W p l e R s m args below meth c H locs cells slots Q (F0 m (pc + 1) ls (.int (f x.toNatClampNeg) :: rest))) : W p l e R s m args below meth c H locs cells slots Q (F0 m pc ls (.int x :: .ref (ad i) :: rest)) :=
  va_zald hC.1 hC.2.1 hO.1.1 hO.2.1 i 2 (by rw [cw_get hi, he]) rfl hin hdg kk
theorem cg_bald (hC : CallFix p m c cc nL s args Ts own) (hO : cO D cy A H0 s N ad g H locs) (i : Nat) (hi : i < N) {n : Nat} {f : Nat → Int32} (he : g i = .inl (cy 3, n, .inl f)) {x : Int32} (hin : vp_in x n) (hdg : decode cc pc = .ok (.baload, 1))
    (kk : W p l e R s m args below meth c H locs cells slots Q (F0 m (pc + 1) ls (.int (f x.toNatClampNeg) :: rest))) : W p l e R s m args below meth c H locs cells slots Q (F0 m pc ls (.int x :: .ref (ad i) :: rest)) :=
  va_bald hC.1 hC.2.1 hO.1.1 hO.2.1 i 3 (by rw [cw_get hi, he]) rfl hin hdg kk
theorem cg_aald (hC : CallFix p m c cc nL s args Ts own) (hO : cO D cy A H0 s N ad g H locs) (i : Nat) (hi : i < N) {n : Nat} {f : Nat → Option Nat} (he : g i = .inl (cy 4, n, .inr (.inr (.inr (.inr f))))) {x : Int32} (hin : vp_in x n) {b : Nat} (hv : f x.toNatClampNeg = some b) (hdg : decode cc pc = .ok (.aaload, 1))
    (kk : W p l e R s m args below meth c H locs cells slots Q (F0 m (pc + 1) ls (.ref b :: rest))) : W p l e R s m args below meth c H locs cells slots Q (F0 m pc ls (.int x :: .ref (ad i) :: rest)) :=
  va_aldq hC.1 hC.2.1 hO.1.1 hO.2.1 i 4 (by rw [cw_get hi, he]) rfl hin hdg (by rw [hv]; exact kk)
theorem cg_alen (hC : CallFix p m c cc nL s args Ts own) (hO : cO D cy A H0 s N ad g H locs) (i t : Nat) (hi : i < N) {x : vp_A} {cA : ClassId} {ty : FieldType} (ht : (cT cy)[t]? = some (cA, ty)) (he : g i = .inl (cA, x)) {v : Int32} (hv : Int32.ofNat x.1 = v) (hdg : decode cc pc = .ok (.arraylength, 1))
    (kk : W p l e R s m args below meth c H locs cells slots Q (F0 m (pc + 1) ls (.int v :: rest))) : W p l e R s m args below meth c H locs cells slots Q (F0 m pc ls (.ref (ad i) :: rest)) :=
  va_alen hC.1 hC.2.1 hO.1.1 hO.2.1 i t (by rw [cw_get hi, he]) ht hv hdg kk
theorem cg_iast (hC : CallFix p m c cc nL s args Ts own) (hO : cO D cy A H0 s N ad (cup lu g) H locs) (i : Nat) (hi : i < N) {n : Nat} {f : Nat → Int32} (he : cup lu g i = .inl (cy 0, n, .inl f)) {x v : Int32} (hin : vp_in x n) (hdg : decode cc pc = .ok (.iastore, 1))
    (kk : ∀ (H1 : Heap) (locs1 : List Loc), cO D cy A H0 s N ad (cup (cins i (.inl (cy 0, n, .inl (upd f x.toNatClampNeg v))) lu) g) H1 locs1 → W p l e R s m args below meth c H1 locs1 cells slots Q (F0 m (pc + 1) ls rest)) : W p l e R s m args below meth c H locs cells slots Q (F0 m pc ls (.int v :: .int x :: .ref (ad i) :: rest)) :=
  va_iast hC.1 hC.2.1 hO.1.1 hO.2.1 hO.2.2.1 hO.2.2.2.1 i 0 (by rw [cw_get hi, he]) rfl hin hdg (fun H1 locs1 h1 h2 h3 => kk H1 locs1 ⟨hO.1, by rw [← cw_set hi]; exact h1, by rw [← cw_set hi]; exact h2, h3, hO.2.2.2.2⟩)
theorem cg_last (hC : CallFix p m c cc nL s args Ts own) (hO : cO D cy A H0 s N ad (cup lu g) H locs) (i : Nat) (hi : i < N) {n : Nat} {f : Nat → Int64} (he : cup lu g i = .inl (cy 1, n, .inr (.inl f))) {x : Int32} {v : Int64} (hin : vp_in x n) (hdg : decode cc pc = .ok (.lastore, 1))
    (kk : ∀ (H1 : Heap) (locs1 : List Loc), cO D cy A H0 s N ad (cup (cins i (.inl (cy 1, n, .inr (.inl (vp_updL f x.toNatClampNeg v)))) lu) g) H1 locs1 → W p l e R s m args below meth c H1 locs1 cells slots Q (F0 m (pc + 1) ls rest)) : W p l e R s m args below meth c H locs cells slots Q (F0 m pc ls (.long v :: .int x :: .ref (ad i) :: rest)) :=
  va_last hC.1 hC.2.1 hO.1.1 hO.2.1 hO.2.2.1 hO.2.2.2.1 i 1 (by rw [cw_get hi, he]) rfl hin hdg (fun H1 locs1 h1 h2 h3 => kk H1 locs1 ⟨hO.1, by rw [← cw_set hi]; exact h1, by rw [← cw_set hi]; exact h2, h3, hO.2.2.2.2⟩)
theorem cg_zast (hC : CallFix p m c cc nL s args Ts own) (hO : cO D cy A H0 s N ad (cup lu g) H locs) (i : Nat) (hi : i < N) {n : Nat} {f : Nat → Int32} (he : cup lu g i = .inl (cy 2, n, .inl f)) {x v : Int32} (hin : vp_in x n) (hdg : decode cc pc = .ok (.bastore, 1))
    (kk : ∀ (H1 : Heap) (locs1 : List Loc), cO D cy A H0 s N ad (cup (cins i (.inl (cy 2, n, .inl (upd f x.toNatClampNeg (vp_nar .boolean v)))) lu) g) H1 locs1 → W p l e R s m args below meth c H1 locs1 cells slots Q (F0 m (pc + 1) ls rest)) : W p l e R s m args below meth c H locs cells slots Q (F0 m pc ls (.int v :: .int x :: .ref (ad i) :: rest)) :=
  va_zast hC.1 hC.2.1 hO.1.1 hO.2.1 hO.2.2.1 hO.2.2.2.1 i 2 (by rw [cw_get hi, he]) rfl hin hdg (fun H1 locs1 h1 h2 h3 => kk H1 locs1 ⟨hO.1, by rw [← cw_set hi]; exact h1, by rw [← cw_set hi]; exact h2, h3, hO.2.2.2.2⟩)
theorem cg_bast (hC : CallFix p m c cc nL s args Ts own) (hO : cO D cy A H0 s N ad (cup lu g) H locs) (i : Nat) (hi : i < N) {n : Nat} {f : Nat → Int32} (he : cup lu g i = .inl (cy 3, n, .inl f)) {x v : Int32} (hin : vp_in x n) (hdg : decode cc pc = .ok (.bastore, 1))
    (kk : ∀ (H1 : Heap) (locs1 : List Loc), cO D cy A H0 s N ad (cup (cins i (.inl (cy 3, n, .inl (upd f x.toNatClampNeg (vp_nar .byte v)))) lu) g) H1 locs1 → W p l e R s m args below meth c H1 locs1 cells slots Q (F0 m (pc + 1) ls rest)) : W p l e R s m args below meth c H locs cells slots Q (F0 m pc ls (.int v :: .int x :: .ref (ad i) :: rest)) :=
  va_bast hC.1 hC.2.1 hO.1.1 hO.2.1 hO.2.2.1 hO.2.2.2.1 i 3 (by rw [cw_get hi, he]) rfl hin hdg (fun H1 locs1 h1 h2 h3 => kk H1 locs1 ⟨hO.1, by rw [← cw_set hi]; exact h1, by rw [← cw_set hi]; exact h2, h3, hO.2.2.2.2⟩)
theorem cg_aast (hC : CallFix p m c cc nL s args Ts own) (hO : cO D cy A H0 s N ad (cup lu g) H locs) (i j : Nat) (hi : i < N) (hj : j < N) {n : Nat} {f : Nat → Option Nat} (he : cup lu g i = .inl (cy 4, n, .inr (.inr (.inr (.inr f))))) {vs : List Value} (hv : cup lu g j = .inr (9, vs)) {x : Int32} (hin : vp_in x n) (hdg : decode cc pc = .ok (.aastore, 1))
    (kk : ∀ (H1 : Heap) (locs1 : List Loc), cO D cy A H0 s N ad (cup (cins i (.inl (cy 4, n, .inr (.inr (.inr (.inr (va_up f x.toNatClampNeg (some (ad j)))))))) lu) g) H1 locs1 → W p l e R s m args below meth c H1 locs1 cells slots Q (F0 m (pc + 1) ls rest)) : W p l e R s m args below meth c H locs cells slots Q (F0 m pc ls (.ref (ad j) :: .int x :: .ref (ad i) :: rest)) :=
  va_astq (r := (RX9, TX9, 5)) hC.1 hC.2.1 hO.1.1 hO.2.1 hO.2.2.1 hO.2.2.2.1 i 4 j 9 (by rw [cw_get hi, he]) rfl (by rw [cw_get hj, hv]) rfl hin hdg (fun H1 locs1 h1 h2 h3 => kk H1 locs1 ⟨hO.1, by rw [← cw_set hi]; exact h1, by rw [← cw_set hi]; exact h2, h3, hO.2.2.2.2⟩)
theorem cg_copy (hC : CallFix p m c cc nL s args Ts own) (hls : ls.size = nL) (hO : cO D cy A H0 s N ad (cup lu g) H locs) {index : Nat} (hlink : Cond.methodLink own index arraycopyName ∈ Ts) (hnat : Cond.native arraycopyName ∈ Ts) (hstat : Cond.static arraycopyName ∈ Ts) (hini : Cond.initialized "java/lang/System" ∈ Ts) (i0 i1 : Nat) (hi0 : i0 < N) (hi1 : i1 < N) {n0 n1 : Nat} {f f1 : Nat → Int32} (he0 : cup lu g i0 = .inl (cy 0, n0, .inl f)) (he1 : cup lu g i1 = .inl (cy 0, n1, .inl f1))
    {sp dp n : Int32} (h1 : ¬ sp < 0) (h2 : ¬ dp < 0) (h3 : ¬ n < 0) (h4 : sp.toNatClampNeg + n.toNatClampNeg ≤ n0) (h5 : dp.toNatClampNeg + n.toNatClampNeg ≤ n1) (hframes : 1 ≤ R.frames) (hlocals : (rest.map fun v => v.category).sum + (nativeFrameWords "java/lang/System" "arraycopy" 5 + 11) ≤ R.locals) (hdg : decode cc pc = .ok (.invokestatic index, 3))
    (kk : ∀ (H1 : Heap) (locs1 : List Loc), cO D cy A H0 s N ad (cup (cins i1 (.inl (cy 0, n1, .inl (va_cpy f f1 sp.toNatClampNeg dp.toNatClampNeg n.toNatClampNeg))) lu) g) H1 locs1 → W p l e R s m args below meth c H1 locs1 cells slots Q (F0 m (pc + 3) ls rest)) : W p l e R s m args below meth c H locs cells slots Q (F0 m pc ls (.int n :: .int dp :: .ref (ad i1) :: .int sp :: .ref (ad i0) :: rest)) :=
  va_copyi (ty := .int) hC.1 hC.2.1 (hC.2.2.1.trans hls.symm) hC.2.2.2.1 (hC.2.2.2.2 _ hlink) (hC.2.2.2.2 _ hnat) (hC.2.2.2.2 _ hstat) (hC.2.2.2.2 _ hini) hO.1.1 hO.2.1 hO.2.2.1 hO.2.2.2.1 i0 i1 0 0 (by rw [cw_get hi0, he0]) (by rw [cw_get hi1, he1]) rfl rfl rfl h1 h2 h3 h4 h5 (fun _ _ => rfl) hframes hlocals hdg
    (fun H1 locs1 h1 h2 h3 => kk H1 locs1 ⟨hO.1, by rw [← cw_set hi1]; exact h1, by rw [← cw_set hi1]; exact h2, h3, hO.2.2.2.2⟩)
theorem cg_new (hC : CallFix p m c cc nL s args Ts own) (hO : cO D cy A H0 s N ad (cup lu g) H locs) (ci : Nat) {C : String} {T : u_T} {Nf index : Nat} (hc : vwCl[ci]? = some (C, T, Nf)) (hin : ∀ w ∈ u_ws C T Nf, w ∈ Ts) {ty0 : Nat → FieldType} (hty : ∀ k, k < Nf → parseFieldDescriptor (T k).2.2.1 = some (ty0 k)) (hcl : Cond.classLink own index C ∈ Ts) (hinst : Cond.instantiable C Nf ∈ Ts) (hini : Cond.initialized C ∈ Ts) {fs : List Value} (hfs : ∀ j, j < Nf → defaultValue (ty0 j) = vp_V fs j) (hcells : cells + 1 ≤ R.cells) (hslots : slots + Nf ≤ R.slots) (hdg : decode cc pc = .ok (.new index, 3))
    (kk : ∀ (nw : Nat → Nat) (H1 : Heap), cO D cy A H0 s (N + 1) (aext N nw ad) (cup (cins N (.inr (ci, fs)) lu) g) H1 locs → W p l e R s m args below meth c H1 locs (cells + 1) (slots + Nf) Q (F0 m (pc + 3) ls (.ref (nw 0) :: rest))) : W p l e R s m args below meth c H locs cells slots Q (F0 m pc ls rest) :=
  va_new hC.1 hC.2.1 hC.2.2.2.2 hin ty0 hty hC.2.2.2.1 (hC.2.2.2.2 _ hcl) (hC.2.2.2.2 _ hinst) (hC.2.2.2.2 _ hini) hO.1.1 hO.2.1 hO.2.2.1 hO.2.2.2.1 hO.2.2.2.2.1 hc hfs hcells hslots hdg
    (fun q H1 h1 h2 h3 => kk (fun _ => q) H1 ⟨hO.1, by rw [← cw_push]; exact h1, by rw [← cw_push]; exact h2, h3, hO.2.2.2.2⟩)
theorem cg_newa (hC : CallFix p m c cc nL s args Ts own) (hO : cO D cy A H0 s N ad (cup lu g) H locs) {atype : ArrayType} {ty : FieldType} (hty : newarray.typeOf atype = ty) (harr : Cond.arrayClass (newarray.typeOf atype) ∈ Ts) (t : Nat) (htn : (cT cy)[t]? = some (cy t, ty)) (hob : ∀ C, ty ≠ .object C) {n : Int32} {N' : Nat} {a0 : vp_A} (ha : ∀ cA : ClassId, vp_cell cA a0 = arrV cA N' (fun _ => defaultValue ty)) (hn : ¬ n < 0) (hN : n.toNatClampNeg = N') (hbytes : N' * componentBytes ty ≤ 536870912) (hcells : cells + 1 ≤ R.cells) (hslots : slots + N' ≤ R.slots) (hdg : decode cc pc = .ok (.newarray atype, 2))
    (kk : ∀ (nw : Nat → Nat) (H1 : Heap), cO D cy A H0 s (N + 1) (aext N nw ad) (cup (cins N (.inl (cy t, a0)) lu) g) H1 locs → W p l e R s m args below meth c H1 locs (cells + 1) (slots + N') Q (F0 m (pc + 2) ls (.ref (nw 0) :: rest))) : W p l e R s m args below meth c H locs cells slots Q (F0 m pc ls (.int n :: rest)) := by
  refine va_newa hC.1 hC.2.1 (hC.2.2.2.2 _ harr) hty hO.1.1 hO.2.1 hO.2.2.1 hO.2.2.2.1 hO.2.2.2.2.1 ha hn hN hbytes hcells hslots hdg (fun q cA H1 h0 h1 h2 h3 => ?_)
  have e1 := (hO.1.1.2 t _ htn).2
  have e2 := (h0.2 5 (cA, ty) rfl).2
  have hE : cA = cy t := by
    cases ty with
    | object C => exact absurd rfl (hob C)
    | _ => exact Option.some.inj (e2.symm.trans e1)
  subst hE
  exact kk (fun _ => q) H1 ⟨hO.1, by rw [← cw_push]; exact h1, by rw [← cw_push]; exact h2, h3, hO.2.2.2.2⟩
theorem cg_newS (hC : CallFix p m c cc nL s args Ts own) (hO : cO D cy A H0 s N ad (cup lu g) H locs) {index : Nat} (hcl : Cond.classLink own index "CrowToll$Stand" ∈ Ts) {n : Int32} {N' : Nat} (hn : ¬ n < 0) (hN : n.toNatClampNeg = N') (hbytes : N' * 4 ≤ 536870912) (hcells : cells + 1 ≤ R.cells) (hslots : slots + N' ≤ R.slots) (hdg : decode cc pc = .ok (.anewarray index, 3))
    (kk : ∀ (nw : Nat → Nat) (H1 : Heap), cO D cy A H0 s (N + 1) (aext N nw ad) (cup (cins N (.inl (cy 4, N', .inr (.inr (.inr (.inr (fun _ => none)))))) lu) g) H1 locs → W p l e R s m args below meth c H1 locs (cells + 1) (slots + N') Q (F0 m (pc + 3) ls (.ref (nw 0) :: rest))) : W p l e R s m args below meth c H locs cells slots Q (F0 m pc ls (.int n :: rest)) := by
  refine va_newq hC.1 hC.2.1 hC.2.2.2.1 (hC.2.2.2.2 _ hcl) hO.1.2.2 hO.1.1 hO.2.1 hO.2.2.1 hO.2.2.2.1 hO.2.2.2.2.1 hn hN hbytes hcells hslots hdg (fun q cA H1 h0 h1 h2 h3 => ?_)
  obtain ⟨_, _, _, _, _, e1⟩ := (hO.1.1.2 4 _ rfl).2
  obtain ⟨_, _, _, _, _, e2⟩ := (h0.2 5 (cA, .object "CrowToll$Stand") rfl).2
  have hE : cA = cy 4 := Option.some.inj (e2.symm.trans e1)
  subst hE
  exact kk (fun _ => q) H1 ⟨hO.1, by rw [← cw_push]; exact h1, by rw [← cw_push]; exact h2, h3, hO.2.2.2.2⟩
end ROWS
