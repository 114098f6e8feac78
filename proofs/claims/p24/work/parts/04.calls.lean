/-! contracts over such worlds, and calls -/
def ckey (N k : Nat) (ps : List Nat) (j : Nat) : Nat := cond (Nat.blt j k) (ps.getD j 0) (N + (j - k))
def cmrg (N k : Nat) (ps : List Nat) (l' lu : List (Nat × va_E)) : List (Nat × va_E) := l'.foldr (fun q acc => cins (ckey N k ps q.1) q.2 acc) lu
def chas (l' : List (Nat × va_E)) (j : Nat) : Bool := l'.any (fun q => Nat.beq j q.1)
def cnew (k n : Nat) (l' : List (Nat × va_E)) : Bool := (List.range n).all (fun i => chas l' (k + i))
def cps (N k : Nat) (ps : List Nat) : Bool := Nat.beq ps.length k && ps.all (fun x => Nat.blt x N) && va_nd ps
theorem nblt (a b : Nat) : Nat.blt a b = decide (a < b) := by
  by_cases h : a < b
  · rw [decide_eq_true h]; simp [Nat.blt, Nat.ble_eq]; omega
  · rw [decide_eq_false h]
    cases hb : Nat.blt a b with
    | false => rfl
    | true => simp [Nat.blt, Nat.ble_eq] at hb; omega
theorem cps_spec {N k : Nat} {ps : List Nat} (h : cps N k ps = true) : ps.length = k ∧ (∀ i, i < k → ps.getD i 0 < N) ∧ ∀ i j, i < k → j < k → ps.getD i 0 = ps.getD j 0 → i = j := by
  simp only [cps, Bool.and_eq_true, nbeq, decide_eq_true_eq, List.all_eq_true, nblt] at h
  obtain ⟨⟨h1, h2⟩, h3⟩ := h
  have at' : ∀ i, i < k → ps[i]? = some (ps.getD i 0) := by
    intro i hi
    rw [List.getD_eq_getElem?_getD, List.getElem?_eq_getElem (by omega)]
    rfl
  refine ⟨h1, fun i hi => h2 _ (List.mem_of_getElem? (at' i hi)), fun i j hi hj hij => ?_⟩
  have a1 := at' i hi
  have a2 := at' j hj
  rw [← hij] at a2
  exact va_nd_inj ps h3 i j _ a1 a2
theorem ckey_lt {N k : Nat} {ps : List Nat} {j : Nat} (h : j < k) : ckey N k ps j = ps.getD j 0 := by
  rw [ckey, nblt, decide_eq_true h]; rfl
theorem ckey_ge {N k : Nat} {ps : List Nat} {j : Nat} (h : k ≤ j) : ckey N k ps j = N + (j - k) := by
  rw [ckey, nblt, decide_eq_false (by omega)]; rfl
theorem ckey_inj {N k : Nat} {ps : List Nat} (h : cps N k ps = true) {i j : Nat} (e : ckey N k ps i = ckey N k ps j) : i = j := by
  obtain ⟨h1, h2, h3⟩ := cps_spec h
  by_cases hi : i < k
  · by_cases hj : j < k
    · rw [ckey_lt hi, ckey_lt hj] at e
      exact h3 i j hi hj e
    · rw [ckey_lt hi, ckey_ge (by omega)] at e
      have := h2 i hi
      omega
  · by_cases hj : j < k
    · rw [ckey_ge (by omega), ckey_lt hj] at e
      have := h2 j hj
      omega
    · rw [ckey_ge (by omega), ckey_ge (by omega)] at e
      omega
theorem cmrg_cons (N k : Nat) (ps : List Nat) (q : Nat × va_E) (r lu : List (Nat × va_E)) : cmrg N k ps (q :: r) lu = cins (ckey N k ps q.1) q.2 (cmrg N k ps r lu) := rfl
theorem cmrg_in {N k : Nat} {ps : List Nat} (h : cps N k ps = true) (l' lu : List (Nat × va_E)) (g0 gl : Nat → va_E) (i : Nat) (hg : chas l' i = true ∨ cup lu g0 (ckey N k ps i) = gl i) : cup (cmrg N k ps l' lu) g0 (ckey N k ps i) = cup l' gl i := by
  induction l' with
  | nil =>
    rcases hg with hg | hg
    · cases hg
    · exact hg
  | cons q r ih =>
    rw [cmrg_cons, cup_ins, cup_cons]
    by_cases hq : i = q.1
    · rw [if_pos hq, if_pos (by rw [hq])]
    · rw [if_neg hq, if_neg (fun z => hq (ckey_inj h z))]
      refine ih ?_
      rcases hg with hg | hg
      · simp only [chas, List.any_cons, Bool.or_eq_true, nbeq, decide_eq_true_eq] at hg
        rcases hg with hg | hg
        · exact absurd hg hq
        · exact Or.inl (by simpa only [chas, nbeq] using hg)
      · exact Or.inr hg
theorem cmrg_out {N k : Nat} {ps : List Nat} (h : cps N k ps = true) (l' lu : List (Nat × va_E)) (g0 : Nat → va_E) (j : Nat) (hj : j < N) (hn : ∀ i, i < k → ps.getD i 0 ≠ j) : cup (cmrg N k ps l' lu) g0 j = cup lu g0 j := by
  induction l' with
  | nil => rfl
  | cons q r ih =>
    rw [cmrg_cons, cup_ins, if_neg, ih]
    intro e
    by_cases hk : q.1 < k
    · rw [ckey_lt hk] at e
      exact hn _ hk e.symm
    · rw [ckey_ge (by omega)] at e
      omega
/-! the same merge, the new cells behind the old ones -/
def cold (k : Nat) (ps : List Nat) (l' lu : List (Nat × va_E)) : List (Nat × va_E) := l'.foldr (fun q acc => cond (Nat.blt q.1 k) (cins (ps.getD q.1 0) q.2 acc) acc) lu
def cnwl (N k : Nat) : List (Nat × va_E) → List (Nat × va_E)
  | [] => []
  | q :: r => cond (Nat.blt q.1 k) (cnwl N k r) ((N + (q.1 - k), q.2) :: cnwl N k r)
def cmrn (N k : Nat) (ps : List Nat) (l' lu : List (Nat × va_E)) : List (Nat × va_E) := cold k ps l' lu ++ cnwl N k l'
def clt (N : Nat) (lu : List (Nat × va_E)) : Bool := lu.all (fun q => Nat.blt q.1 N)
theorem cup_app (a b : List (Nat × va_E)) (g : Nat → va_E) (j : Nat) : cup (a ++ b) g j = cup a (cup b g) j := by
  induction a with
  | nil => rfl
  | cons q r ih => rw [List.cons_append, cup_cons, cup_cons, ih]
theorem cup_out {a : List (Nat × va_E)} {g : Nat → va_E} {j : Nat} (h : ∀ q ∈ a, q.1 ≠ j) : cup a g j = g j := by
  induction a with
  | nil => rfl
  | cons q r ih =>
    rw [cup_cons, if_neg (fun z => h q (List.mem_cons_self) z.symm)]
    exact ih (fun x hx => h x (List.mem_cons_of_mem _ hx))
theorem cup_base {a : List (Nat × va_E)} {g g' : Nat → va_E} {j : Nat} (h : g j = g' j) : cup a g j = cup a g' j := by
  induction a with
  | nil => exact h
  | cons q r ih =>
    rw [cup_cons, cup_cons, ih]
theorem cins_keys {i : Nat} {e : va_E} {l : List (Nat × va_E)} {q : Nat × va_E} (h : q ∈ cins i e l) : q.1 = i ∨ q ∈ l := by
  induction l with
  | nil =>
    rw [cins] at h
    exact Or.inl (by rw [List.mem_singleton.mp h])
  | cons p r ih =>
    rw [cins_cons] at h
    by_cases hp : p.1 = i
    · rw [if_pos hp] at h
      rcases List.mem_cons.mp h with h | h
      · exact Or.inl (by rw [h])
      · exact Or.inr (List.mem_cons_of_mem _ h)
    · rw [if_neg hp] at h
      rcases List.mem_cons.mp h with h | h
      · exact Or.inr (by rw [h]; exact List.mem_cons_self)
      · rcases ih h with h | h
        · exact Or.inl h
        · exact Or.inr (List.mem_cons_of_mem _ h)
theorem cold_keys {N k : Nat} {ps : List Nat} (hps : cps N k ps = true) {l' lu : List (Nat × va_E)} (hlu : clt N lu = true) : ∀ q ∈ cold k ps l' lu, q.1 < N := by
  obtain ⟨h1, h2, h3⟩ := cps_spec hps
  induction l' with
  | nil =>
    intro q hq
    simp only [clt, List.all_eq_true, nblt, decide_eq_true_eq] at hlu
    exact hlu q hq
  | cons p r ih =>
    intro q hq
    have hq : q ∈ cond (Nat.blt p.1 k) (cins (ps.getD p.1 0) p.2 (cold k ps r lu)) (cold k ps r lu) := hq
    rw [nblt] at hq
    by_cases hp : p.1 < k
    · rw [decide_eq_true hp] at hq
      rcases cins_keys hq with h | h
      · rw [h]; exact h2 _ hp
      · exact ih q h
    · rw [decide_eq_false hp] at hq
      exact ih q hq
theorem cmrn_eq {N k : Nat} {ps : List Nat} (hps : cps N k ps = true) {lu : List (Nat × va_E)} (hlu : clt N lu = true) (l' : List (Nat × va_E)) (g : Nat → va_E) (j : Nat) : cup (cmrg N k ps l' lu) g j = cup (cmrn N k ps l' lu) g j := by
  induction l' with
  | nil =>
    show cup lu g j = cup (lu ++ []) g j
    rw [List.append_nil]
  | cons q r ih =>
    have ih : cup (cmrg N k ps r lu) g j = cup (cold k ps r lu ++ cnwl N k r) g j := ih
    have e : cmrn N k ps (q :: r) lu = cond (Nat.blt q.1 k) (cins (ps.getD q.1 0) q.2 (cold k ps r lu)) (cold k ps r lu) ++ cond (Nat.blt q.1 k) (cnwl N k r) ((N + (q.1 - k), q.2) :: cnwl N k r) := rfl
    rw [cmrg_cons, cup_ins, e, nblt]
    by_cases hq : q.1 < k
    · rw [decide_eq_true hq, ckey_lt hq]
      show _ = cup (cins (ps.getD q.1 0) q.2 (cold k ps r lu) ++ cnwl N k r) g j
      rw [cup_app, cup_ins, ← cup_app, ih]
    · rw [decide_eq_false hq, ckey_ge (by omega)]
      show _ = cup (cold k ps r lu ++ ((N + (q.1 - k), q.2) :: cnwl N k r)) g j
      rw [cup_app]
      by_cases hj : j = N + (q.1 - k)
      · rw [if_pos hj, cup_out (fun x hx => by have := cold_keys hps hlu x hx; omega), cup_cons, if_pos hj]
      · rw [if_neg hj, ih, cup_app]
        exact cup_base (by rw [cup_cons, if_neg hj])
/-- what a callee's world says in its caller's -/
theorem cw_join {D : va_G} {cl : List vw_C} {A0 : Nat → Prop} {H H1 H0 : Heap} {locs : List Loc} {N k n : Nat} {ad nw : Nat → Nat} {lu l' : List (Nat × va_E)} {g0 : Nat → va_E} {ps : List Nat} (hps : cps N k ps = true)
    (hP : va_P D cl (cw N ad (cup lu g0)) H) (hD : va_D A0 (cw N ad (cup lu g0))) (hS : va_S A0 H0 H locs) (hA : ∀ q, H0.size ≤ q → A0 q)
    (hk1 : ∀ q : Nat, q < H.size → ¬ va_A (cw k (fun i => ad (ps.getD i 0)) (fun i => cup lu g0 (ps.getD i 0))) H.size q → H1[q]? = H[q]?)
    (hP1 : va_P D cl (cw (k + n) (aext k nw (fun i => ad (ps.getD i 0))) (cup l' (fun i => cup lu g0 (ps.getD i 0)))) H1)
    (hD1 : va_D (va_A (cw k (fun i => ad (ps.getD i 0)) (fun i => cup lu g0 (ps.getD i 0))) H.size) (cw (k + n) (aext k nw (fun i => ad (ps.getD i 0))) (cup l' (fun i => cup lu g0 (ps.getD i 0)))))
    (hnew : cnew k n l' = true) :
    va_P D cl (cw (N + n) (aext N nw ad) (cup (cmrg N k ps l' lu) g0)) H1 ∧ va_D A0 (cw (N + n) (aext N nw ad) (cup (cmrg N k ps l' lu) g0)) := by
  obtain ⟨h1, h2, h3⟩ := cps_spec hps
  have hnw : ∀ i, i < n → chas l' (k + i) = true := fun i hi => by
    simp only [cnew, List.all_eq_true] at hnew
    exact hnew i (List.mem_range.mpr hi)
  -- the callee's addresses are the caller's to change
  have hF : ∀ q, va_A (cw k (fun i => ad (ps.getD i 0)) (fun i => cup lu g0 (ps.getD i 0))) H.size q → A0 q := by
    intro q hq
    rcases hq with ⟨k2, e, hq⟩ | hq
    · obtain ⟨hk2, e2⟩ := cw_inv hq
      cases e2
      exact hD.2 _ _ (cw_get (h2 k2 hk2))
    · exact hA q (Nat.le_trans hS.1 hq)
  -- where cell j of the caller is the callee's
  have key : ∀ j, j < N + n → (∃ i, i < k + n ∧ j = ckey N k ps i ∧ aext N nw ad j = aext k nw (fun i => ad (ps.getD i 0)) i ∧ cup (cmrg N k ps l' lu) g0 j = cup l' (fun i => cup lu g0 (ps.getD i 0)) i) ∨ (j < N ∧ (∀ i, i < k → ps.getD i 0 ≠ j) ∧ aext N nw ad j = ad j ∧ cup (cmrg N k ps l' lu) g0 j = cup lu g0 j) := by
    intro j hj
    by_cases hjN : j < N
    · by_cases hex : ∃ i, i < k ∧ ps.getD i 0 = j
      · obtain ⟨i, hi, hij⟩ := hex
        refine Or.inl ⟨i, by omega, by rw [ckey_lt hi, hij], by rw [aext_lt hjN, aext_lt hi, hij], ?_⟩
        rw [← hij, ← ckey_lt (N := N) (ps := ps) hi]
        exact cmrg_in hps l' lu g0 _ i (Or.inr (by rw [ckey_lt hi]))
      · have hn : ∀ i, i < k → ps.getD i 0 ≠ j := fun i hi e => hex ⟨i, hi, e⟩
        exact Or.inr ⟨hjN, hn, aext_lt hjN, cmrg_out hps l' lu g0 j hjN hn⟩
    · refine Or.inl ⟨k + (j - N), by omega, by rw [ckey_ge (by omega)]; omega, by rw [aext_ge (by omega), aext_ge (by omega)]; congr 1; omega, ?_⟩
      have e : j = ckey N k ps (k + (j - N)) := by rw [ckey_ge (by omega)]; omega
      rw [e]
      rw [← e]
      have := cmrg_in hps l' lu g0 (fun i => cup lu g0 (ps.getD i 0)) (k + (j - N)) (Or.inl (hnw _ (by omega)))
      rw [← e] at this
      exact this
  -- a cell that isn't the callee's stays
  have apart : ∀ j, j < N → (∀ i, i < k → ps.getD i 0 ≠ j) → ad j < H.size ∧ ¬ va_A (cw k (fun i => ad (ps.getD i 0)) (fun i => cup lu g0 (ps.getD i 0))) H.size (ad j) := by
    intro j hj hn
    have hl := (hP j _ (cw_get hj)).lt
    refine ⟨hl, fun h => ?_⟩
    rcases h with ⟨k2, e, h⟩ | h
    · obtain ⟨hk2, e2⟩ := cw_inv h
      have := hD.1 j (ps.getD k2 0) _ _ (cw_get hj) (cw_get (h2 k2 hk2)) (show ad j = ad (ps.getD k2 0) from (congrArg Prod.fst e2 : (ad j, e).1 = _))
      exact hn k2 hk2 this.symm
    · exact absurd h (Nat.not_le.mpr hl)
  refine ⟨fun j q hq => ?_, fun i j x y hx hy hxy => ?_, fun j q hq => ?_⟩
  · obtain ⟨hj, rfl⟩ := cw_inv hq
    rcases key j hj with ⟨i, hi, -, ea, eg⟩ | ⟨hjN, hn, ea, eg⟩
    · rw [ea, eg]
      exact hP1 i _ (cw_get hi)
    · rw [ea, eg]
      obtain ⟨a1, a2⟩ := apart j hjN hn
      exact (hP j _ (cw_get hjN)).kept (hk1 _ a1 a2)
  · obtain ⟨hi, rfl⟩ := cw_inv hx
    obtain ⟨hj, rfl⟩ := cw_inv hy
    have hxy : aext N nw ad i = aext N nw ad j := hxy
    rcases key i hi with ⟨i', hi', ei, ea, -⟩ | ⟨hiN, hn, ea, -⟩ <;> rcases key j hj with ⟨j', hj', ej, eb, -⟩ | ⟨hjN, hm, eb, -⟩
    · rw [ea, eb] at hxy
      have := hD1.1 i' j' _ _ (cw_get hi') (cw_get hj') hxy
      rw [ei, ej, this]
    · rw [ea, eb] at hxy
      have z := hD1.2 i' _ (cw_get hi')
      have z : va_A _ H.size (aext k nw (fun i => ad (ps.getD i 0)) i') := z
      rw [hxy] at z
      exact absurd z (apart j hjN hm).2
    · rw [ea, eb] at hxy
      have z := hD1.2 j' _ (cw_get hj')
      have z : va_A _ H.size (aext k nw (fun i => ad (ps.getD i 0)) j') := z
      rw [← hxy] at z
      exact absurd z (apart i hiN hn).2
    · rw [ea, eb] at hxy
      exact hD.1 i j _ _ (cw_get hiN) (cw_get hjN) hxy
  · obtain ⟨hj, rfl⟩ := cw_inv hq
    rcases key j hj with ⟨i, hi, -, ea, -⟩ | ⟨hjN, hn, ea, -⟩
    · show A0 (aext N nw ad j)
      rw [ea]
      exact hF _ (hD1.2 i _ (cw_get hi))
    · show A0 (aext N nw ad j)
      rw [ea]
      exact hD.2 j _ (cw_get hjN)
/-! contracts -/
abbrev cU : Type := (Nat → Nat) × List (Nat × va_E)
def cPre (D : va_G) (cy : Nat → ClassId) (av : List Value) (k : Nat) (ad : Nat → Nat) (g : Nat → va_E) (sz : Nat) : Array Value → State → Prop := va_Pc av (fun U => U.heap.size = sz ∧ cV D cy U ∧ va_P D vwCl (cw k ad g) U.heap ∧ va_D (fun _ => True) (cw k ad g) ∧ cE cy (va_A (cw k ad g) sz) U U.heap)
def cB (D : va_G) (k n : Nat) (ad : Nat → Nat) (g : Nat → va_E) (A : Nat → Prop) (u : cU) (t : State) : Prop := va_P D vwCl (cw (k + n) (aext k u.1 ad) (cup u.2 g)) t.heap ∧ va_D A (cw (k + n) (aext k u.1 ad) (cup u.2 g))
def cQi (post : Int32 → (Nat → Nat) → List (Nat × va_E) → Prop) (D : va_G) (k n : Nat) (ad : Nat → Nat) (g : Nat → va_E) (A : Nat → Prop) : Array Value → State → Outcome → State → Prop := va_Qi (fun r (u : cU) => post r u.1 u.2) (cB D k n ad g A) A
def cQl (post : Int64 → (Nat → Nat) → List (Nat × va_E) → Prop) (D : va_G) (k n : Nat) (ad : Nat → Nat) (g : Nat → va_E) (A : Nat → Prop) : Array Value → State → Outcome → State → Prop := va_Ql (fun r (u : cU) => post r u.1 u.2) (cB D k n ad g A) A
def cQv (post : (Nat → Nat) → List (Nat × va_E) → Prop) (D : va_G) (k n : Nat) (ad : Nat → Nat) (g : Nat → va_E) (A : Nat → Prop) : Array Value → State → Outcome → State → Prop := va_Qv (fun (u : cU) => post u.1 u.2) (cB D k n ad g A) A
def cMi (l : Launch) (y : MethodName) (ws : List Cond) (rm : Room) (k n mc ms : Nat) (D : va_G) (cy : Nat → ClassId) (ad : Nat → Nat) (g : Nat → va_E) (av : List Value) (post : Int32 → (Nat → Nat) → List (Nat × va_E) → Prop) : Prop :=
  ∀ sz : Nat, Met l y ws rm (cPre D cy av k ad g sz) (cQi post D k n ad g (va_A (cw k ad g) sz)) mc ms (va_A (cw k ad g) sz)
def cMl (l : Launch) (y : MethodName) (ws : List Cond) (rm : Room) (k n mc ms : Nat) (D : va_G) (cy : Nat → ClassId) (ad : Nat → Nat) (g : Nat → va_E) (av : List Value) (post : Int64 → (Nat → Nat) → List (Nat × va_E) → Prop) : Prop :=
  ∀ sz : Nat, Met l y ws rm (cPre D cy av k ad g sz) (cQl post D k n ad g (va_A (cw k ad g) sz)) mc ms (va_A (cw k ad g) sz)
def cMv (l : Launch) (y : MethodName) (ws : List Cond) (rm : Room) (k n mc ms : Nat) (D : va_G) (cy : Nat → ClassId) (ad : Nat → Nat) (g : Nat → va_E) (av : List Value) (post : (Nat → Nat) → List (Nat × va_E) → Prop) : Prop :=
  ∀ sz : Nat, Met l y ws rm (cPre D cy av k ad g sz) (cQv post D k n ad g (va_A (cw k ad g) sz)) mc ms (va_A (cw k ad g) sz)
theorem cPre_blind {D : va_G} {cy : Nat → ClassId} {av : List Value} {k : Nat} {ad : Nat → Nat} {g : Nat → va_E} {sz : Nat} : FrameBlind (cPre D cy av k ad g sz) := by
  intro a U gg mk q
  obtain ⟨q0, q1, q2, q3, q4, q5⟩ := q
  exact ⟨q0, q1, cV.blind (V := U.calling gg mk a) rfl q2, q3, q4, cE.blind (V := U.calling gg mk a) rfl q5⟩
/-- from a contract's start to a walk's -/
theorem cM_of {l : Launch} {y : MethodName} {ws ws' : List Cond} {rm : Room} {k mc ms : Nat} {D : va_G} {cy : Nat → ClassId} {av : List Value} {ad : Nat → Nat} {g : Nat → va_E} {Qc : (Nat → Prop) → Array Value → State → Outcome → State → Prop} {cc : ByteArray} {maxL : Nat} {ret : Option FieldType} (hy : plainName y.cls = true) (hw : ws = Cond.code y cc maxL ret :: ws') (hav : (lg_sl av).length ≤ maxL)
    (body : ∀ (p : Program) (e : Env) (s : State) (m : MethodId) (below : List Frame) (meth : Method) (c : Code) (A : Nat → Prop), CallFix p m c cc maxL s av.toArray ws y.cls → meth.sig.returnType = ret → meth.locks = false → meth.name = y.name → cO D cy A s.heap s k ad (cup [] g) s.heap [] → ∀ ls : Array Slot, lv_has ls maxL (lv_args 0 av) →
      W p l e (headSpec ws rm).room s m av.toArray below meth c s.heap [] 0 0 (MQ below (Qc A) av.toArray s mc ms A) (F0 m 0 ls [])) (sz : Nat) :
    Met l y ws rm (cPre D cy av k ad g sz) (Qc (va_A (cw k ad g) sz)) mc ms (va_A (cw k ad g) sz) := by
  refine Met.ofW (cc := cc) (maxL := maxL) (ret := ret) hy hw ?_
  intro p e s m args below meth c s₁ B hml hv
  obtain ⟨rfl, hsz, hV, hP, hD0, hE⟩ := hv
  have hts := atoms_spec (ws := ws) B.pre
  have hown : s.vm.findClass y.cls = some m.cls := findClass_of_methodNamed B.named
  have hlocks := B.notSynchronized
  have hin : meth.name = y.name := (name_of_methodNamed B.named B.method).1
  subst hsz
  have hD := hD0.self (sz := s.heap.size)
  have hA : ∀ q : Nat, s.heap.size ≤ q → va_A (cw k ad g) s.heap.size q := fun q h => Or.inr h
  have hl := lv_entry av (n := maxL) hav
  rw [lg_entry_eq]
  exact body p e s m below meth c (va_A (cw k ad g) s.heap.size) ⟨B.exec, B.bytes, hml, hown, hts⟩ B.returns hlocks hin ⟨hV, hP, hD, va_S.rf, hA, hE⟩ _ hl
section CALLS
variable {p : Program} {l : Launch} {e : Env} {R : Room} {s : State} {m : MethodId} {args : Array Value} {below : List Frame} {meth : Method} {c : Code} {H : Heap} {locs : List Loc} {cells slots : Nat} {Q : State → Prop}
variable {cc : ByteArray} {pc nL : Nat} {ls : Array Slot} {rest st0 : List Value} {D : va_G} {cy : Nat → ClassId} {A : Nat → Prop} {H0 : Heap} {N k n mc ms : Nat} {ad nw : Nat → Nat} {lu : List (Nat × va_E)} {g : Nat → va_E} {Ts : List Cond} {own : String}
/-- the ends -/
theorem cg_iret {post : Int32 → (Nat → Nat) → List (Nat × va_E) → Prop} {v : Int32} {ty : FieldType} (hC : CallFix p m c cc nL s args Ts own) (hr : meth.sig.returnType = some ty) (hlk : meth.locks = false) (hO : cO D cy A s.heap s (k + n) (aext k nw ad) (cup lu g) H locs) (hty : narrow ty (.int v) = .int v) (hmc : cells ≤ mc) (hms : slots ≤ ms) (hpost : post v nw lu) (hdg : decode cc pc = .ok (.ireturn, 1)) :
    W p l e R s m args below meth c H locs cells slots (MQ below (cQi post D k n ad g A) args s mc ms A) (F0 m pc ls [.int v]) := by
  refine W.widen (k := mc) (n := ms) hmc hms ?_
  exact W.zret (v := v) hC.1 hC.2.1 hr hty (fun t ht hW => ⟨⟨v, (nw, lu), rfl, hpost, by rw [ht]; exact hO.2.1, hO.2.2.1⟩, hO.2.2.2.1.F ht⟩) hO.2.2.2.1.2.2 hdg
theorem cg_lret {post : Int64 → (Nat → Nat) → List (Nat × va_E) → Prop} {v : Int64} (hC : CallFix p m c cc nL s args Ts own) (hr : meth.sig.returnType = some .long) (hlk : meth.locks = false) (hO : cO D cy A s.heap s (k + n) (aext k nw ad) (cup lu g) H locs) (hmc : cells ≤ mc) (hms : slots ≤ ms) (hpost : post v nw lu) (hdg : decode cc pc = .ok (.lreturn, 1)) :
    W p l e R s m args below meth c H locs cells slots (MQ below (cQl post D k n ad g A) args s mc ms A) (F0 m pc ls [.long v]) := by
  refine W.widen (k := mc) (n := ms) hmc hms ?_
  exact W.lret (v := v) hC.1 hC.2.1 hr (fun t ht hW => ⟨⟨v, (nw, lu), rfl, hpost, by rw [ht]; exact hO.2.1, hO.2.2.1⟩, hO.2.2.2.1.F ht⟩) hO.2.2.2.1.2.2 hdg
theorem cg_vret {post : (Nat → Nat) → List (Nat × va_E) → Prop} (hC : CallFix p m c cc nL s args Ts own) (hr : meth.sig.returnType = none) (hlk : meth.locks = false) (hO : cO D cy A s.heap s (k + n) (aext k nw ad) (cup lu g) H locs) (hmc : cells ≤ mc) (hms : slots ≤ ms) (hpost : post nw lu) (hdg : decode cc pc = .ok (.return_, 1)) :
    W p l e R s m args below meth c H locs cells slots (MQ below (cQv post D k n ad g A) args s mc ms A) (F0 m pc ls []) := by
  refine W.widen (k := mc) (n := ms) hmc hms ?_
  exact W.vret hC.1 hC.2.1 hr (fun t ht hW => ⟨⟨(nw, lu), rfl, hpost, by rw [ht]; exact hO.2.1, hO.2.2.1⟩, hO.2.2.2.1.F ht⟩) hO.2.2.2.1.2.2 hdg
theorem cO.same {nw' : Nat → Nat} (h : cO D cy A H0 s k ad g H locs) : cO D cy A H0 s (k + 0) (aext k nw' ad) g H locs := by
  obtain ⟨h1, h2, h3, h4, h5⟩ := h
  exact ⟨h1, by rw [Nat.add_zero, aext_0]; exact h2, by rw [Nat.add_zero, aext_0]; exact h3, h4, h5⟩
theorem cO.free {ps : List Nat} (hO : cO D cy A H0 s N ad g H locs) (hps : cps N k ps = true) : ∀ q, va_A (cw k (fun i => ad (ps.getD i 0)) (fun i => g (ps.getD i 0))) H.size q → A q := by
  obtain ⟨h1, h2, h3⟩ := cps_spec hps
  intro q hq
  rcases hq with ⟨k2, e, hq⟩ | hq
  · obtain ⟨hk2, e2⟩ := cw_inv hq
    cases e2
    exact hO.2.2.1.2 _ _ (cw_get (h2 k2 hk2))
  · exact hO.2.2.2.2.1 q (Nat.le_trans hO.2.2.2.1.1 hq)
/-- a call's start: the callee's cells are the caller's at the places ps -/
theorem cO.pre {ps : List Nat} (hO : cO D cy A H0 s N ad g H locs) (hps : cps N k ps = true) (av : List Value) : ∀ U : State, U.heap = H → s.WarmedH U.vm → cPre D cy av k (fun i => ad (ps.getD i 0)) (fun i => g (ps.getD i 0)) H.size av.toArray U := by
  intro U hU hW
  obtain ⟨h1, h2, h3⟩ := cps_spec hps
  refine ⟨rfl, by rw [hU], hO.1.warm hW, ?_, ⟨?_, fun _ _ _ => trivial⟩, ?_⟩
  · intro j q hq
    obtain ⟨hj, rfl⟩ := cw_inv hq
    rw [hU]
    exact hO.2.1 _ _ (cw_get (h2 j hj))
  · intro i j x y hx hy hxy
    obtain ⟨hi, rfl⟩ := cw_inv hx
    obtain ⟨hj, rfl⟩ := cw_inv hy
    exact h3 i j hi hj (hO.2.2.1.1 _ _ _ _ (cw_get (h2 i hi)) (cw_get (h2 j hj)) hxy)
  · rw [hU]
    exact hO.2.2.2.2.2.to hW hO.2.2.2.1.2.1 (hO.free hps)
/-- behind a call -/
theorem cg_doi {post : Int32 → (Nat → Nat) → List (Nat × va_E) → Prop} {ps : List Nat} {a : Array Value} (hO : cO D cy A H0 s N ad (cup lu g) H locs) (hps : cps N k ps = true)
    (hr : va_Run p l e R s m args below meth c H locs cells slots mc ms (F0 m pc ls st0) rest (cQi post D k n (fun i => ad (ps.getD i 0)) (fun i => cup lu g (ps.getD i 0)) (va_A (cw k (fun i => ad (ps.getD i 0)) (fun i => cup lu g (ps.getD i 0))) H.size) a) (va_A (cw k (fun i => ad (ps.getD i 0)) (fun i => cup lu g (ps.getD i 0))) H.size))
    (kk : ∀ (r : Int32) (nw : Nat → Nat) (l' : List (Nat × va_E)) (H1 : Heap) (locs1 : List Loc), post r nw l' → (cnew k n l' = true → cO D cy A H0 s (N + n) (aext N nw ad) (cup (cmrg N k ps l' lu) g) H1 locs1) → W p l e R s m args below meth c H1 locs1 (cells + mc) (slots + ms) Q (F0 m (pc + 3) ls (.int r :: rest))) : W p l e R s m args below meth c H locs cells slots Q (F0 m pc ls st0) := by
  refine va_calli hr hO.2.2.2.1 (fun q _ h => hO.free hps q h) (hO.free hps) (fun r u t H1 locs1 ht hvm hw hB hz1 hk1 hS => ?_)
  obtain ⟨hP1, hD1⟩ := hB
  rw [ht] at hP1
  refine kk r u.1 u.2 H1 locs1 hw (fun hnew => ?_)
  obtain ⟨a1, a2⟩ := cw_join hps hO.2.1 hO.2.2.1 hO.2.2.2.1 hO.2.2.2.2.1 hk1 hP1 hD1 hnew
  exact ⟨hO.1, a1, a2, hS, hO.2.2.2.2⟩
theorem cg_dol {post : Int64 → (Nat → Nat) → List (Nat × va_E) → Prop} {ps : List Nat} {a : Array Value} (hO : cO D cy A H0 s N ad (cup lu g) H locs) (hps : cps N k ps = true)
    (hr : va_Run p l e R s m args below meth c H locs cells slots mc ms (F0 m pc ls st0) rest (cQl post D k n (fun i => ad (ps.getD i 0)) (fun i => cup lu g (ps.getD i 0)) (va_A (cw k (fun i => ad (ps.getD i 0)) (fun i => cup lu g (ps.getD i 0))) H.size) a) (va_A (cw k (fun i => ad (ps.getD i 0)) (fun i => cup lu g (ps.getD i 0))) H.size))
    (kk : ∀ (r : Int64) (nw : Nat → Nat) (l' : List (Nat × va_E)) (H1 : Heap) (locs1 : List Loc), post r nw l' → (cnew k n l' = true → cO D cy A H0 s (N + n) (aext N nw ad) (cup (cmrg N k ps l' lu) g) H1 locs1) → W p l e R s m args below meth c H1 locs1 (cells + mc) (slots + ms) Q (F0 m (pc + 3) ls (.long r :: rest))) : W p l e R s m args below meth c H locs cells slots Q (F0 m pc ls st0) := by
  refine va_calll hr hO.2.2.2.1 (fun q _ h => hO.free hps q h) (hO.free hps) (fun r u t H1 locs1 ht hvm hw hB hz1 hk1 hS => ?_)
  obtain ⟨hP1, hD1⟩ := hB
  rw [ht] at hP1
  refine kk r u.1 u.2 H1 locs1 hw (fun hnew => ?_)
  obtain ⟨a1, a2⟩ := cw_join hps hO.2.1 hO.2.2.1 hO.2.2.2.1 hO.2.2.2.2.1 hk1 hP1 hD1 hnew
  exact ⟨hO.1, a1, a2, hS, hO.2.2.2.2⟩
theorem cg_dov {post : (Nat → Nat) → List (Nat × va_E) → Prop} {ps : List Nat} {a : Array Value} (hO : cO D cy A H0 s N ad (cup lu g) H locs) (hps : cps N k ps = true)
    (hr : va_Run p l e R s m args below meth c H locs cells slots mc ms (F0 m pc ls st0) rest (cQv post D k n (fun i => ad (ps.getD i 0)) (fun i => cup lu g (ps.getD i 0)) (va_A (cw k (fun i => ad (ps.getD i 0)) (fun i => cup lu g (ps.getD i 0))) H.size) a) (va_A (cw k (fun i => ad (ps.getD i 0)) (fun i => cup lu g (ps.getD i 0))) H.size))
    (kk : ∀ (nw : Nat → Nat) (l' : List (Nat × va_E)) (H1 : Heap) (locs1 : List Loc), post nw l' → (cnew k n l' = true → cO D cy A H0 s (N + n) (aext N nw ad) (cup (cmrg N k ps l' lu) g) H1 locs1) → W p l e R s m args below meth c H1 locs1 (cells + mc) (slots + ms) Q (F0 m (pc + 3) ls rest)) : W p l e R s m args below meth c H locs cells slots Q (F0 m pc ls st0) := by
  refine va_callv hr hO.2.2.2.1 (fun q _ h => hO.free hps q h) (hO.free hps) (fun u t H1 locs1 ht hvm hw hB hz1 hk1 hS => ?_)
  obtain ⟨hP1, hD1⟩ := hB
  rw [ht] at hP1
  refine kk u.1 u.2 H1 locs1 hw (fun hnew => ?_)
  obtain ⟨a1, a2⟩ := cw_join hps hO.2.1 hO.2.2.1 hO.2.2.2.1 hO.2.2.2.2.1 hk1 hP1 hD1 hnew
  exact ⟨hO.1, a1, a2, hS, hO.2.2.2.2⟩
end CALLS
