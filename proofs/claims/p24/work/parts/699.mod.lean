/-! the reference: places 0, 80, 160 .. of its rows of states hold how many carts; the law's code as a stack of depth n -/
abbrev zs (f : Nat → Int32) : Prop := ∀ j, j % 80 = 0 → zi 0 24 (f j)
theorem zs_upd {f : Nat → Int32} {k : Nat} {v : Int32} (h : zs f) (hv : k % 80 = 0 → zi 0 24 v) : zs (upd f k v) := by
  intro j hj
  unfold upd
  by_cases e : j = k
  · simp only [e]
    exact hv (e ▸ hj)
  · simp only [if_neg e]
    exact h j hj
theorem upd_far {f : Nat → Int32} {k j : Nat} {v : Int32} (h : j ≠ k) : upd f k v j = f j := by simp [upd, h]
theorem vp_pos {x : Int32} {n : Nat} (h : vp_in x n) : 0 ≤ x.toInt := by
  unfold vp_in at h
  have z : ¬ x < 0 := fun z => h (Or.inl z)
  have := zr_nlt z
  rw [zi_0] at this
  exact this
theorem zi_mulk {a b c d e f : Int} {x y : Int32} {n : Int} (h : zi a b x) (k : zi c d y) (hn : x.toInt = n) (hs : 0 ≤ a ∧ 0 ≤ c ∧ e ≤ a * c ∧ b * d ≤ f ∧ 0 ≤ e ∧ f ≤ 2147483647) : zi e f (x * y) ∧ (x * y).toInt = n * y.toInt := by
  obtain ⟨z1, z2⟩ := zi_mul h k hs
  exact ⟨z1, by rw [z2, hn]⟩
theorem zi_qr {a b c d : Int} {x y : Int32} (h : zi a b x) (k : zi c d y) (hs : 0 ≤ a ∧ 1 ≤ c) : (x / y).toInt = x.toInt / y.toInt ∧ 0 ≤ x.toInt / y.toInt ∧ x.toInt / y.toInt ≤ x.toInt ∧ 0 ≤ y.toInt * (x.toInt / y.toInt) ∧ y.toInt * (x.toInt / y.toInt) ≤ x.toInt ∧ x.toInt - y.toInt * (x.toInt / y.toInt) < y.toInt := by
  have hx : 0 ≤ x.toInt := by omega
  have hy : 1 ≤ y.toInt := by omega
  have q0 : 0 ≤ x.toInt / y.toInt := Int.ediv_nonneg hx (by omega)
  have q1 : x.toInt / y.toInt ≤ x.toInt := Int.ediv_le_self _ hx
  have r0 := Int.emod_nonneg x.toInt (show y.toInt ≠ 0 by omega)
  have r1 := Int.emod_lt_of_pos x.toInt (show 0 < y.toInt by omega)
  have e := Int.mul_ediv_add_emod x.toInt y.toInt
  have m0 : 0 ≤ y.toInt * (x.toInt / y.toInt) := Int.mul_nonneg (by omega) q0
  have hb := zi_all x
  refine ⟨?_, q0, q1, m0, by omega, by omega⟩
  rw [Int32.toInt_div, Int.tdiv_eq_ediv_of_nonneg hx]
  exact zi_bm (by omega) (by omega)
theorem zi_div {a b c d e f : Int} {x y : Int32} (h : zi a b x) (k : zi c d y) (hs : 0 ≤ a ∧ 1 ≤ c ∧ e ≤ 0 ∧ b ≤ f) : zi e f (x / y) := by
  obtain ⟨z, q0, q1, -⟩ := zi_qr h k ⟨hs.1, hs.2.1⟩
  exact ⟨by omega, by omega⟩
theorem zi_rem {a b c d e f : Int} {x y : Int32} (h : zi a b x) (k : zi c d y) (hs : 0 ≤ a ∧ 1 ≤ c ∧ e ≤ 0 ∧ d - 1 ≤ f) : zi e f (x - x / y * y) := by
  obtain ⟨z, q0, q1, m0, m1, m2⟩ := zi_qr h k ⟨hs.1, hs.2.1⟩
  have hb := zi_all x
  have e1 : (x / y * y).toInt = y.toInt * (x.toInt / y.toInt) := by
    rw [Int32.toInt_mul, z, Int.mul_comm]
    exact zi_bm (by omega) (by omega)
  have e2 : (x - x / y * y).toInt = x.toInt - y.toInt * (x.toInt / y.toInt) := by
    rw [Int32.toInt_sub, e1]
    exact zi_bm (by omega) (by omega)
  exact ⟨by omega, by omega⟩
theorem zi_of (n : Nat) {x : Int32} (h : x.toInt = n) (hn : n < 2147483648) : x = Int32.ofNat n := by
  apply Int32.toInt_inj.mp
  rw [h]
  have := zi_ofNat (x := Int32.ofNat n) (n := n) (by show n % 2 ^ 32 = n; exact Nat.mod_eq_of_lt (by omega)) hn
  rw [this]
theorem zi_shl11a : ∀ n : Fin 12, zi 1 2048 ((1 : Int32) <<< (Int32.ofNat n.val &&& 31)) := by decide
theorem zi_shl11 {y : Int32} (h : zi 0 11 y) : zi 1 2048 ((1 : Int32) <<< (y &&& 31)) := by
  rw [zi_of y.toInt.toNat (x := y) (by omega) (by omega)]
  exact zi_shl11a ⟨y.toInt.toNat, by omega⟩
def dstep (ch : Int32) (n : Nat) : Option Nat := if ch = 126 then (if 1 ≤ n then some n else none) else if 97 ≤ ch.toInt ∧ ch.toInt ≤ 122 then (if n < 60 then some (n + 1) else none) else (if 2 ≤ n then some (n - 1) else none)
def drun (c : Nat → Int32) (B : Nat) : Nat → Option Nat
  | 0 => some 0
  | m + 1 => (drun c B m).bind (dstep (c (B + m)))
def zf (isLaw code ruleTo : Nat → Int32) (bank : Int32) : Prop := ¬ isLaw bank.toNatClampNeg = 0 → ∃ len n : Nat, (ruleTo bank.toNatClampNeg).toInt = 490 * bank.toInt + len ∧ len ≤ 490 ∧ drun code (490 * bank.toInt).toNat len = some n
theorem drun_pre {c : Nat → Int32} {B len N m : Nat} (h : drun c B len = some N) (hm : m ≤ len) : ∃ n, drun c B m = some n := by
  induction len generalizing N with
  | zero => exact ⟨N, by rw [show m = 0 by omega]; exact h⟩
  | succ len ih =>
    by_cases e : m = len + 1
    · exact ⟨N, by rw [e]; exact h⟩
    · cases hd : drun c B len with
      | none => rw [drun, hd] at h; cases h
      | some n => exact ih hd (by omega)
theorem drun_at {c : Nat → Int32} {B len N m n : Nat} (h : drun c B len = some N) (hm : m < len) (hd : drun c B m = some n) : ∃ n', dstep (c (B + m)) n = some n' ∧ drun c B (m + 1) = some n' := by
  obtain ⟨n', hn⟩ := drun_pre h (show m + 1 ≤ len from hm)
  refine ⟨n', ?_, hn⟩
  rw [drun, hd] at hn
  exact hn
theorem drun_back {c : Nat → Int32} {B m n' j n : Nat} (h : drun c B (m + 1) = some n') (hj : j = m + 1) (hn : n = n') : drun c B j = some n := by rw [hj, hn]; exact h
theorem drun_0 {c : Nat → Int32} {B j n : Nat} (hj : j = 0) (hn : n = 0) : drun c B j = some n := by rw [hj, hn]; rfl
theorem dstep_not {ch : Int32} {n n' : Nat} (hs : dstep ch n = some n') (h : ch = 126) : 1 ≤ n ∧ n' = n := by
  unfold dstep at hs
  rw [if_pos h] at hs
  split at hs
  · cases hs; exact ⟨by assumption, rfl⟩
  · cases hs
theorem dstep_let {ch : Int32} {n n' : Nat} (hs : dstep ch n = some n') (h : ¬ ch = 126) (h1 : 97 ≤ ch.toInt ∧ ch.toInt ≤ 122) : n < 60 ∧ n' = n + 1 := by
  unfold dstep at hs
  rw [if_neg h, if_pos h1] at hs
  split at hs
  · cases hs; exact ⟨by assumption, rfl⟩
  · cases hs
theorem dstep_op {ch : Int32} {n n' : Nat} (hs : dstep ch n = some n') (h : ¬ ch = 126) (h1 : ¬ (97 ≤ ch.toInt ∧ ch.toInt ≤ 122)) : 2 ≤ n ∧ n' = n - 1 := by
  unfold dstep at hs
  rw [if_neg h, if_neg h1] at hs
  split at hs
  · cases hs; exact ⟨by assumption, rfl⟩
  · cases hs
section MROWS
variable {p : Program} {l : Launch} {e : Env} {R : Room} {s : State} {m : MethodId} {args : Array Value} {below : List Frame} {meth : Method} {c : Code} {H : Heap} {locs : List Loc} {cells slots : Nat} {Q : State → Prop}
variable {cc : ByteArray} {pc nL : Nat} {ls : Array Slot} {rest : List Value} {D : va_G} {cy : Nat → ClassId} {A : Nat → Prop} {H0 : Heap} {N : Nat} {ad : Nat → Nat} {lu : List (Nat × va_E)} {g : Nat → va_E} {Ts : List Cond} {own : String} {a b : Int}
theorem zg_zaldE (hC : CallFix p m c cc nL s args Ts own) (hO : cO D cy A H0 s N ad g H locs) (i : Nat) (hi : i < N) {n : Nat} {f : Nat → Int32} (he : g i = .inl (cy 2, n, .inl f)) (hf : za a b f) {x : Int32} (hin : vp_in x n) (hdg : decode cc pc = .ok (.baload, 1))
    (kk : ∀ v, zi a b v → f x.toNatClampNeg = v → W p l e R s m args below meth c H locs cells slots Q (F0 m (pc + 1) ls (.int v :: rest))) : W p l e R s m args below meth c H locs cells slots Q (F0 m pc ls (.int x :: .ref (ad i) :: rest)) :=
  cg_zald hC hO i hi he hin hdg (kk _ (hf _) rfl)
theorem zg_bast (hC : CallFix p m c cc nL s args Ts own) (hO : cO D cy A H0 s N ad (cup lu g) H locs) (i : Nat) (hi : i < N) {n : Nat} {f : Nat → Int32} (he : cup lu g i = .inl (cy 3, n, .inl f)) {x v : Int32} (hin : vp_in x n) (hdg : decode cc pc = .ok (.bastore, 1))
    (kk : ∀ (H1 : Heap) (locs1 : List Loc) (f' : Nat → Int32), cO D cy A H0 s N ad (cup (cins i (.inl (cy 3, n, .inl f')) lu) g) H1 locs1 → W p l e R s m args below meth c H1 locs1 cells slots Q (F0 m (pc + 1) ls rest)) : W p l e R s m args below meth c H locs cells slots Q (F0 m pc ls (.int v :: .int x :: .ref (ad i) :: rest)) :=
  cg_bast hC hO i hi he hin hdg (fun H1 l1 hO => kk H1 l1 _ hO)
theorem zg_ialdS (hC : CallFix p m c cc nL s args Ts own) (hO : cO D cy A H0 s N ad g H locs) (i : Nat) (hi : i < N) {n : Nat} {f : Nat → Int32} (he : g i = .inl (cy 0, n, .inl f)) (hf : zs f) {x : Int32} (hin : vp_in x n) (hdg : decode cc pc = .ok (.iaload, 1))
    (kk : ∀ v, (x.toInt % 80 = 0 → zi 0 24 v) → f x.toNatClampNeg = v → W p l e R s m args below meth c H locs cells slots Q (F0 m (pc + 1) ls (.int v :: rest))) : W p l e R s m args below meth c H locs cells slots Q (F0 m pc ls (.int x :: .ref (ad i) :: rest)) :=
  cg_iald hC hO i hi he hin hdg (kk _ (fun hm => hf _ (by
    have h0 := vp_pos hin
    have e : x.toNatClampNeg = x.toInt.toNat := rfl
    omega)) rfl)
theorem zg_iastS (hC : CallFix p m c cc nL s args Ts own) (hO : cO D cy A H0 s N ad (cup lu g) H locs) (i : Nat) (hi : i < N) {n : Nat} {f : Nat → Int32} (he : cup lu g i = .inl (cy 0, n, .inl f)) (hf : zs f) {x v : Int32} (hv : x.toInt % 80 = 0 → zi 0 24 v) (hin : vp_in x n) (hdg : decode cc pc = .ok (.iastore, 1))
    (kk : ∀ (H1 : Heap) (locs1 : List Loc) (f' : Nat → Int32), zs f' → f' = upd f x.toNatClampNeg v → cO D cy A H0 s N ad (cup (cins i (.inl (cy 0, n, .inl f')) lu) g) H1 locs1 → W p l e R s m args below meth c H1 locs1 cells slots Q (F0 m (pc + 1) ls rest)) : W p l e R s m args below meth c H locs cells slots Q (F0 m pc ls (.int v :: .int x :: .ref (ad i) :: rest)) :=
  cg_iast hC hO i hi he hin hdg (fun H1 l1 hO => kk H1 l1 _ (zs_upd hf (fun hm => hv (by
    have h0 := vp_pos hin
    have e : x.toNatClampNeg = x.toInt.toNat := rfl
    omega))) rfl hO)
end MROWS
theorem tsw_out_37_62 (x : Int32) (h0 : ¬ x = 37) (h1 : ¬ x = 38) (h2 : ¬ x = 39) (h3 : ¬ x = 40) (h4 : ¬ x = 41) (h5 : ¬ x = 42) (h6 : ¬ x = 43) (h7 : ¬ x = 44) (h8 : ¬ x = 45) (h9 : ¬ x = 46) (h10 : ¬ x = 47) (h11 : ¬ x = 48) (h12 : ¬ x = 49) (h13 : ¬ x = 50) (h14 : ¬ x = 51) (h15 : ¬ x = 52) (h16 : ¬ x = 53) (h17 : ¬ x = 54) (h18 : ¬ x = 55) (h19 : ¬ x = 56) (h20 : ¬ x = 57) (h21 : ¬ x = 58) (h22 : ¬ x = 59) (h23 : ¬ x = 60) (h24 : ¬ x = 61) (h25 : ¬ x = 62) : x.toInt < 37 ∨ 62 < x.toInt := by
  have a0 : ¬ x.toInt = 37 := lv_neT h0 rfl
  have a1 : ¬ x.toInt = 38 := lv_neT h1 rfl
  have a2 : ¬ x.toInt = 39 := lv_neT h2 rfl
  have a3 : ¬ x.toInt = 40 := lv_neT h3 rfl
  have a4 : ¬ x.toInt = 41 := lv_neT h4 rfl
  have a5 : ¬ x.toInt = 42 := lv_neT h5 rfl
  have a6 : ¬ x.toInt = 43 := lv_neT h6 rfl
  have a7 : ¬ x.toInt = 44 := lv_neT h7 rfl
  have a8 : ¬ x.toInt = 45 := lv_neT h8 rfl
  have a9 : ¬ x.toInt = 46 := lv_neT h9 rfl
  have a10 : ¬ x.toInt = 47 := lv_neT h10 rfl
  have a11 : ¬ x.toInt = 48 := lv_neT h11 rfl
  have a12 : ¬ x.toInt = 49 := lv_neT h12 rfl
  have a13 : ¬ x.toInt = 50 := lv_neT h13 rfl
  have a14 : ¬ x.toInt = 51 := lv_neT h14 rfl
  have a15 : ¬ x.toInt = 52 := lv_neT h15 rfl
  have a16 : ¬ x.toInt = 53 := lv_neT h16 rfl
  have a17 : ¬ x.toInt = 54 := lv_neT h17 rfl
  have a18 : ¬ x.toInt = 55 := lv_neT h18 rfl
  have a19 : ¬ x.toInt = 56 := lv_neT h19 rfl
  have a20 : ¬ x.toInt = 57 := lv_neT h20 rfl
  have a21 : ¬ x.toInt = 58 := lv_neT h21 rfl
  have a22 : ¬ x.toInt = 59 := lv_neT h22 rfl
  have a23 : ¬ x.toInt = 60 := lv_neT h23 rfl
  have a24 : ¬ x.toInt = 61 := lv_neT h24 rfl
  have a25 : ¬ x.toInt = 62 := lv_neT h25 rfl
  omega
