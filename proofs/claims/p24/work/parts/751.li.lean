/-! the law's formula while it is read: a pile of what waits, and the code laid so far -/
def opq (ch : Int32) : Prop := ¬ ch = 126 ∧ ¬ (97 ≤ ch.toInt ∧ ch.toInt ≤ 122)
theorem opq_of {ch : Int32} (h : ch.toInt ≤ 62 ∨ ch.toInt = 124) : opq ch := by
  refine ⟨fun z => ?_, by omega⟩
  rw [z] at h
  have : (126 : Int32).toInt = 126 := by decide
  omega
theorem drun_upd {c c' : Nat → Int32} {B : Nat} : ∀ {m : Nat}, (∀ j, B ≤ j → j < B + m → c' j = c j) → drun c' B m = drun c B m
  | 0, _ => rfl
  | m + 1, h => by
    show (drun c' B m).bind (dstep (c' (B + m))) = (drun c B m).bind (dstep (c (B + m)))
    rw [drun_upd (fun j h1 h2 => h j h1 (by omega)), h (B + m) (by omega) (by omega)]
theorem drun_ext {c : Nat → Int32} {B m n n' : Nat} {ch : Int32} (h : drun c B m = some n) (hs : dstep ch n = some n') : drun (upd c (B + m) ch) B (m + 1) = some n' := by
  show (drun (upd c (B + m) ch) B m).bind (dstep (upd c (B + m) ch (B + m))) = some n'
  rw [drun_upd (c := c) (fun j h1 h2 => upd_far (by omega)), h, upd_self]
  exact hs
theorem dstep_n {n : Nat} (h : 1 ≤ n) : dstep 126 n = some n := by
  unfold dstep
  rw [if_pos rfl, if_pos h]
theorem dstep_l {ch : Int32} {n : Nat} (h : 97 ≤ ch.toInt ∧ ch.toInt ≤ 122) (hn : n < 60) : dstep ch n = some (n + 1) := by
  unfold dstep
  rw [if_neg (fun z => ?_), if_pos h, if_pos hn]
  rw [z] at h
  exact absurd h (by decide)
theorem dstep_o {ch : Int32} {n : Nat} (h : opq ch) (hn : 2 ≤ n) : dstep ch n = some (n - 1) := by
  unfold dstep
  rw [if_neg h.1, if_neg h.2, if_pos hn]
def lw (w g : Nat → Int32) : Nat → Nat → Nat → Nat → Prop
  | 0, b, n, k => (w 0).toInt = 8 ∧ b = 0 ∧ n = 0 ∧ k = 0
  | p + 1, b, n, k => ((w (p + 1)).toInt = 3 ∧ g (p + 1) = 126 ∧ 1 ≤ n ∧ lw w g p b (n - 1) k) ∨ ((w (p + 1)).toInt = 7 ∧ 1 ≤ k ∧ lw w g p b n (k - 1)) ∨ (((w (p + 1)).toInt = 1 ∨ (w (p + 1)).toInt = 2 ∨ (w (p + 1)).toInt = 4 ∨ (w (p + 1)).toInt = 5 ∨ (w (p + 1)).toInt = 6) ∧ opq (g (p + 1)) ∧ 1 ≤ b ∧ lw w g p (b - 1) n k)
theorem lw_len {w g : Nat → Int32} : ∀ {p b n k : Nat}, lw w g p b n k → p = b + n + k
  | 0, _, _, _, h => by
    obtain ⟨-, h1, h2, h3⟩ := h
    omega
  | p + 1, b, n, k, h => by
    rcases h with ⟨-, -, h1, h⟩ | ⟨-, h1, h⟩ | ⟨-, -, h1, h⟩
    all_goals (have := lw_len h; omega)
theorem lw_far {w g w' g' : Nat → Int32} : ∀ {p b n k : Nat}, (∀ j, j ≤ p → w' j = w j) → (∀ j, j ≤ p → g' j = g j) → lw w g p b n k → lw w' g' p b n k
  | 0, _, _, _, hw, _, h => by
    obtain ⟨h0, h1⟩ := h
    exact ⟨by rw [hw 0 (Nat.le_refl _)]; exact h0, h1⟩
  | p + 1, b, n, k, hw, hg, h => by
    have ew := hw (p + 1) (Nat.le_refl _)
    have eg := hg (p + 1) (Nat.le_refl _)
    have hw' : ∀ j, j ≤ p → w' j = w j := fun j hj => hw j (by omega)
    have hg' : ∀ j, j ≤ p → g' j = g j := fun j hj => hg j (by omega)
    show ((w' (p + 1)).toInt = 3 ∧ g' (p + 1) = 126 ∧ 1 ≤ n ∧ lw w' g' p b (n - 1) k) ∨ ((w' (p + 1)).toInt = 7 ∧ 1 ≤ k ∧ lw w' g' p b n (k - 1)) ∨ (((w' (p + 1)).toInt = 1 ∨ (w' (p + 1)).toInt = 2 ∨ (w' (p + 1)).toInt = 4 ∨ (w' (p + 1)).toInt = 5 ∨ (w' (p + 1)).toInt = 6) ∧ opq (g' (p + 1)) ∧ 1 ≤ b ∧ lw w' g' p (b - 1) n k)
    rw [ew, eg]
    rcases h with ⟨a, b1, h1, h⟩ | ⟨a, h1, h⟩ | ⟨a, b1, h1, h⟩
    · exact Or.inl ⟨a, b1, h1, lw_far hw' hg' h⟩
    · exact Or.inr (Or.inl ⟨a, h1, lw_far hw' hg' h⟩)
    · exact Or.inr (Or.inr ⟨a, b1, h1, lw_far hw' hg' h⟩)
theorem lw_top {w g : Nat → Int32} {p b n k : Nat} (h : lw w g p b n k) : 1 ≤ (w p).toInt ∧ (w p).toInt ≤ 8 := by
  cases p with
  | zero => have := h.1; omega
  | succ p => rcases h with ⟨a, -⟩ | ⟨a, -⟩ | ⟨a, -⟩ <;> omega
/-- d: 0 where a unit is wanted, 1 behind one; q: what is left over -/
def LI (w g code : Nat → Int32) (piled within units codes rb : Int32) (d q : Int) : Prop :=
  (0 ≤ rb.toInt ∧ rb.toInt ≤ 1) ∧ (0 ≤ units.toInt ∧ units.toInt ≤ 30) ∧ within.toInt ≤ 7 ∧ 0 ≤ q ∧ q ≤ 7 ∧ ∃ p b nn kk n K : Nat, piled.toInt = p + 1 ∧ lw w g p b nn kk ∧ within.toInt = nn + kk ∧ codes.toInt = 490 * rb.toInt + K ∧ drun code (490 * rb.toInt).toNat K = some n ∧ (n : Int) = b + d ∧ (n : Int) ≤ units.toInt ∧ (K : Int) + nn + n ≤ 9 * units.toInt + q
def DR (code : Nat → Int32) (codes rb : Int32) : Prop := ∃ n K : Nat, codes.toInt = 490 * rb.toInt + K ∧ K ≤ 490 ∧ drun code (490 * rb.toInt).toNat K = some n
abbrev LI1 (w g code : Nat → Int32) (piled within units codes rb : Int32) : Prop := LI w g code piled within units codes rb 0 within.toInt
abbrev LI0 (w g code : Nat → Int32) (piled within units codes rb : Int32) : Prop := LI w g code piled within units codes rb 1 0
def LE (w g code : Nat → Int32) (piled within units codes rb fk r : Int32) : Prop :=
  ((1 ≤ fk.toInt ∨ piled.toInt = 0) ∧ DR code codes rb) ∨ (r.toInt = 1 ∧ LI1 w g code piled within units codes rb) ∨ (r.toInt = 0 ∧ LI0 w g code piled within units codes rb)
section LIS
variable {w g code w' g' code' : Nat → Int32} {piled within units codes rb piled' within' units' codes' fk r : Int32} {d q : Int}
theorem LI_b (h : LI w g code piled within units codes rb d q) (hd : 0 ≤ d) : (1 ≤ piled.toInt ∧ piled.toInt ≤ 39) ∧ (0 ≤ within.toInt ∧ within.toInt ≤ 7) ∧ (490 * rb.toInt ≤ codes.toInt ∧ codes.toInt ≤ 490 * rb.toInt + 277) := by
  obtain ⟨h0, hu, hw, hq0, hq, p, b, nn, kk, n, K, h1, h2, h3, h4, h5, h6, h7, h8⟩ := h
  have := lw_len h2
  exact ⟨⟨by omega, by omega⟩, ⟨by omega, hw⟩, by omega, by omega⟩
theorem LI_dr (h : LI w g code piled within units codes rb d q) : DR code codes rb := by
  obtain ⟨h0, hu, hw, hq0, hq, p, b, nn, kk, n, K, h1, h2, h3, h4, h5, h6, h7, h8⟩ := h
  exact ⟨n, K, h4, by omega, h5⟩
theorem LE_dr (h : LE w g code piled within units codes rb fk r) : DR code codes rb := by
  rcases h with h | h | h
  · exact h.2
  · exact LI_dr h.2
  · exact LI_dr h.2
theorem LE_1 (h : LE w g code piled within units codes rb fk r) (hf : fk.toInt ≤ 0) (hp : 0 < piled.toInt) (hr : ¬ r.toInt = 0) : LI1 w g code piled within units codes rb := by
  rcases h with h | h | h
  · omega
  · exact h.2
  · exact absurd h.1 hr
theorem LE_0 (h : LE w g code piled within units codes rb fk r) (hf : fk.toInt ≤ 0) (hp : 0 < piled.toInt) (hr : ¬ r.toInt = 1) : LI0 w g code piled within units codes rb := by
  rcases h with h | h | h
  · omega
  · exact absurd h.1 hr
  · exact h.2
theorem LI_init (hr : 0 ≤ rb.toInt ∧ rb.toInt ≤ 1) (hu : 0 ≤ units.toInt ∧ units.toInt ≤ 30) (hp : piled.toInt = 1) (hw : within.toInt = 0) (hc : codes.toInt = 490 * rb.toInt) (e : (w 0).toInt = 8) : LI1 w g code piled within units codes rb :=
  ⟨hr, hu, by omega, by omega, by omega, 0, 0, 0, 0, 0, 0, by omega, ⟨e, rfl, rfl, rfl⟩, by omega, by omega, rfl, by omega, by omega, by omega⟩
/-- one more on the pile: not, a bracket -/
theorem LI_in {what sig : Int32} (h : LI1 w g code piled within units codes rb) (ew : w' = upd w piled.toNatClampNeg what) (eg : g' = upd g piled.toNatClampNeg sig) (hk : (what.toInt = 3 ∧ sig = 126) ∨ what.toInt = 7) (h7 : within.toInt ≤ 6) (hp : piled'.toInt = piled.toInt + 1) (hw : within'.toInt = within.toInt + 1) (hu : units.toInt ≤ units'.toInt ∧ units'.toInt ≤ 30) : LI1 w' g' code piled' within' units' codes rb := by
  obtain ⟨h0, hu0, hw0, hq0, hq, p, b, nn, kk, n, K, h1, h2, h3, h4, h5, h6, h7', h8⟩ := h
  have ep : piled.toNatClampNeg = p + 1 := by
    have e : piled.toNatClampNeg = piled.toInt.toNat := rfl
    omega
  rw [ep] at ew eg
  have hf : lw w' g' p b nn kk := lw_far (fun j hj => by rw [ew]; exact upd_far (by omega)) (fun j hj => by rw [eg]; exact upd_far (by omega)) h2
  have ew1 : w' (p + 1) = what := by rw [ew]; exact upd_self
  have eg1 : g' (p + 1) = sig := by rw [eg]; exact upd_self
  rcases hk with ⟨k1, k2⟩ | k1
  · exact ⟨h0, by omega, by omega, by omega, by omega, p + 1, b, nn + 1, kk, n, K, by omega, Or.inl ⟨by rw [ew1]; exact k1, by rw [eg1]; exact k2, by omega, hf⟩, by omega, h4, h5, h6, by omega, by omega⟩
  · exact ⟨h0, by omega, by omega, by omega, by omega, p + 1, b, nn, kk + 1, n, K, by omega, Or.inr (Or.inl ⟨by rw [ew1]; exact k1, by omega, hf⟩), by omega, h4, h5, h6, by omega, by omega⟩
/-- a letter is laid -/
theorem LI_let {ch : Int32} (h : LI1 w g code piled within units codes rb) (ec : code' = upd code codes.toNatClampNeg ch) (hl : 97 ≤ ch.toInt ∧ ch.toInt ≤ 122) (hc : codes'.toInt = codes.toInt + 1) (hu : units'.toInt = units.toInt + 1) (hu30 : units'.toInt ≤ 30) : LI0 w g code' piled within units' codes' rb := by
  obtain ⟨h0, hu0, hw0, hq0, hq, p, b, nn, kk, n, K, h1, h2, h3, h4, h5, h6, h7', h8⟩ := h
  have ep : codes.toNatClampNeg = (490 * rb.toInt).toNat + K := by
    have e : codes.toNatClampNeg = codes.toInt.toNat := rfl
    omega
  rw [ep] at ec
  exact ⟨h0, by omega, hw0, by omega, by omega, p, b, nn, kk, n + 1, K + 1, h1, h2, h3, by omega, by rw [ec]; exact drun_ext h5 (dstep_l hl (by omega)), by omega, by omega, by omega⟩
/-- what waited last is laid -/
theorem LI_pop {ch : Int32} (h : LI0 w g code piled within units codes rb) (ht : (w (piled.toInt - 1).toNat).toInt ≤ 6) (eg : g (piled.toInt - 1).toNat = ch) (ec : code' = upd code codes.toNatClampNeg ch) (hp : piled'.toInt = piled.toInt - 1) (hc : codes'.toInt = codes.toInt + 1) (hw : ((w (piled.toInt - 1).toNat).toInt = 3 ∧ within'.toInt = within.toInt - 1) ∨ (¬ (w (piled.toInt - 1).toNat).toInt = 3 ∧ within'.toInt = within.toInt)) : LI0 w g code' piled' within' units codes' rb := by
  obtain ⟨h0, hu0, hw0, hq0, hq, p, b, nn, kk, n, K, h1, h2, h3, h4, h5, h6, h7', h8⟩ := h
  have ep : codes.toNatClampNeg = (490 * rb.toInt).toNat + K := by
    have e : codes.toNatClampNeg = codes.toInt.toNat := rfl
    omega
  rw [ep] at ec
  rw [show (piled.toInt - 1).toNat = p by omega] at ht eg hw
  cases p with
  | zero => have := h2.1; omega
  | succ p =>
    rcases h2 with ⟨a, a1, a2, a3⟩ | ⟨a, a2, a3⟩ | ⟨a, a1, a2, a3⟩
    · rw [a1] at eg
      subst eg
      exact ⟨h0, hu0, by omega, by omega, by omega, p, b, nn - 1, kk, n, K + 1, by omega, a3, by omega, by omega, by rw [ec]; exact drun_ext h5 (dstep_n (by omega)), by omega, by omega, by omega⟩
    · omega
    · rw [eg] at a1
      exact ⟨h0, hu0, by omega, by omega, by omega, p, b - 1, nn, kk, n - 1, K + 1, by omega, a3, by omega, by omega, by rw [ec]; exact drun_ext h5 (dstep_o a1 (by omega)), by omega, by omega, by omega⟩
theorem LI_top (h : LI w g code piled within units codes rb d q) : 1 ≤ (w (piled.toInt - 1).toNat).toInt ∧ (w (piled.toInt - 1).toNat).toInt ≤ 8 := by
  obtain ⟨h0, hu0, hw0, hq0, hq, p, b, nn, kk, n, K, h1, h2, h3, h4, h5, h6, h7', h8⟩ := h
  rw [show (piled.toInt - 1).toNat = p by omega]
  exact lw_top h2
/-- one of two sides waits -/
theorem LI_bin {what sig : Int32} (h : LI0 w g code piled within units codes rb) (ew : w' = upd w piled.toNatClampNeg what) (eg : g' = upd g piled.toNatClampNeg sig) (hk : what.toInt = 1 ∨ what.toInt = 2 ∨ what.toInt = 4 ∨ what.toInt = 5 ∨ what.toInt = 6) (hs : sig.toInt ≤ 62 ∨ sig.toInt = 124) (hp : piled'.toInt = piled.toInt + 1) : LI1 w' g' code piled' within units codes rb := by
  obtain ⟨h0, hu0, hw0, hq0, hq, p, b, nn, kk, n, K, h1, h2, h3, h4, h5, h6, h7', h8⟩ := h
  have ep : piled.toNatClampNeg = p + 1 := by
    have e : piled.toNatClampNeg = piled.toInt.toNat := rfl
    omega
  rw [ep] at ew eg
  have hf : lw w' g' p b nn kk := lw_far (fun j hj => by rw [ew]; exact upd_far (by omega)) (fun j hj => by rw [eg]; exact upd_far (by omega)) h2
  have ew1 : w' (p + 1) = what := by rw [ew]; exact upd_self
  have eg1 : g' (p + 1) = sig := by rw [eg]; exact upd_self
  exact ⟨h0, hu0, hw0, by omega, by omega, p + 1, b + 1, nn, kk, n, K, by omega, Or.inr (Or.inr ⟨by rw [ew1]; exact hk, by rw [eg1]; exact opq_of hs, by omega, hf⟩), h3, h4, h5, by omega, by omega, by omega⟩
/-- a bracket ends -/
theorem LI_end7 (h : LI0 w g code piled within units codes rb) (ht : (w (piled.toInt - 1).toNat).toInt = 7) (hp : piled'.toInt = piled.toInt - 1) (hw : within'.toInt = within.toInt - 1) : LI0 w g code piled' within' units codes rb := by
  obtain ⟨h0, hu0, hw0, hq0, hq, p, b, nn, kk, n, K, h1, h2, h3, h4, h5, h6, h7', h8⟩ := h
  rw [show (piled.toInt - 1).toNat = p by omega] at ht
  cases p with
  | zero => have := h2.1; omega
  | succ p =>
    rcases h2 with ⟨a, a1, a2, a3⟩ | ⟨a, a2, a3⟩ | ⟨a, a1, a2, a3⟩
    · omega
    · exact ⟨h0, hu0, by omega, by omega, by omega, p, b, nn, kk - 1, n, K, by omega, a3, by omega, h4, h5, by omega, by omega, by omega⟩
    · omega
/-- all ends -/
theorem LI_end8 (h : LI0 w g code piled within units codes rb) (ht : 7 < (w (piled.toInt - 1).toNat).toInt) : piled.toInt = 1 := by
  obtain ⟨h0, hu0, hw0, hq0, hq, p, b, nn, kk, n, K, h1, h2, h3, h4, h5, h6, h7', h8⟩ := h
  rw [show (piled.toInt - 1).toNat = p by omega] at ht
  cases p with
  | zero => omega
  | succ p =>
    rcases h2 with ⟨a, a1, a2, a3⟩ | ⟨a, a2, a3⟩ | ⟨a, a1, a2, a3⟩ <;> omega
end LIS
/-- code changes within one half alone -/
def zcx (c c' : Nat → Int32) (rb : Int32) : Prop := ∀ j : Nat, ((j : Int) < 490 * rb.toInt ∨ 490 * rb.toInt + 490 ≤ j) → c' j = c j
theorem zcx_rf (c : Nat → Int32) (rb : Int32) : zcx c c rb := fun _ _ => rfl
theorem zcx_tr {c c1 c2 : Nat → Int32} {rb : Int32} (h : zcx c c1 rb) (k : zcx c1 c2 rb) : zcx c c2 rb := fun j hj => (k j hj).trans (h j hj)
theorem zcx_up {c c1 : Nat → Int32} {rb codes ch : Int32} (e : c1 = upd c codes.toNatClampNeg ch) (h : 490 * rb.toInt ≤ codes.toInt ∧ codes.toInt < 490 * rb.toInt + 490) (h0 : 0 ≤ codes.toInt) : zcx c c1 rb := fun j hj => by
  rw [e]
  have e1 : codes.toNatClampNeg = codes.toInt.toNat := rfl
  exact upd_far (by omega)
/-- both halves of the code are good -/
def zF (isLaw code ruleTo : Nat → Int32) (bank rb codes : Int32) : Prop := zf isLaw code ruleTo bank ∧ zf isLaw code ruleTo rb ∧ ((isLaw rb.toNatClampNeg).toInt = 0 → codes.toInt = 490 * rb.toInt)
theorem zF_law {isLaw code ruleTo code' isLaw' ruleTo' : Nat → Int32} {bank rb codes codes' : Int32} (h : zF isLaw code ruleTo bank rb codes) (hb : 0 ≤ bank.toInt ∧ bank.toInt ≤ 1) (hr : rb.toInt = 1 - bank.toInt) (e1 : isLaw' = upd isLaw rb.toNatClampNeg 1) (e2 : ruleTo' = upd ruleTo rb.toNatClampNeg codes') (hx : zcx code code' rb) (hd : DR code' codes' rb) : zF isLaw' code' ruleTo' bank rb codes' := by
  have a1 : bank.toNatClampNeg = bank.toInt.toNat := rfl
  have a2 : rb.toNatClampNeg = rb.toInt.toNat := rfl
  have ne : bank.toNatClampNeg ≠ rb.toNatClampNeg := by omega
  refine ⟨?_, ?_, ?_⟩
  · intro hn
    rw [e1, upd_far ne] at hn
    obtain ⟨len, n, h1, h2, h3⟩ := h.1 hn
    refine ⟨len, n, ?_, h2, ?_⟩
    · rw [e2, upd_far ne]
      exact h1
    · rw [drun_upd (c := code) (fun j j1 j2 => hx j (by omega))]
      exact h3
  · intro _
    obtain ⟨n, K, h1, h2, h3⟩ := hd
    exact ⟨K, n, by rw [e2, upd_self]; exact h1, h2, h3⟩
  · intro z
    rw [e1, upd_self] at z
    exact absurd z (by decide)
def zmu (a b : Int32) (r : Int) : Nat := if a.toInt = 0 ∧ ¬ b.toInt = 0 then (3300 - r).toNat else 0
theorem zmu_lt {a b a' b' : Int32} {r r' : Int} {d : Nat} (hs : 1 ≤ a'.toInt ∨ b'.toInt = 0 ∨ r < r') (ha : a.toInt = 0) (hb : ¬ b.toInt = 0) (hr : r ≤ 3201) (mh : zmu a b r < d + 1) : zmu a' b' r' < d := by
  unfold zmu at mh ⊢
  rw [if_pos ⟨ha, hb⟩] at mh
  split <;> omega
theorem rho_b {e t : Int32} (h : e.toInt ≤ 1600) : rho e t ≤ 3201 := by
  have := rho_two e t
  omega
/-! birds that sit -/
def zc1 (f : Nat → Int32) (k : Nat) : Nat := if 0 ≤ (f k).toInt then 1 else 0
def zcnt (f : Nat → Int32) (k : Nat) : Nat := zc1 f k + zc1 f (k + 1) + zc1 f (k + 2) + zc1 f (k + 3) + zc1 f (k + 4)
theorem zc1_le (f : Nat → Int32) (k : Nat) : zc1 f k ≤ 1 := by unfold zc1; split <;> omega
theorem zc1_no {f : Nat → Int32} {k : Nat} (h : (f k).toInt < 0) : zc1 f k = 0 := if_neg (by omega)
theorem zc1_in {f : Nat → Int32} {k : Nat} {v : Int32} (h : 0 ≤ v.toInt) : zc1 (upd f k v) k = 1 := by
  unfold zc1
  rw [upd_self]
  exact if_pos h
theorem zc1_far {f : Nat → Int32} {k j : Nat} {v : Int32} (h : j ≠ k) : zc1 (upd f k v) j = zc1 f j := by
  unfold zc1
  rw [upd_far h]
theorem zcnt_in {f f' : Nat → Int32} {k i j : Nat} {v : Int32} (e : f' = upd f j v) (hj : j = k + i) (hi : i < 5) (h : (f j).toInt < 0) (hv : 0 ≤ v.toInt) : zcnt f' k = zcnt f k + 1 := by
  subst hj
  subst e
  have n := zc1_no h
  have p := zc1_in (f := f) (k := k + i) hv
  unfold zcnt
  rcases (show i = 0 ∨ i = 1 ∨ i = 2 ∨ i = 3 ∨ i = 4 by omega) with rfl | rfl | rfl | rfl | rfl
  · rw [Nat.add_zero] at *
    rw [zc1_far (j := k + 1) (by omega), zc1_far (j := k + 2) (by omega), zc1_far (j := k + 3) (by omega), zc1_far (j := k + 4) (by omega)]
    omega
  · rw [zc1_far (j := k) (by omega), zc1_far (j := k + 2) (by omega), zc1_far (j := k + 3) (by omega), zc1_far (j := k + 4) (by omega)]
    omega
  · rw [zc1_far (j := k) (by omega), zc1_far (j := k + 1) (by omega), zc1_far (j := k + 3) (by omega), zc1_far (j := k + 4) (by omega)]
    omega
  · rw [zc1_far (j := k) (by omega), zc1_far (j := k + 1) (by omega), zc1_far (j := k + 2) (by omega), zc1_far (j := k + 4) (by omega)]
    omega
  · rw [zc1_far (j := k) (by omega), zc1_far (j := k + 1) (by omega), zc1_far (j := k + 2) (by omega), zc1_far (j := k + 3) (by omega)]
    omega
theorem zcnt_le {f : Nat → Int32} {k i j : Nat} (hj : j = k + i) (hi : i < 5) (h : (f j).toInt < 0) : zcnt f k ≤ 4 := by
  subst hj
  have n := zc1_no h
  have a0 := zc1_le f k
  have a1 := zc1_le f (k + 1)
  have a2 := zc1_le f (k + 2)
  have a3 := zc1_le f (k + 3)
  have a4 := zc1_le f (k + 4)
  unfold zcnt
  rcases (show i = 0 ∨ i = 1 ∨ i = 2 ∨ i = 3 ∨ i = 4 by omega) with rfl | rfl | rfl | rfl | rfl
  · rw [Nat.add_zero] at n
    omega
  all_goals omega
