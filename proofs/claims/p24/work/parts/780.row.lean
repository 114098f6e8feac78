/-! rows of seats: each below so much; so many sit at each post -/
theorem zi_remE {a b c d e f : Int} {x y : Int32} (h : zi a b x) (k : zi c d y) (hs : 0 ≤ a ∧ 1 ≤ c ∧ e ≤ 0 ∧ d - 1 ≤ f) : zi e f (x - x / y * y) ∧ (x - x / y * y).toInt < y.toInt := by
  obtain ⟨z, q0, q1, m0, m1, m2⟩ := zi_qr h k ⟨hs.1, hs.2.1⟩
  have hb := zi_all x
  have e1 : (x / y * y).toInt = y.toInt * (x.toInt / y.toInt) := by
    rw [Int32.toInt_mul, z, Int.mul_comm]
    exact zi_bm (by omega) (by omega)
  have e2 : (x - x / y * y).toInt = x.toInt - y.toInt * (x.toInt / y.toInt) := by
    rw [Int32.toInt_sub, e1]
    exact zi_bm (by omega) (by omega)
  exact ⟨⟨by omega, by omega⟩, by omega⟩
def zrow (f : Nat → Int32) (y : Int32) (lo hi : Int) : Prop := ∀ j : Nat, lo ≤ j → (j : Int) < hi → (f j).toInt < y.toInt
theorem zrow_0 {f : Nat → Int32} {y : Int32} {lo hi : Int} (h : hi ≤ lo) : zrow f y lo hi := fun j h1 h2 => by omega
theorem zrow_w {f : Nat → Int32} {y : Int32} {lo hi lo' : Int} (h : zrow f y lo hi) (hl : lo ≤ lo') : zrow f y lo' hi := fun j h1 h2 => h j (by omega) h2
theorem zrow_st {f f' : Nat → Int32} {y k v : Int32} {lo hi lo' : Int} (h : zrow f y lo hi) (e : f' = upd f k.toNatClampNeg v) (hv : v.toInt < y.toInt) (hk : 0 ≤ k.toInt) (hl : lo ≤ k.toInt + 1) (hl' : k.toInt ≤ lo') : zrow f' y lo' hi := by
  intro j h1 h2
  have e1 : k.toNatClampNeg = k.toInt.toNat := rfl
  subst e
  by_cases z : j = k.toNatClampNeg
  · rw [z, upd_self]
    exact hv
  · rw [upd_far z]
    exact h j (by omega) h2
def zsl (f : Nat → Int32) (hi k : Int) : Prop := ∀ j : Nat, (j : Int) < hi → (f j).toInt ≤ k
theorem zsl_n {f : Nat → Int32} {hi k : Int} (h : hi ≤ 0) : zsl f hi k := fun j h1 => by omega
theorem zsl_w {f : Nat → Int32} {hi k hi' k' : Int} (h : zsl f hi k) (h1 : hi' ≤ hi) (h2 : k ≤ k') : zsl f hi' k' := fun j hj => by have := h j (by omega); omega
theorem zsl_0 {f f' : Nat → Int32} {p v : Int32} {hi k hi' : Int} (h : zsl f hi k) (e : f' = upd f p.toNatClampNeg v) (hp : hi = p.toInt) (hh : hi' = p.toInt + 1) (hv : v.toInt ≤ k) : zsl f' hi' k := by
  intro j hj
  have e1 : p.toNatClampNeg = p.toInt.toNat := rfl
  subst e
  by_cases z : j = p.toNatClampNeg
  · rw [z, upd_self]
    exact hv
  · rw [upd_far z]
    exact h j (by omega)
theorem zsl_st {f f' : Nat → Int32} {x v : Int32} {hi k k' : Int} (h : zsl f hi k) (e : f' = upd f x.toNatClampNeg v) (hk : k ≤ k') (hv : v.toInt ≤ k') : zsl f' hi k' := by
  intro j hj
  subst e
  by_cases z : j = x.toNatClampNeg
  · rw [z, upd_self]
    exact hv
  · rw [upd_far z]
    have := h j hj
    omega
