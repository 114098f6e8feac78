theorem nI_sub1 {k : Nat} (h : 0 < k) : nI k - 1 = nI (k - 1) := by
  obtain ⟨j, rfl⟩ : ∃ j, k = j + 1 := ⟨k - 1, by omega⟩
  exact nI_pred j
theorem nI_dec1 {k : Nat} (h : 0 < k) : nI k + (-1) = nI (k - 1) := by
  obtain ⟨j, rfl⟩ : ∃ j, k = j + 1 := ⟨k - 1, by omega⟩
  exact pk_m1 j
theorem st_can (X : List Value) (a b c : Value) : ((X.set 56 a).set 57 b).set 56 c = (X.set 56 c).set 57 b := by
  rw [List.set_comm b c (by decide), List.set_set]
def tOk (t : Nat → Int32) (a : Nat) : Prop := ∀ j, j < a → ∃ q : Nat, q < 30 ∧ t j = nI q
def tHole (t : Nat → Int32) (a k : Nat) : Prop := ∀ j, j ≤ a → j ≠ k → ∃ q : Nat, q < 30 ∧ t j = nI q
theorem hole_of {t : Nat → Int32} {a : Nat} (h : tOk t a) : tHole t a a := fun j hj hne => h j (by omega)
theorem shift_ok {w ti : Nat → Int32} {a k q : Nat} (e : w = upd ti (nI k).toNatClampNeg (nI q)) (hq : q < 30) (h : tHole ti a k) (hk : 0 < k) (hk2 : k < 2 ^ 31) : tHole w a (k - 1) := by
  intro j hj hne
  rw [e, nI_clamp hk2]
  by_cases hjk : j = k
  · exact ⟨q, hq, by simp [upd, hjk]⟩
  · obtain ⟨p, hp, ep⟩ := h j hj hjk
    exact ⟨p, hp, by simp only [upd, if_neg hjk]; exact ep⟩
theorem ins_ok {w ti : Nat → Int32} {a k i : Nat} (e : w = upd ti (nI k).toNatClampNeg (nI i)) (h : tHole ti a k) (hk : k ≤ a) (hi : i < 30) (ha : a < 2 ^ 31) : tOk w (a + 1) := by
  intro j hj
  rw [e, nI_clamp (by omega)]
  by_cases hjk : j = k
  · exact ⟨i, hi, by simp [upd, hjk]⟩
  · obtain ⟨p, hp, ep⟩ := h j (by omega) hjk
    exact ⟨p, hp, by simp only [upd, if_neg hjk]; exact ep⟩
