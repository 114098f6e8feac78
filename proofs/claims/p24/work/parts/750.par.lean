/-! the reference's parser: how far it has come, what stands at a place, whether two names are one -/
def rho (e t : Int32) : Int := 2 * e.toInt + (if t.toInt = 0 then 1 else 0)
theorem rho_two (e t : Int32) : (t.toInt = 0 ∧ rho e t = 2 * e.toInt + 1) ∨ (¬ t.toInt = 0 ∧ rho e t = 2 * e.toInt) := by
  unfold rho
  by_cases z : t.toInt = 0
  · left
    exact ⟨z, by rw [if_pos z]⟩
  · right
    exact ⟨z, by rw [if_neg z]; omega⟩
theorem rho_go {e t e' t' : Int32} (h : e.toInt ≤ e'.toInt) (h2 : t'.toInt = 0 ∨ e.toInt + 1 ≤ e'.toInt) : rho e t ≤ rho e' t' ∧ (t.toInt = 0 ∨ rho e t < rho e' t') := by
  have a := rho_two e t
  have b := rho_two e' t'
  omega
def sgn (f : Nat → Int32) (n k : Int32) : Int32 := if k.toInt < n.toInt then f k.toNatClampNeg &&& 255 else 0
theorem sgn_lt {f : Nat → Int32} {n k : Int32} (h : k.toInt < n.toInt) : sgn f n k = f k.toNatClampNeg &&& 255 := if_pos h
theorem sgn_ge {f : Nat → Int32} {n k : Int32} (h : n.toInt ≤ k.toInt) : sgn f n k = 0 := if_neg (by omega)
theorem sgn_ne {f : Nat → Int32} {n a b c s : Int32} (hc : c = sgn f n a) (hs : s = sgn f n b) (h : 48 ≤ c.toInt ∧ c.toInt ≤ 57) (h' : ¬ (48 ≤ s.toInt ∧ s.toInt ≤ 57)) (hle : a.toInt ≤ b.toInt) : a.toInt + 1 ≤ b.toInt := by
  by_cases e : a.toInt = b.toInt
  · have e1 : a = b := Int32.toInt_inj.mp e
    rw [e1] at hc
    rw [hc, ← hs] at h
    exact absurd h h'
  · omega
def nq (a b : Int64) : Int := if a = b then 1 else 0
theorem nq_ne {a b d : Int64} (h : nq a b = 1) (hn : ¬ b = d) : nq a d = 0 := by
  unfold nq at h ⊢
  by_cases e : a = b
  · rw [if_neg (fun z => hn (e.symm.trans z))]
  · rw [if_neg e] at h
    omega
section PROWS
variable {p : Program} {l : Launch} {e : Env} {R : Room} {s : State} {m : MethodId} {args : Array Value} {below : List Frame} {meth : Method} {c : Code} {H : Heap} {locs : List Loc} {cells slots : Nat} {Q : State → Prop}
variable {cc : ByteArray} {pc nL : Nat} {ls : Array Slot} {rest : List Value}
theorem zg_lcmpN (hexec : p.tables.exec = Jvm.exec) (hb : c.code = cc) {x y : Int64} (hdg : decode cc pc = .ok (.lcmp, 1))
    (kk : ∀ v : Int32, zi (-1) 1 v → ((v.toInt = 0 ∧ nq x y = 1) ∨ (¬ v.toInt = 0 ∧ nq x y = 0)) → W p l e R s m args below meth c H locs cells slots Q (F0 m (pc + 1) ls (.int v :: rest))) : W p l e R s m args below meth c H locs cells slots Q (F0 m pc ls (.long y :: .long x :: rest)) := by
  intro T hT X
  by_cases c2 : x = y
  · obtain ⟨t, a, b⟩ := kk 0 (zi_k rfl) (Or.inl ⟨rfl, if_pos c2⟩) T hT X
    have c1 : ¬ x > y := by rw [c2]; exact Int64.lt_irrefl
    refine ⟨t, ?_, b⟩
    jvm_step X.here [X.here.top, hexec, hb, hdg, c1, c2]
    exact a
  · by_cases c1 : x > y
    · obtain ⟨t, a, b⟩ := kk 1 (zi_k rfl) (Or.inr ⟨by decide, if_neg c2⟩) T hT X
      refine ⟨t, ?_, b⟩
      jvm_step X.here [X.here.top, hexec, hb, hdg, c1]
      exact a
    · obtain ⟨t, a, b⟩ := kk (-1) (zi_k rfl) (Or.inr ⟨by decide, if_neg c2⟩) T hT X
      refine ⟨t, ?_, b⟩
      jvm_step X.here [X.here.top, hexec, hb, hdg, c1, c2]
      exact a
end PROWS
