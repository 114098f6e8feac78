/-! many cells written into the list at once; and the cells that a call changed -/
theorem cup_same {l : List (Nat × va_E)} {g : Nat → va_E} (hl : ∀ q ∈ l, g q.1 = q.2) (j : Nat) : cup l g j = g j := by
  induction l with
  | nil => rfl
  | cons q r ih =>
    rw [cup_cons]
    by_cases e : j = q.1
    · rw [if_pos e, e]
      exact (hl q List.mem_cons_self).symm
    · rw [if_neg e]
      exact ih (fun x hx => hl x (List.mem_cons_of_mem _ hx))
theorem cO.notes {D : va_G} {cy : Nat → ClassId} {A : Nat → Prop} {H0 : Heap} {s : State} {N : Nat} {ad : Nat → Nat} {g : Nat → va_E} {H : Heap} {locs : List Loc} (h : cO D cy A H0 s N ad (cup [] g) H locs) (l : List (Nat × va_E)) (hl : ∀ q ∈ l, g q.1 = q.2) : cO D cy A H0 s N ad (cup l g) H locs :=
  h.congr (fun _ _ => rfl) (fun j _ => (cup_same hl j).symm)
def crep (lk lu : List (Nat × va_E)) : List (Nat × va_E) := lu.map (fun q => (q.1, cup lk (fun _ => q.2) q.1))
def ckin (lk lu : List (Nat × va_E)) : Bool := lk.all (fun q => lu.any (fun r => Nat.beq r.1 q.1))
theorem cmrg_cup (N k : Nat) (ps : List Nat) (l' lu : List (Nat × va_E)) (g : Nat → va_E) (j : Nat) : cup (cmrg N k ps l' lu) g j = cup (l'.map (fun q => (ckey N k ps q.1, q.2))) (cup lu g) j := by
  induction l' with
  | nil => rfl
  | cons q r ih =>
    rw [cmrg_cons, cup_ins, ih, List.map_cons, cup_cons]
theorem crep_cup {lk lu : List (Nat × va_E)} (h : ckin lk lu = true) (g : Nat → va_E) (j : Nat) : cup (crep lk lu) g j = cup lk (cup lu g) j := by
  have hk : ∀ q ∈ lk, ∃ r ∈ lu, r.1 = q.1 := by
    intro q hq
    simp only [ckin, List.all_eq_true, List.any_eq_true, nbeq, decide_eq_true_eq] at h
    exact h q hq
  have h1 : ∀ l : List (Nat × va_E), (∃ r ∈ l, r.1 = j) → cup (crep lk l) g j = cup lk (cup l g) j := by
    intro l
    induction l with
    | nil => rintro ⟨r, hr, -⟩; cases hr
    | cons q r ih =>
      intro hx
      show cup ((q.1, cup lk (fun _ => q.2) q.1) :: crep lk r) g j = _
      rw [cup_cons]
      by_cases e : j = q.1
      · rw [if_pos e]
        show cup lk (fun _ => q.2) q.1 = _
        rw [← e]
        exact cup_base (by rw [cup_cons, if_pos e])
      · rw [if_neg e]
        obtain ⟨x, hx1, hx2⟩ := hx
        rcases List.mem_cons.mp hx1 with z | z
        · exact absurd (by rw [← hx2, z]) e
        · rw [ih ⟨x, z, hx2⟩]
          exact cup_base (by rw [cup_cons, if_neg e])
  by_cases hj : ∃ r ∈ lu, r.1 = j
  · exact h1 lu hj
  · have n1 : ∀ q ∈ crep lk lu, q.1 ≠ j := by
      intro q hq e
      obtain ⟨r, hr, rfl⟩ := List.mem_map.mp hq
      exact hj ⟨r, hr, e⟩
    have n2 : ∀ q ∈ lk, q.1 ≠ j := by
      intro q hq e
      obtain ⟨r, hr, hr2⟩ := hk q hq
      exact hj ⟨r, hr, hr2.trans e⟩
    have n3 : ∀ q ∈ lu, q.1 ≠ j := fun q hq e => hj ⟨q, hq, e⟩
    rw [cup_out n1, cup_out n2, cup_out n3]
theorem cO.mrg {D : va_G} {cy : Nat → ClassId} {A : Nat → Prop} {H0 : Heap} {s : State} {N k : Nat} {ad : Nat → Nat} {ps : List Nat} {l' lk lu lm : List (Nat × va_E)} {g : Nat → va_E} {H : Heap} {locs : List Loc} (h : cO D cy A H0 s N ad (cup (cmrg N k ps l' lu) g) H locs) (h1 : l'.map (fun q => (ckey N k ps q.1, q.2)) = lk) (h2 : ckin lk lu = true) (h3 : crep lk lu = lm) : cO D cy A H0 s N ad (cup lm g) H locs := by
  subst h1
  subst h3
  exact h.congr (fun _ _ => rfl) (fun j _ => by rw [cmrg_cup, crep_cup h2])
/-! whole numbers in bounds -/
abbrev zi (a b : Int) (x : Int32) : Prop := a ≤ x.toInt ∧ x.toInt ≤ b
abbrev za (a b : Int) (f : Nat → Int32) : Prop := ∀ j, zi a b (f j)
theorem zi_bm {n : Int} (h1 : -2147483648 ≤ n) (h2 : n ≤ 2147483647) : n.bmod (2 ^ 32) = n := by
  rw [show (2 ^ 32 : Nat) = 4294967296 from rfl]
  exact Int.bmod_eq_of_le (by omega) (by omega)
theorem zi_all (x : Int32) : zi (-2147483648) 2147483647 x := ⟨x.le_toInt, Int.le_of_lt_add_one x.toInt_lt⟩
theorem zi_w {a b c d : Int} {x : Int32} (h : zi a b x) (hs : c ≤ a ∧ b ≤ d) : zi c d x := ⟨Int.le_trans hs.1 h.1, Int.le_trans h.2 hs.2⟩
theorem za_w {a b c d : Int} {f : Nat → Int32} (h : za a b f) (hs : c ≤ a ∧ b ≤ d) : za c d f := fun j => zi_w (h j) hs
theorem zi_0 : (0 : Int32).toInt = 0 := by decide
theorem zi_in {a b : Int} {n : Nat} {x : Int32} (h : zi a b x) (hs : 0 ≤ a ∧ b < (n : Int)) : vp_in x n := by
  unfold vp_in
  rintro (h1 | h1)
  · rw [Int32.lt_iff_toInt_lt, zi_0] at h1
    omega
  · have e : x.toNatClampNeg = x.toInt.toNat := rfl
    omega
theorem zi_add {a b c d e f : Int} {x y : Int32} (h : zi a b x) (k : zi c d y) (hs : e ≤ a + c ∧ b + d ≤ f ∧ -2147483648 ≤ e ∧ f ≤ 2147483647) : zi e f (x + y) ∧ (x + y).toInt = x.toInt + y.toInt := by
  have z : (x + y).toInt = x.toInt + y.toInt := by
    rw [Int32.toInt_add]
    exact zi_bm (by omega) (by omega)
  exact ⟨⟨by omega, by omega⟩, z⟩
theorem zi_sub {a b c d e f : Int} {x y : Int32} (h : zi a b x) (k : zi c d y) (hs : e ≤ a - d ∧ b - c ≤ f ∧ -2147483648 ≤ e ∧ f ≤ 2147483647) : zi e f (x - y) ∧ (x - y).toInt = x.toInt - y.toInt := by
  have z : (x - y).toInt = x.toInt - y.toInt := by
    rw [Int32.toInt_sub]
    exact zi_bm (by omega) (by omega)
  exact ⟨⟨by omega, by omega⟩, z⟩
theorem zi_mul {a b c d e f : Int} {x y : Int32} (h : zi a b x) (k : zi c d y) (hs : 0 ≤ a ∧ 0 ≤ c ∧ e ≤ a * c ∧ b * d ≤ f ∧ 0 ≤ e ∧ f ≤ 2147483647) : zi e f (x * y) ∧ (x * y).toInt = x.toInt * y.toInt := by
  have h1 : a * c ≤ x.toInt * y.toInt := Int.mul_le_mul h.1 k.1 hs.2.1 (Int.le_trans hs.1 h.1)
  have h2 : x.toInt * y.toInt ≤ b * d := Int.mul_le_mul h.2 k.2 (Int.le_trans hs.2.1 k.1) (Int.le_trans hs.1 (Int.le_trans h.1 h.2))
  have z : (x * y).toInt = x.toInt * y.toInt := by
    rw [Int32.toInt_mul]
    exact zi_bm (by omega) (by omega)
  exact ⟨⟨by omega, by omega⟩, z⟩
theorem zi_inc {a b e f : Int} {x : Int32} (n : Int) (h : zi a b x) (hs : e ≤ a + n ∧ b + n ≤ f ∧ -2147483648 ≤ e ∧ f ≤ 2147483647 ∧ (Int32.ofInt n).toInt = n) : ∃ v, x + Int32.ofInt n = v ∧ zi e f v ∧ v.toInt = x.toInt + n := by
  obtain ⟨z1, z2⟩ := zi_add (e := e) (f := f) h (y := Int32.ofInt n) (c := n) (d := n) ⟨by omega, by omega⟩ ⟨hs.1, hs.2.1, hs.2.2.1, hs.2.2.2.1⟩
  exact ⟨_, rfl, z1, by rw [z2, hs.2.2.2.2]⟩
theorem zi_toNat {x : Int32} (h : 0 ≤ x.toInt) : x.toBitVec.toNat < 2147483648 ∧ x.toInt = x.toBitVec.toNat := by
  have e : x.toInt = x.toBitVec.toInt := rfl
  have l := x.toBitVec.isLt
  rw [BitVec.toInt_eq_toNat_cond] at e
  split at e <;> omega
theorem zi_ofNat {x : Int32} {n : Nat} (h : x.toBitVec.toNat = n) (hn : n < 2147483648) : x.toInt = n := by
  have e : x.toInt = x.toBitVec.toInt := rfl
  rw [BitVec.toInt_eq_toNat_cond] at e
  split at e <;> omega
theorem zi_and {b : Int} {x y : Int32} (k : zi 0 b y) : zi 0 b (x &&& y) := by
  obtain ⟨h1, h2⟩ := zi_toNat k.1
  have e : (x &&& y).toBitVec.toNat = x.toBitVec.toNat &&& y.toBitVec.toNat := by rw [Int32.toBitVec_and, BitVec.toNat_and]
  have l : x.toBitVec.toNat &&& y.toBitVec.toNat ≤ y.toBitVec.toNat := Nat.and_le_right
  have z := zi_ofNat e (by omega)
  exact ⟨by omega, by omega⟩
theorem zi_and' {b : Int} {x y : Int32} (k : zi 0 b x) : zi 0 b (x &&& y) := by
  obtain ⟨h1, h2⟩ := zi_toNat k.1
  have e : (x &&& y).toBitVec.toNat = x.toBitVec.toNat &&& y.toBitVec.toNat := by rw [Int32.toBitVec_and, BitVec.toNat_and]
  have l : x.toBitVec.toNat &&& y.toBitVec.toNat ≤ x.toBitVec.toNat := Nat.and_le_left
  have z := zi_ofNat e (by omega)
  exact ⟨by omega, by omega⟩
theorem zi_or (n : Nat) {b : Int} {x y : Int32} (h : zi 0 b x) (k : zi 0 b y) (hs : b + 1 = ((2 ^ n : Nat) : Int) ∧ 2 ^ n ≤ 2147483648) : zi 0 b (x ||| y) := by
  obtain ⟨h1, h2⟩ := zi_toNat h.1
  obtain ⟨k1, k2⟩ := zi_toNat k.1
  have e : (x ||| y).toBitVec.toNat = x.toBitVec.toNat ||| y.toBitVec.toNat := by rw [Int32.toBitVec_or, BitVec.toNat_or]
  have l : x.toBitVec.toNat ||| y.toBitVec.toNat < 2 ^ n := Nat.or_lt_two_pow (by omega) (by omega)
  have z := zi_ofNat e (by omega)
  exact ⟨by omega, by omega⟩
/-! out of comparisons -/
theorem zr_lt {x y : Int32} (h : x < y) : x.toInt < y.toInt := Int32.lt_iff_toInt_lt.mp h
theorem zr_le {x y : Int32} (h : x ≤ y) : x.toInt ≤ y.toInt := Int32.le_iff_toInt_le.mp h
theorem zr_nlt {x y : Int32} (h : ¬ x < y) : y.toInt ≤ x.toInt := by rw [Int32.lt_iff_toInt_lt] at h; omega
theorem zr_nle {x y : Int32} (h : ¬ x ≤ y) : y.toInt < x.toInt := by rw [Int32.le_iff_toInt_le] at h; omega
theorem zr_eq {x y : Int32} (h : x = y) : x.toInt = y.toInt := by rw [h]
theorem zr_ne {x y : Int32} (h : ¬ x = y) : ¬ x.toInt = y.toInt := fun z => h (Int32.toInt_inj.mp z)
theorem zu_lt {a b c d f : Int} {x y : Int32} (h : x.toInt < y.toInt) (hx : zi a b x) (hy : zi c d y) (hs : d ≤ f + 1) : zi a f x := ⟨hx.1, by omega⟩
theorem zu_le {a b c d f : Int} {x y : Int32} (h : x.toInt ≤ y.toInt) (hx : zi a b x) (hy : zi c d y) (hs : d ≤ f) : zi a f x := ⟨hx.1, by omega⟩
theorem zd_lt {a b c d e : Int} {x y : Int32} (h : x.toInt < y.toInt) (hx : zi a b x) (hy : zi c d y) (hs : e ≤ a + 1) : zi e d y := ⟨by omega, hy.2⟩
theorem zd_le {a b c d e : Int} {x y : Int32} (h : x.toInt ≤ y.toInt) (hx : zi a b x) (hy : zi c d y) (hs : e ≤ a) : zi e d y := ⟨by omega, hy.2⟩
theorem ze_eq {a b c d : Int} {x y : Int32} (h : x.toInt = y.toInt) (hx : zi a b x) (hy : zi c d y) : zi c d x := ⟨by omega, by omega⟩
theorem zn_lo {a b e c : Int} {x y : Int32} (h : ¬ x.toInt = y.toInt) (hx : zi a b x) (hy : zi c c y) (hs : c = a ∧ e = a + 1) : zi e b x := ⟨by omega, hx.2⟩
theorem zn_hi {a b e c : Int} {x y : Int32} (h : ¬ x.toInt = y.toInt) (hx : zi a b x) (hy : zi c c y) (hs : c = b ∧ e + 1 = b) : zi a e x := ⟨hx.1, by omega⟩
/-- what can't be, by bounds -/
theorem zx_lt {a b c d : Int} {x y : Int32} (h : x.toInt < y.toInt) (hx : zi a b x) (hy : zi c d y) (hs : d ≤ a) : False := by omega
theorem zx_le {a b c d : Int} {x y : Int32} (h : x.toInt ≤ y.toInt) (hx : zi a b x) (hy : zi c d y) (hs : d < a) : False := by omega
theorem zx_eq {a b c d : Int} {x y : Int32} (h : x.toInt = y.toInt) (hx : zi a b x) (hy : zi c d y) (hs : d < a ∨ b < c) : False := by omega
theorem zx_ne {a c : Int} {x y : Int32} (h : ¬ x.toInt = y.toInt) (hx : zi a a x) (hy : zi c c y) (hs : a = c) : False := by omega
theorem zi_ne {a b : Int} {x : Int32} (h : zi a b x) (hs : 0 < a ∨ b < 0) : ¬ x = 0 := fun z => by
  have e := zi_0
  rw [z] at h
  obtain ⟨h1, h2⟩ := h
  omega
theorem zi_is {a : Int} {x y : Int32} (h : zi a a x) (hy : y.toInt = a) : x = y := Int32.toInt_inj.mp (by omega)
theorem zi_bit {x : Int32} (h : zi 0 1 x) : x = 0 ∨ x = 1 := by
  rcases (show x.toInt = 0 ∨ x.toInt = 1 by omega) with z | z
  · exact Or.inl (Int32.toInt_inj.mp (by rw [z, zi_0]))
  · exact Or.inr (Int32.toInt_inj.mp (by rw [z]; decide))
theorem zi_three {x : Int32} (h : zi 0 2 x) : x = 0 ∨ x = 1 ∨ x = 2 := by
  rcases (show x.toInt = 0 ∨ x.toInt = 1 ∨ x.toInt = 2 by omega) with z | z | z
  · exact Or.inl (Int32.toInt_inj.mp (by rw [z, zi_0]))
  · exact Or.inr (Or.inl (Int32.toInt_inj.mp (by rw [z]; decide)))
  · exact Or.inr (Or.inr (Int32.toInt_inj.mp (by rw [z]; decide)))
theorem zi_narZ {x : Int32} (h : zi 0 1 x) : narrow .boolean (.int x) = .int x := by rcases zi_bit h with rfl | rfl <;> rfl
theorem zi_fitZ {x : Int32} (h : zi 0 1 x) : fits .boolean (.int x) = true := by rcases zi_bit h with rfl | rfl <;> rfl
theorem za_upd {a b : Int} {f : Nat → Int32} {k : Nat} {v : Int32} (h : za a b f) (hv : zi a b v) : za a b (upd f k v) := by
  intro j
  unfold upd
  split <;> first | exact hv | exact h j
theorem za_cpy {a b : Int} {f f1 : Nat → Int32} {sp dp n : Nat} (h : za a b f) (h1 : za a b f1) : za a b (va_cpy f f1 sp dp n) := by
  intro j
  unfold va_cpy
  split <;> first | exact h _ | exact h1 _
theorem zi_k {a b : Int} {x : Int32} (h : decide (a ≤ x.toInt ∧ x.toInt ≤ b) = true) : zi a b x := of_decide_eq_true h
theorem za_all (f : Nat → Int32) : za (-2147483648) 2147483647 f := fun _ => zi_all _
theorem zi_addk {a b e f : Int} {x y : Int32} {n : Int} (h : zi a b x) (hy : y.toInt = n) (hs : e ≤ a + n ∧ b + n ≤ f ∧ -2147483648 ≤ e ∧ f ≤ 2147483647) : zi e f (x + y) ∧ (x + y).toInt = x.toInt + n := by
  obtain ⟨z1, z2⟩ := zi_add (e := e) (f := f) h (y := y) (c := n) (d := n) ⟨by omega, by omega⟩ hs
  exact ⟨z1, by rw [z2, hy]⟩
theorem zi_subk {a b e f : Int} {x y : Int32} {n : Int} (h : zi a b x) (hy : y.toInt = n) (hs : e ≤ a - n ∧ b - n ≤ f ∧ -2147483648 ≤ e ∧ f ≤ 2147483647) : zi e f (x - y) ∧ (x - y).toInt = x.toInt + -n := by
  obtain ⟨z1, z2⟩ := zi_sub (e := e) (f := f) h (y := y) (c := n) (d := n) ⟨by omega, by omega⟩ hs
  exact ⟨z1, by rw [z2, hy]; omega⟩
theorem zp_add {a b c d e f n : Int} {x v : Int32} (ev : v.toInt = x.toInt + n) (hv : zi a b v) (hx : zi c d x) (hs : (e ≤ c ∨ e ≤ a - n) ∧ (d ≤ f ∨ b - n ≤ f)) : zi e f x := ⟨by omega, by omega⟩
theorem zm_up {x v : Int32} {k hi : Int} {d : Nat} (ev : v.toInt = x.toInt + k) (hv : v.toInt ≤ hi) (hk : 0 < k) (mu : (hi + 1 - x.toInt).toNat < d + 1) : (hi + 1 - v.toInt).toNat < d := by omega
theorem zm_dn {x v : Int32} {k lo : Int} {d : Nat} (ev : v.toInt = x.toInt + k) (hv : lo ≤ v.toInt) (hk : k < 0) (mu : (x.toInt - lo + 1).toNat < d + 1) : (v.toInt - lo + 1).toNat < d := by omega
theorem zi_shl {y : Int32} (h : zi 0 5 y) : zi 1 32 ((1 : Int32) <<< (y &&& 31)) := by
  have e := h
  rcases (show y.toInt = (0 : Int32).toInt ∨ y.toInt = (1 : Int32).toInt ∨ y.toInt = (2 : Int32).toInt ∨ y.toInt = (3 : Int32).toInt ∨ y.toInt = (4 : Int32).toInt ∨ y.toInt = (5 : Int32).toInt by
    have : (0 : Int32).toInt = 0 ∧ (1 : Int32).toInt = 1 ∧ (2 : Int32).toInt = 2 ∧ (3 : Int32).toInt = 3 ∧ (4 : Int32).toInt = 4 ∧ (5 : Int32).toInt = 5 := by decide
    omega) with z | z | z | z | z | z <;> (rw [Int32.toInt_inj.mp z]; decide)
theorem zi_shl4 {y : Int32} (h : zi 0 4 y) : zi 1 16 ((1 : Int32) <<< (y &&& 31)) := by
  rcases (show y.toInt = (0 : Int32).toInt ∨ y.toInt = (1 : Int32).toInt ∨ y.toInt = (2 : Int32).toInt ∨ y.toInt = (3 : Int32).toInt ∨ y.toInt = (4 : Int32).toInt by
    have : (0 : Int32).toInt = 0 ∧ (1 : Int32).toInt = 1 ∧ (2 : Int32).toInt = 2 ∧ (3 : Int32).toInt = 3 ∧ (4 : Int32).toInt = 4 := by decide
    omega) with z | z | z | z | z <;> (rw [Int32.toInt_inj.mp z]; decide)
theorem zi_min {a b c d e f : Int} {x y : Int32} (h : zi a b x) (k : zi c d y) (hs : e ≤ a ∧ e ≤ c ∧ (b ≤ f ∨ d ≤ f)) : zi e f (if y < x then y else x) := by
  by_cases z : y < x
  · rw [if_pos z]; have := zr_lt z; exact ⟨by omega, by omega⟩
  · rw [if_neg z]; have := zr_nlt z; exact ⟨by omega, by omega⟩
theorem zi_max {a b c d e f : Int} {x y : Int32} (h : zi a b x) (k : zi c d y) (hs : b ≤ f ∧ d ≤ f ∧ (e ≤ a ∨ e ≤ c)) : zi e f (if x < y then y else x) := by
  by_cases z : x < y
  · rw [if_pos z]; have := zr_lt z; exact ⟨by omega, by omega⟩
  · rw [if_neg z]; have := zr_nlt z; exact ⟨by omega, by omega⟩
theorem upd_self {f : Nat → Int32} {k : Nat} {v : Int32} : upd f k v k = v := by simp [upd]
/-- a LEARN's first is a bird -/
abbrev zk (f h : Nat → Int32) : Prop := ∀ j, f j = 0 ∨ f j = 1 ∨ zi 0 4 (h j)
theorem zk_upd {f h : Nat → Int32} {k : Nat} {v w : Int32} (hk : zk f h) (hq : v = 0 ∨ v = 1 ∨ zi 0 4 w) : zk (upd f k v) (upd h k w) := by
  intro j
  unfold upd
  by_cases e : j = k
  · simp only [e]
    exact hq
  · simp only [if_neg e]
    exact hk j
theorem zk_cpy {f h : Nat → Int32} {a b n : Nat} (hk : zk f h) : zk (va_cpy f f a b n) (va_cpy h h a b n) := by
  intro j
  unfold va_cpy
  by_cases e : b ≤ j ∧ j < b + n
  · rw [if_pos e, if_pos e]
    exact hk _
  · rw [if_neg e, if_neg e]
    exact hk _
theorem zk_get {f h : Nat → Int32} {k : Nat} {v w : Int32} (hk : zk f h) (ev : f k = v) (ew : h k = w) (h0 : ¬ v = 0) (h1 : ¬ v = 1) : zi 0 4 w := by
  rcases hk k with z | z | z
  · exact absurd (ev.symm.trans z) h0
  · exact absurd (ev.symm.trans z) h1
  · rw [ew] at z
    exact z
section ZROWS
variable {p : Program} {l : Launch} {e : Env} {R : Room} {s : State} {m : MethodId} {args : Array Value} {below : List Frame} {meth : Method} {c : Code} {H : Heap} {locs : List Loc} {cells slots : Nat} {Q : State → Prop}
variable {cc : ByteArray} {pc nL : Nat} {ls : Array Slot} {rest : List Value} {D : va_G} {cy : Nat → ClassId} {A : Nat → Prop} {H0 : Heap} {N : Nat} {ad : Nat → Nat} {lu : List (Nat × va_E)} {g : Nat → va_E} {Ts : List Cond} {own : String} {a b : Int}
theorem zg_top {x : Int32} {P : Int32 → Prop} (h : P x) (kk : ∀ v, P v → W p l e R s m args below meth c H locs cells slots Q (F0 m pc ls (.int v :: rest))) : W p l e R s m args below meth c H locs cells slots Q (F0 m pc ls (.int x :: rest)) := kk x h
theorem zg_top2 {x : Int32} {P E : Int32 → Prop} (h : P x ∧ E x) (kk : ∀ v, P v → E v → W p l e R s m args below meth c H locs cells slots Q (F0 m pc ls (.int v :: rest))) : W p l e R s m args below meth c H locs cells slots Q (F0 m pc ls (.int x :: rest)) := kk x h.1 h.2
theorem zg_iald (hC : CallFix p m c cc nL s args Ts own) (hO : cO D cy A H0 s N ad g H locs) (i : Nat) (hi : i < N) {n : Nat} {f : Nat → Int32} (he : g i = .inl (cy 0, n, .inl f)) (hf : za a b f) {x : Int32} (hin : vp_in x n) (hdg : decode cc pc = .ok (.iaload, 1))
    (kk : ∀ v, zi a b v → W p l e R s m args below meth c H locs cells slots Q (F0 m (pc + 1) ls (.int v :: rest))) : W p l e R s m args below meth c H locs cells slots Q (F0 m pc ls (.int x :: .ref (ad i) :: rest)) :=
  cg_iald hC hO i hi he hin hdg (kk _ (hf _))
theorem zg_zald (hC : CallFix p m c cc nL s args Ts own) (hO : cO D cy A H0 s N ad g H locs) (i : Nat) (hi : i < N) {n : Nat} {f : Nat → Int32} (he : g i = .inl (cy 2, n, .inl f)) (hf : za a b f) {x : Int32} (hin : vp_in x n) (hdg : decode cc pc = .ok (.baload, 1))
    (kk : ∀ v, zi a b v → W p l e R s m args below meth c H locs cells slots Q (F0 m (pc + 1) ls (.int v :: rest))) : W p l e R s m args below meth c H locs cells slots Q (F0 m pc ls (.int x :: .ref (ad i) :: rest)) :=
  cg_zald hC hO i hi he hin hdg (kk _ (hf _))
theorem zg_iast (hC : CallFix p m c cc nL s args Ts own) (hO : cO D cy A H0 s N ad (cup lu g) H locs) (i : Nat) (hi : i < N) {n : Nat} {f : Nat → Int32} (he : cup lu g i = .inl (cy 0, n, .inl f)) (hf : za a b f) {x v : Int32} (hv : zi a b v) (hin : vp_in x n) (hdg : decode cc pc = .ok (.iastore, 1))
    (kk : ∀ (H1 : Heap) (locs1 : List Loc) (f' : Nat → Int32), za a b f' → cO D cy A H0 s N ad (cup (cins i (.inl (cy 0, n, .inl f')) lu) g) H1 locs1 → W p l e R s m args below meth c H1 locs1 cells slots Q (F0 m (pc + 1) ls rest)) : W p l e R s m args below meth c H locs cells slots Q (F0 m pc ls (.int v :: .int x :: .ref (ad i) :: rest)) :=
  cg_iast hC hO i hi he hin hdg (fun H1 l1 hO => kk H1 l1 _ (za_upd hf hv) hO)
theorem zg_last (hC : CallFix p m c cc nL s args Ts own) (hO : cO D cy A H0 s N ad (cup lu g) H locs) (i : Nat) (hi : i < N) {n : Nat} {f : Nat → Int64} (he : cup lu g i = .inl (cy 1, n, .inr (.inl f))) {x : Int32} {v : Int64} (hin : vp_in x n) (hdg : decode cc pc = .ok (.lastore, 1))
    (kk : ∀ (H1 : Heap) (locs1 : List Loc) (f' : Nat → Int64), cO D cy A H0 s N ad (cup (cins i (.inl (cy 1, n, .inr (.inl f'))) lu) g) H1 locs1 → W p l e R s m args below meth c H1 locs1 cells slots Q (F0 m (pc + 1) ls rest)) : W p l e R s m args below meth c H locs cells slots Q (F0 m pc ls (.long v :: .int x :: .ref (ad i) :: rest)) :=
  cg_last hC hO i hi he hin hdg (fun H1 l1 hO => kk H1 l1 _ hO)
theorem zg_copy (hC : CallFix p m c cc nL s args Ts own) (hls : ls.size = nL) (hO : cO D cy A H0 s N ad (cup lu g) H locs) {index : Nat} (hlink : Cond.methodLink own index arraycopyName ∈ Ts) (hnat : Cond.native arraycopyName ∈ Ts) (hstat : Cond.static arraycopyName ∈ Ts) (hini : Cond.initialized "java/lang/System" ∈ Ts) (i0 i1 : Nat) (hi0 : i0 < N) (hi1 : i1 < N) {n0 n1 : Nat} {f f1 : Nat → Int32} (he0 : cup lu g i0 = .inl (cy 0, n0, .inl f)) (he1 : cup lu g i1 = .inl (cy 0, n1, .inl f1)) (hf : za a b f) (hf1 : za a b f1)
    {sp dp n : Int32} {s0 s1 d0 d1 k0 k1 : Int} (h1 : zi s0 s1 sp) (h2 : zi d0 d1 dp) (h3 : zi k0 k1 n) (hs : 0 ≤ s0 ∧ 0 ≤ d0 ∧ 0 ≤ k0 ∧ s1 + k1 ≤ (n0 : Int) ∧ d1 + k1 ≤ (n1 : Int)) (hframes : 1 ≤ R.frames) (hlocals : (rest.map fun v => v.category).sum + (nativeFrameWords "java/lang/System" "arraycopy" 5 + 11) ≤ R.locals) (hdg : decode cc pc = .ok (.invokestatic index, 3))
    (kk : ∀ (H1 : Heap) (locs1 : List Loc) (f' : Nat → Int32), za a b f' → cO D cy A H0 s N ad (cup (cins i1 (.inl (cy 0, n1, .inl f')) lu) g) H1 locs1 → W p l e R s m args below meth c H1 locs1 cells slots Q (F0 m (pc + 3) ls rest)) : W p l e R s m args below meth c H locs cells slots Q (F0 m pc ls (.int n :: .int dp :: .ref (ad i1) :: .int sp :: .ref (ad i0) :: rest)) := by
  have e1 : sp.toNatClampNeg = sp.toInt.toNat := rfl
  have e2 : dp.toNatClampNeg = dp.toInt.toNat := rfl
  have e3 : n.toNatClampNeg = n.toInt.toNat := rfl
  exact cg_copy hC hls hO hlink hnat hstat hini i0 i1 hi0 hi1 he0 he1 (fun z => by have := zr_lt z; rw [zi_0] at this; omega) (fun z => by have := zr_lt z; rw [zi_0] at this; omega) (fun z => by have := zr_lt z; rw [zi_0] at this; omega) (by omega) (by omega) hframes hlocals hdg (fun H1 l1 hO => kk H1 l1 _ (za_cpy hf hf1) hO)
theorem zg_copyX (hC : CallFix p m c cc nL s args Ts own) (hls : ls.size = nL) (hO : cO D cy A H0 s N ad (cup lu g) H locs) {index : Nat} (hlink : Cond.methodLink own index arraycopyName ∈ Ts) (hnat : Cond.native arraycopyName ∈ Ts) (hstat : Cond.static arraycopyName ∈ Ts) (hini : Cond.initialized "java/lang/System" ∈ Ts) (i0 i1 : Nat) (hi0 : i0 < N) (hi1 : i1 < N) {n0 n1 : Nat} {f f1 : Nat → Int32} (he0 : cup lu g i0 = .inl (cy 0, n0, .inl f)) (he1 : cup lu g i1 = .inl (cy 0, n1, .inl f1)) (hf : za a b f) (hf1 : za a b f1)
    {sp dp n : Int32} {s0 s1 d0 d1 k0 k1 : Int} (h1 : zi s0 s1 sp) (h2 : zi d0 d1 dp) (h3 : zi k0 k1 n) (hs : 0 ≤ s0 ∧ 0 ≤ d0 ∧ 0 ≤ k0 ∧ s1 + k1 ≤ (n0 : Int) ∧ d1 + k1 ≤ (n1 : Int)) (hframes : 1 ≤ R.frames) (hlocals : (rest.map fun v => v.category).sum + (nativeFrameWords "java/lang/System" "arraycopy" 5 + 11) ≤ R.locals) (hdg : decode cc pc = .ok (.invokestatic index, 3))
    (kk : ∀ (H1 : Heap) (locs1 : List Loc) (f' : Nat → Int32), za a b f' → f' = va_cpy f f1 sp.toNatClampNeg dp.toNatClampNeg n.toNatClampNeg → cO D cy A H0 s N ad (cup (cins i1 (.inl (cy 0, n1, .inl f')) lu) g) H1 locs1 → W p l e R s m args below meth c H1 locs1 cells slots Q (F0 m (pc + 3) ls rest)) : W p l e R s m args below meth c H locs cells slots Q (F0 m pc ls (.int n :: .int dp :: .ref (ad i1) :: .int sp :: .ref (ad i0) :: rest)) := by
  have e1 : sp.toNatClampNeg = sp.toInt.toNat := rfl
  have e2 : dp.toNatClampNeg = dp.toInt.toNat := rfl
  have e3 : n.toNatClampNeg = n.toInt.toNat := rfl
  exact cg_copy hC hls hO hlink hnat hstat hini i0 i1 hi0 hi1 he0 he1 (fun z => by have := zr_lt z; rw [zi_0] at this; omega) (fun z => by have := zr_lt z; rw [zi_0] at this; omega) (fun z => by have := zr_lt z; rw [zi_0] at this; omega) (by omega) (by omega) hframes hlocals hdg (fun H1 l1 hO => kk H1 l1 _ (za_cpy hf hf1) rfl hO)
theorem zg_ialdE (hC : CallFix p m c cc nL s args Ts own) (hO : cO D cy A H0 s N ad g H locs) (i : Nat) (hi : i < N) {n : Nat} {f : Nat → Int32} (he : g i = .inl (cy 0, n, .inl f)) (hf : za a b f) {x : Int32} (hin : vp_in x n) (hdg : decode cc pc = .ok (.iaload, 1))
    (kk : ∀ v, zi a b v → f x.toNatClampNeg = v → W p l e R s m args below meth c H locs cells slots Q (F0 m (pc + 1) ls (.int v :: rest))) : W p l e R s m args below meth c H locs cells slots Q (F0 m pc ls (.int x :: .ref (ad i) :: rest)) :=
  cg_iald hC hO i hi he hin hdg (kk _ (hf _) rfl)
theorem zg_iastE (hC : CallFix p m c cc nL s args Ts own) (hO : cO D cy A H0 s N ad (cup lu g) H locs) (i : Nat) (hi : i < N) {n : Nat} {f : Nat → Int32} (he : cup lu g i = .inl (cy 0, n, .inl f)) (hf : za a b f) {x v : Int32} (hv : zi a b v) (hin : vp_in x n) (hdg : decode cc pc = .ok (.iastore, 1))
    (kk : ∀ (H1 : Heap) (locs1 : List Loc) (f' : Nat → Int32), za a b f' → f' x.toNatClampNeg = v → cO D cy A H0 s N ad (cup (cins i (.inl (cy 0, n, .inl f')) lu) g) H1 locs1 → W p l e R s m args below meth c H1 locs1 cells slots Q (F0 m (pc + 1) ls rest)) : W p l e R s m args below meth c H locs cells slots Q (F0 m pc ls (.int v :: .int x :: .ref (ad i) :: rest)) :=
  cg_iast hC hO i hi he hin hdg (fun H1 l1 hO => kk H1 l1 _ (za_upd hf hv) upd_self hO)
theorem zg_iastX (hC : CallFix p m c cc nL s args Ts own) (hO : cO D cy A H0 s N ad (cup lu g) H locs) (i : Nat) (hi : i < N) {n : Nat} {f : Nat → Int32} (he : cup lu g i = .inl (cy 0, n, .inl f)) (hf : za a b f) {x v : Int32} (hv : zi a b v) (hin : vp_in x n) (hdg : decode cc pc = .ok (.iastore, 1))
    (kk : ∀ (H1 : Heap) (locs1 : List Loc) (f' : Nat → Int32), za a b f' → f' = upd f x.toNatClampNeg v → cO D cy A H0 s N ad (cup (cins i (.inl (cy 0, n, .inl f')) lu) g) H1 locs1 → W p l e R s m args below meth c H1 locs1 cells slots Q (F0 m (pc + 1) ls rest)) : W p l e R s m args below meth c H locs cells slots Q (F0 m pc ls (.int v :: .int x :: .ref (ad i) :: rest)) :=
  cg_iast hC hO i hi he hin hdg (fun H1 l1 hO => kk H1 l1 _ (za_upd hf hv) rfl hO)
theorem zg_zast (hC : CallFix p m c cc nL s args Ts own) (hO : cO D cy A H0 s N ad (cup lu g) H locs) (i : Nat) (hi : i < N) {n : Nat} {f : Nat → Int32} (he : cup lu g i = .inl (cy 2, n, .inl f)) (hf : za 0 1 f) {x v : Int32} (hv : zi 0 1 v) (hin : vp_in x n) (hdg : decode cc pc = .ok (.bastore, 1))
    (kk : ∀ (H1 : Heap) (locs1 : List Loc) (f' : Nat → Int32), za 0 1 f' → cO D cy A H0 s N ad (cup (cins i (.inl (cy 2, n, .inl f')) lu) g) H1 locs1 → W p l e R s m args below meth c H1 locs1 cells slots Q (F0 m (pc + 1) ls rest)) : W p l e R s m args below meth c H locs cells slots Q (F0 m pc ls (.int v :: .int x :: .ref (ad i) :: rest)) :=
  cg_zast hC hO i hi he hin hdg (fun H1 l1 hO => kk H1 l1 _ (za_upd hf (by rcases zi_bit hv with rfl | rfl <;> exact zi_k rfl)) hO)
theorem cg_max (hC : CallFix p m c cc nL s args Ts own) (hls : ls.size = nL) {index : Nat} (hlink : Cond.methodLink own index Lib.Math.max.name ∈ Ts) (hstat : Cond.static Lib.Math.max.name ∈ Ts) (hini : Cond.initialized "java/lang/Math" ∈ Ts) (hcode : Cond.code Lib.Math.max.name Lib.Math.max.code 2 (some .int) ∈ Ts) (hframes : 1 ≤ R.frames) (hlocals : (rest.map fun v => v.category).sum + 13 ≤ R.locals) (hc : cells ≤ R.cells) (hs : slots ≤ R.slots) {x y : Int32} (hdg : decode cc pc = .ok (.invokestatic index, 3))
    (kk : W p l e R s m args below meth c H locs cells slots Q (F0 m (pc + 3) ls (.int (if x < y then y else x) :: rest))) : W p l e R s m args below meth c H locs cells slots Q (F0 m pc ls (.int y :: .int x :: rest)) :=
  va_mmax hC.1 hC.2.1 (hC.2.2.1.trans hls.symm) hC.2.2.2.1 (hC.2.2.2.2 _ hlink) (hC.2.2.2.2 _ hstat) (hC.2.2.2.2 _ hini) (hC.2.2.2.2 _ hcode) hframes hlocals hc hs hdg kk
theorem zg_lcmp (hexec : p.tables.exec = Jvm.exec) (hb : c.code = cc) {x y : Int64} (hdg : decode cc pc = .ok (.lcmp, 1))
    (kk : ∀ v : Int32, zi (-1) 1 v → W p l e R s m args below meth c H locs cells slots Q (F0 m (pc + 1) ls (.int v :: rest))) : W p l e R s m args below meth c H locs cells slots Q (F0 m pc ls (.long y :: .long x :: rest)) := by
  intro T hT X
  by_cases c1 : x > y
  · obtain ⟨t, a, b⟩ := kk 1 (zi_k rfl) T hT X
    refine ⟨t, ?_, b⟩
    jvm_step X.here [X.here.top, hexec, hb, hdg, c1]
    exact a
  · by_cases c2 : x = y
    · obtain ⟨t, a, b⟩ := kk 0 (zi_k rfl) T hT X
      refine ⟨t, ?_, b⟩
      jvm_step X.here [X.here.top, hexec, hb, hdg, c1, c2]
      exact a
    · obtain ⟨t, a, b⟩ := kk (-1) (zi_k rfl) T hT X
      refine ⟨t, ?_, b⟩
      jvm_step X.here [X.here.top, hexec, hb, hdg, c1, c2]
      exact a
end ZROWS
