/-! a call that gives a long -/
section COMBL
variable {p : Program} {l : Launch} {e : Env} {R : Room} {s : State} {m : MethodId} {args : Array Value} {below : List Frame} {meth : Method} {c : Code} {H : Heap} {locs : List Loc} {cells slots : Nat} {Q : State → Prop}
variable {cc : ByteArray} {pc nL : Nat} {ls : Array Slot} {D : va_G} {cy : Nat → ClassId} {A : Nat → Prop} {H0 : Heap} {N k n mc ms : Nat} {ad nw : Nat → Nat} {lu : List (Nat × va_E)} {g : Nat → va_E} {Ts : List Cond} {own : String}
variable {y : MethodName} {ws ws' : List Cond} {rm : Room} {maxL index na : Nat} {ret : Option FieldType} {bytes : ByteArray} {C host : String} {ci Nf : Nat} {T : u_T} {fs : List Value} {As rest st0 : List Value}
theorem cg_Vl {post : Int64 → (Nat → Nat) → List (Nat × va_E) → Prop} (hC : CallFix p m c cc nL s args Ts own) (hls : ls.size = nL) (hO : cO D cy A H0 s N ad (cup lu g) H locs) (ps : List Nat) (hps : cps N k ps = true) (hM : cMl l y ws rm k 0 mc ms D cy (fun i => ad (ps.getD i 0)) (fun i => cup lu g (ps.getD i 0)) (.ref (ad (ps.getD 0 0)) :: As) post) (hG : GoodIn Ts (wsV own index C y ws)) (hw : ws = Cond.code y bytes maxL ret :: ws') (hrc : rm.cells = mc) (hrs : rm.slots = ms) (na : Nat) (hd : y.cls = C ∧ y.cls ≠ "java/lang/invoke/MethodHandle" ∧ y.cls ≠ "java/lang/invoke/VarHandle" ∧ (parseMethodDescriptor y.desc).map (fun d => d.parameters.length) = some na) (hR : rm.frames + 1 ≤ R.frames ∧ 8 + (maxL + 11) + rm.locals ≤ R.locals) (hcl : vwCl[ci]? = some (C, T, Nf)) (h0 : ps.getD 0 0 < N) (he : cup lu g (ps.getD 0 0) = .inr (ci, fs)) (hna : As.length = na) (hst : st0 = As.reverse ++ .ref (ad (ps.getD 0 0)) :: rest) (hrest : (rest.map fun v => v.category).sum ≤ 8) (hdg : decode cc pc = .ok (.invokevirtual index, 3)) (hf : cells + mc ≤ R.cells ∧ slots + ms ≤ R.slots)
    (kk : ∀ (r : Int64) (nw : Nat → Nat) (l' : List (Nat × va_E)) (H1 : Heap) (locs1 : List Loc), post r nw l' → cO D cy A H0 s N ad (cup (cmrg N k ps l' lu) g) H1 locs1 → W p l e R s m args below meth c H1 locs1 (cells + mc) (slots + ms) Q (F0 m (pc + 3) ls (.long r :: rest))) : W p l e R s m args below meth c H locs cells slots Q (F0 m pc ls st0) :=
  cg_dol (n := 0) hO hps (va_runV (As := As) (rest := rest) hC (hM H.size) (cwV na hC.2.2.2.2 hG hw hrc hrs hd hR) ⟨cPre_blind, crecv hO h0 he hcl, hO.pre hps _⟩ rfl hna hls hst (lv_room hrest) hdg hf) (fun r nw l' H1 locs1 hw hO1 => kk r nw l' H1 locs1 hw (hO1 rfl).back)
end COMBL
section PROWS2
variable {p : Program} {l : Launch} {e : Env} {R : Room} {s : State} {m : MethodId} {args : Array Value} {below : List Frame} {meth : Method} {c : Code} {H : Heap} {locs : List Loc} {cells slots : Nat} {Q : State → Prop}
variable {cc : ByteArray} {pc nL : Nat} {ls : Array Slot} {rest : List Value} {D : va_G} {cy : Nat → ClassId} {A : Nat → Prop} {H0 : Heap} {N : Nat} {ad : Nat → Nat} {lu : List (Nat × va_E)} {g : Nat → va_E} {Ts : List Cond} {own : String} {a b : Int}
theorem zg_zastX (hC : CallFix p m c cc nL s args Ts own) (hO : cO D cy A H0 s N ad (cup lu g) H locs) (i : Nat) (hi : i < N) {n : Nat} {f : Nat → Int32} (he : cup lu g i = .inl (cy 2, n, .inl f)) (hf : za 0 1 f) {x v : Int32} (hv : zi 0 1 v) (hin : vp_in x n) (hdg : decode cc pc = .ok (.bastore, 1))
    (kk : ∀ (H1 : Heap) (locs1 : List Loc) (f' : Nat → Int32), za 0 1 f' → f' = upd f x.toNatClampNeg v → cO D cy A H0 s N ad (cup (cins i (.inl (cy 2, n, .inl f')) lu) g) H1 locs1 → W p l e R s m args below meth c H1 locs1 cells slots Q (F0 m (pc + 1) ls rest)) : W p l e R s m args below meth c H locs cells slots Q (F0 m pc ls (.int v :: .int x :: .ref (ad i) :: rest)) := by
  rcases zi_bit hv with rfl | rfl
  · exact cg_zast hC hO i hi he hin hdg (fun H1 l1 hO => kk H1 l1 _ (za_upd hf (zi_k rfl)) rfl hO)
  · exact cg_zast hC hO i hi he hin hdg (fun H1 l1 hO => kk H1 l1 _ (za_upd hf (zi_k rfl)) rfl hO)
end PROWS2
/-- from the pile's top downwards -/
def LK (w g : Nat → Int32) (k : Int32) : Prop := 0 ≤ k.toInt ∧ ∃ b n kk, lw w g k.toInt.toNat b n kk
theorem LK_of {w g code : Nat → Int32} {piled within units codes rb k : Int32} {d q : Int} (h : LI w g code piled within units codes rb d q) (hk : k.toInt = piled.toInt - 1) : LK w g k := by
  obtain ⟨h0, hu, hw, hq0, hq, p, b, nn, kk, n, K, h1, h2, -⟩ := h
  refine ⟨by omega, b, nn, kk, ?_⟩
  rw [show k.toInt.toNat = p by omega]
  exact h2
theorem LK_dn {w g : Nat → Int32} {k k' : Int32} (h : LK w g k) (ht : (w k.toNatClampNeg).toInt ≤ 6) (hk : k'.toInt = k.toInt - 1) : LK w g k' := by
  obtain ⟨h0, b, n, kk, h2⟩ := h
  have e : k.toNatClampNeg = k.toInt.toNat := rfl
  rw [e] at ht
  cases hp : k.toInt.toNat with
  | zero => rw [hp] at h2 ht; have := h2.1; omega
  | succ p =>
    rw [hp] at h2
    have e2 : k'.toInt.toNat = p := by omega
    refine ⟨by omega, ?_⟩
    rw [e2]
    rcases h2 with ⟨a, a1, a2, a3⟩ | ⟨a, a2, a3⟩ | ⟨a, a1, a2, a3⟩
    · exact ⟨_, _, _, a3⟩
    · exact ⟨_, _, _, a3⟩
    · exact ⟨_, _, _, a3⟩
theorem LI_w {w g code : Nat → Int32} {piled within units codes rb : Int32} {d q : Int} (h : LI w g code piled within units codes rb d q) (ht : (w (piled.toInt - 1).toNat).toInt = 3 ∨ (w (piled.toInt - 1).toNat).toInt = 7) : 1 ≤ within.toInt := by
  obtain ⟨h0, hu0, hw0, hq0, hq, p, b, nn, kk, n, K, h1, h2, h3, h4, h5, h6, h7', h8⟩ := h
  rw [show (piled.toInt - 1).toNat = p by omega] at ht
  cases p with
  | zero => have := h2.1; omega
  | succ p =>
    rcases h2 with ⟨a, a1, a2, a3⟩ | ⟨a, a2, a3⟩ | ⟨a, a1, a2, a3⟩ <;> omega
theorem top_of {w : Nat → Int32} {pl x v : Int32} (h : (w x.toNatClampNeg).toInt = v.toInt) (e : x.toInt = pl.toInt - 1) : (w (pl.toInt - 1).toNat).toInt = v.toInt := by
  have e1 : x.toNatClampNeg = x.toInt.toNat := rfl
  rw [← h, e1, e]
theorem top_eq {w : Nat → Int32} {pl x v : Int32} (h : w x.toNatClampNeg = v) (e : x.toInt = pl.toInt - 1) : w (pl.toInt - 1).toNat = v := by
  have e1 : x.toNatClampNeg = x.toInt.toNat := rfl
  rw [← h, e1, e]
theorem nq_two {a b d : Int64} (hn : ¬ b = d) : nq a b = 0 ∨ nq a d = 0 := by
  by_cases e : nq a b = 1
  · exact Or.inr (nq_ne e hn)
  · left
    unfold nq at e ⊢
    by_cases z : a = b
    · rw [if_pos z] at e
      exact absurd rfl e
    · exact if_neg z
theorem zF_new {isLaw code ruleTo isLaw' : Nat → Int32} {bank rb codes : Int32} (h : zf isLaw code ruleTo bank) (hb : 0 ≤ bank.toInt ∧ bank.toInt ≤ 1) (hr : rb.toInt = 1 - bank.toInt) (e1 : isLaw' = upd isLaw rb.toNatClampNeg 0) (hc : codes.toInt = 490 * rb.toInt) : zF isLaw' code ruleTo bank rb codes := by
  have a1 : bank.toNatClampNeg = bank.toInt.toNat := rfl
  have a2 : rb.toNatClampNeg = rb.toInt.toNat := rfl
  have ne : bank.toNatClampNeg ≠ rb.toNatClampNeg := by omega
  refine ⟨?_, ?_, fun _ => hc⟩
  · intro hn
    rw [e1, upd_far ne] at hn
    exact h hn
  · intro hn
    rw [e1, upd_self] at hn
    exact absurd rfl hn
