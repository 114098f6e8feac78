set_option maxHeartbeats 8000000 in
theorem law_str {s : State} {b : Nat} {A : Nat → Prop} (hgv : (Jvm.Cond.and given_1 narrow_1).before #[Value.ref b] s = true) (hA : ∀ a : Nat, a < s.heap.size → ¬ A a) : ∃ adK adV : Nat → Nat, vk_S 16 lenS bytS adK adV A s s.heap ∧ ∀ i : Nat, i < 16 → (tmS i).eval #[Value.ref b] s none [] s = some (.ref (adK i)) := by
  have hs := flat_of_before _ hgv
  refine vk_Sof (tm := tmS) ?_ ?_ ?_ ?_ ?_ ?_ ?_ hA
  · decide
  · intro i hi
    match i, hi with
    | 0, _ => exact hs _ sx_0
    | 1, _ => exact hs _ sx_1
    | 2, _ => exact hs _ sx_2
    | 3, _ => exact hs _ sx_3
    | 4, _ => exact hs _ sx_4
    | 5, _ => exact hs _ sx_5
    | 6, _ => exact hs _ sx_6
    | 7, _ => exact hs _ sx_7
    | 8, _ => exact hs _ sx_8
    | 9, _ => exact hs _ sx_9
    | 10, _ => exact hs _ sx_10
    | 11, _ => exact hs _ sx_11
    | 12, _ => exact hs _ sx_12
    | 13, _ => exact hs _ sx_13
    | 14, _ => exact hs _ sx_14
    | 15, _ => exact hs _ sx_15
    | (n + 16), h => exact absurd h (by omega)
  · intro i hi
    match i, hi with
    | 0, _ => exact hs _ sk_0
    | 1, _ => exact hs _ sk_1
    | 2, _ => exact hs _ sk_2
    | 3, _ => exact hs _ sk_3
    | 4, _ => exact hs _ sk_4
    | 5, _ => exact hs _ sk_5
    | 6, _ => exact hs _ sk_6
    | 7, _ => exact hs _ sk_7
    | 8, _ => exact hs _ sk_8
    | 9, _ => exact hs _ sk_9
    | 10, _ => exact hs _ sk_10
    | 11, _ => exact hs _ sk_11
    | 12, _ => exact hs _ sk_12
    | 13, _ => exact hs _ sk_13
    | 14, _ => exact hs _ sk_14
    | 15, _ => exact hs _ sk_15
    | (n + 16), h => exact absurd h (by omega)
  · intro i hi
    match i, hi with
    | 0, _ => exact hs _ sa_0
    | 1, _ => exact hs _ sa_1
    | 2, _ => exact hs _ sa_2
    | 3, _ => exact hs _ sa_3
    | 4, _ => exact hs _ sa_4
    | 5, _ => exact hs _ sa_5
    | 6, _ => exact hs _ sa_6
    | 7, _ => exact hs _ sa_7
    | 8, _ => exact hs _ sa_8
    | 9, _ => exact hs _ sa_9
    | 10, _ => exact hs _ sa_10
    | 11, _ => exact hs _ sa_11
    | 12, _ => exact hs _ sa_12
    | 13, _ => exact hs _ sa_13
    | 14, _ => exact hs _ sa_14
    | 15, _ => exact hs _ sa_15
    | (n + 16), h => exact absurd h (by omega)
  · intro i hi
    match i, hi with
    | 0, _ => exact hs _ sl_0
    | 1, _ => exact hs _ sl_1
    | 2, _ => exact hs _ sl_2
    | 3, _ => exact hs _ sl_3
    | 4, _ => exact hs _ sl_4
    | 5, _ => exact hs _ sl_5
    | 6, _ => exact hs _ sl_6
    | 7, _ => exact hs _ sl_7
    | 8, _ => exact hs _ sl_8
    | 9, _ => exact hs _ sl_9
    | 10, _ => exact hs _ sl_10
    | 11, _ => exact hs _ sl_11
    | 12, _ => exact hs _ sl_12
    | 13, _ => exact hs _ sl_13
    | 14, _ => exact hs _ sl_14
    | 15, _ => exact hs _ sl_15
    | (n + 16), h => exact absurd h (by omega)
  · intro i hi
    match i, hi with
    | 0, _ =>
      intro j hj
      match j, (show j < 4 from hj) with
      | 0, _ => exact hs _ se_0_0
      | 1, _ => exact hs _ se_0_1
      | 2, _ => exact hs _ se_0_2
      | 3, _ => exact hs _ se_0_3
      | (n + 4), h => exact absurd h (by omega)
    | 1, _ =>
      intro j hj
      match j, (show j < 4 from hj) with
      | 0, _ => exact hs _ se_1_0
      | 1, _ => exact hs _ se_1_1
      | 2, _ => exact hs _ se_1_2
      | 3, _ => exact hs _ se_1_3
      | (n + 4), h => exact absurd h (by omega)
    | 2, _ =>
      intro j hj
      match j, (show j < 4 from hj) with
      | 0, _ => exact hs _ se_2_0
      | 1, _ => exact hs _ se_2_1
      | 2, _ => exact hs _ se_2_2
      | 3, _ => exact hs _ se_2_3
      | (n + 4), h => exact absurd h (by omega)
    | 3, _ =>
      intro j hj
      match j, (show j < 3 from hj) with
      | 0, _ => exact hs _ se_3_0
      | 1, _ => exact hs _ se_3_1
      | 2, _ => exact hs _ se_3_2
      | (n + 3), h => exact absurd h (by omega)
    | 4, _ =>
      intro j hj
      match j, (show j < 6 from hj) with
      | 0, _ => exact hs _ se_4_0
      | 1, _ => exact hs _ se_4_1
      | 2, _ => exact hs _ se_4_2
      | 3, _ => exact hs _ se_4_3
      | 4, _ => exact hs _ se_4_4
      | 5, _ => exact hs _ se_4_5
      | (n + 6), h => exact absurd h (by omega)
    | 5, _ =>
      intro j hj
      match j, (show j < 3 from hj) with
      | 0, _ => exact hs _ se_5_0
      | 1, _ => exact hs _ se_5_1
      | 2, _ => exact hs _ se_5_2
      | (n + 3), h => exact absurd h (by omega)
    | 6, _ =>
      intro j hj
      match j, (show j < 5 from hj) with
      | 0, _ => exact hs _ se_6_0
      | 1, _ => exact hs _ se_6_1
      | 2, _ => exact hs _ se_6_2
      | 3, _ => exact hs _ se_6_3
      | 4, _ => exact hs _ se_6_4
      | (n + 5), h => exact absurd h (by omega)
    | 7, _ =>
      intro j hj
      match j, (show j < 2 from hj) with
      | 0, _ => exact hs _ se_7_0
      | 1, _ => exact hs _ se_7_1
      | (n + 2), h => exact absurd h (by omega)
    | 8, _ =>
      intro j hj
      match j, (show j < 4 from hj) with
      | 0, _ => exact hs _ se_8_0
      | 1, _ => exact hs _ se_8_1
      | 2, _ => exact hs _ se_8_2
      | 3, _ => exact hs _ se_8_3
      | (n + 4), h => exact absurd h (by omega)
    | 9, _ =>
      intro j hj
      match j, (show j < 5 from hj) with
      | 0, _ => exact hs _ se_9_0
      | 1, _ => exact hs _ se_9_1
      | 2, _ => exact hs _ se_9_2
      | 3, _ => exact hs _ se_9_3
      | 4, _ => exact hs _ se_9_4
      | (n + 5), h => exact absurd h (by omega)
    | 10, _ =>
      intro j hj
      match j, (show j < 5 from hj) with
      | 0, _ => exact hs _ se_10_0
      | 1, _ => exact hs _ se_10_1
      | 2, _ => exact hs _ se_10_2
      | 3, _ => exact hs _ se_10_3
      | 4, _ => exact hs _ se_10_4
      | (n + 5), h => exact absurd h (by omega)
    | 11, _ =>
      intro j hj
      match j, (show j < 3 from hj) with
      | 0, _ => exact hs _ se_11_0
      | 1, _ => exact hs _ se_11_1
      | 2, _ => exact hs _ se_11_2
      | (n + 3), h => exact absurd h (by omega)
    | 12, _ =>
      intro j hj
      match j, (show j < 3 from hj) with
      | 0, _ => exact hs _ se_12_0
      | 1, _ => exact hs _ se_12_1
      | 2, _ => exact hs _ se_12_2
      | (n + 3), h => exact absurd h (by omega)
    | 13, _ =>
      intro j hj
      match j, (show j < 2 from hj) with
      | 0, _ => exact hs _ se_13_0
      | 1, _ => exact hs _ se_13_1
      | (n + 2), h => exact absurd h (by omega)
    | 14, _ =>
      intro j hj
      match j, (show j < 3 from hj) with
      | 0, _ => exact hs _ se_14_0
      | 1, _ => exact hs _ se_14_1
      | 2, _ => exact hs _ se_14_2
      | (n + 3), h => exact absurd h (by omega)
    | 15, _ =>
      intro j hj
      match j, (show j < 11 from hj) with
      | 0, _ => exact hs _ se_15_0
      | 1, _ => exact hs _ se_15_1
      | 2, _ => exact hs _ se_15_2
      | 3, _ => exact hs _ se_15_3
      | 4, _ => exact hs _ se_15_4
      | 5, _ => exact hs _ se_15_5
      | 6, _ => exact hs _ se_15_6
      | 7, _ => exact hs _ se_15_7
      | 8, _ => exact hs _ se_15_8
      | 9, _ => exact hs _ se_15_9
      | 10, _ => exact hs _ se_15_10
      | (n + 11), h => exact absurd h (by omega)
    | (n + 16), h => exact absurd h (by omega)
  · intro i j hi hj
    match i, hi with
    | 0, _ =>
      match j, hj with
      | 0, _ => exact fun h => absurd rfl h
      | 1, _ => exact fun _ => Or.inl (hs _ sn_0_1)
      | 2, _ => exact fun _ => Or.inl (hs _ sn_0_2)
      | 3, _ => exact fun _ => Or.inl (hs _ sn_0_3)
      | 4, _ => exact fun _ => Or.inl (hs _ sn_0_4)
      | 5, _ => exact fun _ => Or.inl (hs _ sn_0_5)
      | 6, _ => exact fun _ => Or.inl (hs _ sn_0_6)
      | 7, _ => exact fun _ => Or.inl (hs _ sn_0_7)
      | 8, _ => exact fun _ => Or.inl (hs _ sn_0_8)
      | 9, _ => exact fun _ => Or.inl (hs _ sn_0_9)
      | 10, _ => exact fun _ => Or.inl (hs _ sn_0_10)
      | 11, _ => exact fun _ => Or.inl (hs _ sn_0_11)
      | 12, _ => exact fun _ => Or.inl (hs _ sn_0_12)
      | 13, _ => exact fun _ => Or.inl (hs _ sn_0_13)
      | 14, _ => exact fun _ => Or.inl (hs _ sn_0_14)
      | 15, _ => exact fun _ => Or.inr (hs _ sn_15_0)
      | (n + 16), h => exact absurd h (by omega)
    | 1, _ =>
      match j, hj with
      | 0, _ => exact fun _ => Or.inr (hs _ sn_0_1)
      | 1, _ => exact fun h => absurd rfl h
      | 2, _ => exact fun _ => Or.inl (hs _ sn_1_2)
      | 3, _ => exact fun _ => Or.inl (hs _ sn_1_3)
      | 4, _ => exact fun _ => Or.inr (hs _ sn_4_1)
      | 5, _ => exact fun _ => Or.inr (hs _ sn_5_1)
      | 6, _ => exact fun _ => Or.inr (hs _ sn_6_1)
      | 7, _ => exact fun _ => Or.inl (hs _ sn_1_7)
      | 8, _ => exact fun _ => Or.inl (hs _ sn_1_8)
      | 9, _ => exact fun _ => Or.inl (hs _ sn_1_9)
      | 10, _ => exact fun _ => Or.inl (hs _ sn_1_10)
      | 11, _ => exact fun _ => Or.inl (hs _ sn_1_11)
      | 12, _ => exact fun _ => Or.inl (hs _ sn_1_12)
      | 13, _ => exact fun _ => Or.inl (hs _ sn_1_13)
      | 14, _ => exact fun _ => Or.inl (hs _ sn_1_14)
      | 15, _ => exact fun _ => Or.inr (hs _ sn_15_1)
      | (n + 16), h => exact absurd h (by omega)
    | 2, _ =>
      match j, hj with
      | 0, _ => exact fun _ => Or.inr (hs _ sn_0_2)
      | 1, _ => exact fun _ => Or.inr (hs _ sn_1_2)
      | 2, _ => exact fun h => absurd rfl h
      | 3, _ => exact fun _ => Or.inl (hs _ sn_2_3)
      | 4, _ => exact fun _ => Or.inr (hs _ sn_4_2)
      | 5, _ => exact fun _ => Or.inr (hs _ sn_5_2)
      | 6, _ => exact fun _ => Or.inr (hs _ sn_6_2)
      | 7, _ => exact fun _ => Or.inr (hs _ sn_7_2)
      | 8, _ => exact fun _ => Or.inr (hs _ sn_8_2)
      | 9, _ => exact fun _ => Or.inl (hs _ sn_2_9)
      | 10, _ => exact fun _ => Or.inl (hs _ sn_2_10)
      | 11, _ => exact fun _ => Or.inl (hs _ sn_2_11)
      | 12, _ => exact fun _ => Or.inl (hs _ sn_2_12)
      | 13, _ => exact fun _ => Or.inl (hs _ sn_2_13)
      | 14, _ => exact fun _ => Or.inl (hs _ sn_2_14)
      | 15, _ => exact fun _ => Or.inr (hs _ sn_15_2)
      | (n + 16), h => exact absurd h (by omega)
    | 3, _ =>
      match j, hj with
      | 0, _ => exact fun _ => Or.inr (hs _ sn_0_3)
      | 1, _ => exact fun _ => Or.inr (hs _ sn_1_3)
      | 2, _ => exact fun _ => Or.inr (hs _ sn_2_3)
      | 3, _ => exact fun h => absurd rfl h
      | 4, _ => exact fun _ => Or.inr (hs _ sn_4_3)
      | 5, _ => exact fun _ => Or.inr (hs _ sn_5_3)
      | 6, _ => exact fun _ => Or.inr (hs _ sn_6_3)
      | 7, _ => exact fun _ => Or.inr (hs _ sn_7_3)
      | 8, _ => exact fun _ => Or.inr (hs _ sn_8_3)
      | 9, _ => exact fun _ => Or.inr (hs _ sn_9_3)
      | 10, _ => exact fun _ => Or.inr (hs _ sn_10_3)
      | 11, _ => exact fun _ => Or.inl (hs _ sn_3_11)
      | 12, _ => exact fun _ => Or.inl (hs _ sn_3_12)
      | 13, _ => exact fun _ => Or.inl (hs _ sn_3_13)
      | 14, _ => exact fun _ => Or.inl (hs _ sn_3_14)
      | 15, _ => exact fun _ => Or.inr (hs _ sn_15_3)
      | (n + 16), h => exact absurd h (by omega)
    | 4, _ =>
      match j, hj with
      | 0, _ => exact fun _ => Or.inr (hs _ sn_0_4)
      | 1, _ => exact fun _ => Or.inl (hs _ sn_4_1)
      | 2, _ => exact fun _ => Or.inl (hs _ sn_4_2)
      | 3, _ => exact fun _ => Or.inl (hs _ sn_4_3)
      | 4, _ => exact fun h => absurd rfl h
      | 5, _ => exact fun _ => Or.inl (hs _ sn_4_5)
      | 6, _ => exact fun _ => Or.inl (hs _ sn_4_6)
      | 7, _ => exact fun _ => Or.inl (hs _ sn_4_7)
      | 8, _ => exact fun _ => Or.inl (hs _ sn_4_8)
      | 9, _ => exact fun _ => Or.inl (hs _ sn_4_9)
      | 10, _ => exact fun _ => Or.inl (hs _ sn_4_10)
      | 11, _ => exact fun _ => Or.inl (hs _ sn_4_11)
      | 12, _ => exact fun _ => Or.inl (hs _ sn_4_12)
      | 13, _ => exact fun _ => Or.inl (hs _ sn_4_13)
      | 14, _ => exact fun _ => Or.inl (hs _ sn_4_14)
      | 15, _ => exact fun _ => Or.inr (hs _ sn_15_4)
      | (n + 16), h => exact absurd h (by omega)
    | 5, _ =>
      match j, hj with
      | 0, _ => exact fun _ => Or.inr (hs _ sn_0_5)
      | 1, _ => exact fun _ => Or.inl (hs _ sn_5_1)
      | 2, _ => exact fun _ => Or.inl (hs _ sn_5_2)
      | 3, _ => exact fun _ => Or.inl (hs _ sn_5_3)
      | 4, _ => exact fun _ => Or.inr (hs _ sn_4_5)
      | 5, _ => exact fun h => absurd rfl h
      | 6, _ => exact fun _ => Or.inl (hs _ sn_5_6)
      | 7, _ => exact fun _ => Or.inl (hs _ sn_5_7)
      | 8, _ => exact fun _ => Or.inl (hs _ sn_5_8)
      | 9, _ => exact fun _ => Or.inl (hs _ sn_5_9)
      | 10, _ => exact fun _ => Or.inl (hs _ sn_5_10)
      | 11, _ => exact fun _ => Or.inl (hs _ sn_5_11)
      | 12, _ => exact fun _ => Or.inl (hs _ sn_5_12)
      | 13, _ => exact fun _ => Or.inl (hs _ sn_5_13)
      | 14, _ => exact fun _ => Or.inl (hs _ sn_5_14)
      | 15, _ => exact fun _ => Or.inr (hs _ sn_15_5)
      | (n + 16), h => exact absurd h (by omega)
    | 6, _ =>
      match j, hj with
      | 0, _ => exact fun _ => Or.inr (hs _ sn_0_6)
      | 1, _ => exact fun _ => Or.inl (hs _ sn_6_1)
      | 2, _ => exact fun _ => Or.inl (hs _ sn_6_2)
      | 3, _ => exact fun _ => Or.inl (hs _ sn_6_3)
      | 4, _ => exact fun _ => Or.inr (hs _ sn_4_6)
      | 5, _ => exact fun _ => Or.inr (hs _ sn_5_6)
      | 6, _ => exact fun h => absurd rfl h
      | 7, _ => exact fun _ => Or.inl (hs _ sn_6_7)
      | 8, _ => exact fun _ => Or.inl (hs _ sn_6_8)
      | 9, _ => exact fun _ => Or.inl (hs _ sn_6_9)
      | 10, _ => exact fun _ => Or.inl (hs _ sn_6_10)
      | 11, _ => exact fun _ => Or.inl (hs _ sn_6_11)
      | 12, _ => exact fun _ => Or.inl (hs _ sn_6_12)
      | 13, _ => exact fun _ => Or.inl (hs _ sn_6_13)
      | 14, _ => exact fun _ => Or.inl (hs _ sn_6_14)
      | 15, _ => exact fun _ => Or.inr (hs _ sn_15_6)
      | (n + 16), h => exact absurd h (by omega)
    | 7, _ =>
      match j, hj with
      | 0, _ => exact fun _ => Or.inr (hs _ sn_0_7)
      | 1, _ => exact fun _ => Or.inr (hs _ sn_1_7)
      | 2, _ => exact fun _ => Or.inl (hs _ sn_7_2)
      | 3, _ => exact fun _ => Or.inl (hs _ sn_7_3)
      | 4, _ => exact fun _ => Or.inr (hs _ sn_4_7)
      | 5, _ => exact fun _ => Or.inr (hs _ sn_5_7)
      | 6, _ => exact fun _ => Or.inr (hs _ sn_6_7)
      | 7, _ => exact fun h => absurd rfl h
      | 8, _ => exact fun _ => Or.inl (hs _ sn_7_8)
      | 9, _ => exact fun _ => Or.inl (hs _ sn_7_9)
      | 10, _ => exact fun _ => Or.inl (hs _ sn_7_10)
      | 11, _ => exact fun _ => Or.inl (hs _ sn_7_11)
      | 12, _ => exact fun _ => Or.inl (hs _ sn_7_12)
      | 13, _ => exact fun _ => Or.inl (hs _ sn_7_13)
      | 14, _ => exact fun _ => Or.inl (hs _ sn_7_14)
      | 15, _ => exact fun _ => Or.inr (hs _ sn_15_7)
      | (n + 16), h => exact absurd h (by omega)
    | 8, _ =>
      match j, hj with
      | 0, _ => exact fun _ => Or.inr (hs _ sn_0_8)
      | 1, _ => exact fun _ => Or.inr (hs _ sn_1_8)
      | 2, _ => exact fun _ => Or.inl (hs _ sn_8_2)
      | 3, _ => exact fun _ => Or.inl (hs _ sn_8_3)
      | 4, _ => exact fun _ => Or.inr (hs _ sn_4_8)
      | 5, _ => exact fun _ => Or.inr (hs _ sn_5_8)
      | 6, _ => exact fun _ => Or.inr (hs _ sn_6_8)
      | 7, _ => exact fun _ => Or.inr (hs _ sn_7_8)
      | 8, _ => exact fun h => absurd rfl h
      | 9, _ => exact fun _ => Or.inl (hs _ sn_8_9)
      | 10, _ => exact fun _ => Or.inl (hs _ sn_8_10)
      | 11, _ => exact fun _ => Or.inl (hs _ sn_8_11)
      | 12, _ => exact fun _ => Or.inl (hs _ sn_8_12)
      | 13, _ => exact fun _ => Or.inl (hs _ sn_8_13)
      | 14, _ => exact fun _ => Or.inl (hs _ sn_8_14)
      | 15, _ => exact fun _ => Or.inr (hs _ sn_15_8)
      | (n + 16), h => exact absurd h (by omega)
    | 9, _ =>
      match j, hj with
      | 0, _ => exact fun _ => Or.inr (hs _ sn_0_9)
      | 1, _ => exact fun _ => Or.inr (hs _ sn_1_9)
      | 2, _ => exact fun _ => Or.inr (hs _ sn_2_9)
      | 3, _ => exact fun _ => Or.inl (hs _ sn_9_3)
      | 4, _ => exact fun _ => Or.inr (hs _ sn_4_9)
      | 5, _ => exact fun _ => Or.inr (hs _ sn_5_9)
      | 6, _ => exact fun _ => Or.inr (hs _ sn_6_9)
      | 7, _ => exact fun _ => Or.inr (hs _ sn_7_9)
      | 8, _ => exact fun _ => Or.inr (hs _ sn_8_9)
      | 9, _ => exact fun h => absurd rfl h
      | 10, _ => exact fun _ => Or.inl (hs _ sn_9_10)
      | 11, _ => exact fun _ => Or.inl (hs _ sn_9_11)
      | 12, _ => exact fun _ => Or.inl (hs _ sn_9_12)
      | 13, _ => exact fun _ => Or.inl (hs _ sn_9_13)
      | 14, _ => exact fun _ => Or.inl (hs _ sn_9_14)
      | 15, _ => exact fun _ => Or.inr (hs _ sn_15_9)
      | (n + 16), h => exact absurd h (by omega)
    | 10, _ =>
      match j, hj with
      | 0, _ => exact fun _ => Or.inr (hs _ sn_0_10)
      | 1, _ => exact fun _ => Or.inr (hs _ sn_1_10)
      | 2, _ => exact fun _ => Or.inr (hs _ sn_2_10)
      | 3, _ => exact fun _ => Or.inl (hs _ sn_10_3)
      | 4, _ => exact fun _ => Or.inr (hs _ sn_4_10)
      | 5, _ => exact fun _ => Or.inr (hs _ sn_5_10)
      | 6, _ => exact fun _ => Or.inr (hs _ sn_6_10)
      | 7, _ => exact fun _ => Or.inr (hs _ sn_7_10)
      | 8, _ => exact fun _ => Or.inr (hs _ sn_8_10)
      | 9, _ => exact fun _ => Or.inr (hs _ sn_9_10)
      | 10, _ => exact fun h => absurd rfl h
      | 11, _ => exact fun _ => Or.inl (hs _ sn_10_11)
      | 12, _ => exact fun _ => Or.inl (hs _ sn_10_12)
      | 13, _ => exact fun _ => Or.inl (hs _ sn_10_13)
      | 14, _ => exact fun _ => Or.inl (hs _ sn_10_14)
      | 15, _ => exact fun _ => Or.inr (hs _ sn_15_10)
      | (n + 16), h => exact absurd h (by omega)
    | 11, _ =>
      match j, hj with
      | 0, _ => exact fun _ => Or.inr (hs _ sn_0_11)
      | 1, _ => exact fun _ => Or.inr (hs _ sn_1_11)
      | 2, _ => exact fun _ => Or.inr (hs _ sn_2_11)
      | 3, _ => exact fun _ => Or.inr (hs _ sn_3_11)
      | 4, _ => exact fun _ => Or.inr (hs _ sn_4_11)
      | 5, _ => exact fun _ => Or.inr (hs _ sn_5_11)
      | 6, _ => exact fun _ => Or.inr (hs _ sn_6_11)
      | 7, _ => exact fun _ => Or.inr (hs _ sn_7_11)
      | 8, _ => exact fun _ => Or.inr (hs _ sn_8_11)
      | 9, _ => exact fun _ => Or.inr (hs _ sn_9_11)
      | 10, _ => exact fun _ => Or.inr (hs _ sn_10_11)
      | 11, _ => exact fun h => absurd rfl h
      | 12, _ => exact fun _ => Or.inl (hs _ sn_11_12)
      | 13, _ => exact fun _ => Or.inr (hs _ sn_13_11)
      | 14, _ => exact fun _ => Or.inr (hs _ sn_14_11)
      | 15, _ => exact fun _ => Or.inr (hs _ sn_15_11)
      | (n + 16), h => exact absurd h (by omega)
    | 12, _ =>
      match j, hj with
      | 0, _ => exact fun _ => Or.inr (hs _ sn_0_12)
      | 1, _ => exact fun _ => Or.inr (hs _ sn_1_12)
      | 2, _ => exact fun _ => Or.inr (hs _ sn_2_12)
      | 3, _ => exact fun _ => Or.inr (hs _ sn_3_12)
      | 4, _ => exact fun _ => Or.inr (hs _ sn_4_12)
      | 5, _ => exact fun _ => Or.inr (hs _ sn_5_12)
      | 6, _ => exact fun _ => Or.inr (hs _ sn_6_12)
      | 7, _ => exact fun _ => Or.inr (hs _ sn_7_12)
      | 8, _ => exact fun _ => Or.inr (hs _ sn_8_12)
      | 9, _ => exact fun _ => Or.inr (hs _ sn_9_12)
      | 10, _ => exact fun _ => Or.inr (hs _ sn_10_12)
      | 11, _ => exact fun _ => Or.inr (hs _ sn_11_12)
      | 12, _ => exact fun h => absurd rfl h
      | 13, _ => exact fun _ => Or.inr (hs _ sn_13_12)
      | 14, _ => exact fun _ => Or.inr (hs _ sn_14_12)
      | 15, _ => exact fun _ => Or.inr (hs _ sn_15_12)
      | (n + 16), h => exact absurd h (by omega)
    | 13, _ =>
      match j, hj with
      | 0, _ => exact fun _ => Or.inr (hs _ sn_0_13)
      | 1, _ => exact fun _ => Or.inr (hs _ sn_1_13)
      | 2, _ => exact fun _ => Or.inr (hs _ sn_2_13)
      | 3, _ => exact fun _ => Or.inr (hs _ sn_3_13)
      | 4, _ => exact fun _ => Or.inr (hs _ sn_4_13)
      | 5, _ => exact fun _ => Or.inr (hs _ sn_5_13)
      | 6, _ => exact fun _ => Or.inr (hs _ sn_6_13)
      | 7, _ => exact fun _ => Or.inr (hs _ sn_7_13)
      | 8, _ => exact fun _ => Or.inr (hs _ sn_8_13)
      | 9, _ => exact fun _ => Or.inr (hs _ sn_9_13)
      | 10, _ => exact fun _ => Or.inr (hs _ sn_10_13)
      | 11, _ => exact fun _ => Or.inl (hs _ sn_13_11)
      | 12, _ => exact fun _ => Or.inl (hs _ sn_13_12)
      | 13, _ => exact fun h => absurd rfl h
      | 14, _ => exact fun _ => Or.inl (hs _ sn_13_14)
      | 15, _ => exact fun _ => Or.inr (hs _ sn_15_13)
      | (n + 16), h => exact absurd h (by omega)
    | 14, _ =>
      match j, hj with
      | 0, _ => exact fun _ => Or.inr (hs _ sn_0_14)
      | 1, _ => exact fun _ => Or.inr (hs _ sn_1_14)
      | 2, _ => exact fun _ => Or.inr (hs _ sn_2_14)
      | 3, _ => exact fun _ => Or.inr (hs _ sn_3_14)
      | 4, _ => exact fun _ => Or.inr (hs _ sn_4_14)
      | 5, _ => exact fun _ => Or.inr (hs _ sn_5_14)
      | 6, _ => exact fun _ => Or.inr (hs _ sn_6_14)
      | 7, _ => exact fun _ => Or.inr (hs _ sn_7_14)
      | 8, _ => exact fun _ => Or.inr (hs _ sn_8_14)
      | 9, _ => exact fun _ => Or.inr (hs _ sn_9_14)
      | 10, _ => exact fun _ => Or.inr (hs _ sn_10_14)
      | 11, _ => exact fun _ => Or.inl (hs _ sn_14_11)
      | 12, _ => exact fun _ => Or.inl (hs _ sn_14_12)
      | 13, _ => exact fun _ => Or.inr (hs _ sn_13_14)
      | 14, _ => exact fun h => absurd rfl h
      | 15, _ => exact fun _ => Or.inr (hs _ sn_15_14)
      | (n + 16), h => exact absurd h (by omega)
    | 15, _ =>
      match j, hj with
      | 0, _ => exact fun _ => Or.inl (hs _ sn_15_0)
      | 1, _ => exact fun _ => Or.inl (hs _ sn_15_1)
      | 2, _ => exact fun _ => Or.inl (hs _ sn_15_2)
      | 3, _ => exact fun _ => Or.inl (hs _ sn_15_3)
      | 4, _ => exact fun _ => Or.inl (hs _ sn_15_4)
      | 5, _ => exact fun _ => Or.inl (hs _ sn_15_5)
      | 6, _ => exact fun _ => Or.inl (hs _ sn_15_6)
      | 7, _ => exact fun _ => Or.inl (hs _ sn_15_7)
      | 8, _ => exact fun _ => Or.inl (hs _ sn_15_8)
      | 9, _ => exact fun _ => Or.inl (hs _ sn_15_9)
      | 10, _ => exact fun _ => Or.inl (hs _ sn_15_10)
      | 11, _ => exact fun _ => Or.inl (hs _ sn_15_11)
      | 12, _ => exact fun _ => Or.inl (hs _ sn_15_12)
      | 13, _ => exact fun _ => Or.inl (hs _ sn_15_13)
      | 14, _ => exact fun _ => Or.inl (hs _ sn_15_14)
      | 15, _ => exact fun h => absurd rfl h
      | (n + 16), h => exact absurd h (by omega)
    | (n + 16), h => exact absurd h (by omega)
set_option maxHeartbeats 8000000 in
theorem law_cE {s : State} {b : Nat} {cy : Nat → ClassId} {A : Nat → Prop} {adK adV : Nat → Nat} (hts : ∀ w ∈ lw_tbl, w.before #[Value.ref b] s = true) (hgv : (Jvm.Cond.and given_1 narrow_1).before #[Value.ref b] s = true) (hA : ∀ a : Nat, a < s.heap.size → ¬ A a) (hS : vk_S 16 lenS bytS (fun i => cy (100 + i)) (fun i => cy (200 + i)) A s s.heap) (hK : ∀ i : Nat, i < 16 → (tmS i).eval #[Value.ref b] s none [] s = some (.ref (cy (100 + i)))) : cE cy A s s.heap := by
  have hs := flat_of_before _ hgv
  refine ⟨hS, ?_, va_Zof (hts _ mt_1288) (hts _ mt_1290) (va_eqt (hs _ (List.mem_of_getElem? (i := 4) (by decide +kernel)))) hA, va_Zqof (hts _ mt_1289) (hts _ mt_1291) (hs _ (List.mem_of_getElem? (i := 5) (by decide +kernel))) hA⟩
  exact List.forall_mem_cons.mpr ⟨vk_R.of (hts _ mt_1292) (hK 0 (by decide)), List.forall_mem_cons.mpr ⟨vk_R.of (hts _ mt_1293) (hK 1 (by decide)), List.forall_mem_cons.mpr ⟨vk_R.of (hts _ mt_1294) (hK 2 (by decide)), List.forall_mem_cons.mpr ⟨vk_R.of (hts _ mt_1295) (hK 3 (by decide)), List.forall_mem_cons.mpr ⟨vk_R.of (hts _ mt_1296) (hK 4 (by decide)), List.forall_mem_cons.mpr ⟨vk_R.of (hts _ mt_1297) (hK 5 (by decide)), List.forall_mem_cons.mpr ⟨vk_R.of (hts _ mt_1298) (hK 6 (by decide)), List.forall_mem_cons.mpr ⟨vk_R.of (hts _ mt_1299) (hK 7 (by decide)), List.forall_mem_cons.mpr ⟨vk_R.of (hts _ mt_1300) (hK 8 (by decide)), List.forall_mem_cons.mpr ⟨vk_R.of (hts _ mt_1301) (hK 9 (by decide)), List.forall_mem_cons.mpr ⟨vk_R.of (hts _ mt_1302) (hK 10 (by decide)), List.forall_mem_cons.mpr ⟨vk_R.of (hts _ mt_1303) (hK 11 (by decide)), List.forall_mem_cons.mpr ⟨vk_R.of (hts _ mt_1304) (hK 12 (by decide)), List.forall_mem_cons.mpr ⟨vk_R.of (hts _ mt_1305) (hK 13 (by decide)), List.forall_mem_cons.mpr ⟨vk_R.of (hts _ mt_1306) (hK 14 (by decide)), List.forall_mem_cons.mpr ⟨vk_R.of (hts _ mt_1307) (hK 15 (by decide)), (fun _ h => absurd h List.not_mem_nil)⟩⟩⟩⟩⟩⟩⟩⟩⟩⟩⟩⟩⟩⟩⟩⟩
set_option maxHeartbeats 8000000 in
theorem law_str2 {s : State} {b : Nat} {cy : Nat → ClassId} {A : Nat → Prop} {adK adV : Nat → Nat} (hts : ∀ w ∈ lw_tbl, w.before #[Value.ref b] s = true) (hgv : (Jvm.Cond.and given_1 narrow_1).before #[Value.ref b] s = true) (hA : ∀ a : Nat, a < s.heap.size → ¬ A a) (hS : vk_S 16 lenS bytS adK adV A s s.heap) (hK : ∀ i : Nat, i < 16 → (tmS i).eval #[Value.ref b] s none [] s = some (.ref (adK i))) (haux : ∀ i, cy (100 + i) = cond (Nat.blt i 100) (adK i) (adV (i - 100))) : cE cy A s s.heap := by
  have e1 : ∀ i, i < 16 → cy (100 + i) = adK i := fun i hi => by
    rw [haux, nblt, decide_eq_true (by omega)]
    rfl
  have e2 : ∀ i, i < 16 → cy (200 + i) = adV i := fun i hi => by
    have z := haux (100 + i)
    rw [nblt, decide_eq_false (by omega), Nat.add_sub_cancel_left] at z
    rw [show 200 + i = 100 + (100 + i) by omega]
    exact z
  refine law_cE (adK := adK) (adV := adV) hts hgv hA ⟨fun i hi => ?_, fun i j hi hj h => ?_⟩ (fun i hi => by rw [e1 i hi]; exact hK i hi)
  · show va_O "java/lang/String" (cy (100 + i)) A s s.heap ∧ va_OF "java/lang/String" "coder" "B" (.int 0) (cy (100 + i)) A s s.heap ∧ va_OF "java/lang/String" "value" "[B" (.ref (cy (200 + i))) (cy (100 + i)) A s s.heap ∧ va_T .byte (cy (200 + i)) (lenS.getD i 0) (fun j => .int ((bytS.getD i []).getD j 0)) A s s.heap
    rw [e1 i hi, e2 i hi]
    exact hS.1 i hi
  · exact hS.2 i j hi hj (by rw [← e1 i hi, ← e1 j hj]; exact h)
