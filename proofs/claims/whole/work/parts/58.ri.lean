/-! PURE: law, both sides -/
/-- items from i on, n before: whether; how many, or the fault; the valley -/
def lawF (L : Int) (g : Nat → Int) : Nat → VS → Nat → Nat → Bool × Nat × VS
  | 0, V, i, _ => (false, i, V)
  | k + 1, V, i, n =>
    if (itS g V i).1 = true then
      if ((itS g V i).2.1 : Int) = L then (true, n + 1, (itS g V i).2.2)
      else if g (itS g V i).2.1 = 59 then lawF L g k (itS g V i).2.2 ((itS g V i).2.1 + 1) (n + 1)
      else (false, (itS g V i).2.1, (itS g V i).2.2)
    else (false, (itS g V i).2.1, V)
theorem EV.c_law (L : Int) (g : Nat → Int) : ∀ (k : Nat) {V V' : VS} (i n : Nat), EV V V' → (lawF L g k V i n).1 = (lawF L g k V' i n).1 ∧ (lawF L g k V i n).2.1 = (lawF L g k V' i n).2.1 ∧ EV (lawF L g k V i n).2.2 (lawF L g k V' i n).2.2
  | 0, _, _, _, _, E => ⟨rfl, rfl, E⟩
  | k + 1, V, V', i, n, E => by
    obtain ⟨e1, e2, e3⟩ := E.c_it g i
    unfold lawF
    rw [e1, e2]
    by_cases a : (itS g V' i).1 = true
    · rw [if_pos a, if_pos a]
      by_cases b : ((itS g V' i).2.1 : Int) = L
      · rw [if_pos b, if_pos b]; exact ⟨rfl, rfl, e3⟩
      · rw [if_neg b, if_neg b]
        by_cases c : g (itS g V' i).2.1 = 59
        · rw [if_pos c, if_pos c]; exact EV.c_law L g k _ _ e3
        · rw [if_neg c, if_neg c]; exact ⟨rfl, rfl, e3⟩
    · rw [if_neg a, if_neg a]; exact ⟨rfl, rfl, E⟩
theorem law_wf (L : Int) (g : Nat → Int) : ∀ (k : Nat) {V : VS} (i n : Nat), WF V → WF (lawF L g k V i n).2.2
  | 0, _, _, _, hw => hw
  | k + 1, V, i, n, hw => by
    have w1 := it_ok (g := g) (i := i) hw
    unfold lawF
    split
    · split
      · exact w1
      · split
        · exact law_wf L g k _ _ w1
        · exact w1
    · exact hw
/-! the class's loop -/
theorem RDO.md {h : AH} {m : Nat} {g : Nat → Int} (O : RDO h m g) {U : VS} (h1 : U 7 23 = (m : Int)) (h2 : U 9 m = h (8 + m) 9 2) (h3 : ∀ j : Nat, j < 160 → wr (U 10 (160 * m + j)) = wr (h (8 + m) 8 j)) : MDO U m g := by
  obtain ⟨o1, o2, o3, o4, o5, o6⟩ := O
  refine ⟨o1, h1, by rw [h2]; exact o4, by rw [h2]; exact o5, fun j => ?_⟩
  rw [o6 j, h2]
  by_cases q : (j : Int) < h (8 + m) 9 2
  · rw [if_pos q, if_pos q, h3 j (by omega)]
  · rw [if_neg q, if_neg q]
theorem sr_goesOn {d : Nat} {h : AH} {m : Nat} {g : Nat → Int} {W : VS} {a ns it ft : Int} (O : RDO h m g) : CallR (d + 1) 1 [vR 16 12] (rdH h W a ns it ft) (some (vI (bI (ft = -1 ∧ (it = 0 ∨ a < h (8 + m) 9 2))))) (rdH h W a ns it ft) := by
  obtain ⟨o1, o2, o3, o4, o5, o6⟩ := O
  have h8 : (m : Int) < 8 := by omega
  by_cases c1 : ft = -1
  · by_cases c2 : it = 0
    · (rw [cr_1]; simp only [r1_0, r1_1, r1_4, r1_5, r1_8, r1_9, r1_12, r1_12n, r1_15, r1_16, r1_19, r1_22, r1_23, r1_26, r1_27, r1_30, r1_33, r1_36, r1_37, r1_40, r1_41, rq_0, rq_2, rq_4, rq_5, o2, h8, c1, c2, reduceIte, Option.some.injEq, and_assoc, exists_and_left, exists_eq_left, exists_eq_left', true_and, and_true, List.length_cons, List.length_nil, Nat.reduceAdd, Nat.reduceLeDiff, Sum.inl.injEq, az_0, az_1, az_2, az_3, az_4, az_5, az_6, az_8, az_11, az_14, az_15, az_17, az_20, az_21, az_22, az_23, az_24, az_25, az_26, az_28, az_29, az_30, az_31, az_32, az_33, az_34, az_35, az_36, ak_0, ak_1, ak_2, ak_3, ak_4, ak_5, ak_6, ak_8, ak_11, ak_14, ak_15, ak_17, ak_20, ak_21, ak_22, ak_23, ak_24, ak_25, ak_26, ak_28, ak_29, ak_30, ak_31, ak_32, ak_33, ak_34, ak_35, ak_36, ak_37, eq_self, Int.toNat_natCast, Nat.zero_le, bI_0, b01_0, bI_or, b01_or, ne_eq, reduceCtorEq, not_false_eq_true, Nat.reduceEqDiff, if_true, if_false, ite_true, ite_false, Int.natCast_nonneg, not_true_eq_false, Bool.true_eq_false, Bool.false_eq_true, Int.reduceEq, Int.reduceLT, Int.reduceLE, Int.reduceToNat, and_self, inA, exists_eq, or_true, true_or, or_false, false_or, and_false, false_and, or_self, Nat.reduceLT])
      simp [bI]
    · by_cases c3 : a < h (8 + m) 9 2
      · (rw [cr_1]; simp only [r1_0, r1_1, r1_4, r1_5, r1_8, r1_9, r1_12, r1_12n, r1_15, r1_16, r1_19, r1_22, r1_23, r1_26, r1_27, r1_30, r1_33, r1_36, r1_37, r1_40, r1_41, rq_0, rq_2, rq_4, rq_5, rq_s o1, o2, h8, c1, c2, c3, reduceIte, Option.some.injEq, and_assoc, exists_and_left, exists_eq_left, exists_eq_left', true_and, and_true, List.length_cons, List.length_nil, Nat.reduceAdd, Nat.reduceLeDiff, Sum.inl.injEq, az_0, az_1, az_2, az_3, az_4, az_5, az_6, az_8, az_11, az_14, az_15, az_17, az_20, az_21, az_22, az_23, az_24, az_25, az_26, az_28, az_29, az_30, az_31, az_32, az_33, az_34, az_35, az_36, ak_0, ak_1, ak_2, ak_3, ak_4, ak_5, ak_6, ak_8, ak_11, ak_14, ak_15, ak_17, ak_20, ak_21, ak_22, ak_23, ak_24, ak_25, ak_26, ak_28, ak_29, ak_30, ak_31, ak_32, ak_33, ak_34, ak_35, ak_36, ak_37, eq_self, Int.toNat_natCast, Nat.zero_le, bI_0, b01_0, bI_or, b01_or, ne_eq, reduceCtorEq, not_false_eq_true, Nat.reduceEqDiff, if_true, if_false, ite_true, ite_false, Int.natCast_nonneg, not_true_eq_false, Bool.true_eq_false, Bool.false_eq_true, Int.reduceEq, Int.reduceLT, Int.reduceLE, Int.reduceToNat, and_self, inA, exists_eq, or_true, true_or, or_false, false_or, and_false, false_and, or_self, Nat.reduceLT])
        simp [bI]
      · (rw [cr_1]; simp only [r1_0, r1_1, r1_4, r1_5, r1_8, r1_9, r1_12, r1_12n, r1_15, r1_16, r1_19, r1_22, r1_23, r1_26, r1_27, r1_30, r1_33, r1_36, r1_37, r1_40, r1_41, rq_0, rq_2, rq_4, rq_5, rq_s o1, o2, h8, c1, c2, c3, reduceIte, Option.some.injEq, and_assoc, exists_and_left, exists_eq_left, exists_eq_left', true_and, and_true, List.length_cons, List.length_nil, Nat.reduceAdd, Nat.reduceLeDiff, Sum.inl.injEq, az_0, az_1, az_2, az_3, az_4, az_5, az_6, az_8, az_11, az_14, az_15, az_17, az_20, az_21, az_22, az_23, az_24, az_25, az_26, az_28, az_29, az_30, az_31, az_32, az_33, az_34, az_35, az_36, ak_0, ak_1, ak_2, ak_3, ak_4, ak_5, ak_6, ak_8, ak_11, ak_14, ak_15, ak_17, ak_20, ak_21, ak_22, ak_23, ak_24, ak_25, ak_26, ak_28, ak_29, ak_30, ak_31, ak_32, ak_33, ak_34, ak_35, ak_36, ak_37, eq_self, Int.toNat_natCast, Nat.zero_le, bI_0, b01_0, bI_or, b01_or, ne_eq, reduceCtorEq, not_false_eq_true, Nat.reduceEqDiff, if_true, if_false, ite_true, ite_false, Int.natCast_nonneg, not_true_eq_false, Bool.true_eq_false, Bool.false_eq_true, Int.reduceEq, Int.reduceLT, Int.reduceLE, Int.reduceToNat, and_self, inA, exists_eq, or_true, true_or, or_false, false_or, and_false, false_and, or_self, Nat.reduceLT])
        simp [bI]
  · (rw [cr_1]; simp only [r1_0, r1_1, r1_4, r1_5, r1_8, r1_9, r1_12, r1_12n, r1_15, r1_16, r1_19, r1_22, r1_23, r1_26, r1_27, r1_30, r1_33, r1_36, r1_37, r1_40, r1_41, rq_5, c1, reduceIte, Option.some.injEq, and_assoc, exists_and_left, exists_eq_left, exists_eq_left', true_and, and_true, List.length_cons, List.length_nil, Nat.reduceAdd, Nat.reduceLeDiff, Sum.inl.injEq, az_0, az_1, az_2, az_3, az_4, az_5, az_6, az_8, az_11, az_14, az_15, az_17, az_20, az_21, az_22, az_23, az_24, az_25, az_26, az_28, az_29, az_30, az_31, az_32, az_33, az_34, az_35, az_36, ak_0, ak_1, ak_2, ak_3, ak_4, ak_5, ak_6, ak_8, ak_11, ak_14, ak_15, ak_17, ak_20, ak_21, ak_22, ak_23, ak_24, ak_25, ak_26, ak_28, ak_29, ak_30, ak_31, ak_32, ak_33, ak_34, ak_35, ak_36, ak_37, eq_self, Int.toNat_natCast, Nat.zero_le, bI_0, b01_0, bI_or, b01_or, ne_eq, reduceCtorEq, not_false_eq_true, Nat.reduceEqDiff, if_true, if_false, ite_true, ite_false, Int.natCast_nonneg, not_true_eq_false, Bool.true_eq_false, Bool.false_eq_true, Int.reduceEq, Int.reduceLT, Int.reduceLE, Int.reduceToNat, and_self, inA, exists_eq, or_true, true_or, or_false, false_or, and_false, false_and, or_self, Nat.reduceLT])
    simp [bI]
/-- a turn: the sign ahead, an item -/
theorem lx_loop {d : Nat} {h : AH} {m : Nat} {g : Nat → Int} {sv : Int} (O : RDO h m g) : ∀ (k : Nat) (V : VS) (j n : Nat) (ns : Int), WF V → h (8 + m) 9 2 + 1 ≤ (j : Int) + k → ((j : Int) < h (8 + m) 9 2) → n ≤ j → ∀ Q : Option AV → AH → Prop, (∀ (W' : VS) (a' ns' it' ft' : Int) (t : Int), (((lawF (h (8 + m) 9 2) g k V (j + 1) (n + 1)).1 = true ∧ ft' = -1 ∧ it' = ((lawF (h (8 + m) 9 2) g k V (j + 1) (n + 1)).2.1 : Int) ∧ W' = (lawF (h (8 + m) 9 2) g k V (j + 1) (n + 1)).2.2) ∨ ((lawF (h (8 + m) 9 2) g k V (j + 1) (n + 1)).1 = false ∧ ft' = ((lawF (h (8 + m) 9 2) g k V (j + 1) (n + 1)).2.1 : Int))) → At (CallR (d + 12)) ac_99 83 [vR 16 10, vI sv, vI 0, vR (8 + m) 9, vI t] [] (rdH h W' a' ns' it' ft') Q) → g j = 59 → At (CallR (d + 12)) ac_99 52 [vR 16 10, vI sv, vI 0, vR (8 + m) 9, vI ((n + 1 : Nat) : Int)] [] (rdH h V (j : Int) ns ((n + 1 : Nat) : Int) (-1)) Q := by
  sorry
