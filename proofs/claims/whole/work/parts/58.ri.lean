/-! PURE: law, both sides -/
/-- items from i on, n before: whether; how many, or the fault; the valley -/
def lawF (L : Int) (g : Nat → Int) : Nat → VS → Nat → Nat → Bool × Nat × VS
  | 0, V, i, _ => (false, i, V)
  | k + 1, V, i, n =>
    if (itS g V i).1 = true then
      if ((itS g V i).2.1 : Int) = L then (true, n + 1, (itS g V i).2.2)
      else if g (itS g V i).2.1 = 59 then lawF L g k (itS g V i).2.2 ((itS g V i).2.1 + 1) (n + 1)
      else (false, (itS g V i).2.1, (itS g V i).2.2)
    else (false, (itS g V i).2.1, V)
theorem EV.c_law (L : Int) (g : Nat → Int) : ∀ (k : Nat) {V V' : VS} (i n : Nat), EV V V' → (lawF L g k V i n).1 = (lawF L g k V' i n).1 ∧ (lawF L g k V i n).2.1 = (lawF L g k V' i n).2.1 ∧ EV (lawF L g k V i n).2.2 (lawF L g k V' i n).2.2
  | 0, _, _, _, _, E => ⟨rfl, rfl, E⟩
  | k + 1, V, V', i, n, E => by
    obtain ⟨e1, e2, e3⟩ := E.c_it g i
    unfold lawF
    rw [e1, e2]
    by_cases a : (itS g V' i).1 = true
    · rw [if_pos a, if_pos a]
      by_cases b : ((itS g V' i).2.1 : Int) = L
      · rw [if_pos b, if_pos b]; exact ⟨rfl, rfl, e3⟩
      · rw [if_neg b, if_neg b]
        by_cases c : g (itS g V' i).2.1 = 59
        · rw [if_pos c, if_pos c]; exact EV.c_law L g k _ _ e3
        · rw [if_neg c, if_neg c]; exact ⟨rfl, rfl, e3⟩
    · rw [if_neg a, if_neg a]; exact ⟨rfl, rfl, E⟩
theorem law_wf (L : Int) (g : Nat → Int) : ∀ (k : Nat) {V : VS} (i n : Nat), WF V → WF (lawF L g k V i n).2.2
  | 0, _, _, _, hw => hw
  | k + 1, V, i, n, hw => by
    have w1 := it_ok (g := g) (i := i) hw
    unfold lawF
    split
    · split
      · exact w1
      · split
        · exact law_wf L g k _ _ w1
        · exact w1
    · exact hw
/-! the class's loop -/
theorem RDO.md {h : AH} {m : Nat} {g : Nat → Int} (O : RDO h m g) {U : VS} (h1 : U 7 23 = (m : Int)) (h2 : U 9 m = h (8 + m) 9 2) (h3 : ∀ j : Nat, j < 160 → wr (U 10 (160 * m + j)) = wr (h (8 + m) 8 j)) : MDO U m g := by
  obtain ⟨o1, o2, o3, o4, o5, o6⟩ := O
  refine ⟨o1, h1, by rw [h2]; exact o4, by rw [h2]; exact o5, fun j => ?_⟩
  rw [o6 j, h2]
  by_cases q : (j : Int) < h (8 + m) 9 2
  · rw [if_pos q, if_pos q, h3 j (by omega)]
  · rw [if_neg q, if_neg q]
theorem sr_goesOn {d : Nat} {h : AH} {m : Nat} {g : Nat → Int} {W : VS} {a ns it ft : Int} (O : RDO h m g) : CallR (d + 1) 1 [vR 16 12] (rdH h W a ns it ft) (some (vI (bI (ft = -1 ∧ (it = 0 ∨ a < h (8 + m) 9 2))))) (rdH h W a ns it ft) := by
  obtain ⟨o1, o2, o3, o4, o5, o6⟩ := O
  have h8 : (m : Int) < 8 := by omega
  by_cases c1 : ft = -1
  · by_cases c2 : it = 0
    · (rw [cr_1]; simp only [r1_0, r1_1, r1_4, r1_5, r1_8, r1_9, r1_12, r1_12n, r1_15, r1_16, r1_19, r1_22, r1_23, r1_26, r1_27, r1_30, r1_33, r1_36, r1_37, r1_40, r1_41, rq_0, rq_2, rq_4, rq_5, o2, h8, c1, c2, reduceIte, Option.some.injEq, and_assoc, exists_and_left, exists_eq_left, exists_eq_left', true_and, and_true, List.length_cons, List.length_nil, Nat.reduceAdd, Nat.reduceLeDiff, Sum.inl.injEq, az_0, az_1, az_2, az_3, az_4, az_5, az_6, az_8, az_11, az_14, az_15, az_17, az_20, az_21, az_22, az_23, az_24, az_25, az_26, az_28, az_29, az_30, az_31, az_32, az_33, az_34, az_35, az_36, ak_0, ak_1, ak_2, ak_3, ak_4, ak_5, ak_6, ak_8, ak_11, ak_14, ak_15, ak_17, ak_20, ak_21, ak_22, ak_23, ak_24, ak_25, ak_26, ak_28, ak_29, ak_30, ak_31, ak_32, ak_33, ak_34, ak_35, ak_36, ak_37, eq_self, Int.toNat_natCast, Nat.zero_le, bI_0, b01_0, bI_or, b01_or, ne_eq, reduceCtorEq, not_false_eq_true, Nat.reduceEqDiff, if_true, if_false, ite_true, ite_false, Int.natCast_nonneg, not_true_eq_false, Bool.true_eq_false, Bool.false_eq_true, Int.reduceEq, Int.reduceLT, Int.reduceLE, Int.reduceToNat, and_self, inA, exists_eq, or_true, true_or, or_false, false_or, and_false, false_and, or_self, Nat.reduceLT])
      simp [bI]
    · by_cases c3 : a < h (8 + m) 9 2
      · (rw [cr_1]; simp only [r1_0, r1_1, r1_4, r1_5, r1_8, r1_9, r1_12, r1_12n, r1_15, r1_16, r1_19, r1_22, r1_23, r1_26, r1_27, r1_30, r1_33, r1_36, r1_37, r1_40, r1_41, rq_0, rq_2, rq_4, rq_5, rq_s o1, o2, h8, c1, c2, c3, reduceIte, Option.some.injEq, and_assoc, exists_and_left, exists_eq_left, exists_eq_left', true_and, and_true, List.length_cons, List.length_nil, Nat.reduceAdd, Nat.reduceLeDiff, Sum.inl.injEq, az_0, az_1, az_2, az_3, az_4, az_5, az_6, az_8, az_11, az_14, az_15, az_17, az_20, az_21, az_22, az_23, az_24, az_25, az_26, az_28, az_29, az_30, az_31, az_32, az_33, az_34, az_35, az_36, ak_0, ak_1, ak_2, ak_3, ak_4, ak_5, ak_6, ak_8, ak_11, ak_14, ak_15, ak_17, ak_20, ak_21, ak_22, ak_23, ak_24, ak_25, ak_26, ak_28, ak_29, ak_30, ak_31, ak_32, ak_33, ak_34, ak_35, ak_36, ak_37, eq_self, Int.toNat_natCast, Nat.zero_le, bI_0, b01_0, bI_or, b01_or, ne_eq, reduceCtorEq, not_false_eq_true, Nat.reduceEqDiff, if_true, if_false, ite_true, ite_false, Int.natCast_nonneg, not_true_eq_false, Bool.true_eq_false, Bool.false_eq_true, Int.reduceEq, Int.reduceLT, Int.reduceLE, Int.reduceToNat, and_self, inA, exists_eq, or_true, true_or, or_false, false_or, and_false, false_and, or_self, Nat.reduceLT])
        simp [bI]
      · (rw [cr_1]; simp only [r1_0, r1_1, r1_4, r1_5, r1_8, r1_9, r1_12, r1_12n, r1_15, r1_16, r1_19, r1_22, r1_23, r1_26, r1_27, r1_30, r1_33, r1_36, r1_37, r1_40, r1_41, rq_0, rq_2, rq_4, rq_5, rq_s o1, o2, h8, c1, c2, c3, reduceIte, Option.some.injEq, and_assoc, exists_and_left, exists_eq_left, exists_eq_left', true_and, and_true, List.length_cons, List.length_nil, Nat.reduceAdd, Nat.reduceLeDiff, Sum.inl.injEq, az_0, az_1, az_2, az_3, az_4, az_5, az_6, az_8, az_11, az_14, az_15, az_17, az_20, az_21, az_22, az_23, az_24, az_25, az_26, az_28, az_29, az_30, az_31, az_32, az_33, az_34, az_35, az_36, ak_0, ak_1, ak_2, ak_3, ak_4, ak_5, ak_6, ak_8, ak_11, ak_14, ak_15, ak_17, ak_20, ak_21, ak_22, ak_23, ak_24, ak_25, ak_26, ak_28, ak_29, ak_30, ak_31, ak_32, ak_33, ak_34, ak_35, ak_36, ak_37, eq_self, Int.toNat_natCast, Nat.zero_le, bI_0, b01_0, bI_or, b01_or, ne_eq, reduceCtorEq, not_false_eq_true, Nat.reduceEqDiff, if_true, if_false, ite_true, ite_false, Int.natCast_nonneg, not_true_eq_false, Bool.true_eq_false, Bool.false_eq_true, Int.reduceEq, Int.reduceLT, Int.reduceLE, Int.reduceToNat, and_self, inA, exists_eq, or_true, true_or, or_false, false_or, and_false, false_and, or_self, Nat.reduceLT])
        simp [bI]
  · (rw [cr_1]; simp only [r1_0, r1_1, r1_4, r1_5, r1_8, r1_9, r1_12, r1_12n, r1_15, r1_16, r1_19, r1_22, r1_23, r1_26, r1_27, r1_30, r1_33, r1_36, r1_37, r1_40, r1_41, rq_5, c1, reduceIte, Option.some.injEq, and_assoc, exists_and_left, exists_eq_left, exists_eq_left', true_and, and_true, List.length_cons, List.length_nil, Nat.reduceAdd, Nat.reduceLeDiff, Sum.inl.injEq, az_0, az_1, az_2, az_3, az_4, az_5, az_6, az_8, az_11, az_14, az_15, az_17, az_20, az_21, az_22, az_23, az_24, az_25, az_26, az_28, az_29, az_30, az_31, az_32, az_33, az_34, az_35, az_36, ak_0, ak_1, ak_2, ak_3, ak_4, ak_5, ak_6, ak_8, ak_11, ak_14, ak_15, ak_17, ak_20, ak_21, ak_22, ak_23, ak_24, ak_25, ak_26, ak_28, ak_29, ak_30, ak_31, ak_32, ak_33, ak_34, ak_35, ak_36, ak_37, eq_self, Int.toNat_natCast, Nat.zero_le, bI_0, b01_0, bI_or, b01_or, ne_eq, reduceCtorEq, not_false_eq_true, Nat.reduceEqDiff, if_true, if_false, ite_true, ite_false, Int.natCast_nonneg, not_true_eq_false, Bool.true_eq_false, Bool.false_eq_true, Int.reduceEq, Int.reduceLT, Int.reduceLE, Int.reduceToNat, and_self, inA, exists_eq, or_true, true_or, or_false, false_or, and_false, false_and, or_self, Nat.reduceLT])
    simp [bI]
/-- behind an item -/
def tlF (L : Int) (g : Nat → Int) (k : Nat) (V : VS) (j n : Nat) : Bool × Nat × VS := if (j : Int) = L then (true, n, V) else if g j = 59 then lawF L g k V (j + 1) n else (false, j, V)
theorem law_tl (L : Int) (g : Nat → Int) (k : Nat) (V : VS) (i n : Nat) : lawF L g (k + 1) V i n = if (itS g V i).1 = true then tlF L g k (itS g V i).2.2 (itS g V i).2.1 (n + 1) else (false, (itS g V i).2.1, V) := rfl
def mdU (h : AH) (m : Nat) : VS := fun q => if q = 7 then fun _ => (m : Int) else if q = 9 then fun _ => h (8 + m) 9 2 else fun x => h (8 + m) 8 (x - 160 * m)
theorem mdU_ok {h : AH} {m : Nat} {g : Nat → Int} (O : RDO h m g) : MDO (mdU h m) m g := O.md rfl rfl (fun j _ => by
  show wr (h (8 + m) 8 (160 * m + j - 160 * m)) = _
  rw [Nat.add_sub_cancel_left])
theorem it_posX {h : AH} {m : Nat} {g : Nat → Int} (O : RDO h m g) {V : VS} {i : Nat} (e : (itS g V i).1 = true) : i < (itS g V i).2.1 ∧ ((itS g V i).2.1 : Int) ≤ h (8 + m) 9 2 ∧ V 7 7 ≤ (itS g V i).2.2 7 7 := it_pos (mdU_ok O) e
def FIN (r : Bool × Nat × VS) (W' : VS) (it' ft' : Int) : Prop := (r.1 = true ∧ ft' = -1 ∧ it' = (r.2.1 : Int) ∧ W' = r.2.2) ∨ (r.1 = false ∧ ft' = (r.2.1 : Int))
theorem lx_after {d : Nat} {h : AH} {m : Nat} {g : Nat → Int} {sv : Int} (O : RDO h m g) : ∀ (k : Nat) (V : VS) (j n : Nat) (ns : Int), WF V → h (8 + m) 9 2 + 1 ≤ (j : Int) + k → (j : Int) ≤ h (8 + m) 9 2 → 1 ≤ n → n ≤ j → ∀ Q : Option AV → AH → Prop, (∀ (W' : VS) (a' ns' it' ft' t : Int), FIN (tlF (h (8 + m) 9 2) g k V j n) W' it' ft' → At (CallR (d + 12)) ac_99 83 [vR 16 10, vI sv, vI 0, vR (8 + m) 9, vI t] [] (rdH h W' a' ns' it' ft') Q) → At (CallR (d + 12)) ac_99 52 [vR 16 10, vI sv, vI 0, vR (8 + m) 9, vI (n : Int)] [] (rdH h V (j : Int) ns (n : Int) (-1)) Q
  | 0, V, j, n, ns, hw, hf, hj, h1, hn, Q, hQ => by omega
  | k + 1, V, j, n, ns, hw, hf, hj, h1, hn, Q, hQ => by
    have o5 := O.2.2.2.2.1
    have n0 : ¬ (n : Int) = 0 := by omega
    have n160 : ¬ 160 < (n : Int) := by omega
    have n161 : ¬ 160 < ((n + 1 : Nat) : Int) ∨ True := Or.inr trivial
    have npos : 0 < (n : Int) := by omega
    have ks := wr_s (show n < 2147483647 by omega)
    by_cases hjL : (j : Int) = h (8 + m) 9 2
    · have nlt : ¬ (j : Int) < h (8 + m) 9 2 := by omega
      rw [r99_52]
      simp only [r99_54, r99_57, r99_60, r99_61, r99_64, r99_67, r99_70, r99_71, r99_74, r99_77, r99_80, reduceIte, Option.some.injEq, and_assoc, exists_and_left, exists_eq_left, exists_eq_left', true_and, and_true, List.length_cons, List.length_nil, Nat.reduceAdd, Nat.reduceLeDiff, Sum.inl.injEq, az_0, az_1, az_2, az_3, az_4, az_5, az_6, az_8, az_11, az_14, az_15, az_17, az_20, az_21, az_22, az_23, az_24, az_25, az_26, az_28, az_29, az_30, az_31, az_32, az_33, az_34, az_35, az_36, ak_0, ak_1, ak_2, ak_3, ak_4, ak_5, ak_6, ak_8, ak_11, ak_14, ak_15, ak_17, ak_20, ak_21, ak_22, ak_23, ak_24, ak_25, ak_26, ak_28, ak_29, ak_30, ak_31, ak_32, ak_33, ak_34, ak_35, ak_36, ak_37, eq_self, Int.toNat_natCast, Nat.zero_le, bI_0, b01_0, bI_or, b01_or, ne_eq, reduceCtorEq, not_false_eq_true, Nat.reduceEqDiff, if_true, if_false, ite_true, ite_false, Int.natCast_nonneg, not_true_eq_false, Bool.true_eq_false, Bool.false_eq_true, Int.reduceEq, Int.reduceLT, Int.reduceLE, Int.reduceToNat, and_self, inA, exists_eq, or_true, true_or, or_false, false_or, and_false, false_and, or_self, Nat.reduceLT, n160, CallR_iff (sr_goesOn O), n0, nlt, bI_F]
      refine hQ _ _ _ _ _ _ (Or.inl ?_)
      unfold tlF
      rw [if_pos hjL]
      exact ⟨rfl, rfl, rfl, rfl⟩
    · have jlt : (j : Int) < h (8 + m) 9 2 := by omega
      have fend : ∀ (W' : VS) (a' ns' : Int) (p : Nat), (tlF (h (8 + m) 9 2) g (k + 1) V j n).1 = false → (tlF (h (8 + m) 9 2) g (k + 1) V j n).2.1 = p → At (CallR (d + 12)) ac_99 52 [vR 16 10, vI sv, vI 0, vR (8 + m) 9, vI ((n + 1 : Nat) : Int)] [] (rdH h W' a' ns' ((n + 1 : Nat) : Int) (p : Int)) Q := by
        intro W' a' ns' p e1 e2
        have hfin := fun t => hQ W' a' ns' ((n + 1 : Nat) : Int) (p : Int) t (Or.inr ⟨e1, by rw [e2]⟩)
        rw [r99_52]
        by_cases q : 160 < ((n + 1 : Nat) : Int)
        · simp only [r99_54, r99_57, r99_60, r99_61, r99_64, r99_67, r99_70, r99_71, r99_74, r99_77, r99_80, reduceIte, Option.some.injEq, and_assoc, exists_and_left, exists_eq_left, exists_eq_left', true_and, and_true, List.length_cons, List.length_nil, Nat.reduceAdd, Nat.reduceLeDiff, Sum.inl.injEq, az_0, az_1, az_2, az_3, az_4, az_5, az_6, az_8, az_11, az_14, az_15, az_17, az_20, az_21, az_22, az_23, az_24, az_25, az_26, az_28, az_29, az_30, az_31, az_32, az_33, az_34, az_35, az_36, ak_0, ak_1, ak_2, ak_3, ak_4, ak_5, ak_6, ak_8, ak_11, ak_14, ak_15, ak_17, ak_20, ak_21, ak_22, ak_23, ak_24, ak_25, ak_26, ak_28, ak_29, ak_30, ak_31, ak_32, ak_33, ak_34, ak_35, ak_36, ak_37, eq_self, Int.toNat_natCast, Nat.zero_le, bI_0, b01_0, bI_or, b01_or, ne_eq, reduceCtorEq, not_false_eq_true, Nat.reduceEqDiff, if_true, if_false, ite_true, ite_false, Int.natCast_nonneg, not_true_eq_false, Bool.true_eq_false, Bool.false_eq_true, Int.reduceEq, Int.reduceLT, Int.reduceLE, Int.reduceToNat, and_self, inA, exists_eq, or_true, true_or, or_false, false_or, and_false, false_and, or_self, Nat.reduceLT, q]
          exact hfin _
        · simp only [r99_54, r99_57, r99_60, r99_61, r99_64, r99_67, r99_70, r99_71, r99_74, r99_77, r99_80, reduceIte, Option.some.injEq, and_assoc, exists_and_left, exists_eq_left, exists_eq_left', true_and, and_true, List.length_cons, List.length_nil, Nat.reduceAdd, Nat.reduceLeDiff, Sum.inl.injEq, az_0, az_1, az_2, az_3, az_4, az_5, az_6, az_8, az_11, az_14, az_15, az_17, az_20, az_21, az_22, az_23, az_24, az_25, az_26, az_28, az_29, az_30, az_31, az_32, az_33, az_34, az_35, az_36, ak_0, ak_1, ak_2, ak_3, ak_4, ak_5, ak_6, ak_8, ak_11, ak_14, ak_15, ak_17, ak_20, ak_21, ak_22, ak_23, ak_24, ak_25, ak_26, ak_28, ak_29, ak_30, ak_31, ak_32, ak_33, ak_34, ak_35, ak_36, ak_37, eq_self, Int.toNat_natCast, Nat.zero_le, bI_0, b01_0, bI_or, b01_or, ne_eq, reduceCtorEq, not_false_eq_true, Nat.reduceEqDiff, if_true, if_false, ite_true, ite_false, Int.natCast_nonneg, not_true_eq_false, Bool.true_eq_false, Bool.false_eq_true, Int.reduceEq, Int.reduceLT, Int.reduceLE, Int.reduceToNat, and_self, inA, exists_eq, or_true, true_or, or_false, false_or, and_false, false_and, or_self, Nat.reduceLT, q, CallR_iff (sr_goesOn O), fpos', bI_F]
          exact hfin _
      by_cases hsg : g j = 59
      · have sgn := sr_sign (d := d + 7) (W := V) (ns := ns) (it := (n : Int)) (i := j) (c := 59) O (by omega)
        rw [if_pos hsg] at sgn
        obtain ⟨h', hres, hrun⟩ := sr_itemT (d := d + 2) (W := V) (ns := ns) (it := (n : Int)) (i := j + 1) O (by omega) hw (by omega)
        have hcall : CallR (d + 12) 5 [vR 16 12] (rdH h V (j : Int) ns (n : Int) (-1)) none h' := by
          rw [cr_5]
          simp only [r5_0, r5_1, r5_4, r5_7, r5_8, r5_10, reduceIte, Option.some.injEq, and_assoc, exists_and_left, exists_eq_left, exists_eq_left', true_and, and_true, List.length_cons, List.length_nil, Nat.reduceAdd, Nat.reduceLeDiff, Sum.inl.injEq, az_0, az_1, az_2, az_3, az_4, az_5, az_6, az_8, az_11, az_14, az_15, az_17, az_20, az_21, az_22, az_23, az_24, az_25, az_26, az_28, az_29, az_30, az_31, az_32, az_33, az_34, az_35, az_36, ak_0, ak_1, ak_2, ak_3, ak_4, ak_5, ak_6, ak_8, ak_11, ak_14, ak_15, ak_17, ak_20, ak_21, ak_22, ak_23, ak_24, ak_25, ak_26, ak_28, ak_29, ak_30, ak_31, ak_32, ak_33, ak_34, ak_35, ak_36, ak_37, eq_self, Int.toNat_natCast, Nat.zero_le, bI_0, b01_0, bI_or, b01_or, ne_eq, reduceCtorEq, not_false_eq_true, Nat.reduceEqDiff, if_true, if_false, ite_true, ite_false, Int.natCast_nonneg, not_true_eq_false, Bool.true_eq_false, Bool.false_eq_true, Int.reduceEq, Int.reduceLT, Int.reduceLE, Int.reduceToNat, and_self, inA, exists_eq, or_true, true_or, or_false, false_or, and_false, false_and, or_self, Nat.reduceLT, rq_4, npos, CallR_iff sgn]
          exact hrun _ ⟨rfl, rfl⟩
        have e59 : tlF (h (8 + m) 9 2) g (k + 1) V j n = (if (itS g V (j + 1)).1 = true then tlF (h (8 + m) 9 2) g k (itS g V (j + 1)).2.2 (itS g V (j + 1)).2.1 (n + 1) else (false, (itS g V (j + 1)).2.1, V)) := by
          unfold tlF
          rw [if_neg hjL, if_pos hsg]
          rfl
        rw [r99_52]
        simp only [r99_54, r99_57, r99_60, r99_61, r99_64, r99_67, r99_70, r99_71, r99_74, r99_77, r99_80, reduceIte, Option.some.injEq, and_assoc, exists_and_left, exists_eq_left, exists_eq_left', true_and, and_true, List.length_cons, List.length_nil, Nat.reduceAdd, Nat.reduceLeDiff, Sum.inl.injEq, az_0, az_1, az_2, az_3, az_4, az_5, az_6, az_8, az_11, az_14, az_15, az_17, az_20, az_21, az_22, az_23, az_24, az_25, az_26, az_28, az_29, az_30, az_31, az_32, az_33, az_34, az_35, az_36, ak_0, ak_1, ak_2, ak_3, ak_4, ak_5, ak_6, ak_8, ak_11, ak_14, ak_15, ak_17, ak_20, ak_21, ak_22, ak_23, ak_24, ak_25, ak_26, ak_28, ak_29, ak_30, ak_31, ak_32, ak_33, ak_34, ak_35, ak_36, ak_37, eq_self, Int.toNat_natCast, Nat.zero_le, bI_0, b01_0, bI_or, b01_or, ne_eq, reduceCtorEq, not_false_eq_true, Nat.reduceEqDiff, if_true, if_false, ite_true, ite_false, Int.natCast_nonneg, not_true_eq_false, Bool.true_eq_false, Bool.false_eq_true, Int.reduceEq, Int.reduceLT, Int.reduceLE, Int.reduceToNat, and_self, inA, exists_eq, or_true, true_or, or_false, false_or, and_false, false_and, or_self, Nat.reduceLT, n160, CallR_iff (sr_goesOn O), n0, jlt, bI_T, Int.reduceEq, CallR_iff hcall, ks]
        rcases hres with ⟨r1, ns', rfl⟩ | ⟨r1, W', a', ns', rfl⟩
        · have hp := it_posX O r1
          rw [if_pos r1] at e59
          exact lx_after O k _ _ (n + 1) ns' (it_ok hw) (by omega) hp.2.1 (by omega) (by omega) Q (fun W' a' ns' it' ft' t hF => hQ W' a' ns' it' ft' t (by rw [e59]; exact hF))
        · rw [if_neg (by rw [r1]; decide)] at e59
          exact fend W' a' ns' _ (by rw [e59]) (by rw [e59])
      · have sgn := sr_sign (d := d + 7) (W := V) (ns := ns) (it := (n : Int)) (i := j) (c := 59) O (by omega)
        rw [if_neg hsg] at sgn
        have hwn : CallR (d + 11) 7 [vR 16 12] (rdH h V (j : Int) ns ((n + 1 : Nat) : Int) (j : Int)) (some (vI (-1))) (rdH h V (j : Int) ns ((n + 1 : Nat) : Int) (j : Int)) := by
          rw [cr_7]
          simp only [r7_0, r7_1, r7_4, r7_5, r7_8, r7_9, r7_10, r7_11, r7_12, r7_13, reduceIte, Option.some.injEq, and_assoc, exists_and_left, exists_eq_left, exists_eq_left', true_and, and_true, List.length_cons, List.length_nil, Nat.reduceAdd, Nat.reduceLeDiff, Sum.inl.injEq, az_0, az_1, az_2, az_3, az_4, az_5, az_6, az_8, az_11, az_14, az_15, az_17, az_20, az_21, az_22, az_23, az_24, az_25, az_26, az_28, az_29, az_30, az_31, az_32, az_33, az_34, az_35, az_36, ak_0, ak_1, ak_2, ak_3, ak_4, ak_5, ak_6, ak_8, ak_11, ak_14, ak_15, ak_17, ak_20, ak_21, ak_22, ak_23, ak_24, ak_25, ak_26, ak_28, ak_29, ak_30, ak_31, ak_32, ak_33, ak_34, ak_35, ak_36, ak_37, eq_self, Int.toNat_natCast, Nat.zero_le, bI_0, b01_0, bI_or, b01_or, ne_eq, reduceCtorEq, not_false_eq_true, Nat.reduceEqDiff, if_true, if_false, ite_true, ite_false, Int.natCast_nonneg, not_true_eq_false, Bool.true_eq_false, Bool.false_eq_true, Int.reduceEq, Int.reduceLT, Int.reduceLE, Int.reduceToNat, and_self, inA, exists_eq, or_true, true_or, or_false, false_or, and_false, false_and, or_self, Nat.reduceLT, rq_5, fpos']
        have o2 := O.2.2.1
        have hcall : CallR (d + 12) 5 [vR 16 12] (rdH h V (j : Int) ns (n : Int) (-1)) none (rdH h V (j : Int) ns ((n + 1 : Nat) : Int) (j : Int)) := by
          rw [cr_5]
          simp only [r5_0, r5_1, r5_4, r5_7, r5_8, r5_10, r5_13, r5_14, r5_14r, r5_15, r5_18, r5_19, r5_20, r5_23, r5_24, r5_27, r5_28, r5_29, r5_32, r5_33, r5_34, r5_37, r5_38, r5_38n, r5_38s, r5_39, r5_39n, r5_42, r5_43, r5_44, r5_47, r5_48, r5_49, r5_100, r5_101, r5_101n, r5_101s, r5_102, r5_103, r5_106, r5_109, r5_109n, r5_109s, r5_110, r5_111, r5_112, r5_113, r5_116, r5_119, r5_119n, r5_119s, r5_120, r5_121, r5_122, r5_124, r5_127, r5_130, r5_133, r5_133n, r5_133s, r5_134, r5_135, r5_136, r5_138, r5_141, r5_144, r5_147, r5_148, r5_148n, r5_148s, r5_149, r5_152, r5_155, r5_156, r5_156n, r5_156s, r5_157, r5_160, r5_163, r5_164, r5_164n, r5_164s, r5_165, r5_166, r5_169, r5_172, r5_173, r5_173n, r5_173s, r5_174, r5_177, reduceIte, Option.some.injEq, and_assoc, exists_and_left, exists_eq_left, exists_eq_left', true_and, and_true, List.length_cons, List.length_nil, Nat.reduceAdd, Nat.reduceLeDiff, Sum.inl.injEq, az_0, az_1, az_2, az_3, az_4, az_5, az_6, az_8, az_11, az_14, az_15, az_17, az_20, az_21, az_22, az_23, az_24, az_25, az_26, az_28, az_29, az_30, az_31, az_32, az_33, az_34, az_35, az_36, ak_0, ak_1, ak_2, ak_3, ak_4, ak_5, ak_6, ak_8, ak_11, ak_14, ak_15, ak_17, ak_20, ak_21, ak_22, ak_23, ak_24, ak_25, ak_26, ak_28, ak_29, ak_30, ak_31, ak_32, ak_33, ak_34, ak_35, ak_36, ak_37, eq_self, Int.toNat_natCast, Nat.zero_le, bI_0, b01_0, bI_or, b01_or, ne_eq, reduceCtorEq, not_false_eq_true, Nat.reduceEqDiff, if_true, if_false, ite_true, ite_false, Int.natCast_nonneg, not_true_eq_false, Bool.true_eq_false, Bool.false_eq_true, Int.reduceEq, Int.reduceLT, Int.reduceLE, Int.reduceToNat, and_self, inA, exists_eq, or_true, true_or, or_false, false_or, and_false, false_and, or_self, Nat.reduceLT, rq_4, rq_2, rq_1, npos, CallR_iff sgn, ks, rd_it, CallR_iff hwn, o2]
        have e59 : tlF (h (8 + m) 9 2) g (k + 1) V j n = (false, j, V) := by
          unfold tlF
          rw [if_neg hjL, if_neg hsg]
        rw [r99_52]
        simp only [r99_54, r99_57, r99_60, r99_61, r99_64, r99_67, r99_70, r99_71, r99_74, r99_77, r99_80, reduceIte, Option.some.injEq, and_assoc, exists_and_left, exists_eq_left, exists_eq_left', true_and, and_true, List.length_cons, List.length_nil, Nat.reduceAdd, Nat.reduceLeDiff, Sum.inl.injEq, az_0, az_1, az_2, az_3, az_4, az_5, az_6, az_8, az_11, az_14, az_15, az_17, az_20, az_21, az_22, az_23, az_24, az_25, az_26, az_28, az_29, az_30, az_31, az_32, az_33, az_34, az_35, az_36, ak_0, ak_1, ak_2, ak_3, ak_4, ak_5, ak_6, ak_8, ak_11, ak_14, ak_15, ak_17, ak_20, ak_21, ak_22, ak_23, ak_24, ak_25, ak_26, ak_28, ak_29, ak_30, ak_31, ak_32, ak_33, ak_34, ak_35, ak_36, ak_37, eq_self, Int.toNat_natCast, Nat.zero_le, bI_0, b01_0, bI_or, b01_or, ne_eq, reduceCtorEq, not_false_eq_true, Nat.reduceEqDiff, if_true, if_false, ite_true, ite_false, Int.natCast_nonneg, not_true_eq_false, Bool.true_eq_false, Bool.false_eq_true, Int.reduceEq, Int.reduceLT, Int.reduceLE, Int.reduceToNat, and_self, inA, exists_eq, or_true, true_or, or_false, false_or, and_false, false_and, or_self, Nat.reduceLT, n160, CallR_iff (sr_goesOn O), n0, jlt, bI_T, Int.reduceEq, CallR_iff hcall, ks]
        exact fend V _ ns j (by rw [e59]) (by rw [e59])
theorem lx_start {d : Nat} {h : AH} {m : Nat} {g : Nat → Int} {sv ns : Int} {V : VS} (O : RDO h m g) (hw : WF V) (Q : Option AV → AH → Prop) (hQ : ∀ (W' : VS) (a' ns' it' ft' t : Int), FIN (lawF (h (8 + m) 9 2) g 200 V 0 0) W' it' ft' → At (CallR (d + 12)) ac_99 83 [vR 16 10, vI sv, vI 0, vR (8 + m) 9, vI t] [] (rdH h W' a' ns' it' ft') Q) : At (CallR (d + 12)) ac_99 52 [vR 16 10, vI sv, vI 0, vR (8 + m) 9, vI 0] [] (rdH h V 0 ns 0 (-1)) Q := by
  have o5 := O.2.2.2.2.1
  obtain ⟨h', hres, hrun⟩ := sr_itemT (d := d + 2) (W := V) (ns := ns) (it := 0) (i := 0) O (by omega) hw (by omega)
  have hcall : CallR (d + 12) 5 [vR 16 12] (rdH h V 0 ns 0 (-1)) none h' := by
    rw [cr_5]
    simp only [r5_0, r5_1, r5_4, r5_7, r5_8, r5_10, reduceIte, Option.some.injEq, and_assoc, exists_and_left, exists_eq_left, exists_eq_left', true_and, and_true, List.length_cons, List.length_nil, Nat.reduceAdd, Nat.reduceLeDiff, Sum.inl.injEq, az_0, az_1, az_2, az_3, az_4, az_5, az_6, az_8, az_11, az_14, az_15, az_17, az_20, az_21, az_22, az_23, az_24, az_25, az_26, az_28, az_29, az_30, az_31, az_32, az_33, az_34, az_35, az_36, ak_0, ak_1, ak_2, ak_3, ak_4, ak_5, ak_6, ak_8, ak_11, ak_14, ak_15, ak_17, ak_20, ak_21, ak_22, ak_23, ak_24, ak_25, ak_26, ak_28, ak_29, ak_30, ak_31, ak_32, ak_33, ak_34, ak_35, ak_36, ak_37, eq_self, Int.toNat_natCast, Nat.zero_le, bI_0, b01_0, bI_or, b01_or, ne_eq, reduceCtorEq, not_false_eq_true, Nat.reduceEqDiff, if_true, if_false, ite_true, ite_false, Int.natCast_nonneg, not_true_eq_false, Bool.true_eq_false, Bool.false_eq_true, Int.reduceEq, Int.reduceLT, Int.reduceLE, Int.reduceToNat, and_self, inA, exists_eq, or_true, true_or, or_false, false_or, and_false, false_and, or_self, Nat.reduceLT, rq_4]
    exact hrun _ ⟨rfl, rfl⟩
  have e0 : lawF (h (8 + m) 9 2) g 200 V 0 0 = (if (itS g V 0).1 = true then tlF (h (8 + m) 9 2) g 199 (itS g V 0).2.2 (itS g V 0).2.1 1 else (false, (itS g V 0).2.1, V)) := law_tl _ _ 199 V 0 0
  rw [r99_52]
  simp only [r99_54, r99_57, r99_60, r99_61, r99_64, r99_67, r99_70, r99_71, r99_74, r99_77, r99_80, reduceIte, Option.some.injEq, and_assoc, exists_and_left, exists_eq_left, exists_eq_left', true_and, and_true, List.length_cons, List.length_nil, Nat.reduceAdd, Nat.reduceLeDiff, Sum.inl.injEq, az_0, az_1, az_2, az_3, az_4, az_5, az_6, az_8, az_11, az_14, az_15, az_17, az_20, az_21, az_22, az_23, az_24, az_25, az_26, az_28, az_29, az_30, az_31, az_32, az_33, az_34, az_35, az_36, ak_0, ak_1, ak_2, ak_3, ak_4, ak_5, ak_6, ak_8, ak_11, ak_14, ak_15, ak_17, ak_20, ak_21, ak_22, ak_23, ak_24, ak_25, ak_26, ak_28, ak_29, ak_30, ak_31, ak_32, ak_33, ak_34, ak_35, ak_36, ak_37, eq_self, Int.toNat_natCast, Nat.zero_le, bI_0, b01_0, bI_or, b01_or, ne_eq, reduceCtorEq, not_false_eq_true, Nat.reduceEqDiff, if_true, if_false, ite_true, ite_false, Int.natCast_nonneg, not_true_eq_false, Bool.true_eq_false, Bool.false_eq_true, Int.reduceEq, Int.reduceLT, Int.reduceLE, Int.reduceToNat, and_self, inA, exists_eq, or_true, true_or, or_false, false_or, and_false, false_and, or_self, Nat.reduceLT, CallR_iff (sr_goesOn O), bI_T, CallR_iff hcall, show wr (0 + 1) = 1 by decide]
  rcases hres with ⟨r1, ns', rfl⟩ | ⟨r1, W', a', ns', rfl⟩
  · have hp := it_posX O r1
    rw [if_pos r1] at e0
    exact lx_after O 199 _ _ 1 ns' (it_ok hw) (by omega) hp.2.1 (by omega) (by omega) Q (fun W' a' ns' it' ft' t hF => hQ W' a' ns' it' ft' t (by rw [e0]; exact hF))
  · rw [if_neg (by rw [r1]; decide)] at e0
    have hfin := fun t => hQ W' a' ns' 1 ((itS g V 0).2.1 : Int) t (Or.inr ⟨by rw [e0], by rw [e0]⟩)
    rw [r99_52]
    simp only [r99_54, r99_57, r99_60, r99_61, r99_64, r99_67, r99_70, r99_71, r99_74, r99_77, r99_80, reduceIte, Option.some.injEq, and_assoc, exists_and_left, exists_eq_left, exists_eq_left', true_and, and_true, List.length_cons, List.length_nil, Nat.reduceAdd, Nat.reduceLeDiff, Sum.inl.injEq, az_0, az_1, az_2, az_3, az_4, az_5, az_6, az_8, az_11, az_14, az_15, az_17, az_20, az_21, az_22, az_23, az_24, az_25, az_26, az_28, az_29, az_30, az_31, az_32, az_33, az_34, az_35, az_36, ak_0, ak_1, ak_2, ak_3, ak_4, ak_5, ak_6, ak_8, ak_11, ak_14, ak_15, ak_17, ak_20, ak_21, ak_22, ak_23, ak_24, ak_25, ak_26, ak_28, ak_29, ak_30, ak_31, ak_32, ak_33, ak_34, ak_35, ak_36, ak_37, eq_self, Int.toNat_natCast, Nat.zero_le, bI_0, b01_0, bI_or, b01_or, ne_eq, reduceCtorEq, not_false_eq_true, Nat.reduceEqDiff, if_true, if_false, ite_true, ite_false, Int.natCast_nonneg, not_true_eq_false, Bool.true_eq_false, Bool.false_eq_true, Int.reduceEq, Int.reduceLT, Int.reduceLE, Int.reduceToNat, and_self, inA, exists_eq, or_true, true_or, or_false, false_or, and_false, false_and, or_self, Nat.reduceLT, show ¬ (160 < (1 : Int)) by decide, CallR_iff (sr_goesOn O), fpos', bI_F, show (0 + 1 : Int) = 1 by decide]
    exact hfin _
/-! the reference's loop -/
theorem MDO.lfr {U U' : VS} {s : Nat} {g : Nat → Int} (O : MDO U s g) (F : LFR U U') : MDO U' s g := by
  obtain ⟨o1, o2, o3, o4, o5⟩ := O
  have e9 := F.1 9 (by omega) (by omega)
  have e10 := F.1 10 (by omega) (by omega)
  have e23 := F.2 23 (by omega) (by omega)
  refine ⟨o1, by rw [e23]; exact o2, by rw [e9]; exact o3, by rw [e9]; exact o4, fun j => ?_⟩
  rw [e9, e10]
  exact o5 j
theorem MH_id (h : AH) (U : VS) {x : Int} (e : U 7 24 = x) : fup h 17 (setRV (h 17) U) = MH h U x (U 16) := by
  unfold MH
  rw [← e, stU_id]
theorem lm_law {d : Nat} {h : AH} {s : Nat} {g : Nat → Int} : ∀ (k : Nat) (U : VS) (i n : Nat), MDO U s g → WF U → U 7 24 = (i : Int) → U 9 s + 1 ≤ (i : Int) + k → (i : Int) ≤ U 9 s → n ≤ i → ∀ Q : Option AV → AH → Prop, (∀ U', LFR U U' → EV U' (lawF (U 9 s) g k U i n).2.2 → (lawF (U 9 s) g k U i n).1 = true → Q (some (vI ((lawF (U 9 s) g k U i n).2.1 : Int))) (fup h 17 (setRV (h 17) (fup U' 7 (fup (U' 7) 20 (-1)))))) → (∀ U' (z : Int), LFR U U' → WF U' → (lawF (U 9 s) g k U i n).1 = false → U' 7 24 = ((lawF (U 9 s) g k U i n).2.1 : Int) → At (CallR (d + 10)) ac_181 99 [vR 17 27, vI s, vI 0, vI z, vI 0] [] (fup h 17 (setRV (h 17) U')) Q) → At (CallR (d + 10)) ac_181 39 [vR 17 27, vI s, vI 0, vI (n : Int), vI 1] [] (fup h 17 (setRV (h 17) U)) Q
  | 0, U, i, n, O, hw, hat, hf, hi, hn, Q, hok, hbad => by omega
  | k + 1, U, i, n, O, hw, hat, hf, hi, hn, Q, hok, hbad => by
    have o4 := O.2.2.2.1
    have o1 := O.1
    have h8 : (s : Int) < 8 := by omega
    have ks := wr_s (show n < 2147483647 by omega)
    obtain ⟨h', hcall, U', rfl, u24, uF, uE⟩ := sm_item (d := d + 1) (h := h) (r := U 16) (i := i) O (by omega) hw
    have O' := O.lfr uF
    have e9 : U' 9 = U 9 := uF.1 9 (by omega) (by omega)
    have hwU' : WF U' := uE.sy.wf (it_ok hw)
    rw [MH_id h U hat, r181_39]
    cases e1 : (itS g U i).1
    · rw [e1] at hcall
      have el : lawF (U 9 s) g (k + 1) U i n = (false, (itS g U i).2.1, U) := by
        rw [law_tl, if_neg (by rw [e1]; decide)]
      have hb := hbad U' (n : Int) uF hwU' (by rw [el]) (by rw [el]; exact u24)
      simp only [r181_41, r181_44, r181_45, r181_48, r181_50, r181_52, r181_55, r181_58, r181_60, r181_63, r181_64, r181_67, r181_68, r181_71, r181_72, r181_73, r181_76, r181_77, r181_78, r181_81, r181_82, r181_83, r181_85, r181_88, r181_89, r181_91, r181_94, r181_96, reduceIte, Option.some.injEq, and_assoc, exists_and_left, exists_eq_left, exists_eq_left', true_and, and_true, List.length_cons, List.length_nil, Nat.reduceAdd, Nat.reduceLeDiff, Sum.inl.injEq, az_0, az_1, az_2, az_3, az_4, az_5, az_6, az_8, az_11, az_14, az_15, az_17, az_20, az_21, az_22, az_23, az_24, az_25, az_26, az_28, az_29, az_30, az_31, az_32, az_33, az_34, az_35, az_36, ak_0, ak_1, ak_2, ak_3, ak_4, ak_5, ak_6, ak_8, ak_11, ak_14, ak_15, ak_17, ak_20, ak_21, ak_22, ak_23, ak_24, ak_25, ak_26, ak_28, ak_29, ak_30, ak_31, ak_32, ak_33, ak_34, ak_35, ak_36, ak_37, eq_self, Int.toNat_natCast, Nat.zero_le, bI_0, b01_0, bI_or, b01_or, ne_eq, reduceCtorEq, not_false_eq_true, Nat.reduceEqDiff, if_true, if_false, ite_true, ite_false, Int.natCast_nonneg, not_true_eq_false, Bool.true_eq_false, Bool.false_eq_true, Int.reduceEq, Int.reduceLT, Int.reduceLE, Int.reduceToNat, and_self, inA, exists_eq, or_true, true_or, or_false, false_or, and_false, false_and, or_self, Nat.reduceLT, CallR_iff hcall]
      rw [r181_39]
      simp only [r181_41, r181_44, r181_45, r181_48, r181_50, r181_52, r181_55, r181_58, r181_60, r181_63, r181_64, r181_67, r181_68, r181_71, r181_72, r181_73, r181_76, r181_77, r181_78, r181_81, r181_82, r181_83, r181_85, r181_88, r181_89, r181_91, r181_94, r181_96, reduceIte, Option.some.injEq, and_assoc, exists_and_left, exists_eq_left, exists_eq_left', true_and, and_true, List.length_cons, List.length_nil, Nat.reduceAdd, Nat.reduceLeDiff, Sum.inl.injEq, az_0, az_1, az_2, az_3, az_4, az_5, az_6, az_8, az_11, az_14, az_15, az_17, az_20, az_21, az_22, az_23, az_24, az_25, az_26, az_28, az_29, az_30, az_31, az_32, az_33, az_34, az_35, az_36, ak_0, ak_1, ak_2, ak_3, ak_4, ak_5, ak_6, ak_8, ak_11, ak_14, ak_15, ak_17, ak_20, ak_21, ak_22, ak_23, ak_24, ak_25, ak_26, ak_28, ak_29, ak_30, ak_31, ak_32, ak_33, ak_34, ak_35, ak_36, ak_37, eq_self, Int.toNat_natCast, Nat.zero_le, bI_0, b01_0, bI_or, b01_or, ne_eq, reduceCtorEq, not_false_eq_true, Nat.reduceEqDiff, if_true, if_false, ite_true, ite_false, Int.natCast_nonneg, not_true_eq_false, Bool.true_eq_false, Bool.false_eq_true, Int.reduceEq, Int.reduceLT, Int.reduceLE, Int.reduceToNat, and_self, inA, exists_eq, or_true, true_or, or_false, false_or, and_false, false_and, or_self, Nat.reduceLT]
      exact hb
    · rw [e1] at hcall
      have hp := it_pos O e1
      have el : lawF (U 9 s) g (k + 1) U i n = tlF (U 9 s) g k (itS g U i).2.2 (itS g U i).2.1 (n + 1) := by
        rw [law_tl, if_pos e1]
      rw [MH_id h U' u24] at hcall
      have k20 : ∀ (x y : Int) (r : Nat → Int), up3 (MH h U' x r) 17 27 20 y = fup h 17 (setRV (h 17) (fup (stU U' x r) 7 (fup (stU U' x r 7) 20 y))) := fun x y r => mh_u7
      by_cases hL : ((itS g U i).2.1 : Int) = U 9 s
      · have et : lawF (U 9 s) g (k + 1) U i n = (true, n + 1, (itS g U i).2.2) := by rw [el]; unfold tlF; rw [if_pos hL]
        have ho := hok U' uF (by rw [et]; exact uE) (by rw [et])
        rw [et] at ho
        have es : stU U' ((itS g U i).2.1 : Int) (U' 16) = U' := by rw [← u24, stU_id]
        simp only [r181_41, r181_44, r181_45, r181_48, r181_50, r181_52, r181_55, r181_58, r181_60, r181_63, r181_64, r181_67, r181_68, r181_71, r181_72, r181_73, r181_76, r181_77, r181_78, r181_81, r181_82, r181_83, r181_85, r181_88, r181_89, r181_91, r181_94, r181_96, reduceIte, Option.some.injEq, and_assoc, exists_and_left, exists_eq_left, exists_eq_left', true_and, and_true, List.length_cons, List.length_nil, Nat.reduceAdd, Nat.reduceLeDiff, Sum.inl.injEq, az_0, az_1, az_2, az_3, az_4, az_5, az_6, az_8, az_11, az_14, az_15, az_17, az_20, az_21, az_22, az_23, az_24, az_25, az_26, az_28, az_29, az_30, az_31, az_32, az_33, az_34, az_35, az_36, ak_0, ak_1, ak_2, ak_3, ak_4, ak_5, ak_6, ak_8, ak_11, ak_14, ak_15, ak_17, ak_20, ak_21, ak_22, ak_23, ak_24, ak_25, ak_26, ak_28, ak_29, ak_30, ak_31, ak_32, ak_33, ak_34, ak_35, ak_36, ak_37, eq_self, Int.toNat_natCast, Nat.zero_le, bI_0, b01_0, bI_or, b01_or, ne_eq, reduceCtorEq, not_false_eq_true, Nat.reduceEqDiff, if_true, if_false, ite_true, ite_false, Int.natCast_nonneg, not_true_eq_false, Bool.true_eq_false, Bool.false_eq_true, Int.reduceEq, Int.reduceLT, Int.reduceLE, Int.reduceToNat, and_self, inA, exists_eq, or_true, true_or, or_false, false_or, and_false, false_and, or_self, Nat.reduceLT, CallR_iff hcall, b01, mh_24, mh_9, e9, h8, hL, ks]
        rw [← hL]
        simp only [k20, es]
        exact ho
      · have hsi := sm_is (d := d + 8) (h := h) (U := U') (r := U' 16) (i := (itS g U i).2.1) (c := 59) O' (by decide) (by omega)
        by_cases h59 : g (itS g U i).2.1 = 59
        · rw [if_pos h59, if_pos h59] at hsi
          have et : lawF (U 9 s) g (k + 1) U i n = lawF (U 9 s) g k (itS g U i).2.2 ((itS g U i).2.1 + 1) (n + 1) := by rw [el]; unfold tlF; rw [if_neg hL, if_pos h59]
          have F2 : LFR U (stU U' (((itS g U i).2.1 + 1 : Nat) : Int) (U' 16)) := uF.tr (LFR.st _ _ _)
          have E2 : EV (stU U' (((itS g U i).2.1 + 1 : Nat) : Int) (U' 16)) (itS g U i).2.2 := (stU_EV _ _ _).tr uE
          have c2 := EV.c_law (U 9 s) g k ((itS g U i).2.1 + 1) (n + 1) E2
          have e92 : stU U' (((itS g U i).2.1 + 1 : Nat) : Int) (U' 16) 9 = U 9 := F2.1 9 (by omega) (by omega)
          have ih := lm_law (d := d) (h := h) (s := s) (g := g) k (stU U' (((itS g U i).2.1 + 1 : Nat) : Int) (U' 16)) ((itS g U i).2.1 + 1) (n + 1) (O.lfr F2) (E2.sy.wf (it_ok hw)) rfl (by rw [e92]; omega) (by rw [e92]; omega) (by omega) Q
          rw [e92] at ih
          have ih2 := ih (fun V' f1 f2 f3 => by
            have := hok V' (F2.tr f1) (by rw [et]; exact f2.tr c2.2.2) (by rw [et, ← c2.1]; exact f3)
            rw [et, ← c2.2.1] at this
            exact this) (fun V' z f1 f2 f3 f4 => hbad V' z (F2.tr f1) f2 (by rw [et, ← c2.1]; exact f3) (by rw [et, ← c2.2.1]; exact f4))
          simp only [r181_41, r181_44, r181_45, r181_48, r181_50, r181_52, r181_55, r181_58, r181_60, r181_63, r181_64, r181_67, r181_68, r181_71, r181_72, r181_73, r181_76, r181_77, r181_78, r181_81, r181_82, r181_83, r181_85, r181_88, r181_89, r181_91, r181_94, r181_96, reduceIte, Option.some.injEq, and_assoc, exists_and_left, exists_eq_left, exists_eq_left', true_and, and_true, List.length_cons, List.length_nil, Nat.reduceAdd, Nat.reduceLeDiff, Sum.inl.injEq, az_0, az_1, az_2, az_3, az_4, az_5, az_6, az_8, az_11, az_14, az_15, az_17, az_20, az_21, az_22, az_23, az_24, az_25, az_26, az_28, az_29, az_30, az_31, az_32, az_33, az_34, az_35, az_36, ak_0, ak_1, ak_2, ak_3, ak_4, ak_5, ak_6, ak_8, ak_11, ak_14, ak_15, ak_17, ak_20, ak_21, ak_22, ak_23, ak_24, ak_25, ak_26, ak_28, ak_29, ak_30, ak_31, ak_32, ak_33, ak_34, ak_35, ak_36, ak_37, eq_self, Int.toNat_natCast, Nat.zero_le, bI_0, b01_0, bI_or, b01_or, ne_eq, reduceCtorEq, not_false_eq_true, Nat.reduceEqDiff, if_true, if_false, ite_true, ite_false, Int.natCast_nonneg, not_true_eq_false, Bool.true_eq_false, Bool.false_eq_true, Int.reduceEq, Int.reduceLT, Int.reduceLE, Int.reduceToNat, and_self, inA, exists_eq, or_true, true_or, or_false, false_or, and_false, false_and, or_self, Nat.reduceLT, CallR_iff hcall, b01, mh_24, mh_9, e9, h8, hL, ks, CallR_iff hsi]
          exact ih2
        · rw [if_neg h59, if_neg h59] at hsi
          have et : lawF (U 9 s) g (k + 1) U i n = (false, (itS g U i).2.1, (itS g U i).2.2) := by rw [el]; unfold tlF; rw [if_neg hL, if_neg h59]
          have hb := hbad U' ((n + 1 : Nat) : Int) uF hwU' (by rw [et]) (by rw [et]; exact u24)
          rw [MH_id h U' u24] at hb
          simp only [r181_41, r181_44, r181_45, r181_48, r181_50, r181_52, r181_55, r181_58, r181_60, r181_63, r181_64, r181_67, r181_68, r181_71, r181_72, r181_73, r181_76, r181_77, r181_78, r181_81, r181_82, r181_83, r181_85, r181_88, r181_89, r181_91, r181_94, r181_96, reduceIte, Option.some.injEq, and_assoc, exists_and_left, exists_eq_left, exists_eq_left', true_and, and_true, List.length_cons, List.length_nil, Nat.reduceAdd, Nat.reduceLeDiff, Sum.inl.injEq, az_0, az_1, az_2, az_3, az_4, az_5, az_6, az_8, az_11, az_14, az_15, az_17, az_20, az_21, az_22, az_23, az_24, az_25, az_26, az_28, az_29, az_30, az_31, az_32, az_33, az_34, az_35, az_36, ak_0, ak_1, ak_2, ak_3, ak_4, ak_5, ak_6, ak_8, ak_11, ak_14, ak_15, ak_17, ak_20, ak_21, ak_22, ak_23, ak_24, ak_25, ak_26, ak_28, ak_29, ak_30, ak_31, ak_32, ak_33, ak_34, ak_35, ak_36, ak_37, eq_self, Int.toNat_natCast, Nat.zero_le, bI_0, b01_0, bI_or, b01_or, ne_eq, reduceCtorEq, not_false_eq_true, Nat.reduceEqDiff, if_true, if_false, ite_true, ite_false, Int.natCast_nonneg, not_true_eq_false, Bool.true_eq_false, Bool.false_eq_true, Int.reduceEq, Int.reduceLT, Int.reduceLE, Int.reduceToNat, and_self, inA, exists_eq, or_true, true_or, or_false, false_or, and_false, false_and, or_self, Nat.reduceLT, CallR_iff hcall, b01, mh_24, mh_9, e9, h8, hL, ks, CallR_iff hsi]
          rw [r181_39]
          simp only [r181_41, r181_44, r181_45, r181_48, r181_50, r181_52, r181_55, r181_58, r181_60, r181_63, r181_64, r181_67, r181_68, r181_71, r181_72, r181_73, r181_76, r181_77, r181_78, r181_81, r181_82, r181_83, r181_85, r181_88, r181_89, r181_91, r181_94, r181_96, reduceIte, Option.some.injEq, and_assoc, exists_and_left, exists_eq_left, exists_eq_left', true_and, and_true, List.length_cons, List.length_nil, Nat.reduceAdd, Nat.reduceLeDiff, Sum.inl.injEq, az_0, az_1, az_2, az_3, az_4, az_5, az_6, az_8, az_11, az_14, az_15, az_17, az_20, az_21, az_22, az_23, az_24, az_25, az_26, az_28, az_29, az_30, az_31, az_32, az_33, az_34, az_35, az_36, ak_0, ak_1, ak_2, ak_3, ak_4, ak_5, ak_6, ak_8, ak_11, ak_14, ak_15, ak_17, ak_20, ak_21, ak_22, ak_23, ak_24, ak_25, ak_26, ak_28, ak_29, ak_30, ak_31, ak_32, ak_33, ak_34, ak_35, ak_36, ak_37, eq_self, Int.toNat_natCast, Nat.zero_le, bI_0, b01_0, bI_or, b01_or, ne_eq, reduceCtorEq, not_false_eq_true, Nat.reduceEqDiff, if_true, if_false, ite_true, ite_false, Int.natCast_nonneg, not_true_eq_false, Bool.true_eq_false, Bool.false_eq_true, Int.reduceEq, Int.reduceLT, Int.reduceLE, Int.reduceToNat, and_self, inA, exists_eq, or_true, true_or, or_false, false_or, and_false, false_and, or_self, Nat.reduceLT]
          exact hb
