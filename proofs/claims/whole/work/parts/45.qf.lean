/-! PURE: each, richest, season, image, restore -/
def ecF (V : VS) (w : Int) (b : Nat) : Int := if V 5 b ≠ 200 ∧ clsF (V 4 b) = w then 1 else 0
theorem ec_bd (V : VS) (w : Int) (n : Nat) : 0 ≤ sumN (ecF V w) n ∧ sumN (ecF V w) n ≤ n := by
  have := sumN_bd (f := ecF V w) (B := 1) n (fun j _ => by unfold ecF; split <;> omega)
  omega
theorem ok_each {S : VS} {d : Nat} {h : AH} {w : Int} (R : REL S h) : OKI S d 124 219 [vI w] h := by
  have E := R.ev
  have hw := R.w
  have hw0 := R.w0
  obtain ⟨b1, b2, b3, b4⟩ := hw.bd
  have e78 : h 0 7 8 = h 17 27 8 := E.at7 (k := 8) (by omega) (by omega)
  have e4 : h 0 4 = h 17 24 := E.2.2.2.1
  have e5 : h 0 5 = h 17 25 := E.2.2.2.2.1
  have hP : ((nB (RV (h 17)) : Nat) : Int) = h 17 27 8 := by unfold nB; rw [RV_7] at b3 ⊢; omega
  rw [RV_7] at b3 b4
  by_cases hw3 : 0 ≤ w ∧ w ≤ 3
  · have hn : ¬ ((nB (RV (h 17)) : Nat) : Int) < h 17 27 8 := by omega
    have step : ∀ i, i < nB (RV (h 17)) → (((i : Int) < h 17 27 8 ∧ (i : Int) < 12) ∧ wr (sumN (ecF (RV (h 17)) w) i + 1) = sumN (ecF (RV (h 17)) w) i + 1 ∧ sumN (ecF (RV (h 17)) w) (i + 1) = if h 17 25 i = 200 then sumN (ecF (RV (h 17)) w) i else if clsF (h 17 24 i) = w then sumN (ecF (RV (h 17)) w) i + 1 else sumN (ecF (RV (h 17)) w) i) := by
      intro i hi
      have hb := ec_bd (RV (h 17)) w i
      refine ⟨by omega, wr_id (by omega) (by omega), ?_⟩
      show sumN (ecF (RV (h 17)) w) i + ecF (RV (h 17)) w i = _
      unfold ecF
      rw [RV_4, RV_5]
      by_cases a : h 17 25 i = 200
      · simp [a]
      · by_cases c : clsF (h 17 24 i) = w
        · simp [a, c]
        · simp [a, c]
    refine ⟨sumN (ecF (RV (h 17)) w) (nB (RV (h 17))), h, h, ?_, ?_, R⟩
    · have L := lo_up (P := fun i => At (CallR (d + 29)) ac_124 20 [vR 16 10, vI w, vI (sumN (ecF (RV (h 17)) w) i), vI (i : Int)] [] h (fun v' h2 => v' = some (vI (sumN (ecF (RV (h 17)) w) (nB (RV (h 17))))) ∧ h2 = h)) (nB (RV (h 17))) (fun i hi => by
        obtain ⟨⟨h1, h2⟩, e1, e2⟩ := step i hi
        rw [e2, r124_20]
        simp only [r124_21, r124_22, r124_25, r124_28, r124_31, r124_32, r124_35, r124_36, r124_39, r124_42, r124_45, r124_46, r124_49, r124_50, r124_53, r124_54, r124_57, r124_60, r124_63, r124_66, r124_67, reduceIte, Option.some.injEq, and_assoc, exists_and_left, exists_eq_left, exists_eq_left', true_and, and_true, List.length_cons, List.length_nil, Nat.reduceAdd, Nat.reduceLeDiff, Sum.inl.injEq, az_0, az_1, az_2, az_3, az_4, az_5, az_6, az_8, az_11, az_14, az_15, az_17, az_20, az_21, az_22, az_23, az_24, az_25, az_26, az_28, az_29, az_30, az_31, az_32, az_33, az_34, az_35, az_36, ak_0, ak_1, ak_2, ak_3, ak_4, ak_5, ak_6, ak_8, ak_11, ak_14, ak_15, ak_17, ak_20, ak_21, ak_22, ak_23, ak_24, ak_25, ak_26, ak_28, ak_29, ak_30, ak_31, ak_32, ak_33, ak_34, ak_35, ak_36, ak_37, eq_self, Int.toNat_natCast, Nat.zero_le, bI_0, b01_0, bI_or, b01_or, ne_eq, reduceCtorEq, not_false_eq_true, Nat.reduceEqDiff, if_true, if_false, ite_true, ite_false, Int.natCast_nonneg, not_true_eq_false, Bool.true_eq_false, Bool.false_eq_true, Int.reduceEq, Int.reduceLT, Int.reduceLE, Int.reduceToNat, and_self, inA, exists_eq, or_true, true_or, or_false, false_or, and_false, false_and, or_self, CallR_iff sp_spotOf, CallR_iff sp_classOf, e78, e4, e5, h1, h2, e1, wr_s (show i < 2147483647 by omega)]
        by_cases a : h 17 25 i = 200
        · simp only [a, if_true]
        · by_cases c : clsF (h 17 24 i) = w
          · simp only [a, c, if_true, if_false]
          · simp only [a, c, if_true, if_false])
      (rw [cr_124]; simp only [r124_0, r124_1, r124_2, r124_3, r124_6, r124_9, r124_10, r124_12, r124_15, r124_16, r124_17, r124_18, r124_19, CallR_iff sx_within, hw3, reduceIte, Option.some.injEq, and_assoc, exists_and_left, exists_eq_left, exists_eq_left', true_and, and_true, List.length_cons, List.length_nil, Nat.reduceAdd, Nat.reduceLeDiff, Sum.inl.injEq, az_0, az_1, az_2, az_3, az_4, az_5, az_6, az_8, az_11, az_14, az_15, az_17, az_20, az_21, az_22, az_23, az_24, az_25, az_26, az_28, az_29, az_30, az_31, az_32, az_33, az_34, az_35, az_36, ak_0, ak_1, ak_2, ak_3, ak_4, ak_5, ak_6, ak_8, ak_11, ak_14, ak_15, ak_17, ak_20, ak_21, ak_22, ak_23, ak_24, ak_25, ak_26, ak_28, ak_29, ak_30, ak_31, ak_32, ak_33, ak_34, ak_35, ak_36, ak_37, eq_self, Int.toNat_natCast, Nat.zero_le, bI_0, b01_0, bI_or, b01_or, ne_eq, reduceCtorEq, not_false_eq_true, Nat.reduceEqDiff, if_true, if_false, ite_true, ite_false, Int.natCast_nonneg, not_true_eq_false, Bool.true_eq_false, Bool.false_eq_true, Int.reduceEq, Int.reduceLT, Int.reduceLE, Int.reduceToNat, and_self, inA, exists_eq, or_true, true_or, or_false, false_or, and_false, false_and, or_self])
      refine L.mpr ?_
      rw [r124_20]
      simp only [r124_21, r124_22, r124_25, r124_28, r124_31, r124_32, r124_35, r124_36, r124_39, r124_42, r124_45, r124_46, r124_49, r124_50, r124_53, r124_54, r124_57, r124_60, r124_63, r124_66, r124_67, reduceIte, Option.some.injEq, and_assoc, exists_and_left, exists_eq_left, exists_eq_left', true_and, and_true, List.length_cons, List.length_nil, Nat.reduceAdd, Nat.reduceLeDiff, Sum.inl.injEq, az_0, az_1, az_2, az_3, az_4, az_5, az_6, az_8, az_11, az_14, az_15, az_17, az_20, az_21, az_22, az_23, az_24, az_25, az_26, az_28, az_29, az_30, az_31, az_32, az_33, az_34, az_35, az_36, ak_0, ak_1, ak_2, ak_3, ak_4, ak_5, ak_6, ak_8, ak_11, ak_14, ak_15, ak_17, ak_20, ak_21, ak_22, ak_23, ak_24, ak_25, ak_26, ak_28, ak_29, ak_30, ak_31, ak_32, ak_33, ak_34, ak_35, ak_36, ak_37, eq_self, Int.toNat_natCast, Nat.zero_le, bI_0, b01_0, bI_or, b01_or, ne_eq, reduceCtorEq, not_false_eq_true, Nat.reduceEqDiff, if_true, if_false, ite_true, ite_false, Int.natCast_nonneg, not_true_eq_false, Bool.true_eq_false, Bool.false_eq_true, Int.reduceEq, Int.reduceLT, Int.reduceLE, Int.reduceToNat, and_self, inA, exists_eq, or_true, true_or, or_false, false_or, and_false, false_and, or_self, e78, hn]
    · have L := lo_up (P := fun i => At (CallR (d + 29)) ac_219 20 [vR 17 27, vI w, vI (sumN (ecF (RV (h 17)) w) i), vI (i : Int)] [] h (fun v' h2 => v' = some (vI (sumN (ecF (RV (h 17)) w) (nB (RV (h 17))))) ∧ h2 = h)) (nB (RV (h 17))) (fun i hi => by
        obtain ⟨⟨h1, h2⟩, e1, e2⟩ := step i hi
        rw [e2, r219_20]
        simp only [r219_21, r219_22, r219_25, r219_28, r219_29, r219_32, r219_33, r219_34, r219_37, r219_40, r219_41, r219_44, r219_45, r219_46, r219_49, r219_50, r219_53, r219_56, r219_59, r219_62, r219_63, reduceIte, Option.some.injEq, and_assoc, exists_and_left, exists_eq_left, exists_eq_left', true_and, and_true, List.length_cons, List.length_nil, Nat.reduceAdd, Nat.reduceLeDiff, Sum.inl.injEq, az_0, az_1, az_2, az_3, az_4, az_5, az_6, az_8, az_11, az_14, az_15, az_17, az_20, az_21, az_22, az_23, az_24, az_25, az_26, az_28, az_29, az_30, az_31, az_32, az_33, az_34, az_35, az_36, ak_0, ak_1, ak_2, ak_3, ak_4, ak_5, ak_6, ak_8, ak_11, ak_14, ak_15, ak_17, ak_20, ak_21, ak_22, ak_23, ak_24, ak_25, ak_26, ak_28, ak_29, ak_30, ak_31, ak_32, ak_33, ak_34, ak_35, ak_36, ak_37, eq_self, Int.toNat_natCast, Nat.zero_le, bI_0, b01_0, bI_or, b01_or, ne_eq, reduceCtorEq, not_false_eq_true, Nat.reduceEqDiff, if_true, if_false, ite_true, ite_false, Int.natCast_nonneg, not_true_eq_false, Bool.true_eq_false, Bool.false_eq_true, Int.reduceEq, Int.reduceLT, Int.reduceLE, Int.reduceToNat, and_self, inA, exists_eq, or_true, true_or, or_false, false_or, and_false, false_and, or_self, CallR_iff sm_classOf, h1, h2, e1, wr_s (show i < 2147483647 by omega)]
        by_cases a : h 17 25 i = 200
        · simp only [a, if_true]
        · by_cases c : clsF (h 17 24 i) = w
          · simp only [a, c, if_true, if_false]
          · simp only [a, c, if_true, if_false])
      (rw [cr_219]; simp only [r219_0, r219_1, r219_2, r219_3, r219_6, r219_9, r219_10, r219_12, r219_15, r219_16, r219_17, r219_18, r219_19, CallR_iff sm_within, hw3, reduceIte, Option.some.injEq, and_assoc, exists_and_left, exists_eq_left, exists_eq_left', true_and, and_true, List.length_cons, List.length_nil, Nat.reduceAdd, Nat.reduceLeDiff, Sum.inl.injEq, az_0, az_1, az_2, az_3, az_4, az_5, az_6, az_8, az_11, az_14, az_15, az_17, az_20, az_21, az_22, az_23, az_24, az_25, az_26, az_28, az_29, az_30, az_31, az_32, az_33, az_34, az_35, az_36, ak_0, ak_1, ak_2, ak_3, ak_4, ak_5, ak_6, ak_8, ak_11, ak_14, ak_15, ak_17, ak_20, ak_21, ak_22, ak_23, ak_24, ak_25, ak_26, ak_28, ak_29, ak_30, ak_31, ak_32, ak_33, ak_34, ak_35, ak_36, ak_37, eq_self, Int.toNat_natCast, Nat.zero_le, bI_0, b01_0, bI_or, b01_or, ne_eq, reduceCtorEq, not_false_eq_true, Nat.reduceEqDiff, if_true, if_false, ite_true, ite_false, Int.natCast_nonneg, not_true_eq_false, Bool.true_eq_false, Bool.false_eq_true, Int.reduceEq, Int.reduceLT, Int.reduceLE, Int.reduceToNat, and_self, inA, exists_eq, or_true, true_or, or_false, false_or, and_false, false_and, or_self])
      refine L.mpr ?_
      rw [r219_20]
      simp only [r219_21, r219_22, r219_25, r219_28, r219_29, r219_32, r219_33, r219_34, r219_37, r219_40, r219_41, r219_44, r219_45, r219_46, r219_49, r219_50, r219_53, r219_56, r219_59, r219_62, r219_63, reduceIte, Option.some.injEq, and_assoc, exists_and_left, exists_eq_left, exists_eq_left', true_and, and_true, List.length_cons, List.length_nil, Nat.reduceAdd, Nat.reduceLeDiff, Sum.inl.injEq, az_0, az_1, az_2, az_3, az_4, az_5, az_6, az_8, az_11, az_14, az_15, az_17, az_20, az_21, az_22, az_23, az_24, az_25, az_26, az_28, az_29, az_30, az_31, az_32, az_33, az_34, az_35, az_36, ak_0, ak_1, ak_2, ak_3, ak_4, ak_5, ak_6, ak_8, ak_11, ak_14, ak_15, ak_17, ak_20, ak_21, ak_22, ak_23, ak_24, ak_25, ak_26, ak_28, ak_29, ak_30, ak_31, ak_32, ak_33, ak_34, ak_35, ak_36, ak_37, eq_self, Int.toNat_natCast, Nat.zero_le, bI_0, b01_0, bI_or, b01_or, ne_eq, reduceCtorEq, not_false_eq_true, Nat.reduceEqDiff, if_true, if_false, ite_true, ite_false, Int.natCast_nonneg, not_true_eq_false, Bool.true_eq_false, Bool.false_eq_true, Int.reduceEq, Int.reduceLT, Int.reduceLE, Int.reduceToNat, and_self, inA, exists_eq, or_true, true_or, or_false, false_or, and_false, false_and, or_self, hn]
  · refine R.refused (c := -5) (x := -5) ?_ (fun h1 e => ?_)
    · (rw [cr_124]; simp only [r124_0, r124_1, r124_2, r124_3, r124_6, r124_9, r124_10, r124_12, r124_15, r124_16, r124_17, r124_18, r124_19, CallR_iff sx_within, hw3, CallR_iff (sx_refuse (c := -5) (by decide) (by decide)), reduceIte, Option.some.injEq, and_assoc, exists_and_left, exists_eq_left, exists_eq_left', true_and, and_true, List.length_cons, List.length_nil, Nat.reduceAdd, Nat.reduceLeDiff, Sum.inl.injEq, az_0, az_1, az_2, az_3, az_4, az_5, az_6, az_8, az_11, az_14, az_15, az_17, az_20, az_21, az_22, az_23, az_24, az_25, az_26, az_28, az_29, az_30, az_31, az_32, az_33, az_34, az_35, az_36, ak_0, ak_1, ak_2, ak_3, ak_4, ak_5, ak_6, ak_8, ak_11, ak_14, ak_15, ak_17, ak_20, ak_21, ak_22, ak_23, ak_24, ak_25, ak_26, ak_28, ak_29, ak_30, ak_31, ak_32, ak_33, ak_34, ak_35, ak_36, ak_37, eq_self, Int.toNat_natCast, Nat.zero_le, bI_0, b01_0, bI_or, b01_or, ne_eq, reduceCtorEq, not_false_eq_true, Nat.reduceEqDiff, if_true, if_false, ite_true, ite_false, Int.natCast_nonneg, not_true_eq_false, Bool.true_eq_false, Bool.false_eq_true, Int.reduceEq, Int.reduceLT, Int.reduceLE, Int.reduceToNat, and_self, inA, exists_eq, or_true, true_or, or_false, false_or, and_false, false_and, or_self])
    · (rw [cr_219]; simp only [r219_0, r219_1, r219_2, r219_3, r219_6, r219_9, r219_10, r219_12, r219_15, r219_16, r219_17, r219_18, r219_19, CallR_iff sm_within, hw3, CallR_iff (sm_no (c := -5) (by decide) (by decide)), reduceIte, Option.some.injEq, and_assoc, exists_and_left, exists_eq_left, exists_eq_left', true_and, and_true, List.length_cons, List.length_nil, Nat.reduceAdd, Nat.reduceLeDiff, Sum.inl.injEq, az_0, az_1, az_2, az_3, az_4, az_5, az_6, az_8, az_11, az_14, az_15, az_17, az_20, az_21, az_22, az_23, az_24, az_25, az_26, az_28, az_29, az_30, az_31, az_32, az_33, az_34, az_35, az_36, ak_0, ak_1, ak_2, ak_3, ak_4, ak_5, ak_6, ak_8, ak_11, ak_14, ak_15, ak_17, ak_20, ak_21, ak_22, ak_23, ak_24, ak_25, ak_26, ak_28, ak_29, ak_30, ak_31, ak_32, ak_33, ak_34, ak_35, ak_36, ak_37, eq_self, Int.toNat_natCast, Nat.zero_le, bI_0, b01_0, bI_or, b01_or, ne_eq, reduceCtorEq, not_false_eq_true, Nat.reduceEqDiff, if_true, if_false, ite_true, ite_false, Int.natCast_nonneg, not_true_eq_false, Bool.true_eq_false, Bool.false_eq_true, Int.reduceEq, Int.reduceLT, Int.reduceLE, Int.reduceToNat, and_self, inA, exists_eq, or_true, true_or, or_false, false_or, and_false, false_and, or_self])
theorem worthA_bd {V : VS} (hw : WF V) (s : Int) : 0 ≤ worthA V s ∧ worthA V s ≤ 2000 := by
  have h := sumN_bd (f := fun b => if V 5 b = s then priceB V b else 0) (B := 99) (nB V) (fun j _ => by
    have := hw.priceB j
    try dsimp only
    split <;> omega)
  have := WF.nB12 hw.bd
  unfold worthA
  omega
def rcF (V : VS) : Nat → Int
  | 0 => -1
  | i + 1 => if cntF V (i : Int) (nB V) = 0 then rcF V i else if rcF V i = -1 then (i : Int) else if worthA V (rcF V i) < worthA V (i : Int) then (i : Int) else rcF V i
theorem rc_bd (V : VS) : ∀ i, -1 ≤ rcF V i ∧ rcF V i < i
  | 0 => by simp [rcF]
  | i + 1 => by
    have := rc_bd V i
    unfold rcF
    (repeat' split) <;> omega
theorem ok_richest {S : VS} {d : Nat} {h : AH} (R : REL S h) : OKI S d 125 220 [] h := by
  have E := R.ev
  have hw := R.w
  have hw0 := R.w0
  obtain ⟨b1, b2, b3, b4⟩ := hw.bd
  have e77 : h 0 7 7 = h 17 27 7 := E.at7 (k := 7) (by omega) (by omega)
  have hP : ((nP (RV (h 17)) : Nat) : Int) = h 17 27 7 := by unfold nP; rw [RV_7] at b1 ⊢; omega
  rw [RV_7] at b1 b2
  have hn : ¬ ((nP (RV (h 17)) : Nat) : Int) < h 17 27 7 := by omega
  refine ⟨rcF (RV (h 17)) (nP (RV (h 17))), h, h, ?_, ?_, R⟩
  · have L := lo_up (P := fun i => At (CallR (d + 29)) ac_125 6 [vR 16 10, vI (rcF (RV (h 17)) i), vI (if rcF (RV (h 17)) i = -1 then -1 else worthA (RV (h 17)) (rcF (RV (h 17)) i)), vI (i : Int)] [] h (fun v' h2 => v' = some (vI (rcF (RV (h 17)) (nP (RV (h 17))))) ∧ h2 = h)) (nP (RV (h 17))) (fun i hi => by
      have h1 : (i : Int) < h 17 27 7 := by omega
      have e2 : rcF (RV (h 17)) (i + 1) = if cntF (RV (h 17)) (i : Int) (nB (RV (h 17))) = 0 then rcF (RV (h 17)) i else if rcF (RV (h 17)) i = -1 then (i : Int) else if worthA (RV (h 17)) (rcF (RV (h 17)) i) < worthA (RV (h 17)) (i : Int) then (i : Int) else rcF (RV (h 17)) i := rfl
      have eb : bitsF (h 0) (i : Int) (nB (h 0)) = 0 ↔ cntF (RV (h 17)) (i : Int) (nB (RV (h 17))) = 0 := by
        rw [E.c_nB, E.c_bitsF]
        exact bits_0 (RV (h 17)) (i : Int) (nB (RV (h 17))) (WF.nB12 hw.bd)
      have wb := worthA_bd hw (i : Int)
      have rb := rc_bd (RV (h 17)) i
      have hni : ¬ (i : Int) = -1 := by omega
      rw [e2, r125_6]
      simp only [r125_7, r125_8, r125_11, r125_14, r125_17, r125_18, r125_21, r125_22, r125_25, r125_28, r125_29, r125_32, r125_33, r125_36, r125_37, r125_40, r125_41, r125_44, r125_45, r125_48, r125_49, r125_50, r125_51, r125_54, r125_57, r125_58, reduceIte, Option.some.injEq, and_assoc, exists_and_left, exists_eq_left, exists_eq_left', true_and, and_true, List.length_cons, List.length_nil, Nat.reduceAdd, Nat.reduceLeDiff, Sum.inl.injEq, az_0, az_1, az_2, az_3, az_4, az_5, az_6, az_8, az_11, az_14, az_15, az_17, az_20, az_21, az_22, az_23, az_24, az_25, az_26, az_28, az_29, az_30, az_31, az_32, az_33, az_34, az_35, az_36, ak_0, ak_1, ak_2, ak_3, ak_4, ak_5, ak_6, ak_8, ak_11, ak_14, ak_15, ak_17, ak_20, ak_21, ak_22, ak_23, ak_24, ak_25, ak_26, ak_28, ak_29, ak_30, ak_31, ak_32, ak_33, ak_34, ak_35, ak_36, ak_37, eq_self, Int.toNat_natCast, Nat.zero_le, bI_0, b01_0, bI_or, b01_or, ne_eq, reduceCtorEq, not_false_eq_true, Nat.reduceEqDiff, if_true, if_false, ite_true, ite_false, Int.natCast_nonneg, not_true_eq_false, Bool.true_eq_false, Bool.false_eq_true, Int.reduceEq, Int.reduceLT, Int.reduceLE, Int.reduceToNat, and_self, inA, exists_eq, or_true, true_or, or_false, false_or, and_false, false_and, or_self, e77, h1, CallR_iff (sp_bottlesAt hw0.bd), CallR_iff (sp_worthAt hw0), E.c_worthA, eb, wr_s (show i < 2147483647 by omega)]
      by_cases a : cntF (RV (h 17)) (i : Int) (nB (RV (h 17))) = 0
      · simp only [a, if_true]
      · by_cases b : rcF (RV (h 17)) i = -1
        · have : -1 < worthA (RV (h 17)) (i : Int) := by omega
          simp only [a, b, this, hni, if_true, if_false]
        · by_cases c : worthA (RV (h 17)) (rcF (RV (h 17)) i) < worthA (RV (h 17)) (i : Int)
          · simp only [a, b, c, hni, if_true, if_false]
          · simp only [a, b, c, if_true, if_false])
    (rw [cr_125]; simp only [r125_0, r125_1, r125_2, r125_3, r125_4, r125_5, reduceIte, Option.some.injEq, and_assoc, exists_and_left, exists_eq_left, exists_eq_left', true_and, and_true, List.length_cons, List.length_nil, Nat.reduceAdd, Nat.reduceLeDiff, Sum.inl.injEq, az_0, az_1, az_2, az_3, az_4, az_5, az_6, az_8, az_11, az_14, az_15, az_17, az_20, az_21, az_22, az_23, az_24, az_25, az_26, az_28, az_29, az_30, az_31, az_32, az_33, az_34, az_35, az_36, ak_0, ak_1, ak_2, ak_3, ak_4, ak_5, ak_6, ak_8, ak_11, ak_14, ak_15, ak_17, ak_20, ak_21, ak_22, ak_23, ak_24, ak_25, ak_26, ak_28, ak_29, ak_30, ak_31, ak_32, ak_33, ak_34, ak_35, ak_36, ak_37, eq_self, Int.toNat_natCast, Nat.zero_le, bI_0, b01_0, bI_or, b01_or, ne_eq, reduceCtorEq, not_false_eq_true, Nat.reduceEqDiff, if_true, if_false, ite_true, ite_false, Int.natCast_nonneg, not_true_eq_false, Bool.true_eq_false, Bool.false_eq_true, Int.reduceEq, Int.reduceLT, Int.reduceLE, Int.reduceToNat, and_self, inA, exists_eq, or_true, true_or, or_false, false_or, and_false, false_and, or_self])
    refine L.mpr ?_
    rw [r125_6]
    simp only [r125_7, r125_8, r125_11, r125_14, r125_17, r125_18, r125_21, r125_22, r125_25, r125_28, r125_29, r125_32, r125_33, r125_36, r125_37, r125_40, r125_41, r125_44, r125_45, r125_48, r125_49, r125_50, r125_51, r125_54, r125_57, r125_58, reduceIte, Option.some.injEq, and_assoc, exists_and_left, exists_eq_left, exists_eq_left', true_and, and_true, List.length_cons, List.length_nil, Nat.reduceAdd, Nat.reduceLeDiff, Sum.inl.injEq, az_0, az_1, az_2, az_3, az_4, az_5, az_6, az_8, az_11, az_14, az_15, az_17, az_20, az_21, az_22, az_23, az_24, az_25, az_26, az_28, az_29, az_30, az_31, az_32, az_33, az_34, az_35, az_36, ak_0, ak_1, ak_2, ak_3, ak_4, ak_5, ak_6, ak_8, ak_11, ak_14, ak_15, ak_17, ak_20, ak_21, ak_22, ak_23, ak_24, ak_25, ak_26, ak_28, ak_29, ak_30, ak_31, ak_32, ak_33, ak_34, ak_35, ak_36, ak_37, eq_self, Int.toNat_natCast, Nat.zero_le, bI_0, b01_0, bI_or, b01_or, ne_eq, reduceCtorEq, not_false_eq_true, Nat.reduceEqDiff, if_true, if_false, ite_true, ite_false, Int.natCast_nonneg, not_true_eq_false, Bool.true_eq_false, Bool.false_eq_true, Int.reduceEq, Int.reduceLT, Int.reduceLE, Int.reduceToNat, and_self, inA, exists_eq, or_true, true_or, or_false, false_or, and_false, false_and, or_self, e77, hn]
  · have L := lo_up (P := fun i => At (CallR (d + 29)) ac_220 4 [vR 17 27, vI (rcF (RV (h 17)) i), vI (i : Int)] [] h (fun v' h2 => v' = some (vI (rcF (RV (h 17)) (nP (RV (h 17))))) ∧ h2 = h)) (nP (RV (h 17))) (fun i hi => by
      have h1 : (i : Int) < h 17 27 7 := by omega
      have e2 : rcF (RV (h 17)) (i + 1) = if cntF (RV (h 17)) (i : Int) (nB (RV (h 17))) = 0 then rcF (RV (h 17)) i else if rcF (RV (h 17)) i = -1 then (i : Int) else if worthA (RV (h 17)) (rcF (RV (h 17)) i) < worthA (RV (h 17)) (i : Int) then (i : Int) else rcF (RV (h 17)) i := rfl
      have hi2 : (i : Int) ≠ 200 := by omega
      have rb := rc_bd (RV (h 17)) i
      have hr2 : rcF (RV (h 17)) i ≠ 200 := by omega
      have hni : ¬ (i : Int) = -1 := by omega
      have hsc := strong_cases hw hi2
      have es : strongV (RV (h 17)) (i : Int) = -1 ↔ cntF (RV (h 17)) (i : Int) (nB (RV (h 17))) = 0 := by
        rcases hsc with ⟨s1, s2, s3⟩ | ⟨b, s0, s1, s2, s3, s4, s5⟩
        · exact ⟨fun _ => s2, fun _ => s1⟩
        · constructor
          · intro q; omega
          · intro q; omega
      rw [e2, r220_4]
      simp only [r220_5, r220_6, r220_9, r220_12, r220_13, r220_14, r220_17, r220_18, r220_21, r220_22, r220_23, r220_26, r220_27, r220_28, r220_31, r220_32, r220_33, r220_36, r220_39, r220_40, r220_41, r220_44, r220_47, r220_48, reduceIte, Option.some.injEq, and_assoc, exists_and_left, exists_eq_left, exists_eq_left', true_and, and_true, List.length_cons, List.length_nil, Nat.reduceAdd, Nat.reduceLeDiff, Sum.inl.injEq, az_0, az_1, az_2, az_3, az_4, az_5, az_6, az_8, az_11, az_14, az_15, az_17, az_20, az_21, az_22, az_23, az_24, az_25, az_26, az_28, az_29, az_30, az_31, az_32, az_33, az_34, az_35, az_36, ak_0, ak_1, ak_2, ak_3, ak_4, ak_5, ak_6, ak_8, ak_11, ak_14, ak_15, ak_17, ak_20, ak_21, ak_22, ak_23, ak_24, ak_25, ak_26, ak_28, ak_29, ak_30, ak_31, ak_32, ak_33, ak_34, ak_35, ak_36, ak_37, eq_self, Int.toNat_natCast, Nat.zero_le, bI_0, b01_0, bI_or, b01_or, ne_eq, reduceCtorEq, not_false_eq_true, Nat.reduceEqDiff, if_true, if_false, ite_true, ite_false, Int.natCast_nonneg, not_true_eq_false, Bool.true_eq_false, Bool.false_eq_true, Int.reduceEq, Int.reduceLT, Int.reduceLE, Int.reduceToNat, and_self, inA, exists_eq, or_true, true_or, or_false, false_or, and_false, false_and, or_self, h1, CallR_iff (sm_strongest hw hi2), CallR_iff (sm_worthOf hw hi2), CallR_iff (sm_worthOf hw hr2), es, hni, wr_s (show i < 2147483647 by omega)]
      by_cases a : cntF (RV (h 17)) (i : Int) (nB (RV (h 17))) = 0
      · simp only [a, if_true]
      · by_cases b : rcF (RV (h 17)) i = -1
        · simp only [a, b, if_true, if_false]
        · by_cases c : worthA (RV (h 17)) (rcF (RV (h 17)) i) < worthA (RV (h 17)) (i : Int)
          · simp only [a, b, c, if_true, if_false]
          · simp only [a, b, c, if_true, if_false])
    (rw [cr_220]; simp only [r220_0, r220_1, r220_2, r220_3, reduceIte, Option.some.injEq, and_assoc, exists_and_left, exists_eq_left, exists_eq_left', true_and, and_true, List.length_cons, List.length_nil, Nat.reduceAdd, Nat.reduceLeDiff, Sum.inl.injEq, az_0, az_1, az_2, az_3, az_4, az_5, az_6, az_8, az_11, az_14, az_15, az_17, az_20, az_21, az_22, az_23, az_24, az_25, az_26, az_28, az_29, az_30, az_31, az_32, az_33, az_34, az_35, az_36, ak_0, ak_1, ak_2, ak_3, ak_4, ak_5, ak_6, ak_8, ak_11, ak_14, ak_15, ak_17, ak_20, ak_21, ak_22, ak_23, ak_24, ak_25, ak_26, ak_28, ak_29, ak_30, ak_31, ak_32, ak_33, ak_34, ak_35, ak_36, ak_37, eq_self, Int.toNat_natCast, Nat.zero_le, bI_0, b01_0, bI_or, b01_or, ne_eq, reduceCtorEq, not_false_eq_true, Nat.reduceEqDiff, if_true, if_false, ite_true, ite_false, Int.natCast_nonneg, not_true_eq_false, Bool.true_eq_false, Bool.false_eq_true, Int.reduceEq, Int.reduceLT, Int.reduceLE, Int.reduceToNat, and_self, inA, exists_eq, or_true, true_or, or_false, false_or, and_false, false_and, or_self])
    refine L.mpr ?_
    rw [r220_4]
    simp only [r220_5, r220_6, r220_9, r220_12, r220_13, r220_14, r220_17, r220_18, r220_21, r220_22, r220_23, r220_26, r220_27, r220_28, r220_31, r220_32, r220_33, r220_36, r220_39, r220_40, r220_41, r220_44, r220_47, r220_48, reduceIte, Option.some.injEq, and_assoc, exists_and_left, exists_eq_left, exists_eq_left', true_and, and_true, List.length_cons, List.length_nil, Nat.reduceAdd, Nat.reduceLeDiff, Sum.inl.injEq, az_0, az_1, az_2, az_3, az_4, az_5, az_6, az_8, az_11, az_14, az_15, az_17, az_20, az_21, az_22, az_23, az_24, az_25, az_26, az_28, az_29, az_30, az_31, az_32, az_33, az_34, az_35, az_36, ak_0, ak_1, ak_2, ak_3, ak_4, ak_5, ak_6, ak_8, ak_11, ak_14, ak_15, ak_17, ak_20, ak_21, ak_22, ak_23, ak_24, ak_25, ak_26, ak_28, ak_29, ak_30, ak_31, ak_32, ak_33, ak_34, ak_35, ak_36, ak_37, eq_self, Int.toNat_natCast, Nat.zero_le, bI_0, b01_0, bI_or, b01_or, ne_eq, reduceCtorEq, not_false_eq_true, Nat.reduceEqDiff, if_true, if_false, ite_true, ite_false, Int.natCast_nonneg, not_true_eq_false, Bool.true_eq_false, Bool.false_eq_true, Int.reduceEq, Int.reduceLT, Int.reduceLE, Int.reduceToNat, and_self, inA, exists_eq, or_true, true_or, or_false, false_or, and_false, false_and, or_self, hn]
/-! draws -/
theorem ushr16 (x : Int) : 0 ≤ opUshr x 16 ∧ opUshr x 16 < 65536 := by
  unfold opUshr
  generalize (Int32.ofInt x).toUInt32 = u
  have e : (Int32.ofInt 16).toUInt32 &&& Int32.toUInt32 31 = 16 := by decide
  rw [e]
  have h1 : (u >>> 16).toNat < 65536 := by
    rw [UInt32.toNat_shiftRight]
    have := u.toNat_lt
    show u.toNat >>> 16 < 65536
    rw [Nat.shiftRight_eq_div_pow]
    omega
  generalize u >>> 16 = w at *
  have e2 : w.toInt32.toInt = (w.toNat : Int) := by
    have := Int32.toInt_ofNat_of_lt (n := w.toNat) (by omega)
    rw [← UInt32.toInt32_ofNat', UInt32.ofNat_toNat] at this
    exact this
  omega
theorem rem3 {x : Int} (h0 : 0 ≤ x) (h : x < 65536) : opRem x 3 = x % 3 := by
  have hd : (Int32.ofInt x / Int32.ofInt 3).toInt = x / 3 := opDiv_pos h0 (by omega) (by omega) (by omega)
  unfold opRem
  rw [Int32.toInt_sub, Int32.toInt_mul, hd, Int32.toInt_ofInt, Int32.toInt_ofInt]
  have e1 : Int.bmod x Int32.size = x := wr_id (by omega) (by omega)
  have e2 : Int.bmod 3 Int32.size = 3 := by decide
  rw [e1, e2]
  have e3 : Int.bmod (x / 3 * 3) (2 ^ 32) = x / 3 * 3 := wr_id (by omega) (by omega)
  rw [e3]
  have e4 : Int.bmod (x - x / 3 * 3) (2 ^ 32) = x - x / 3 * 3 := wr_id (by omega) (by omega)
  rw [e4]
  omega
def drF (V : VS) : Int := opRem (opUshr (seedN (V 7 16)) 16) 3
theorem dr_bd (V : VS) : 0 ≤ drF V ∧ drF V ≤ 2 := by
  have h := ushr16 (seedN (V 7 16))
  unfold drF
  rw [rem3 h.1 h.2]
  omega
theorem sm_draw {d : Nat} {h : AH} : CallR (d + 1) 222 [vR 17 27, vI 3] h (some (vI (drF (RV (h 17))))) (fup h 17 (setRV (h 17) (seedV (RV (h 17))))) := by
  (rw [cr_222]; simp only [r222_0, r222_1, r222_2, r222_5, r222_8, r222_9, r222_12, r222_13, r222_16, r222_17, r222_20, r222_22, r222_23, r222_24, r222_25, up3, fup_same, fup_fup, fR_0, fR_1, fR_2, fR_3, fR_4, fR_5, fR_6, fR_7, fR_8, fR_9, fR_10, fR_11, fR_12, fR_13, fR_14, fR_15, fR_16, RV_set, set_set, sV_0, sV_1, sV_2, sV_3, sV_4, sV_5, sV_6, sV_7, sV_8, sV_9, sV_10, sV_11, sV_12, sV_13, sV_14, sV_15, sV_16, RV_0, RV_1, RV_2, RV_3, RV_4, RV_5, RV_6, RV_7, RV_8, RV_9, RV_10, RV_11, RV_12, RV_13, RV_14, RV_15, RV_16, fup_ne, reduceIte, Option.some.injEq, and_assoc, exists_and_left, exists_eq_left, exists_eq_left', true_and, and_true, List.length_cons, List.length_nil, Nat.reduceAdd, Nat.reduceLeDiff, Sum.inl.injEq, az_0, az_1, az_2, az_3, az_4, az_5, az_6, az_8, az_11, az_14, az_15, az_17, az_20, az_21, az_22, az_23, az_24, az_25, az_26, az_28, az_29, az_30, az_31, az_32, az_33, az_34, az_35, az_36, ak_0, ak_1, ak_2, ak_3, ak_4, ak_5, ak_6, ak_8, ak_11, ak_14, ak_15, ak_17, ak_20, ak_21, ak_22, ak_23, ak_24, ak_25, ak_26, ak_28, ak_29, ak_30, ak_31, ak_32, ak_33, ak_34, ak_35, ak_36, ak_37, eq_self, Int.toNat_natCast, Nat.zero_le, bI_0, b01_0, bI_or, b01_or, ne_eq, reduceCtorEq, not_false_eq_true, Nat.reduceEqDiff, if_true, if_false, ite_true, ite_false, Int.natCast_nonneg, not_true_eq_false, Bool.true_eq_false, Bool.false_eq_true, Int.reduceEq, Int.reduceLT, Int.reduceLE, Int.reduceToNat, and_self, inA, exists_eq, or_true, true_or, or_false, false_or, and_false, false_and, or_self])
  exact ⟨rfl, rfl⟩
theorem seed_wf {V : VS} (hw : WF V) : WF (seedV V) := wf_seed hw _
def seU (V : VS) : VS := wdV (seedV V) (drF V - 1)
theorem seU_wf {V : VS} (hw : WF V) : WF (seU V) := wd_wf (seed_wf hw) (by have := dr_bd V; omega)
theorem EV.c_dr {V V' : VS} (E : EV V V') : drF V = drF V' := by unfold drF; rw [E.at7 (k := 16) (by omega) (by omega)]
theorem EV.c_seU {V V' : VS} (E : EV V V') : EV (seU V) (seU V') := by
  have := E.c_seedV.c_wd (drF V - 1)
  unfold seU
  rw [← E.c_dr]
  exact this
def seW (V : VS) : Nat → VS
  | 0 => V
  | i + 1 => passV (seU (seW V i)) (ruleV (seU (seW V i)) 0)
theorem se_wf {V : VS} (hw : WF V) : ∀ i, WF (seW V i)
  | 0 => hw
  | i + 1 => pass_wf (seU_wf (se_wf hw i)) (rule_may _ _)
theorem EV.c_seW {V V' : VS} (E : EV V V') : ∀ i, EV (seW V i) (seW V' i)
  | 0 => E
  | i + 1 => by
    have F := (EV.c_seW E i).c_seU
    have := F.c_passV (ruleV (seU (seW V i)) 0)
    unfold seW
    rw [F.c_ruleV] at this ⊢
    exact this
theorem se_F (V : VS) : ∀ i, FRM V (seW V i)
  | 0 => FRM.rf V
  | i + 1 => FRM.pass (FRM.n1 (FRM.seed (se_F V i)) (by omega) _) _
theorem se_77 (V : VS) : ∀ i, seW V i 7 7 = V 7 7
  | 0 => rfl
  | i + 1 => (FIX.pass (seU (seW V i)) _).2.2.2.1.trans (se_77 V i)
theorem ok_season {S : VS} {d : Nat} {h : AH} {n : Int} (R : REL S h) : OKI S d 127 223 [vI n] h := by
  have E := R.ev
  have hw := R.w
  have hw0 := R.w0
  by_cases hn : 1 ≤ n ∧ n ≤ 200
  · obtain ⟨n, rfl⟩ : ∃ q : Nat, n = (q : Int) := ⟨n.toNat, by omega⟩
    have ES := E.c_seW n
    have c0 := hw.coins
    have c1 := (se_wf hw n).coins
    have c10 : h 0 7 10 = RV (h 17) 7 10 := E.at7 (by omega) (by omega)
    have ew : wr (seW (RV (h 17)) n 7 10 - RV (h 17) 7 10) = seW (RV (h 17)) n 7 10 - RV (h 17) 7 10 := wr_id (by omega) (by omega)
    refine ⟨seW (RV (h 17)) n 7 10 - RV (h 17) 7 10, fup h 0 (seW (h 0) n), fup (fup h 0 (seW (h 0) n)) 17 (setRV (h 17) (seW (RV (h 17)) n)), ?_, ?_, R.nowp (SX.rf h) (se_wf hw n) ES (se_F _ n).w (by rw [se_77]; exact Int.le_refl _)⟩
    · have L := lo_up (P := fun i => At (CallR (d + 29)) ac_127 28 [vR 16 10, vI n, vI (RV (h 17) 7 10), vI (i : Int)] [] (fup h 0 (seW (h 0) i)) (fun v' h2 => v' = some (vI (seW (RV (h 17)) n 7 10 - RV (h 17) 7 10)) ∧ h2 = fup h 0 (seW (h 0) n))) n (fun i hi => by
        have h1 : (i : Int) < (n : Int) := by omega
        have hb := dr_bd (seW (h 0) i)
        have ed : opRem (opUshr (seedN (seW (h 0) i 7 16)) 16) 3 = drF (seW (h 0) i) := rfl
        have ew2 : wr (drF (seW (h 0) i) - 1) = drF (seW (h 0) i) - 1 := wr_id (by omega) (by omega)
        have eU : fup (seedV (seW (h 0) i)) 7 (fup (seedV (seW (h 0) i) 7) 13 (drF (seW (h 0) i) - 1)) = seU (seW (h 0) i) := rfl
        have hq : WF ((fup h 0 (seU (seW (h 0) i))) 0) := by rw [fup_same]; exact seU_wf (se_wf hw0 i)
        have eF : followV (seU (seW (h 0) i)) 0 1 = seW (h 0) (i + 1) := rfl
        rw [r127_28]
        simp only [r127_29, r127_30, r127_33, r127_34, r127_37, r127_38, r127_41, r127_42, r127_45, r127_46, r127_47, r127_50, r127_51, r127_54, r127_55, r127_56, r127_59, r127_62, r127_65, r127_66, r127_69, r127_72, r127_73, r127_74, reduceIte, Option.some.injEq, and_assoc, exists_and_left, exists_eq_left, exists_eq_left', true_and, and_true, List.length_cons, List.length_nil, Nat.reduceAdd, Nat.reduceLeDiff, Sum.inl.injEq, az_0, az_1, az_2, az_3, az_4, az_5, az_6, az_8, az_11, az_14, az_15, az_17, az_20, az_21, az_22, az_23, az_24, az_25, az_26, az_28, az_29, az_30, az_31, az_32, az_33, az_34, az_35, az_36, ak_0, ak_1, ak_2, ak_3, ak_4, ak_5, ak_6, ak_8, ak_11, ak_14, ak_15, ak_17, ak_20, ak_21, ak_22, ak_23, ak_24, ak_25, ak_26, ak_28, ak_29, ak_30, ak_31, ak_32, ak_33, ak_34, ak_35, ak_36, ak_37, eq_self, Int.toNat_natCast, Nat.zero_le, bI_0, b01_0, bI_or, b01_or, ne_eq, reduceCtorEq, not_false_eq_true, Nat.reduceEqDiff, if_true, if_false, ite_true, ite_false, Int.natCast_nonneg, not_true_eq_false, Bool.true_eq_false, Bool.false_eq_true, Int.reduceEq, Int.reduceLT, Int.reduceLE, Int.reduceToNat, and_self, inA, exists_eq, or_true, true_or, or_false, false_or, and_false, false_and, or_self, h1, CallR_iff (sp_draw (show (0 : Int) < 3 by decide)), up3, fup_same, fup_fup, ed, ew2, eU, CallR_iff (sp_follow hq (r := 0) (n := 1) (by decide) (by decide)), eF, wr_s (show i < 2147483647 by omega)])
      rw [show seW (h 0) 0 = h 0 from rfl, fup_id] at L
      (rw [cr_127]; simp only [r127_0, r127_1, r127_2, r127_5, r127_8, r127_11, r127_12, r127_14, r127_17, r127_18, r127_19, r127_22, r127_25, r127_26, r127_27, CallR_iff sx_within, hn, c10, reduceIte, Option.some.injEq, and_assoc, exists_and_left, exists_eq_left, exists_eq_left', true_and, and_true, List.length_cons, List.length_nil, Nat.reduceAdd, Nat.reduceLeDiff, Sum.inl.injEq, az_0, az_1, az_2, az_3, az_4, az_5, az_6, az_8, az_11, az_14, az_15, az_17, az_20, az_21, az_22, az_23, az_24, az_25, az_26, az_28, az_29, az_30, az_31, az_32, az_33, az_34, az_35, az_36, ak_0, ak_1, ak_2, ak_3, ak_4, ak_5, ak_6, ak_8, ak_11, ak_14, ak_15, ak_17, ak_20, ak_21, ak_22, ak_23, ak_24, ak_25, ak_26, ak_28, ak_29, ak_30, ak_31, ak_32, ak_33, ak_34, ak_35, ak_36, ak_37, eq_self, Int.toNat_natCast, Nat.zero_le, bI_0, b01_0, bI_or, b01_or, ne_eq, reduceCtorEq, not_false_eq_true, Nat.reduceEqDiff, if_true, if_false, ite_true, ite_false, Int.natCast_nonneg, not_true_eq_false, Bool.true_eq_false, Bool.false_eq_true, Int.reduceEq, Int.reduceLT, Int.reduceLE, Int.reduceToNat, and_self, inA, exists_eq, or_true, true_or, or_false, false_or, and_false, false_and, or_self])
      refine L.mpr ?_
      have e10 : seW (h 0) n 7 10 = seW (RV (h 17)) n 7 10 := ES.at7 (by omega) (by omega)
      rw [r127_28]
      simp only [r127_29, r127_30, r127_33, r127_34, r127_37, r127_38, r127_41, r127_42, r127_45, r127_46, r127_47, r127_50, r127_51, r127_54, r127_55, r127_56, r127_59, r127_62, r127_65, r127_66, r127_69, r127_72, r127_73, r127_74, reduceIte, Option.some.injEq, and_assoc, exists_and_left, exists_eq_left, exists_eq_left', true_and, and_true, List.length_cons, List.length_nil, Nat.reduceAdd, Nat.reduceLeDiff, Sum.inl.injEq, az_0, az_1, az_2, az_3, az_4, az_5, az_6, az_8, az_11, az_14, az_15, az_17, az_20, az_21, az_22, az_23, az_24, az_25, az_26, az_28, az_29, az_30, az_31, az_32, az_33, az_34, az_35, az_36, ak_0, ak_1, ak_2, ak_3, ak_4, ak_5, ak_6, ak_8, ak_11, ak_14, ak_15, ak_17, ak_20, ak_21, ak_22, ak_23, ak_24, ak_25, ak_26, ak_28, ak_29, ak_30, ak_31, ak_32, ak_33, ak_34, ak_35, ak_36, ak_37, eq_self, Int.toNat_natCast, Nat.zero_le, bI_0, b01_0, bI_or, b01_or, ne_eq, reduceCtorEq, not_false_eq_true, Nat.reduceEqDiff, if_true, if_false, ite_true, ite_false, Int.natCast_nonneg, not_true_eq_false, Bool.true_eq_false, Bool.false_eq_true, Int.reduceEq, Int.reduceLT, Int.reduceLE, Int.reduceToNat, and_self, inA, exists_eq, or_true, true_or, or_false, false_or, and_false, false_and, or_self, show ¬ (n : Int) < (n : Int) by omega, fup_same, e10, ew]
    · generalize hh : fup h 0 (seW (h 0) n) = hx
      have e17 : hx 17 = h 17 := by rw [← hh]; rfl
      generalize hV : RV (h 17) = V at *
      have L := lo_up (P := fun i => At (CallR (d + 29)) ac_223 25 [vR 17 27, vI n, vI (V 7 10), vI (i : Int)] [] (fup hx 17 (setRV (h 17) (seW V i))) (fun v' h2 => v' = some (vI (seW V n 7 10 - V 7 10)) ∧ h2 = fup hx 17 (setRV (h 17) (seW V n)))) n (fun i hi => by
        have h1 : (i : Int) < (n : Int) := by omega
        have hb := dr_bd (seW V i)
        have ew2 : wr (drF (seW V i) - 1) = drF (seW V i) - 1 := wr_id (by omega) (by omega)
        have eU : fup (seedV (seW V i)) 7 (fup (seedV (seW V i) 7) 13 (drF (seW V i) - 1)) = seU (seW V i) := rfl
        have hq : WF (RV ((fup hx 17 (setRV (h 17) (seU (seW V i)))) 17)) := by rw [fup_same, RV_set]; exact seU_wf (se_wf hw i)
        have hm : mayV (RV ((fup hx 17 (setRV (h 17) (seU (seW V i)))) 17)) (ruleV (seU (seW V i)) 0) = true := by rw [fup_same, RV_set]; exact rule_may _ _
        have eF : passV (seU (seW V i)) (ruleV (seU (seW V i)) 0) = seW V (i + 1) := rfl
        rw [r223_25]
        simp only [r223_26, r223_27, r223_30, r223_31, r223_32, r223_33, r223_36, r223_37, r223_38, r223_41, r223_42, r223_43, r223_44, r223_47, r223_50, r223_53, r223_56, r223_57, r223_60, r223_61, r223_62, reduceIte, Option.some.injEq, and_assoc, exists_and_left, exists_eq_left, exists_eq_left', true_and, and_true, List.length_cons, List.length_nil, Nat.reduceAdd, Nat.reduceLeDiff, Sum.inl.injEq, az_0, az_1, az_2, az_3, az_4, az_5, az_6, az_8, az_11, az_14, az_15, az_17, az_20, az_21, az_22, az_23, az_24, az_25, az_26, az_28, az_29, az_30, az_31, az_32, az_33, az_34, az_35, az_36, ak_0, ak_1, ak_2, ak_3, ak_4, ak_5, ak_6, ak_8, ak_11, ak_14, ak_15, ak_17, ak_20, ak_21, ak_22, ak_23, ak_24, ak_25, ak_26, ak_28, ak_29, ak_30, ak_31, ak_32, ak_33, ak_34, ak_35, ak_36, ak_37, eq_self, Int.toNat_natCast, Nat.zero_le, bI_0, b01_0, bI_or, b01_or, ne_eq, reduceCtorEq, not_false_eq_true, Nat.reduceEqDiff, if_true, if_false, ite_true, ite_false, Int.natCast_nonneg, not_true_eq_false, Bool.true_eq_false, Bool.false_eq_true, Int.reduceEq, Int.reduceLT, Int.reduceLE, Int.reduceToNat, and_self, inA, exists_eq, or_true, true_or, or_false, false_or, and_false, false_and, or_self, h1, CallR_iff sm_draw, up3, fup_same, fup_fup, RV_set, set_set, sV_7, fS_7, ew2, eU, CallR_iff (sm_ruled hq (r := 0) (by decide) (by decide)), CallR_iff (sm_goOn hq hm), eF, wr_s (show i < 2147483647 by omega)])
      rw [show seW V 0 = V from rfl, ← hV, set_RV, ← e17, fup_id] at L
      rw [e17, hV] at L
      have e10 : hx 17 27 10 = V 7 10 := by rw [e17, ← hV]; rfl
      (rw [cr_223]; simp only [r223_0, r223_1, r223_2, r223_5, r223_8, r223_11, r223_12, r223_14, r223_17, r223_18, r223_19, r223_22, r223_23, r223_24, CallR_iff sm_within, hn, e10, reduceIte, Option.some.injEq, and_assoc, exists_and_left, exists_eq_left, exists_eq_left', true_and, and_true, List.length_cons, List.length_nil, Nat.reduceAdd, Nat.reduceLeDiff, Sum.inl.injEq, az_0, az_1, az_2, az_3, az_4, az_5, az_6, az_8, az_11, az_14, az_15, az_17, az_20, az_21, az_22, az_23, az_24, az_25, az_26, az_28, az_29, az_30, az_31, az_32, az_33, az_34, az_35, az_36, ak_0, ak_1, ak_2, ak_3, ak_4, ak_5, ak_6, ak_8, ak_11, ak_14, ak_15, ak_17, ak_20, ak_21, ak_22, ak_23, ak_24, ak_25, ak_26, ak_28, ak_29, ak_30, ak_31, ak_32, ak_33, ak_34, ak_35, ak_36, ak_37, eq_self, Int.toNat_natCast, Nat.zero_le, bI_0, b01_0, bI_or, b01_or, ne_eq, reduceCtorEq, not_false_eq_true, Nat.reduceEqDiff, if_true, if_false, ite_true, ite_false, Int.natCast_nonneg, not_true_eq_false, Bool.true_eq_false, Bool.false_eq_true, Int.reduceEq, Int.reduceLT, Int.reduceLE, Int.reduceToNat, and_self, inA, exists_eq, or_true, true_or, or_false, false_or, and_false, false_and, or_self])
      refine L.mpr ?_
      rw [r223_25]
      simp only [r223_26, r223_27, r223_30, r223_31, r223_32, r223_33, r223_36, r223_37, r223_38, r223_41, r223_42, r223_43, r223_44, r223_47, r223_50, r223_53, r223_56, r223_57, r223_60, r223_61, r223_62, reduceIte, Option.some.injEq, and_assoc, exists_and_left, exists_eq_left, exists_eq_left', true_and, and_true, List.length_cons, List.length_nil, Nat.reduceAdd, Nat.reduceLeDiff, Sum.inl.injEq, az_0, az_1, az_2, az_3, az_4, az_5, az_6, az_8, az_11, az_14, az_15, az_17, az_20, az_21, az_22, az_23, az_24, az_25, az_26, az_28, az_29, az_30, az_31, az_32, az_33, az_34, az_35, az_36, ak_0, ak_1, ak_2, ak_3, ak_4, ak_5, ak_6, ak_8, ak_11, ak_14, ak_15, ak_17, ak_20, ak_21, ak_22, ak_23, ak_24, ak_25, ak_26, ak_28, ak_29, ak_30, ak_31, ak_32, ak_33, ak_34, ak_35, ak_36, ak_37, eq_self, Int.toNat_natCast, Nat.zero_le, bI_0, b01_0, bI_or, b01_or, ne_eq, reduceCtorEq, not_false_eq_true, Nat.reduceEqDiff, if_true, if_false, ite_true, ite_false, Int.natCast_nonneg, not_true_eq_false, Bool.true_eq_false, Bool.false_eq_true, Int.reduceEq, Int.reduceLT, Int.reduceLE, Int.reduceToNat, and_self, inA, exists_eq, or_true, true_or, or_false, false_or, and_false, false_and, or_self, show ¬ (n : Int) < (n : Int) by omega, fup_same, sV_7, ew]
  · refine R.refused (c := -6) (x := -6) ?_ (fun h1 e => ?_)
    · (rw [cr_127]; simp only [r127_0, r127_1, r127_2, r127_5, r127_8, r127_11, r127_12, r127_14, r127_17, r127_18, r127_19, r127_22, r127_25, r127_26, r127_27, CallR_iff sx_within, hn, CallR_iff (sx_refuse (c := -6) (by decide) (by decide)), reduceIte, Option.some.injEq, and_assoc, exists_and_left, exists_eq_left, exists_eq_left', true_and, and_true, List.length_cons, List.length_nil, Nat.reduceAdd, Nat.reduceLeDiff, Sum.inl.injEq, az_0, az_1, az_2, az_3, az_4, az_5, az_6, az_8, az_11, az_14, az_15, az_17, az_20, az_21, az_22, az_23, az_24, az_25, az_26, az_28, az_29, az_30, az_31, az_32, az_33, az_34, az_35, az_36, ak_0, ak_1, ak_2, ak_3, ak_4, ak_5, ak_6, ak_8, ak_11, ak_14, ak_15, ak_17, ak_20, ak_21, ak_22, ak_23, ak_24, ak_25, ak_26, ak_28, ak_29, ak_30, ak_31, ak_32, ak_33, ak_34, ak_35, ak_36, ak_37, eq_self, Int.toNat_natCast, Nat.zero_le, bI_0, b01_0, bI_or, b01_or, ne_eq, reduceCtorEq, not_false_eq_true, Nat.reduceEqDiff, if_true, if_false, ite_true, ite_false, Int.natCast_nonneg, not_true_eq_false, Bool.true_eq_false, Bool.false_eq_true, Int.reduceEq, Int.reduceLT, Int.reduceLE, Int.reduceToNat, and_self, inA, exists_eq, or_true, true_or, or_false, false_or, and_false, false_and, or_self])
    · (rw [cr_223]; simp only [r223_0, r223_1, r223_2, r223_5, r223_8, r223_11, r223_12, r223_14, r223_17, r223_18, r223_19, r223_22, r223_23, r223_24, CallR_iff sm_within, hn, CallR_iff (sm_no (c := -6) (by decide) (by decide)), reduceIte, Option.some.injEq, and_assoc, exists_and_left, exists_eq_left, exists_eq_left', true_and, and_true, List.length_cons, List.length_nil, Nat.reduceAdd, Nat.reduceLeDiff, Sum.inl.injEq, az_0, az_1, az_2, az_3, az_4, az_5, az_6, az_8, az_11, az_14, az_15, az_17, az_20, az_21, az_22, az_23, az_24, az_25, az_26, az_28, az_29, az_30, az_31, az_32, az_33, az_34, az_35, az_36, ak_0, ak_1, ak_2, ak_3, ak_4, ak_5, ak_6, ak_8, ak_11, ak_14, ak_15, ak_17, ak_20, ak_21, ak_22, ak_23, ak_24, ak_25, ak_26, ak_28, ak_29, ak_30, ak_31, ak_32, ak_33, ak_34, ak_35, ak_36, ak_37, eq_self, Int.toNat_natCast, Nat.zero_le, bI_0, b01_0, bI_or, b01_or, ne_eq, reduceCtorEq, not_false_eq_true, Nat.reduceEqDiff, if_true, if_false, ite_true, ite_false, Int.natCast_nonneg, not_true_eq_false, Bool.true_eq_false, Bool.false_eq_true, Int.reduceEq, Int.reduceLT, Int.reduceLE, Int.reduceToNat, and_self, inA, exists_eq, or_true, true_or, or_false, false_or, and_false, false_and, or_self])
