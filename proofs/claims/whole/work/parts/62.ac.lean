/-! PURE: ahead, the class's -/
def SREL (n : Nat) (acc : Acc) (W : VS) : Prop := (acc.1 = -1 ∧ W 13 3 = -1) ∨ (0 ≤ acc.1 ∧ W 13 3 = acc.2.1 ∧ W 13 4 = acc.2.2 ∧ ∀ i : Nat, i < n → W 15 i = ((acc.1.toNat / 7 ^ (n - 1 - i) % 7 : Nat) : Int))
def AREL (q r : Nat) (W : VS) : Prop := ∀ i : Nat, i < q → W 14 i = ((r / 7 ^ (q - 1 - i) % 7 : Nat) : Int)
def KEP (q : Nat) (h h' : AH) : Prop := (∀ g, g ≠ 16 → (g ≤ 3 + q ∨ 8 ≤ g) → h' g = h g) ∧ (∀ m, m ≠ 13 → m ≠ 14 → m ≠ 15 → h' 16 m = h 16 m) ∧ (∀ i : Nat, i < q → h' 16 14 i = h 16 14 i)
theorem KEP.rf (q : Nat) (h : AH) : KEP q h h := ⟨fun _ _ _ => rfl, fun _ _ _ _ => rfl, fun _ _ => rfl⟩
theorem SREL.c {n : Nat} {acc : Acc} {W W' : VS} (S : SREL n acc W) (h1 : W' 13 = W 13) (h2 : W' 15 = W 15) : SREL n acc W' := by
  unfold SREL at S ⊢
  rw [h1, h2]
  exact S
theorem sx_weigh {d q n r : Nat} {h : AH} {acc : Acc} {V : VS} (hV : h (3 + q) = V) (hq : q ≤ 4) (hw : WF V) (hS : SREL n acc (h 16)) (hA : AREL n r (h 16)) : ∃ h' : AH, CallR (d + 2) 26 [vR 16 13, vR (3 + q) 7] h none h' ∧ KEP q h h' ∧ SREL n (updA acc V r) (h' 16) := by
  have c := hw.coins
  have hw' : WF (h (3 + q)) := by rw [hV]; exact hw
  have hu : ∀ c s : Int, KEP q h (acopy (up3 (up3 h 16 13 3 c) 16 13 4 s) 16 14 16 15 (Int.toNat 0) (Int.toNat 0) (Int.toNat 4)) ∧ SREL n ((r : Int), c, s) ((acopy (up3 (up3 h 16 13 3 c) 16 13 4 s) 16 14 16 15 (Int.toNat 0) (Int.toNat 0) (Int.toNat 4)) 16) := by
    intro c s
    rw [acp (n := 4) (m := 14) (m1 := 15) rfl rfl]
    refine ⟨⟨fun g h1 _ => ?_, fun m h1 h2 h3 => ?_, fun i hi => ?_⟩, Or.inr ⟨?_, ?_, ?_, fun i hi => ?_⟩⟩
    · unfold up3
      rw [fup_ne _ _ h1, fup_ne _ _ h1, fup_ne _ _ h1]
    · rw [fup_same, fup_ne _ _ h3]
      unfold up3
      rw [fup_same, fup_ne _ _ h1, fup_same, fup_ne _ _ h1]
    · rw [fup_same, fup_ne _ _ (by decide)]
      unfold up3
      rw [fup_same, fup_ne _ _ (by decide), fup_same, fup_ne _ _ (by decide)]
    · show (0 : Int) ≤ (r : Int)
      omega
    · rw [fup_same, fup_ne _ _ (by decide)]
      unfold up3
      rw [fup_same, fup_same, fup_ne _ _ (by decide), fup_same, fup_same, fup_same]
    · rw [fup_same, fup_ne _ _ (by decide)]
      unfold up3
      rw [fup_same, fup_same, fup_same]
    · rw [fup_same, fup_same]
      unfold up3
      rw [fup_same, fup_ne _ _ (by decide), fup_same, fup_ne _ _ (by decide)]
      show h 16 14 i = (((r : Int).toNat / 7 ^ (n - 1 - i) % 7 : Nat) : Int)
      rw [Int.toNat_natCast]
      exact hA i hi
  have hcd : ∀ h' : AH, (CallR (d + 2) 26 [vR 16 13, vR (3 + q) 7] h none h' ↔ (if V 7 10 < h 16 13 3 then h = h' else if V 7 10 = h 16 13 3 then (if h 16 13 4 < strC V then (acopy (up3 (up3 h 16 13 3 (V 7 10)) 16 13 4 (strC V)) 16 14 16 15 (Int.toNat 0) (Int.toNat 0) (Int.toNat 4)) = h' else h = h') else (acopy (up3 (up3 h 16 13 3 (V 7 10)) 16 13 4 (strC V)) 16 14 16 15 (Int.toNat 0) (Int.toNat 0) (Int.toNat 4)) = h')) := by
    intro h'
    by_cases a1 : V 7 10 < h 16 13 3
    · (rw [cr_26]; simp only [r26_0, r26_0n, r26_0s, r26_1, r26_4, r26_5, r26_5n, r26_5s, r26_6, r26_9, r26_10, r26_13, r26_16, r26_16n, r26_16s, r26_17, r26_20, r26_21, r26_24, r26_27, r26_28, r26_29, r26_32, r26_35, r26_36, r26_37, r26_37n, r26_37s, r26_38, r26_41, r26_44, r26_45, r26_46, r26_49, r26_50, r26_53, r26_54, r26_55, r26_58, r26_59, r26_60, r26_63, CallR_iff (sp_strC hw'), hV, a1, reduceIte, Option.some.injEq, and_assoc, exists_and_left, exists_eq_left, exists_eq_left', true_and, and_true, List.length_cons, List.length_nil, Nat.reduceAdd, Nat.reduceLeDiff, Sum.inl.injEq, az_0, az_1, az_2, az_3, az_4, az_5, az_6, az_8, az_11, az_14, az_15, az_17, az_20, az_21, az_22, az_23, az_24, az_25, az_26, az_28, az_29, az_30, az_31, az_32, az_33, az_34, az_35, az_36, ak_0, ak_1, ak_2, ak_3, ak_4, ak_5, ak_6, ak_8, ak_11, ak_14, ak_15, ak_17, ak_20, ak_21, ak_22, ak_23, ak_24, ak_25, ak_26, ak_28, ak_29, ak_30, ak_31, ak_32, ak_33, ak_34, ak_35, ak_36, ak_37, eq_self, Int.toNat_natCast, Nat.zero_le, bI_0, b01_0, bI_or, b01_or, ne_eq, reduceCtorEq, not_false_eq_true, Nat.reduceEqDiff, if_true, if_false, ite_true, ite_false, Int.natCast_nonneg, not_true_eq_false, Bool.true_eq_false, Bool.false_eq_true, Int.reduceEq, Int.reduceLT, Int.reduceLE, Int.reduceToNat, and_self, inA, exists_eq, or_true, true_or, or_false, false_or, and_false, false_and, or_self, Nat.reduceLT])
    · by_cases a2 : V 7 10 = h 16 13 3
      · by_cases a3 : h 16 13 4 < strC V
        · (rw [cr_26]; simp only [r26_0, r26_0n, r26_0s, r26_1, r26_4, r26_5, r26_5n, r26_5s, r26_6, r26_9, r26_10, r26_13, r26_16, r26_16n, r26_16s, r26_17, r26_20, r26_21, r26_24, r26_27, r26_28, r26_29, r26_32, r26_35, r26_36, r26_37, r26_37n, r26_37s, r26_38, r26_41, r26_44, r26_45, r26_46, r26_49, r26_50, r26_53, r26_54, r26_55, r26_58, r26_59, r26_60, r26_63, CallR_iff (sp_strC hw'), hV, a1, a2, a3, Int.lt_irrefl, Int.zero_add, Int.le_refl, reduceIte, Option.some.injEq, and_assoc, exists_and_left, exists_eq_left, exists_eq_left', true_and, and_true, List.length_cons, List.length_nil, Nat.reduceAdd, Nat.reduceLeDiff, Sum.inl.injEq, az_0, az_1, az_2, az_3, az_4, az_5, az_6, az_8, az_11, az_14, az_15, az_17, az_20, az_21, az_22, az_23, az_24, az_25, az_26, az_28, az_29, az_30, az_31, az_32, az_33, az_34, az_35, az_36, ak_0, ak_1, ak_2, ak_3, ak_4, ak_5, ak_6, ak_8, ak_11, ak_14, ak_15, ak_17, ak_20, ak_21, ak_22, ak_23, ak_24, ak_25, ak_26, ak_28, ak_29, ak_30, ak_31, ak_32, ak_33, ak_34, ak_35, ak_36, ak_37, eq_self, Int.toNat_natCast, Nat.zero_le, bI_0, b01_0, bI_or, b01_or, ne_eq, reduceCtorEq, not_false_eq_true, Nat.reduceEqDiff, if_true, if_false, ite_true, ite_false, Int.natCast_nonneg, not_true_eq_false, Bool.true_eq_false, Bool.false_eq_true, Int.reduceEq, Int.reduceLT, Int.reduceLE, Int.reduceToNat, and_self, inA, exists_eq, or_true, true_or, or_false, false_or, and_false, false_and, or_self, Nat.reduceLT])
        · (rw [cr_26]; simp only [r26_0, r26_0n, r26_0s, r26_1, r26_4, r26_5, r26_5n, r26_5s, r26_6, r26_9, r26_10, r26_13, r26_16, r26_16n, r26_16s, r26_17, r26_20, r26_21, r26_24, r26_27, r26_28, r26_29, r26_32, r26_35, r26_36, r26_37, r26_37n, r26_37s, r26_38, r26_41, r26_44, r26_45, r26_46, r26_49, r26_50, r26_53, r26_54, r26_55, r26_58, r26_59, r26_60, r26_63, CallR_iff (sp_strC hw'), hV, a1, a2, a3, Int.lt_irrefl, Int.zero_add, Int.le_refl, reduceIte, Option.some.injEq, and_assoc, exists_and_left, exists_eq_left, exists_eq_left', true_and, and_true, List.length_cons, List.length_nil, Nat.reduceAdd, Nat.reduceLeDiff, Sum.inl.injEq, az_0, az_1, az_2, az_3, az_4, az_5, az_6, az_8, az_11, az_14, az_15, az_17, az_20, az_21, az_22, az_23, az_24, az_25, az_26, az_28, az_29, az_30, az_31, az_32, az_33, az_34, az_35, az_36, ak_0, ak_1, ak_2, ak_3, ak_4, ak_5, ak_6, ak_8, ak_11, ak_14, ak_15, ak_17, ak_20, ak_21, ak_22, ak_23, ak_24, ak_25, ak_26, ak_28, ak_29, ak_30, ak_31, ak_32, ak_33, ak_34, ak_35, ak_36, ak_37, eq_self, Int.toNat_natCast, Nat.zero_le, bI_0, b01_0, bI_or, b01_or, ne_eq, reduceCtorEq, not_false_eq_true, Nat.reduceEqDiff, if_true, if_false, ite_true, ite_false, Int.natCast_nonneg, not_true_eq_false, Bool.true_eq_false, Bool.false_eq_true, Int.reduceEq, Int.reduceLT, Int.reduceLE, Int.reduceToNat, and_self, inA, exists_eq, or_true, true_or, or_false, false_or, and_false, false_and, or_self, Nat.reduceLT])
      · (rw [cr_26]; simp only [r26_0, r26_0n, r26_0s, r26_1, r26_4, r26_5, r26_5n, r26_5s, r26_6, r26_9, r26_10, r26_13, r26_16, r26_16n, r26_16s, r26_17, r26_20, r26_21, r26_24, r26_27, r26_28, r26_29, r26_32, r26_35, r26_36, r26_37, r26_37n, r26_37s, r26_38, r26_41, r26_44, r26_45, r26_46, r26_49, r26_50, r26_53, r26_54, r26_55, r26_58, r26_59, r26_60, r26_63, CallR_iff (sp_strC hw'), hV, a1, a2, Int.zero_add, Int.le_refl, reduceIte, Option.some.injEq, and_assoc, exists_and_left, exists_eq_left, exists_eq_left', true_and, and_true, List.length_cons, List.length_nil, Nat.reduceAdd, Nat.reduceLeDiff, Sum.inl.injEq, az_0, az_1, az_2, az_3, az_4, az_5, az_6, az_8, az_11, az_14, az_15, az_17, az_20, az_21, az_22, az_23, az_24, az_25, az_26, az_28, az_29, az_30, az_31, az_32, az_33, az_34, az_35, az_36, ak_0, ak_1, ak_2, ak_3, ak_4, ak_5, ak_6, ak_8, ak_11, ak_14, ak_15, ak_17, ak_20, ak_21, ak_22, ak_23, ak_24, ak_25, ak_26, ak_28, ak_29, ak_30, ak_31, ak_32, ak_33, ak_34, ak_35, ak_36, ak_37, eq_self, Int.toNat_natCast, Nat.zero_le, bI_0, b01_0, bI_or, b01_or, ne_eq, reduceCtorEq, not_false_eq_true, Nat.reduceEqDiff, if_true, if_false, ite_true, ite_false, Int.natCast_nonneg, not_true_eq_false, Bool.true_eq_false, Bool.false_eq_true, Int.reduceEq, Int.reduceLT, Int.reduceLE, Int.reduceToNat, and_self, inA, exists_eq, or_true, true_or, or_false, false_or, and_false, false_and, or_self, Nat.reduceLT])
  unfold updA
  rcases hS with ⟨s0, s1⟩ | ⟨s0, s1, s2, s3⟩
  · rw [if_pos s0]
    refine ⟨_, (hcd _).mpr ?_, (hu (V 7 10) (strC V)).1, (hu (V 7 10) (strC V)).2⟩
    rw [s1, if_neg (by omega), if_neg (by omega)]
  · rw [if_neg (by omega), ← s1, ← s2]
    by_cases a1 : h 16 13 3 < V 7 10
    · rw [if_pos a1]
      refine ⟨_, (hcd _).mpr ?_, (hu (V 7 10) (strC V)).1, (hu (V 7 10) (strC V)).2⟩
      rw [if_neg (by omega), if_neg (by omega)]
    · rw [if_neg a1]
      by_cases a2 : V 7 10 = h 16 13 3
      · rw [if_pos a2]
        by_cases a3 : h 16 13 4 < strC V
        · rw [if_pos a3]
          refine ⟨_, (hcd _).mpr ?_, (hu (V 7 10) (strC V)).1, (hu (V 7 10) (strC V)).2⟩
          rw [if_neg (by omega), if_pos a2, if_pos a3]
        · rw [if_neg a3]
          refine ⟨h, (hcd _).mpr ?_, KEP.rf _ _, Or.inr ⟨s0, s1, s2, s3⟩⟩
          rw [if_neg (by omega), if_pos a2, if_neg a3]
      · rw [if_neg a2]
        refine ⟨h, (hcd _).mpr ?_, KEP.rf _ _, Or.inr ⟨s0, s1, s2, s3⟩⟩
        rw [if_pos (by omega)]
theorem sx_stage {d q : Nat} {h : AH} (hq : q ≤ 4) : CallR (d + 1) 23 [vR 16 13, vI (q : Int)] h (some (vR (3 + q) 7)) h := by
  have h1 : ¬ (q : Int) < 0 := by omega
  have h2 : ¬ (4 : Int) < (q : Int) := by omega
  have h3 : (q : Int) < 5 := by omega
  (rw [cr_23]; simp only [r23_0, r23_1, r23_4, r23_5, r23_6, r23_9, r23_10, r23_13, r23_14, r23_15, r23_18, r23_19, h1, h2, h3, reduceIte, Option.some.injEq, and_assoc, exists_and_left, exists_eq_left, exists_eq_left', true_and, and_true, List.length_cons, List.length_nil, Nat.reduceAdd, Nat.reduceLeDiff, Sum.inl.injEq, az_0, az_1, az_2, az_3, az_4, az_5, az_6, az_8, az_11, az_14, az_15, az_17, az_20, az_21, az_22, az_23, az_24, az_25, az_26, az_28, az_29, az_30, az_31, az_32, az_33, az_34, az_35, az_36, ak_0, ak_1, ak_2, ak_3, ak_4, ak_5, ak_6, ak_8, ak_11, ak_14, ak_15, ak_17, ak_20, ak_21, ak_22, ak_23, ak_24, ak_25, ak_26, ak_28, ak_29, ak_30, ak_31, ak_32, ak_33, ak_34, ak_35, ak_36, ak_37, eq_self, Int.toNat_natCast, Nat.zero_le, bI_0, b01_0, bI_or, b01_or, ne_eq, reduceCtorEq, not_false_eq_true, Nat.reduceEqDiff, if_true, if_false, ite_true, ite_false, Int.natCast_nonneg, not_true_eq_false, Bool.true_eq_false, Bool.false_eq_true, Int.reduceEq, Int.reduceLT, Int.reduceLE, Int.reduceToNat, and_self, inA, exists_eq, or_true, true_or, or_false, false_or, and_false, false_and, or_self, Nat.reduceLT])
theorem sx_stage5 {d q : Nat} {h : AH} (hq : 4 < q) : CallR (d + 1) 23 [vR 16 13, vI (q : Int)] h (some vN) h := by
  have h1 : ¬ (q : Int) < 0 := by omega
  have h2 : (4 : Int) < (q : Int) := by omega
  (rw [cr_23]; simp only [r23_0, r23_1, r23_4, r23_5, r23_6, r23_9, r23_10, r23_13, r23_14, r23_15, r23_18, r23_19, h1, h2, reduceIte, Option.some.injEq, and_assoc, exists_and_left, exists_eq_left, exists_eq_left', true_and, and_true, List.length_cons, List.length_nil, Nat.reduceAdd, Nat.reduceLeDiff, Sum.inl.injEq, az_0, az_1, az_2, az_3, az_4, az_5, az_6, az_8, az_11, az_14, az_15, az_17, az_20, az_21, az_22, az_23, az_24, az_25, az_26, az_28, az_29, az_30, az_31, az_32, az_33, az_34, az_35, az_36, ak_0, ak_1, ak_2, ak_3, ak_4, ak_5, ak_6, ak_8, ak_11, ak_14, ak_15, ak_17, ak_20, ak_21, ak_22, ak_23, ak_24, ak_25, ak_26, ak_28, ak_29, ak_30, ak_31, ak_32, ak_33, ak_34, ak_35, ak_36, ak_37, eq_self, Int.toNat_natCast, Nat.zero_le, bI_0, b01_0, bI_or, b01_or, ne_eq, reduceCtorEq, not_false_eq_true, Nat.reduceEqDiff, if_true, if_false, ite_true, ite_false, Int.natCast_nonneg, not_true_eq_false, Bool.true_eq_false, Bool.false_eq_true, Int.reduceEq, Int.reduceLT, Int.reduceLE, Int.reduceToNat, and_self, inA, exists_eq, or_true, true_or, or_false, false_or, and_false, false_and, or_self, Nat.reduceLT])
theorem sx_explore {n : Nat} (hn : n ≤ 4) : ∀ (e : Nat) (d q : Nat) {h : AH} {V : VS} (r : Nat) (acc : Acc), e ≤ d → q + e = n → h (3 + q) = V → WF V → SREL n acc (h 16) → AREL q r (h 16) → ∃ h' : AH, CallR (d + 6) 25 [vR 16 13, vI q, vI n] h none h' ∧ KEP q h h' ∧ SREL n (dfs e V r acc) (h' 16)
  | 0, d, q, h, V, r, acc, hd, hq, hV, hw, hS, hA => by
    rw [Nat.add_zero] at hq
    subst hq
    obtain ⟨h', hc, hk, hs⟩ := sx_weigh (d := d + 3) hV hn hw hS hA
    refine ⟨h', ?_, hk, hs⟩
    have ks := wr_s (show q < 2147483647 by omega)
    by_cases q4 : q < 4
    · (rw [cr_25]; simp only [r25_0, r25_1, r25_2, r25_5, r25_6, r25_6n, r25_6s, r25_7, r25_7n, r25_10, r25_11, r25_12, r25_13, r25_14, r25_15, r25_18, r25_20, r25_21, r25_22, r25_25, r25_26, r25_27, r25_30, r25_30n, r25_30s, r25_32, r25_32n, r25_35, r25_36, r25_36n, r25_36s, r25_37, r25_40, r25_41, r25_42, CallR_iff (sx_stage (show q ≤ 4 by omega)), CallR_iff (sx_stage (show q + 1 ≤ 4 by omega)), ks, CallR_iff hc, reduceIte, Option.some.injEq, and_assoc, exists_and_left, exists_eq_left, exists_eq_left', true_and, and_true, List.length_cons, List.length_nil, Nat.reduceAdd, Nat.reduceLeDiff, Sum.inl.injEq, az_0, az_1, az_2, az_3, az_4, az_5, az_6, az_8, az_11, az_14, az_15, az_17, az_20, az_21, az_22, az_23, az_24, az_25, az_26, az_28, az_29, az_30, az_31, az_32, az_33, az_34, az_35, az_36, ak_0, ak_1, ak_2, ak_3, ak_4, ak_5, ak_6, ak_8, ak_11, ak_14, ak_15, ak_17, ak_20, ak_21, ak_22, ak_23, ak_24, ak_25, ak_26, ak_28, ak_29, ak_30, ak_31, ak_32, ak_33, ak_34, ak_35, ak_36, ak_37, eq_self, Int.toNat_natCast, Nat.zero_le, bI_0, b01_0, bI_or, b01_or, ne_eq, reduceCtorEq, not_false_eq_true, Nat.reduceEqDiff, if_true, if_false, ite_true, ite_false, Int.natCast_nonneg, not_true_eq_false, Bool.true_eq_false, Bool.false_eq_true, Int.reduceEq, Int.reduceLT, Int.reduceLE, Int.reduceToNat, and_self, inA, exists_eq, or_true, true_or, or_false, false_or, and_false, false_and, or_self, Nat.reduceLT])
    · (rw [cr_25]; simp only [r25_0, r25_1, r25_2, r25_5, r25_6, r25_6n, r25_6s, r25_7, r25_7n, r25_10, r25_11, r25_12, r25_13, r25_14, r25_15, r25_18, r25_20, r25_21, r25_22, r25_25, r25_26, r25_27, r25_30, r25_30n, r25_30s, r25_32, r25_32n, r25_35, r25_36, r25_36n, r25_36s, r25_37, r25_40, r25_41, r25_42, CallR_iff (sx_stage (show q ≤ 4 by omega)), CallR_iff (sx_stage5 (show 4 < q + 1 by omega)), ks, CallR_iff hc, reduceIte, Option.some.injEq, and_assoc, exists_and_left, exists_eq_left, exists_eq_left', true_and, and_true, List.length_cons, List.length_nil, Nat.reduceAdd, Nat.reduceLeDiff, Sum.inl.injEq, az_0, az_1, az_2, az_3, az_4, az_5, az_6, az_8, az_11, az_14, az_15, az_17, az_20, az_21, az_22, az_23, az_24, az_25, az_26, az_28, az_29, az_30, az_31, az_32, az_33, az_34, az_35, az_36, ak_0, ak_1, ak_2, ak_3, ak_4, ak_5, ak_6, ak_8, ak_11, ak_14, ak_15, ak_17, ak_20, ak_21, ak_22, ak_23, ak_24, ak_25, ak_26, ak_28, ak_29, ak_30, ak_31, ak_32, ak_33, ak_34, ak_35, ak_36, ak_37, eq_self, Int.toNat_natCast, Nat.zero_le, bI_0, b01_0, bI_or, b01_or, ne_eq, reduceCtorEq, not_false_eq_true, Nat.reduceEqDiff, if_true, if_false, ite_true, ite_false, Int.natCast_nonneg, not_true_eq_false, Bool.true_eq_false, Bool.false_eq_true, Int.reduceEq, Int.reduceLT, Int.reduceLE, Int.reduceToNat, and_self, inA, exists_eq, or_true, true_or, or_false, false_or, and_false, false_and, or_self, Nat.reduceLT])
  | e + 1, 0, q, h, V, r, acc, hd, hq, hV, hw, hS, hA => absurd hd (by omega)
  | e + 1, d + 1, q, h, V, r, acc, hd, hq, hV, hw, hS, hA => by
    have q4 : q < 4 := by omega
    have q4i : (q : Int) < 4 := by omega
    have qn : ¬ (q : Int) = (n : Int) := by omega
    have ks := wr_s (show q < 2147483647 by omega)
    obtain ⟨F, hF⟩ : ∃ F : Nat → Acc → Acc, F = fun (a : Nat) (acc : Acc) => if mayV V (a : Int) = true then dfs e (passV V (a : Int)) ((7 * r + a : Nat)) acc else acc := ⟨_, rfl⟩
    have LOOP : ∀ m a : Nat, a + m = 7 → ∀ h1 : AH, KEP q h h1 → SREL n (fold7 F acc a) (h1 16) → ∃ h' : AH, At (CallR (d + 6)) ac_25 44 [vR 16 13, vI q, vI n, vR (3 + q) 7, vR (3 + (q + 1)) 7, vI a] [] h1 (fun v' h2 => v' = none ∧ h2 = h') ∧ KEP q h h' ∧ SREL n (fold7 F acc 7) (h' 16) := by
      intro m
      induction m with
      | zero =>
        intro a ha h1 hk hs
        rw [Nat.add_zero] at ha
        subst ha
        refine ⟨h1, ?_, hk, hs⟩
        rw [r25_44]
        simp only [r25_46, r25_48, r25_51, r25_51n, r25_51s, r25_52, r25_54, r25_57, r25_60, r25_60n, r25_60s, r25_62, r25_62n, r25_62s, r25_63, r25_66, r25_66n, r25_66s, r25_68, r25_70, r25_73, r25_74, r25_77, r25_78, r25_80, r25_81, r25_82, r25_83, r25_84, r25_85, r25_86, r25_89, r25_92, r25_95, reduceIte, Option.some.injEq, and_assoc, exists_and_left, exists_eq_left, exists_eq_left', true_and, and_true, List.length_cons, List.length_nil, Nat.reduceAdd, Nat.reduceLeDiff, Sum.inl.injEq, az_0, az_1, az_2, az_3, az_4, az_5, az_6, az_8, az_11, az_14, az_15, az_17, az_20, az_21, az_22, az_23, az_24, az_25, az_26, az_28, az_29, az_30, az_31, az_32, az_33, az_34, az_35, az_36, ak_0, ak_1, ak_2, ak_3, ak_4, ak_5, ak_6, ak_8, ak_11, ak_14, ak_15, ak_17, ak_20, ak_21, ak_22, ak_23, ak_24, ak_25, ak_26, ak_28, ak_29, ak_30, ak_31, ak_32, ak_33, ak_34, ak_35, ak_36, ak_37, eq_self, Int.toNat_natCast, Nat.zero_le, bI_0, b01_0, bI_or, b01_or, ne_eq, reduceCtorEq, not_false_eq_true, Nat.reduceEqDiff, if_true, if_false, ite_true, ite_false, Int.natCast_nonneg, not_true_eq_false, Bool.true_eq_false, Bool.false_eq_true, Int.reduceEq, Int.reduceLT, Int.reduceLE, Int.reduceToNat, and_self, inA, exists_eq, or_true, true_or, or_false, false_or, and_false, false_and, or_self, Nat.reduceLT, show ¬ ((7 : Nat) : Int) < 7 by decide]
      | succ m ih =>
        intro a ha h1 hk hs
        have a7 : (a : Int) < 7 := by omega
        have ka := wr_s (show a < 2147483647 by omega)
        have e1 : h1 (3 + q) = V := (hk.1 _ (by omega) (Or.inl (Nat.le_refl _))).trans hV
        have hw1 : WF (h1 (3 + q)) := by rw [e1]; exact hw
        have us : fold7 F acc (a + 1) = F a (fold7 F acc a) := rfl
        cases hm : mayV V (a : Int)
        · have uF : F a (fold7 F acc a) = fold7 F acc a := by rw [hF]; simp only [hm, Bool.false_eq_true, if_false]
          obtain ⟨h', hc, hk', hs'⟩ := ih (a + 1) (by omega) h1 hk (by rw [us, uF]; exact hs)
          refine ⟨h', ?_, hk', hs'⟩
          rw [r25_44]
          simp only [r25_46, r25_48, r25_51, r25_51n, r25_51s, r25_52, r25_54, r25_57, r25_60, r25_60n, r25_60s, r25_62, r25_62n, r25_62s, r25_63, r25_66, r25_66n, r25_66s, r25_68, r25_70, r25_73, r25_74, r25_77, r25_78, r25_80, r25_81, r25_82, r25_83, r25_84, r25_85, r25_86, r25_89, r25_92, r25_95, reduceIte, Option.some.injEq, and_assoc, exists_and_left, exists_eq_left, exists_eq_left', true_and, and_true, List.length_cons, List.length_nil, Nat.reduceAdd, Nat.reduceLeDiff, Sum.inl.injEq, az_0, az_1, az_2, az_3, az_4, az_5, az_6, az_8, az_11, az_14, az_15, az_17, az_20, az_21, az_22, az_23, az_24, az_25, az_26, az_28, az_29, az_30, az_31, az_32, az_33, az_34, az_35, az_36, ak_0, ak_1, ak_2, ak_3, ak_4, ak_5, ak_6, ak_8, ak_11, ak_14, ak_15, ak_17, ak_20, ak_21, ak_22, ak_23, ak_24, ak_25, ak_26, ak_28, ak_29, ak_30, ak_31, ak_32, ak_33, ak_34, ak_35, ak_36, ak_37, eq_self, Int.toNat_natCast, Nat.zero_le, bI_0, b01_0, bI_or, b01_or, ne_eq, reduceCtorEq, not_false_eq_true, Nat.reduceEqDiff, if_true, if_false, ite_true, ite_false, Int.natCast_nonneg, not_true_eq_false, Bool.true_eq_false, Bool.false_eq_true, Int.reduceEq, Int.reduceLT, Int.reduceLE, Int.reduceToNat, and_self, inA, exists_eq, or_true, true_or, or_false, false_or, and_false, false_and, or_self, Nat.reduceLT, a7, CallR_iff (sp_allows hw1), e1, hm, ka]
          exact hc
        · have E := EV.bec (h1 (3 + (q + 1))) V
          have wb : WF (becV (h1 (3 + (q + 1))) V) := E.sy.wf hw
          have mb : mayV (becV (h1 (3 + (q + 1))) V) (a : Int) = true := by rw [E.c_mayV]; exact hm
          have wb2 : WF ((fup h1 (3 + (q + 1)) (becV (h1 (3 + (q + 1))) V)) (3 + (q + 1))) := by rw [fup_same]; exact wb
          have mb2 : mayV ((fup h1 (3 + (q + 1)) (becV (h1 (3 + (q + 1))) V)) (3 + (q + 1))) (a : Int) = true := by rw [fup_same]; exact mb
          obtain ⟨h3, hh3⟩ : ∃ h3 : AH, h3 = up3 (fup h1 (3 + (q + 1)) (passV (becV (h1 (3 + (q + 1))) V) (a : Int))) 16 14 q (a : Int) := ⟨_, rfl⟩
          have g3 : ∀ g, g ≠ 16 → g ≠ 3 + (q + 1) → h3 g = h1 g := by
            intro g x1 x2
            rw [hh3]
            unfold up3
            rw [fup_ne _ _ x1, fup_ne _ _ x2]
          have gq : h3 (3 + (q + 1)) = passV (becV (h1 (3 + (q + 1))) V) (a : Int) := by
            rw [hh3]
            unfold up3
            rw [fup_ne _ _ (by omega), fup_same]
          have w3 : ∀ m, m ≠ 14 → h3 16 m = h1 16 m := by
            intro m x1
            rw [hh3]
            unfold up3
            rw [fup_same, fup_ne _ _ x1, fup_ne _ _ (by omega)]
          have w14 : h3 16 14 = fup (h1 16 14) q (a : Int) := by
            rw [hh3]
            unfold up3
            rw [fup_same, fup_same, fup_ne _ _ (show 16 ≠ 3 + (q + 1) by omega)]
          have hA3 : AREL (q + 1) (7 * r + a) (h3 16) := by
            intro i hi
            rw [w14]
            by_cases iq : i = q
            · subst iq
              rw [fup_same, show i + 1 - 1 - i = 0 by omega, Nat.pow_zero, Nat.div_one, show (7 * r + a) % 7 = a by omega]
            · rw [fup_ne _ _ iq, hk.2.2 i (by omega), hA i (by omega), show q + 1 - 1 - i = (q - 1 - i) + 1 by omega, Nat.pow_succ, Nat.mul_comm (7 ^ (q - 1 - i)) 7, ← Nat.div_div_eq_div_mul, show (7 * r + a) / 7 = r by omega]
          have hS3 : SREL n (fold7 F acc a) (h3 16) := hs.c (w3 13 (by decide)) (w3 15 (by decide))
          obtain ⟨h4, hc4, hk4, hs4⟩ := sx_explore hn e d (q + 1) (7 * r + a) (fold7 F acc a) (by omega) (by omega) gq (pass_wf wb mb) hS3 hA3
          have uF : F a (fold7 F acc a) = dfs e (passV (becV (h1 (3 + (q + 1))) V) (a : Int)) (7 * r + a) (fold7 F acc a) := by
            rw [hF]
            simp only [hm, if_true]
            exact (EV.c_dfs e _ _ (E.c_passV (a : Int))).symm
          have hkn : KEP q h h4 := by
            refine ⟨fun g x1 x2 => ?_, fun m x1 x2 x3 => ?_, fun i hi => ?_⟩
            · rw [hk4.1 g x1 (by omega), g3 g x1 (by omega), hk.1 g x1 x2]
            · rw [hk4.2.1 m x1 x2 x3, w3 m x2, hk.2.1 m x1 x2 x3]
            · rw [hk4.2.2 i (by omega), w14, fup_ne _ _ (by omega), hk.2.2 i hi]
          obtain ⟨h', hc, hk', hs'⟩ := ih (a + 1) (by omega) h4 hkn (by rw [us, uF]; exact hs4)
          refine ⟨h', ?_, hk', hs'⟩
          rw [hh3] at hc4
          rw [r25_44]
          simp only [r25_46, r25_48, r25_51, r25_51n, r25_51s, r25_52, r25_54, r25_57, r25_60, r25_60n, r25_60s, r25_62, r25_62n, r25_62s, r25_63, r25_66, r25_66n, r25_66s, r25_68, r25_70, r25_73, r25_74, r25_77, r25_78, r25_80, r25_81, r25_82, r25_83, r25_84, r25_85, r25_86, r25_89, r25_92, r25_95, reduceIte, Option.some.injEq, and_assoc, exists_and_left, exists_eq_left, exists_eq_left', true_and, and_true, List.length_cons, List.length_nil, Nat.reduceAdd, Nat.reduceLeDiff, Sum.inl.injEq, az_0, az_1, az_2, az_3, az_4, az_5, az_6, az_8, az_11, az_14, az_15, az_17, az_20, az_21, az_22, az_23, az_24, az_25, az_26, az_28, az_29, az_30, az_31, az_32, az_33, az_34, az_35, az_36, ak_0, ak_1, ak_2, ak_3, ak_4, ak_5, ak_6, ak_8, ak_11, ak_14, ak_15, ak_17, ak_20, ak_21, ak_22, ak_23, ak_24, ak_25, ak_26, ak_28, ak_29, ak_30, ak_31, ak_32, ak_33, ak_34, ak_35, ak_36, ak_37, eq_self, Int.toNat_natCast, Nat.zero_le, bI_0, b01_0, bI_or, b01_or, ne_eq, reduceCtorEq, not_false_eq_true, Nat.reduceEqDiff, if_true, if_false, ite_true, ite_false, Int.natCast_nonneg, not_true_eq_false, Bool.true_eq_false, Bool.false_eq_true, Int.reduceEq, Int.reduceLT, Int.reduceLE, Int.reduceToNat, and_self, inA, exists_eq, or_true, true_or, or_false, false_or, and_false, false_and, or_self, Nat.reduceLT, a7, CallR_iff (sp_allows hw1), e1, hm, CallR_iff (sp_become (show 3 + q ≠ 3 + (q + 1) by omega)), CallR_iff (sp_pass wb2 mb2), fup_same, fup_fup, q4i, ks, CallR_iff hc4, ka]
          exact hc
    obtain ⟨h', hc, hk, hs⟩ := LOOP 7 0 rfl h (KEP.rf _ _) hS
    refine ⟨h', ?_, hk, ?_⟩
    · (rw [cr_25]; simp only [r25_0, r25_1, r25_2, r25_5, r25_6, r25_6n, r25_6s, r25_7, r25_7n, r25_10, r25_11, r25_12, r25_13, r25_14, r25_15, r25_18, r25_20, r25_21, r25_22, r25_25, r25_26, r25_27, r25_30, r25_30n, r25_30s, r25_32, r25_32n, r25_35, r25_36, r25_36n, r25_36s, r25_37, r25_40, r25_41, r25_42, CallR_iff (sx_stage (show q ≤ 4 by omega)), CallR_iff (sx_stage (show q + 1 ≤ 4 by omega)), ks, qn, q4i, reduceIte, Option.some.injEq, and_assoc, exists_and_left, exists_eq_left, exists_eq_left', true_and, and_true, List.length_cons, List.length_nil, Nat.reduceAdd, Nat.reduceLeDiff, Sum.inl.injEq, az_0, az_1, az_2, az_3, az_4, az_5, az_6, az_8, az_11, az_14, az_15, az_17, az_20, az_21, az_22, az_23, az_24, az_25, az_26, az_28, az_29, az_30, az_31, az_32, az_33, az_34, az_35, az_36, ak_0, ak_1, ak_2, ak_3, ak_4, ak_5, ak_6, ak_8, ak_11, ak_14, ak_15, ak_17, ak_20, ak_21, ak_22, ak_23, ak_24, ak_25, ak_26, ak_28, ak_29, ak_30, ak_31, ak_32, ak_33, ak_34, ak_35, ak_36, ak_37, eq_self, Int.toNat_natCast, Nat.zero_le, bI_0, b01_0, bI_or, b01_or, ne_eq, reduceCtorEq, not_false_eq_true, Nat.reduceEqDiff, if_true, if_false, ite_true, ite_false, Int.natCast_nonneg, not_true_eq_false, Bool.true_eq_false, Bool.false_eq_true, Int.reduceEq, Int.reduceLT, Int.reduceLE, Int.reduceToNat, and_self, inA, exists_eq, or_true, true_or, or_false, false_or, and_false, false_and, or_self, Nat.reduceLT])
      exact hc
    · unfold dfs
      rw [hF] at hs
      exact hs
