/-! PURE: the valley's reads -/
theorem sp_hasPlace {d g : Nat} {h : AH} {p : Int} : CallR (d + 1) 41 [vR g 7, vI p] h (some (vI (b01 (hpB (h g) p)))) h := by
  rw [cr_41]
  simp only [r41_0, r41_1, r41_4, r41_5, r41_6, r41_9, r41_12, r41_13, r41_15, r41_18, r41_19, r41_22, r41_23]
  (repeat' split) <;> simp [b01, hpB] <;> omega
theorem sp_kindAt {d g : Nat} {h : AH} {p : Int} : CallR (d + 2) 44 [vR g 7, vI p] h (some (vI (kindV (h g) p))) h := by
  rw [cr_44]
  simp only [r44_0, r44_1, r44_2, r44_5, r44_8, r44_9, r44_12, r44_13, r44_14, r44_17, r44_18, CallR_iff sp_hasPlace, reduceIte, Option.some.injEq, and_assoc, exists_and_left, exists_eq_left, exists_eq_left', true_and, and_true, List.length_cons, List.length_nil, Nat.reduceAdd, Nat.reduceLeDiff, Sum.inl.injEq, az_0, az_1, az_2, az_3, az_4, az_5, az_6, az_8, az_11, az_14, az_15, az_17, az_20, az_21, az_22, az_23, az_24, az_25, az_26, az_28, az_29, az_30, az_31, az_32, az_33, az_34, az_35, az_36, ak_0, ak_1, ak_2, ak_3, ak_4, ak_5, ak_6, ak_8, ak_11, ak_14, ak_15, ak_17, ak_20, ak_21, ak_22, ak_23, ak_24, ak_25, ak_26, ak_28, ak_29, ak_30, ak_31, ak_32, ak_33, ak_34, ak_35, ak_36, ak_37, eq_self, Int.toNat_natCast, Nat.zero_le, bI_0, b01_0, bI_or, b01_or, ne_eq, reduceCtorEq, not_false_eq_true, Nat.reduceEqDiff, if_true, if_false, ite_true, ite_false, Int.natCast_nonneg]
  unfold kindV
  cases hq : hpB (h g) p
  · simp
  · have := hpB_iff.mp hq
    simp; omega
theorem sp_traitAt {d g : Nat} {h : AH} {p : Int} : CallR (d + 2) 45 [vR g 7, vI p] h (some (vI (traitV (h g) p))) h := by
  rw [cr_45]
  simp only [r45_0, r45_1, r45_2, r45_5, r45_8, r45_9, r45_12, r45_13, r45_14, r45_17, r45_18, CallR_iff sp_hasPlace, reduceIte, Option.some.injEq, and_assoc, exists_and_left, exists_eq_left, exists_eq_left', true_and, and_true, List.length_cons, List.length_nil, Nat.reduceAdd, Nat.reduceLeDiff, Sum.inl.injEq, az_0, az_1, az_2, az_3, az_4, az_5, az_6, az_8, az_11, az_14, az_15, az_17, az_20, az_21, az_22, az_23, az_24, az_25, az_26, az_28, az_29, az_30, az_31, az_32, az_33, az_34, az_35, az_36, ak_0, ak_1, ak_2, ak_3, ak_4, ak_5, ak_6, ak_8, ak_11, ak_14, ak_15, ak_17, ak_20, ak_21, ak_22, ak_23, ak_24, ak_25, ak_26, ak_28, ak_29, ak_30, ak_31, ak_32, ak_33, ak_34, ak_35, ak_36, ak_37, eq_self, Int.toNat_natCast, Nat.zero_le, bI_0, b01_0, bI_or, b01_or, ne_eq, reduceCtorEq, not_false_eq_true, Nat.reduceEqDiff, if_true, if_false, ite_true, ite_false, Int.natCast_nonneg]
  unfold traitV
  cases hq : hpB (h g) p
  · simp
  · have := hpB_iff.mp hq
    simp; omega
theorem sp_fogAt {d g : Nat} {h : AH} {p : Int} : CallR (d + 2) 46 [vR g 7, vI p] h (some (vI (fogV (h g) p))) h := by
  rw [cr_46]
  simp only [r46_0, r46_1, r46_2, r46_5, r46_8, r46_9, r46_12, r46_13, r46_14, r46_17, r46_18, CallR_iff sp_hasPlace, reduceIte, Option.some.injEq, and_assoc, exists_and_left, exists_eq_left, exists_eq_left', true_and, and_true, List.length_cons, List.length_nil, Nat.reduceAdd, Nat.reduceLeDiff, Sum.inl.injEq, az_0, az_1, az_2, az_3, az_4, az_5, az_6, az_8, az_11, az_14, az_15, az_17, az_20, az_21, az_22, az_23, az_24, az_25, az_26, az_28, az_29, az_30, az_31, az_32, az_33, az_34, az_35, az_36, ak_0, ak_1, ak_2, ak_3, ak_4, ak_5, ak_6, ak_8, ak_11, ak_14, ak_15, ak_17, ak_20, ak_21, ak_22, ak_23, ak_24, ak_25, ak_26, ak_28, ak_29, ak_30, ak_31, ak_32, ak_33, ak_34, ak_35, ak_36, ak_37, eq_self, Int.toNat_natCast, Nat.zero_le, bI_0, b01_0, bI_or, b01_or, ne_eq, reduceCtorEq, not_false_eq_true, Nat.reduceEqDiff, if_true, if_false, ite_true, ite_false, Int.natCast_nonneg]
  unfold fogV
  cases hq : hpB (h g) p
  · simp
  · have := hpB_iff.mp hq
    simp; omega
theorem sp_setFog {d g : Nat} {h : AH} {p f : Int} : CallR (d + 2) 47 [vR g 7, vI p, vI f] h none (fup h g (setFogV (h g) p f)) := by
  rw [cr_47]
  simp only [r47_0, r47_1, r47_2, r47_5, r47_8, r47_9, r47_12, r47_13, r47_14, r47_15, CallR_iff sp_hasPlace, reduceIte, Option.some.injEq, and_assoc, exists_and_left, exists_eq_left, exists_eq_left', true_and, and_true, List.length_cons, List.length_nil, Nat.reduceAdd, Nat.reduceLeDiff, Sum.inl.injEq, az_0, az_1, az_2, az_3, az_4, az_5, az_6, az_8, az_11, az_14, az_15, az_17, az_20, az_21, az_22, az_23, az_24, az_25, az_26, az_28, az_29, az_30, az_31, az_32, az_33, az_34, az_35, az_36, ak_0, ak_1, ak_2, ak_3, ak_4, ak_5, ak_6, ak_8, ak_11, ak_14, ak_15, ak_17, ak_20, ak_21, ak_22, ak_23, ak_24, ak_25, ak_26, ak_28, ak_29, ak_30, ak_31, ak_32, ak_33, ak_34, ak_35, ak_36, ak_37, eq_self, Int.toNat_natCast, Nat.zero_le, bI_0, b01_0, bI_or, b01_or, ne_eq, reduceCtorEq, not_false_eq_true, Nat.reduceEqDiff, if_true, if_false, ite_true, ite_false, Int.natCast_nonneg]
  unfold setFogV
  cases hq : hpB (h g) p
  · simp [fup_id]
  · have := hpB_iff.mp hq
    simp [up3]; omega
theorem sp_hasRoom {d g : Nat} {h : AH} : CallR (d + 1) 42 [vR g 7] h (some (vI (bI (h g 7 7 < 8)))) h := by
  rw [cr_42]
  simp only [r42_0, r42_1, r42_4, r42_6, r42_9, r42_10, r42_13, r42_14]
  (repeat' split) <;> simp_all [bI]
theorem lp_freeB {d g : Nat} {h : AH} {Q : Option AV → AH → Prop} (hb : BD (h g)) : ∀ (k i : Nat), ((i + k : Nat) : Int) = h g 7 8 → (At (CallR d) ac_51 2 [vR g 7, vI i] [] h Q ↔ Q (some (vI (freeF (h g) k i))) h)
  | 0, i, e => by
    have h1 : ¬ (i : Int) < h g 7 8 := by omega
    rw [r51_2]
    simp only [r51_3, r51_4, r51_7, r51_10, r51_11, r51_13, r51_16, r51_17, r51_20, r51_21, r51_22, r51_25, r51_28, r51_29, r51_30, r51_33, r51_36, r51_37, r51_40, r51_42, r51_45, r51_46, r51_49, r51_52, r51_53, reduceIte, Option.some.injEq, and_assoc, exists_and_left, exists_eq_left, exists_eq_left', true_and, and_true, List.length_cons, List.length_nil, Nat.reduceAdd, Nat.reduceLeDiff, Sum.inl.injEq, az_0, az_1, az_2, az_3, az_4, az_5, az_6, az_8, az_11, az_14, az_15, az_17, az_20, az_21, az_22, az_23, az_24, az_25, az_26, az_28, az_29, az_30, az_31, az_32, az_33, az_34, az_35, az_36, ak_0, ak_1, ak_2, ak_3, ak_4, ak_5, ak_6, ak_8, ak_11, ak_14, ak_15, ak_17, ak_20, ak_21, ak_22, ak_23, ak_24, ak_25, ak_26, ak_28, ak_29, ak_30, ak_31, ak_32, ak_33, ak_34, ak_35, ak_36, ak_37, eq_self, Int.toNat_natCast, Nat.zero_le, bI_0, b01_0, bI_or, b01_or, ne_eq, reduceCtorEq, not_false_eq_true, Nat.reduceEqDiff, if_true, if_false, ite_true, ite_false, Int.natCast_nonneg, h1, if_false, freeF]
    split <;> exact Iff.rfl
  | k + 1, i, e => by
    have h4 := hb.2.2.2
    have h1 : (i : Int) < h g 7 8 := by omega
    have h2 : (i : Int) < 12 := by omega
    have ih := lp_freeB (d := d) (Q := Q) hb k (i + 1) (by omega)
    rw [r51_2]
    simp only [r51_3, r51_4, r51_7, r51_10, r51_11, r51_13, r51_16, r51_17, r51_20, r51_21, r51_22, r51_25, r51_28, r51_29, r51_30, r51_33, r51_36, r51_37, r51_40, r51_42, r51_45, r51_46, r51_49, r51_52, r51_53, reduceIte, Option.some.injEq, and_assoc, exists_and_left, exists_eq_left, exists_eq_left', true_and, and_true, List.length_cons, List.length_nil, Nat.reduceAdd, Nat.reduceLeDiff, Sum.inl.injEq, az_0, az_1, az_2, az_3, az_4, az_5, az_6, az_8, az_11, az_14, az_15, az_17, az_20, az_21, az_22, az_23, az_24, az_25, az_26, az_28, az_29, az_30, az_31, az_32, az_33, az_34, az_35, az_36, ak_0, ak_1, ak_2, ak_3, ak_4, ak_5, ak_6, ak_8, ak_11, ak_14, ak_15, ak_17, ak_20, ak_21, ak_22, ak_23, ak_24, ak_25, ak_26, ak_28, ak_29, ak_30, ak_31, ak_32, ak_33, ak_34, ak_35, ak_36, ak_37, eq_self, Int.toNat_natCast, Nat.zero_le, bI_0, b01_0, bI_or, b01_or, ne_eq, reduceCtorEq, not_false_eq_true, Nat.reduceEqDiff, if_true, if_false, ite_true, ite_false, Int.natCast_nonneg, h1, h2, if_true, freeF, wr_s (show i < 2147483647 by omega), ih]
    split <;> rfl
theorem sp_freeB {d g : Nat} {h : AH} (hb : BD (h g)) : CallR (d + 1) 51 [vR g 7] h (some (vI (freeF (h g) (nB (h g)) 0))) h := by
  have h0 := hb.2.2.1
  have L := lp_freeB (d := d) (g := g) (h := h) (Q := fun v' h2 => v' = some (vI (freeF (h g) (nB (h g)) 0)) ∧ h2 = h) hb (nB (h g)) 0 (by unfold nB; omega)
  rw [cr_51]
  simp only [r51_0, r51_1]
  exact L.mpr ⟨rfl, rfl⟩
theorem sp_hasBottle {d g : Nat} {h : AH} {b : Int} : CallR (d + 1) 50 [vR g 7, vI b] h (some (vI (bI (0 ≤ b ∧ b < h g 7 8 ∧ b < 12)))) h := by
  rw [cr_50]
  simp only [r50_0, r50_1, r50_4, r50_5, r50_6, r50_9, r50_12, r50_13, r50_15, r50_18, r50_19, r50_22, r50_23]
  (repeat' split) <;> simp [bI] <;> omega
theorem sp_classOf {d g : Nat} {h : AH} {b : Int} : CallR (d + 1) 57 [vR g 7, vI b] h (some (vI (clsF (if 0 ≤ b ∧ b < 12 then h g 4 b.toNat else 0)))) h := by
  rw [cr_57]
  simp only [r57_0, r57_1, r57_4, r57_5, r57_7, r57_10, r57_11, r57_14, r57_15, r57_16, r57_19, r57_20, r57_21, r57_22, r57_24, r57_27, r57_28, r57_29, r57_30, r57_32, r57_35, r57_36, r57_37, r57_38, r57_40, r57_43, r57_44, r57_47, r57_48, reduceIte, Option.some.injEq, and_assoc, exists_and_left, exists_eq_left, exists_eq_left', true_and, and_true, List.length_cons, List.length_nil, Nat.reduceAdd, Nat.reduceLeDiff, Sum.inl.injEq, az_0, az_1, az_2, az_3, az_4, az_5, az_6, az_8, az_11, az_14, az_15, az_17, az_20, az_21, az_22, az_23, az_24, az_25, az_26, az_28, az_29, az_30, az_31, az_32, az_33, az_34, az_35, az_36, ak_0, ak_1, ak_2, ak_3, ak_4, ak_5, ak_6, ak_8, ak_11, ak_14, ak_15, ak_17, ak_20, ak_21, ak_22, ak_23, ak_24, ak_25, ak_26, ak_28, ak_29, ak_30, ak_31, ak_32, ak_33, ak_34, ak_35, ak_36, ak_37, eq_self, Int.toNat_natCast, Nat.zero_le, bI_0, b01_0, bI_or, b01_or, ne_eq, reduceCtorEq, not_false_eq_true, Nat.reduceEqDiff, if_true, if_false, ite_true, ite_false, Int.natCast_nonneg]
  unfold clsF
  by_cases h1 : b < 0
  · simp [h1, show ¬ (0 ≤ b ∧ b < 12) by omega]
  · by_cases h2 : b < 12
    · simp [h1, h2, show 0 ≤ b ∧ b < 12 by omega]
      (repeat' split) <;> simp_all <;> omega
    · simp [h1, h2, show ¬ (0 ≤ b ∧ b < 12) by omega]
theorem sp_priceOf {d g : Nat} {h : AH} {r : Int} : CallR (d + 1) 58 [vR g 7, vI r] h (some (vI (if 0 ≤ r ∧ r < 4 then h g 6 r.toNat else 0))) h := by
  rw [cr_58]
  simp only [r58_0, r58_1, r58_4, r58_5, r58_6, r58_9, r58_10, r58_13, r58_14, r58_15, r58_18, r58_19, reduceIte, Option.some.injEq, and_assoc, exists_and_left, exists_eq_left, exists_eq_left', true_and, and_true, List.length_cons, List.length_nil, Nat.reduceAdd, Nat.reduceLeDiff, Sum.inl.injEq, az_0, az_1, az_2, az_3, az_4, az_5, az_6, az_8, az_11, az_14, az_15, az_17, az_20, az_21, az_22, az_23, az_24, az_25, az_26, az_28, az_29, az_30, az_31, az_32, az_33, az_34, az_35, az_36, ak_0, ak_1, ak_2, ak_3, ak_4, ak_5, ak_6, ak_8, ak_11, ak_14, ak_15, ak_17, ak_20, ak_21, ak_22, ak_23, ak_24, ak_25, ak_26, ak_28, ak_29, ak_30, ak_31, ak_32, ak_33, ak_34, ak_35, ak_36, ak_37, eq_self, Int.toNat_natCast, Nat.zero_le, bI_0, b01_0, bI_or, b01_or, ne_eq, reduceCtorEq, not_false_eq_true, Nat.reduceEqDiff, if_true, if_false, ite_true, ite_false, Int.natCast_nonneg]
  by_cases h1 : r < 0
  · simp [h1, show ¬ (0 ≤ r ∧ r < 4) by omega]
  · by_cases h2 : r < 4
    · simp [h1, h2, show 0 ≤ r ∧ r < 4 by omega]
    · simp [h1, h2, show ¬ (0 ≤ r ∧ r < 4) by omega]
theorem sp_setPrice {d g : Nat} {h : AH} {r x : Int} : CallR (d + 1) 59 [vR g 7, vI r, vI x] h none (fup h g (setPriceV (h g) r x)) := by
  rw [cr_59]
  simp only [r59_0, r59_1, r59_2, r59_5, r59_6, r59_7, r59_10, r59_11, r59_14, r59_15, r59_16, r59_17, reduceIte, Option.some.injEq, and_assoc, exists_and_left, exists_eq_left, exists_eq_left', true_and, and_true, List.length_cons, List.length_nil, Nat.reduceAdd, Nat.reduceLeDiff, Sum.inl.injEq, az_0, az_1, az_2, az_3, az_4, az_5, az_6, az_8, az_11, az_14, az_15, az_17, az_20, az_21, az_22, az_23, az_24, az_25, az_26, az_28, az_29, az_30, az_31, az_32, az_33, az_34, az_35, az_36, ak_0, ak_1, ak_2, ak_3, ak_4, ak_5, ak_6, ak_8, ak_11, ak_14, ak_15, ak_17, ak_20, ak_21, ak_22, ak_23, ak_24, ak_25, ak_26, ak_28, ak_29, ak_30, ak_31, ak_32, ak_33, ak_34, ak_35, ak_36, ak_37, eq_self, Int.toNat_natCast, Nat.zero_le, bI_0, b01_0, bI_or, b01_or, ne_eq, reduceCtorEq, not_false_eq_true, Nat.reduceEqDiff, if_true, if_false, ite_true, ite_false, Int.natCast_nonneg]
  unfold setPriceV
  by_cases h1 : r < 1
  · simp [h1, show ¬ (1 ≤ r ∧ r < 4) by omega, fup_id]
  · by_cases h2 : r < 4
    · simp [h1, h2, show 1 ≤ r ∧ r < 4 by omega, up3]; omega
    · simp [h1, h2, show ¬ (1 ≤ r ∧ r < 4) by omega, fup_id]
theorem sp_strengthOf {d g : Nat} {h : AH} {b : Int} : CallR (d + 2) 55 [vR g 7, vI b] h (some (vI (if 0 ≤ b ∧ b < h g 7 8 ∧ b < 12 then h g 4 b.toNat else 0))) h := by
  rw [cr_55]
  simp only [r55_0, r55_1, r55_2, r55_5, r55_8, r55_9, r55_12, r55_13, r55_14, r55_17, r55_18, CallR_iff sp_hasBottle, reduceIte, Option.some.injEq, and_assoc, exists_and_left, exists_eq_left, exists_eq_left', true_and, and_true, List.length_cons, List.length_nil, Nat.reduceAdd, Nat.reduceLeDiff, Sum.inl.injEq, az_0, az_1, az_2, az_3, az_4, az_5, az_6, az_8, az_11, az_14, az_15, az_17, az_20, az_21, az_22, az_23, az_24, az_25, az_26, az_28, az_29, az_30, az_31, az_32, az_33, az_34, az_35, az_36, ak_0, ak_1, ak_2, ak_3, ak_4, ak_5, ak_6, ak_8, ak_11, ak_14, ak_15, ak_17, ak_20, ak_21, ak_22, ak_23, ak_24, ak_25, ak_26, ak_28, ak_29, ak_30, ak_31, ak_32, ak_33, ak_34, ak_35, ak_36, ak_37, eq_self, Int.toNat_natCast, Nat.zero_le, bI_0, b01_0, bI_or, b01_or, ne_eq, reduceCtorEq, not_false_eq_true, Nat.reduceEqDiff, if_true, if_false, ite_true, ite_false, Int.natCast_nonneg]
  by_cases h1 : 0 ≤ b ∧ b < h g 7 8 ∧ b < 12 <;> simp [h1]
theorem sp_spotOf {d g : Nat} {h : AH} {b : Int} : CallR (d + 2) 56 [vR g 7, vI b] h (some (vI (if 0 ≤ b ∧ b < h g 7 8 ∧ b < 12 then h g 5 b.toNat else 200))) h := by
  rw [cr_56]
  simp only [r56_0, r56_1, r56_2, r56_5, r56_8, r56_9, r56_12, r56_13, r56_14, r56_17, r56_20, CallR_iff sp_hasBottle, reduceIte, Option.some.injEq, and_assoc, exists_and_left, exists_eq_left, exists_eq_left', true_and, and_true, List.length_cons, List.length_nil, Nat.reduceAdd, Nat.reduceLeDiff, Sum.inl.injEq, az_0, az_1, az_2, az_3, az_4, az_5, az_6, az_8, az_11, az_14, az_15, az_17, az_20, az_21, az_22, az_23, az_24, az_25, az_26, az_28, az_29, az_30, az_31, az_32, az_33, az_34, az_35, az_36, ak_0, ak_1, ak_2, ak_3, ak_4, ak_5, ak_6, ak_8, ak_11, ak_14, ak_15, ak_17, ak_20, ak_21, ak_22, ak_23, ak_24, ak_25, ak_26, ak_28, ak_29, ak_30, ak_31, ak_32, ak_33, ak_34, ak_35, ak_36, ak_37, eq_self, Int.toNat_natCast, Nat.zero_le, bI_0, b01_0, bI_or, b01_or, ne_eq, reduceCtorEq, not_false_eq_true, Nat.reduceEqDiff, if_true, if_false, ite_true, ite_false, Int.natCast_nonneg]
  by_cases h1 : 0 ≤ b ∧ b < h g 7 8 ∧ b < 12 <;> simp [h1]
theorem sp_lay {d g : Nat} {h : AH} {b s : Int} : CallR (d + 2) 54 [vR g 7, vI b, vI s] h none (fup h g (layV (h g) b s)) := by
  rw [cr_54]
  simp only [r54_0, r54_1, r54_2, r54_5, r54_8, r54_9, r54_12, r54_13, r54_14, r54_15, CallR_iff sp_hasBottle, reduceIte, Option.some.injEq, and_assoc, exists_and_left, exists_eq_left, exists_eq_left', true_and, and_true, List.length_cons, List.length_nil, Nat.reduceAdd, Nat.reduceLeDiff, Sum.inl.injEq, az_0, az_1, az_2, az_3, az_4, az_5, az_6, az_8, az_11, az_14, az_15, az_17, az_20, az_21, az_22, az_23, az_24, az_25, az_26, az_28, az_29, az_30, az_31, az_32, az_33, az_34, az_35, az_36, ak_0, ak_1, ak_2, ak_3, ak_4, ak_5, ak_6, ak_8, ak_11, ak_14, ak_15, ak_17, ak_20, ak_21, ak_22, ak_23, ak_24, ak_25, ak_26, ak_28, ak_29, ak_30, ak_31, ak_32, ak_33, ak_34, ak_35, ak_36, ak_37, eq_self, Int.toNat_natCast, Nat.zero_le, bI_0, b01_0, bI_or, b01_or, ne_eq, reduceCtorEq, not_false_eq_true, Nat.reduceEqDiff, if_true, if_false, ite_true, ite_false, Int.natCast_nonneg]
  unfold layV
  by_cases h1 : 0 ≤ b ∧ b < h g 7 8 ∧ b < 12 <;> simp [h1, up3, fup_id]
theorem sp_drain {d g : Nat} {h : AH} {b : Int} : CallR (d + 1) 53 [vR g 7, vI b] h none (fup h g (drainV (h g) b)) := by
  rw [cr_53]
  simp only [r53_0, r53_1, r53_4, r53_5, r53_7, r53_10, r53_11, r53_14, r53_15, r53_16, r53_17, r53_18, r53_21, r53_22, r53_25, r53_26, reduceIte, Option.some.injEq, and_assoc, exists_and_left, exists_eq_left, exists_eq_left', true_and, and_true, List.length_cons, List.length_nil, Nat.reduceAdd, Nat.reduceLeDiff, Sum.inl.injEq, az_0, az_1, az_2, az_3, az_4, az_5, az_6, az_8, az_11, az_14, az_15, az_17, az_20, az_21, az_22, az_23, az_24, az_25, az_26, az_28, az_29, az_30, az_31, az_32, az_33, az_34, az_35, az_36, ak_0, ak_1, ak_2, ak_3, ak_4, ak_5, ak_6, ak_8, ak_11, ak_14, ak_15, ak_17, ak_20, ak_21, ak_22, ak_23, ak_24, ak_25, ak_26, ak_28, ak_29, ak_30, ak_31, ak_32, ak_33, ak_34, ak_35, ak_36, ak_37, eq_self, Int.toNat_natCast, Nat.zero_le, bI_0, b01_0, bI_or, b01_or, ne_eq, reduceCtorEq, not_false_eq_true, Nat.reduceEqDiff, if_true, if_false, ite_true, ite_false, Int.natCast_nonneg]
  unfold drainV
  by_cases h1 : b < 0
  · simp [h1, show ¬ (0 ≤ b ∧ b < 12) by omega, fup_id]
  · by_cases h2 : b < 12
    · simp [h1, h2, show 0 ≤ b ∧ b < 12 by omega, up3, fup_same, fup_fup, fup_ne]
    · simp [h1, h2, show ¬ (0 ≤ b ∧ b < 12) by omega, fup_id]
theorem sp_addPlace {d g : Nat} {h : AH} {k a f : Int} (h0 : 0 ≤ h g 7 7) (h8 : h g 7 7 < 8) : CallR (d + 1) 43 [vR g 7, vI k, vI a, vI f] h (some (vI (h g 7 7))) (fup h g (addPlV (h g) k a f)) := by
  rw [cr_43]
  simp only [r43_0, r43_1, r43_4, r43_6, r43_8, r43_11, r43_13, r43_15, r43_18, r43_19, r43_20, r43_21, r43_24, r43_26, r43_27, r43_28, r43_29, r43_32, r43_34, r43_35, r43_36, r43_37, r43_40, r43_42, r43_43, r43_44, r43_45, r43_45r, r43_46, r43_49, r43_50, r43_51, r43_54, r43_56, reduceIte, Option.some.injEq, and_assoc, exists_and_left, exists_eq_left, exists_eq_left', true_and, and_true, List.length_cons, List.length_nil, Nat.reduceAdd, Nat.reduceLeDiff, Sum.inl.injEq, az_0, az_1, az_2, az_3, az_4, az_5, az_6, az_8, az_11, az_14, az_15, az_17, az_20, az_21, az_22, az_23, az_24, az_25, az_26, az_28, az_29, az_30, az_31, az_32, az_33, az_34, az_35, az_36, ak_0, ak_1, ak_2, ak_3, ak_4, ak_5, ak_6, ak_8, ak_11, ak_14, ak_15, ak_17, ak_20, ak_21, ak_22, ak_23, ak_24, ak_25, ak_26, ak_28, ak_29, ak_30, ak_31, ak_32, ak_33, ak_34, ak_35, ak_36, ak_37, eq_self, Int.toNat_natCast, Nat.zero_le, bI_0, b01_0, bI_or, b01_or, ne_eq, reduceCtorEq, not_false_eq_true, Nat.reduceEqDiff, if_true, if_false, ite_true, ite_false, Int.natCast_nonneg]
  unfold addPlV
  simp [h0, h8, show ¬ h g 7 7 < 0 by omega, up3, fup_same, fup_fup, fup_ne, wr_id (show -2147483648 ≤ h g 7 7 + 1 by omega) (by omega)]
