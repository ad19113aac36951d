/-! PURE: the valley's sums and searches -/
theorem lp_bits {d g : Nat} {h : AH} {s : Int} {Q : Option AV → AH → Prop} (hb : BD (h g)) : ∀ (k i : Nat), ((i + k : Nat) : Int) = h g 7 8 → (At (CallR d) ac_60 4 [vR g 7, vI s, vI (bitsF (h g) s i), vI i] [] h Q ↔ Q (some (vI (bitsF (h g) s (i + k)))) h)
  | 0, i, e => by
    have h1 : ¬ (i : Int) < h g 7 8 := by omega
    rw [r60_4]
    simp only [r60_5, r60_6, r60_9, r60_12, r60_13, r60_15, r60_18, r60_19, r60_22, r60_23, r60_24, r60_25, r60_28, r60_29, r60_30, r60_31, r60_32, r60_33, r60_34, r60_37, r60_40, r60_41, reduceIte, Option.some.injEq, and_assoc, exists_and_left, exists_eq_left, exists_eq_left', true_and, and_true, List.length_cons, List.length_nil, Nat.reduceAdd, Nat.reduceLeDiff, Sum.inl.injEq, az_0, az_1, az_2, az_3, az_4, az_5, az_6, az_8, az_11, az_14, az_15, az_17, az_20, az_21, az_22, az_23, az_24, az_25, az_26, az_28, az_29, az_30, az_31, az_32, az_33, az_34, az_35, az_36, ak_0, ak_1, ak_2, ak_3, ak_4, ak_5, ak_6, ak_8, ak_11, ak_14, ak_15, ak_17, ak_20, ak_21, ak_22, ak_23, ak_24, ak_25, ak_26, ak_28, ak_29, ak_30, ak_31, ak_32, ak_33, ak_34, ak_35, ak_36, ak_37, eq_self, Int.toNat_natCast, Nat.zero_le, bI_0, b01_0, bI_or, b01_or, ne_eq, reduceCtorEq, not_false_eq_true, Nat.reduceEqDiff, if_true, if_false, ite_true, ite_false, Int.natCast_nonneg, h1]
    exact Iff.rfl
  | k + 1, i, e => by
    have h4 := hb.2.2.2
    have h1 : (i : Int) < h g 7 8 := by omega
    have h2 : (i : Int) < 12 := by omega
    have ih := lp_bits (d := d) (s := s) (Q := Q) hb k (i + 1) (by omega)
    rw [show i + 1 + k = i + (k + 1) by omega] at ih
    rw [← ih, r60_4]
    simp only [r60_5, r60_6, r60_9, r60_12, r60_13, r60_15, r60_18, r60_19, r60_22, r60_23, r60_24, r60_25, r60_28, r60_29, r60_30, r60_31, r60_32, r60_33, r60_34, r60_37, r60_40, r60_41, reduceIte, Option.some.injEq, and_assoc, exists_and_left, exists_eq_left, exists_eq_left', true_and, and_true, List.length_cons, List.length_nil, Nat.reduceAdd, Nat.reduceLeDiff, Sum.inl.injEq, az_0, az_1, az_2, az_3, az_4, az_5, az_6, az_8, az_11, az_14, az_15, az_17, az_20, az_21, az_22, az_23, az_24, az_25, az_26, az_28, az_29, az_30, az_31, az_32, az_33, az_34, az_35, az_36, ak_0, ak_1, ak_2, ak_3, ak_4, ak_5, ak_6, ak_8, ak_11, ak_14, ak_15, ak_17, ak_20, ak_21, ak_22, ak_23, ak_24, ak_25, ak_26, ak_28, ak_29, ak_30, ak_31, ak_32, ak_33, ak_34, ak_35, ak_36, ak_37, eq_self, Int.toNat_natCast, Nat.zero_le, bI_0, b01_0, bI_or, b01_or, ne_eq, reduceCtorEq, not_false_eq_true, Nat.reduceEqDiff, if_true, if_false, ite_true, ite_false, Int.natCast_nonneg, h1, h2, wr_s (show i < 2147483647 by omega), bitsF]
    split <;> exact Iff.rfl
theorem sp_bottlesAt {d g : Nat} {h : AH} {s : Int} (hb : BD (h g)) : CallR (d + 1) 60 [vR g 7, vI s] h (some (vI (bitsF (h g) s (nB (h g))))) h := by
  have h0 := hb.2.2.1
  have L := lp_bits (d := d) (g := g) (h := h) (s := s) (Q := fun v' h2 => v' = some (vI (bitsF (h g) s (nB (h g)))) ∧ h2 = h) hb (nB (h g)) 0 (by unfold nB; omega)
  rw [cr_60]
  simp only [r60_0, r60_1, r60_2, r60_3]
  exact L.mpr ⟨by rw [Nat.zero_add], rfl⟩
theorem sp_bitCount {d : Nat} {h : AH} {x : Int} : CallR (d + 1) 236 [vI x] h (some (vI (bcI x))) h := by
  rw [cr_236]
  simp only [r236_0, r236_1, r236_2, r236_3, r236_4, r236_7, r236_8, r236_9, r236_10, r236_11, r236_14, r236_15, r236_16, r236_17, r236_18, r236_21, r236_22, r236_23, r236_24, r236_25, r236_26, r236_27, r236_28, r236_29, r236_32, r236_33, r236_34, r236_35, r236_36, r236_38, r236_39, r236_40, r236_41, r236_42, r236_43, r236_45, r236_46, r236_47, r236_48, r236_49, r236_51, r236_52, reduceIte, Option.some.injEq, and_assoc, exists_and_left, exists_eq_left, exists_eq_left', true_and, and_true, List.length_cons, List.length_nil, Nat.reduceAdd, Nat.reduceLeDiff, Sum.inl.injEq, az_0, az_1, az_2, az_3, az_4, az_5, az_6, az_8, az_11, az_14, az_15, az_17, az_20, az_21, az_22, az_23, az_24, az_25, az_26, az_28, az_29, az_30, az_31, az_32, az_33, az_34, az_35, az_36, ak_0, ak_1, ak_2, ak_3, ak_4, ak_5, ak_6, ak_8, ak_11, ak_14, ak_15, ak_17, ak_20, ak_21, ak_22, ak_23, ak_24, ak_25, ak_26, ak_28, ak_29, ak_30, ak_31, ak_32, ak_33, ak_34, ak_35, ak_36, ak_37, eq_self, Int.toNat_natCast, Nat.zero_le, bI_0, b01_0, bI_or, b01_or, ne_eq, reduceCtorEq, not_false_eq_true, Nat.reduceEqDiff, if_true, if_false, ite_true, ite_false, Int.natCast_nonneg]
  rfl
theorem or_bit : ∀ n : Nat, n < 12 → ∀ x : Nat, x < 2 ^ n → opOr (x : Int) (opShl 1 (n : Int)) = ((x + 2 ^ n : Nat) : Int) := by decide +kernel
theorem bc_bit : ∀ n : Nat, n < 12 → ∀ x : Nat, x < 2 ^ n → bcI ((x + 2 ^ n : Nat) : Int) = bcI (x : Int) + 1 := by decide +kernel
theorem bits_mask (V : VS) (s : Int) : ∀ n, n ≤ 12 → ∃ x : Nat, x < 2 ^ n ∧ bitsF V s n = (x : Int) ∧ bcI (x : Int) = cntF V s n
  | 0, _ => ⟨0, by decide, rfl, by show bcI 0 = 0; decide +kernel⟩
  | n + 1, h => by
    obtain ⟨x, h1, h2, h3⟩ := bits_mask V s n (by omega)
    have hp : (2 : Nat) ^ (n + 1) = 2 ^ n + 2 ^ n := by rw [Nat.pow_succ]; omega
    unfold bitsF cntF sumN
    by_cases hq : V 5 n = s
    · rw [if_pos hq, if_pos hq, h2, or_bit n (by omega) x h1]
      refine ⟨x + 2 ^ n, by omega, rfl, ?_⟩
      rw [bc_bit n (by omega) x h1, h3]
      rfl
    · rw [if_neg hq, if_neg hq]
      exact ⟨x, by omega, h2, by rw [h3, Int.add_zero]; rfl⟩
theorem cnt_0 (V : VS) (s : Int) : ∀ n, 0 ≤ cntF V s n := fun n => (sumN_bd (B := 1) n (fun j _ => by split <;> omega)).1
theorem bits_0 (V : VS) (s : Int) : ∀ n, n ≤ 12 → (bitsF V s n = 0 ↔ cntF V s n = 0)
  | 0, _ => by simp [bitsF, cntF, sumN]
  | n + 1, h => by
    have ih := bits_0 V s n (by omega)
    have hc := cnt_0 V s n
    obtain ⟨x, h1, h2, h3⟩ := bits_mask V s n (by omega)
    unfold bitsF
    unfold cntF at hc ih ⊢
    unfold sumN
    by_cases hq : V 5 n = s
    · rw [if_pos hq, if_pos hq, h2, or_bit n (by omega) x h1]
      have : 0 < 2 ^ n := Nat.two_pow_pos n
      omega
    · rw [if_neg hq, if_neg hq, Int.add_zero]
      exact ih
theorem sp_carried {d g : Nat} {h : AH} (hb : BD (h g)) : CallR (d + 2) 61 [vR g 7] h (some (vI (cntF (h g) 100 (nB (h g))))) h := by
  rw [cr_61]
  simp only [r61_0, r61_1, r61_3, r61_6, r61_9, CallR_iff (sp_bottlesAt hb), CallR_iff sp_bitCount, reduceIte, Option.some.injEq, and_assoc, exists_and_left, exists_eq_left, exists_eq_left', true_and, and_true, List.length_cons, List.length_nil, Nat.reduceAdd, Nat.reduceLeDiff, Sum.inl.injEq, az_0, az_1, az_2, az_3, az_4, az_5, az_6, az_8, az_11, az_14, az_15, az_17, az_20, az_21, az_22, az_23, az_24, az_25, az_26, az_28, az_29, az_30, az_31, az_32, az_33, az_34, az_35, az_36, ak_0, ak_1, ak_2, ak_3, ak_4, ak_5, ak_6, ak_8, ak_11, ak_14, ak_15, ak_17, ak_20, ak_21, ak_22, ak_23, ak_24, ak_25, ak_26, ak_28, ak_29, ak_30, ak_31, ak_32, ak_33, ak_34, ak_35, ak_36, ak_37, eq_self, Int.toNat_natCast, Nat.zero_le, bI_0, b01_0, bI_or, b01_or, ne_eq, reduceCtorEq, not_false_eq_true, Nat.reduceEqDiff, if_true, if_false, ite_true, ite_false, Int.natCast_nonneg]
  obtain ⟨x, h1, h2, h3⟩ := bits_mask (h g) 100 (nB (h g)) (WF.nB12 hb)
  rw [h2, h3]
theorem lp_strC {d g : Nat} {h : AH} {Q : Option AV → AH → Prop} (hw : WF (h g)) : ∀ (k i : Nat), ((i + k : Nat) : Int) = h g 7 8 → (At (CallR d) ac_62 4 [vR g 7, vI (sumN (fun b => if h g 5 b = 100 then h g 4 b else 0) i), vI i] [] h Q ↔ Q (some (vI (sumN (fun b => if h g 5 b = 100 then h g 4 b else 0) (i + k)))) h)
  | 0, i, e => by
    have h1 : ¬ (i : Int) < h g 7 8 := by omega
    rw [r62_4]
    simp only [r62_5, r62_6, r62_9, r62_12, r62_13, r62_15, r62_18, r62_19, r62_22, r62_23, r62_24, r62_26, r62_29, r62_30, r62_31, r62_34, r62_35, r62_36, r62_37, r62_38, r62_41, r62_44, r62_45, reduceIte, Option.some.injEq, and_assoc, exists_and_left, exists_eq_left, exists_eq_left', true_and, and_true, List.length_cons, List.length_nil, Nat.reduceAdd, Nat.reduceLeDiff, Sum.inl.injEq, az_0, az_1, az_2, az_3, az_4, az_5, az_6, az_8, az_11, az_14, az_15, az_17, az_20, az_21, az_22, az_23, az_24, az_25, az_26, az_28, az_29, az_30, az_31, az_32, az_33, az_34, az_35, az_36, ak_0, ak_1, ak_2, ak_3, ak_4, ak_5, ak_6, ak_8, ak_11, ak_14, ak_15, ak_17, ak_20, ak_21, ak_22, ak_23, ak_24, ak_25, ak_26, ak_28, ak_29, ak_30, ak_31, ak_32, ak_33, ak_34, ak_35, ak_36, ak_37, eq_self, Int.toNat_natCast, Nat.zero_le, bI_0, b01_0, bI_or, b01_or, ne_eq, reduceCtorEq, not_false_eq_true, Nat.reduceEqDiff, if_true, if_false, ite_true, ite_false, Int.natCast_nonneg, h1]
    exact Iff.rfl
  | k + 1, i, e => by
    have h4 := hw.bd.2.2.2
    have h1 : (i : Int) < h g 7 8 := by omega
    have h2 : (i : Int) < 12 := by omega
    have ih := lp_strC (d := d) (Q := Q) hw k (i + 1) (by omega)
    have hbd := sumN_bd (f := fun b => if h g 5 b = 100 then h g 4 b else 0) (B := 99) i (fun j hj => by
      have := hw.str (b := j) (by unfold nB; omega)
      try simp only
      split <;> omega)
    have hs := hw.str (b := i) (by unfold nB; omega)
    rw [show i + 1 + k = i + (k + 1) by omega] at ih
    rw [← ih, r62_4]
    simp only [r62_5, r62_6, r62_9, r62_12, r62_13, r62_15, r62_18, r62_19, r62_22, r62_23, r62_24, r62_26, r62_29, r62_30, r62_31, r62_34, r62_35, r62_36, r62_37, r62_38, r62_41, r62_44, r62_45, reduceIte, Option.some.injEq, and_assoc, exists_and_left, exists_eq_left, exists_eq_left', true_and, and_true, List.length_cons, List.length_nil, Nat.reduceAdd, Nat.reduceLeDiff, Sum.inl.injEq, az_0, az_1, az_2, az_3, az_4, az_5, az_6, az_8, az_11, az_14, az_15, az_17, az_20, az_21, az_22, az_23, az_24, az_25, az_26, az_28, az_29, az_30, az_31, az_32, az_33, az_34, az_35, az_36, ak_0, ak_1, ak_2, ak_3, ak_4, ak_5, ak_6, ak_8, ak_11, ak_14, ak_15, ak_17, ak_20, ak_21, ak_22, ak_23, ak_24, ak_25, ak_26, ak_28, ak_29, ak_30, ak_31, ak_32, ak_33, ak_34, ak_35, ak_36, ak_37, eq_self, Int.toNat_natCast, Nat.zero_le, bI_0, b01_0, bI_or, b01_or, ne_eq, reduceCtorEq, not_false_eq_true, Nat.reduceEqDiff, if_true, if_false, ite_true, ite_false, Int.natCast_nonneg, h1, h2, wr_s (show i < 2147483647 by omega)]
    by_cases hq : h g 5 i = 100
    · have e2 : sumN (fun b => if h g 5 b = 100 then h g 4 b else 0) (i + 1) = wr (sumN (fun b => if h g 5 b = 100 then h g 4 b else 0) i + h g 4 i) := by
        rw [wr_id (by omega) (by omega)]
        simp only [sumN, hq, if_true]
      rw [if_pos hq, e2]
    · have e2 : sumN (fun b => if h g 5 b = 100 then h g 4 b else 0) (i + 1) = sumN (fun b => if h g 5 b = 100 then h g 4 b else 0) i := by
        simp only [sumN, hq, if_false, Int.add_zero]
      rw [if_neg hq, e2]
theorem sp_strC {d g : Nat} {h : AH} (hw : WF (h g)) : CallR (d + 1) 62 [vR g 7] h (some (vI (strC (h g)))) h := by
  have h0 := hw.bd.2.2.1
  have L := lp_strC (d := d) (g := g) (h := h) (Q := fun v' h2 => v' = some (vI (strC (h g))) ∧ h2 = h) hw (nB (h g)) 0 (by unfold nB; omega)
  rw [cr_62]
  simp only [r62_0, r62_1, r62_2, r62_3]
  exact L.mpr ⟨by rw [Nat.zero_add]; rfl, rfl⟩
theorem lp_strong {d g : Nat} {h : AH} {s : Int} {Q : Option AV → AH → Prop} (hb : BD (h g)) : ∀ (k i : Nat), ((i + k : Nat) : Int) = h g 7 8 → (At (CallR d) ac_63 7 [vR g 7, vI s, vI (stg (h g) s i).1, vI (stg (h g) s i).2, vI i] [] h Q ↔ Q (some (vI (stg (h g) s (i + k)).1)) h)
  | 0, i, e => by
    have h1 : ¬ (i : Int) < h g 7 8 := by omega
    rw [r63_7]
    simp only [r63_9, r63_10, r63_13, r63_16, r63_18, r63_20, r63_23, r63_24, r63_27, r63_29, r63_30, r63_31, r63_34, r63_35, r63_38, r63_40, r63_41, r63_42, r63_45, r63_46, r63_49, r63_51, r63_52, r63_53, r63_55, r63_56, r63_59, r63_62, r63_63, reduceIte, Option.some.injEq, and_assoc, exists_and_left, exists_eq_left, exists_eq_left', true_and, and_true, List.length_cons, List.length_nil, Nat.reduceAdd, Nat.reduceLeDiff, Sum.inl.injEq, az_0, az_1, az_2, az_3, az_4, az_5, az_6, az_8, az_11, az_14, az_15, az_17, az_20, az_21, az_22, az_23, az_24, az_25, az_26, az_28, az_29, az_30, az_31, az_32, az_33, az_34, az_35, az_36, ak_0, ak_1, ak_2, ak_3, ak_4, ak_5, ak_6, ak_8, ak_11, ak_14, ak_15, ak_17, ak_20, ak_21, ak_22, ak_23, ak_24, ak_25, ak_26, ak_28, ak_29, ak_30, ak_31, ak_32, ak_33, ak_34, ak_35, ak_36, ak_37, eq_self, Int.toNat_natCast, Nat.zero_le, bI_0, b01_0, bI_or, b01_or, ne_eq, reduceCtorEq, not_false_eq_true, Nat.reduceEqDiff, if_true, if_false, ite_true, ite_false, Int.natCast_nonneg, h1]
    exact Iff.rfl
  | k + 1, i, e => by
    have h4 := hb.2.2.2
    have h1 : (i : Int) < h g 7 8 := by omega
    have h2 : (i : Int) < 12 := by omega
    have ih := lp_strong (d := d) (s := s) (Q := Q) hb k (i + 1) (by omega)
    rw [show i + 1 + k = i + (k + 1) by omega] at ih
    rw [← ih, r63_7]
    simp only [r63_9, r63_10, r63_13, r63_16, r63_18, r63_20, r63_23, r63_24, r63_27, r63_29, r63_30, r63_31, r63_34, r63_35, r63_38, r63_40, r63_41, r63_42, r63_45, r63_46, r63_49, r63_51, r63_52, r63_53, r63_55, r63_56, r63_59, r63_62, r63_63, reduceIte, Option.some.injEq, and_assoc, exists_and_left, exists_eq_left, exists_eq_left', true_and, and_true, List.length_cons, List.length_nil, Nat.reduceAdd, Nat.reduceLeDiff, Sum.inl.injEq, az_0, az_1, az_2, az_3, az_4, az_5, az_6, az_8, az_11, az_14, az_15, az_17, az_20, az_21, az_22, az_23, az_24, az_25, az_26, az_28, az_29, az_30, az_31, az_32, az_33, az_34, az_35, az_36, ak_0, ak_1, ak_2, ak_3, ak_4, ak_5, ak_6, ak_8, ak_11, ak_14, ak_15, ak_17, ak_20, ak_21, ak_22, ak_23, ak_24, ak_25, ak_26, ak_28, ak_29, ak_30, ak_31, ak_32, ak_33, ak_34, ak_35, ak_36, ak_37, eq_self, Int.toNat_natCast, Nat.zero_le, bI_0, b01_0, bI_or, b01_or, ne_eq, reduceCtorEq, not_false_eq_true, Nat.reduceEqDiff, if_true, if_false, ite_true, ite_false, Int.natCast_nonneg, h1, h2, wr_s (show i < 2147483647 by omega), stg]
    by_cases hq : h g 5 i = s
    · by_cases hr : (stg (h g) s i).2 < h g 4 i
      · simp only [hq, hr, and_self, if_true]
      · simp only [hq, hr, and_false, if_false, if_true]
    · simp only [hq, false_and, if_false]
theorem sp_strongest {d g : Nat} {h : AH} {s : Int} (hb : BD (h g)) : CallR (d + 1) 63 [vR g 7, vI s] h (some (vI (strongV (h g) s))) h := by
  have h0 := hb.2.2.1
  have L := lp_strong (d := d) (g := g) (h := h) (s := s) (Q := fun v' h2 => v' = some (vI (strongV (h g) s)) ∧ h2 = h) hb (nB (h g)) 0 (by unfold nB; omega)
  rw [cr_63]
  simp only [r63_0, r63_1, r63_2, r63_3, r63_4, r63_5]
  exact L.mpr ⟨by rw [Nat.zero_add]; rfl, rfl⟩
theorem lp_worthA {d g : Nat} {h : AH} {s : Int} {Q : Option AV → AH → Prop} (hw : WF (h g)) : ∀ (k i : Nat), ((i + k : Nat) : Int) = h g 7 8 → (At (CallR (d + 1)) ac_64 4 [vR g 7, vI s, vI (sumN (fun b => if h g 5 b = s then priceB (h g) b else 0) i), vI i] [] h Q ↔ Q (some (vI (sumN (fun b => if h g 5 b = s then priceB (h g) b else 0) (i + k)))) h)
  | 0, i, e => by
    have h1 : ¬ (i : Int) < h g 7 8 := by omega
    rw [r64_4]
    simp only [r64_5, r64_6, r64_9, r64_12, r64_13, r64_15, r64_18, r64_19, r64_22, r64_23, r64_24, r64_25, r64_28, r64_29, r64_30, r64_31, r64_32, r64_35, r64_38, r64_39, r64_40, r64_43, r64_46, r64_47, reduceIte, Option.some.injEq, and_assoc, exists_and_left, exists_eq_left, exists_eq_left', true_and, and_true, List.length_cons, List.length_nil, Nat.reduceAdd, Nat.reduceLeDiff, Sum.inl.injEq, az_0, az_1, az_2, az_3, az_4, az_5, az_6, az_8, az_11, az_14, az_15, az_17, az_20, az_21, az_22, az_23, az_24, az_25, az_26, az_28, az_29, az_30, az_31, az_32, az_33, az_34, az_35, az_36, ak_0, ak_1, ak_2, ak_3, ak_4, ak_5, ak_6, ak_8, ak_11, ak_14, ak_15, ak_17, ak_20, ak_21, ak_22, ak_23, ak_24, ak_25, ak_26, ak_28, ak_29, ak_30, ak_31, ak_32, ak_33, ak_34, ak_35, ak_36, ak_37, eq_self, Int.toNat_natCast, Nat.zero_le, bI_0, b01_0, bI_or, b01_or, ne_eq, reduceCtorEq, not_false_eq_true, Nat.reduceEqDiff, if_true, if_false, ite_true, ite_false, Int.natCast_nonneg, h1]
    exact Iff.rfl
  | k + 1, i, e => by
    have h4 := hw.bd.2.2.2
    have h1 : (i : Int) < h g 7 8 := by omega
    have h2 : (i : Int) < 12 := by omega
    have ih := lp_worthA (d := d) (s := s) (Q := Q) hw k (i + 1) (by omega)
    have hbd := sumN_bd (f := fun b => if h g 5 b = s then priceB (h g) b else 0) (B := 99) i (fun j hj => by
      have := hw.priceB j
      try simp only
      split <;> omega)
    have hs := hw.priceB i
    have hc := clsF_bd (h g 4 i)
    rw [show i + 1 + k = i + (k + 1) by omega] at ih
    rw [← ih, r64_4]
    simp only [r64_5, r64_6, r64_9, r64_12, r64_13, r64_15, r64_18, r64_19, r64_22, r64_23, r64_24, r64_25, r64_28, r64_29, r64_30, r64_31, r64_32, r64_35, r64_38, r64_39, r64_40, r64_43, r64_46, r64_47, CallR_iff sp_classOf, CallR_iff sp_priceOf, reduceIte, Option.some.injEq, and_assoc, exists_and_left, exists_eq_left, exists_eq_left', true_and, and_true, List.length_cons, List.length_nil, Nat.reduceAdd, Nat.reduceLeDiff, Sum.inl.injEq, az_0, az_1, az_2, az_3, az_4, az_5, az_6, az_8, az_11, az_14, az_15, az_17, az_20, az_21, az_22, az_23, az_24, az_25, az_26, az_28, az_29, az_30, az_31, az_32, az_33, az_34, az_35, az_36, ak_0, ak_1, ak_2, ak_3, ak_4, ak_5, ak_6, ak_8, ak_11, ak_14, ak_15, ak_17, ak_20, ak_21, ak_22, ak_23, ak_24, ak_25, ak_26, ak_28, ak_29, ak_30, ak_31, ak_32, ak_33, ak_34, ak_35, ak_36, ak_37, eq_self, Int.toNat_natCast, Nat.zero_le, bI_0, b01_0, bI_or, b01_or, ne_eq, reduceCtorEq, not_false_eq_true, Nat.reduceEqDiff, if_true, if_false, ite_true, ite_false, Int.natCast_nonneg, h1, h2, hc, wr_s (show i < 2147483647 by omega)]
    by_cases hq : h g 5 i = s
    · have e2 : sumN (fun b => if h g 5 b = s then priceB (h g) b else 0) (i + 1) = wr (sumN (fun b => if h g 5 b = s then priceB (h g) b else 0) i + h g 6 (clsF (h g 4 i)).toNat) := by
        show _ = wr (sumN (fun b => if h g 5 b = s then priceB (h g) b else 0) i + priceB (h g) i)
        rw [wr_id (by omega) (by omega)]
        simp only [sumN, hq, if_true]
      rw [if_pos hq, e2]
    · have e2 : sumN (fun b => if h g 5 b = s then priceB (h g) b else 0) (i + 1) = sumN (fun b => if h g 5 b = s then priceB (h g) b else 0) i := by
        simp only [sumN, hq, if_false, Int.add_zero]
      rw [if_neg hq, e2]
theorem sp_worthAt {d g : Nat} {h : AH} {s : Int} (hw : WF (h g)) : CallR (d + 2) 64 [vR g 7, vI s] h (some (vI (worthA (h g) s))) h := by
  have h0 := hw.bd.2.2.1
  have L := lp_worthA (d := d) (g := g) (h := h) (s := s) (Q := fun v' h2 => v' = some (vI (worthA (h g) s)) ∧ h2 = h) hw (nB (h g)) 0 (by unfold nB; omega)
  rw [cr_64]
  simp only [r64_0, r64_1, r64_2, r64_3]
  exact L.mpr ⟨by rw [Nat.zero_add]; rfl, rfl⟩
theorem lp_worthV {d g : Nat} {h : AH} {Q : Option AV → AH → Prop} (hw : WF (h g)) : ∀ (k i : Nat), ((i + k : Nat) : Int) = h g 7 8 → (At (CallR (d + 1)) ac_65 4 [vR g 7, vI (sumN (priceB (h g)) i), vI i] [] h Q ↔ Q (some (vI (sumN (priceB (h g)) (i + k)))) h)
  | 0, i, e => by
    have h1 : ¬ (i : Int) < h g 7 8 := by omega
    rw [r65_4]
    simp only [r65_5, r65_6, r65_9, r65_12, r65_13, r65_15, r65_18, r65_19, r65_20, r65_21, r65_22, r65_25, r65_28, r65_29, r65_30, r65_33, r65_36, r65_37, reduceIte, Option.some.injEq, and_assoc, exists_and_left, exists_eq_left, exists_eq_left', true_and, and_true, List.length_cons, List.length_nil, Nat.reduceAdd, Nat.reduceLeDiff, Sum.inl.injEq, az_0, az_1, az_2, az_3, az_4, az_5, az_6, az_8, az_11, az_14, az_15, az_17, az_20, az_21, az_22, az_23, az_24, az_25, az_26, az_28, az_29, az_30, az_31, az_32, az_33, az_34, az_35, az_36, ak_0, ak_1, ak_2, ak_3, ak_4, ak_5, ak_6, ak_8, ak_11, ak_14, ak_15, ak_17, ak_20, ak_21, ak_22, ak_23, ak_24, ak_25, ak_26, ak_28, ak_29, ak_30, ak_31, ak_32, ak_33, ak_34, ak_35, ak_36, ak_37, eq_self, Int.toNat_natCast, Nat.zero_le, bI_0, b01_0, bI_or, b01_or, ne_eq, reduceCtorEq, not_false_eq_true, Nat.reduceEqDiff, if_true, if_false, ite_true, ite_false, Int.natCast_nonneg, h1]
    exact Iff.rfl
  | k + 1, i, e => by
    have h4 := hw.bd.2.2.2
    have h1 : (i : Int) < h g 7 8 := by omega
    have h2 : (i : Int) < 12 := by omega
    have ih := lp_worthV (d := d) (Q := Q) hw k (i + 1) (by omega)
    have hbd := sumN_bd (f := priceB (h g)) (B := 99) i (fun j hj => hw.priceB j)
    have hs := hw.priceB i
    have hc := clsF_bd (h g 4 i)
    have e2 : sumN (priceB (h g)) (i + 1) = wr (sumN (priceB (h g)) i + h g 6 (clsF (h g 4 i)).toNat) := by
      show _ = wr (sumN (priceB (h g)) i + priceB (h g) i)
      rw [wr_id (by omega) (by omega)]
      rfl
    rw [show i + 1 + k = i + (k + 1) by omega, e2] at ih
    rw [← ih, r65_4]
    simp only [r65_5, r65_6, r65_9, r65_12, r65_13, r65_15, r65_18, r65_19, r65_20, r65_21, r65_22, r65_25, r65_28, r65_29, r65_30, r65_33, r65_36, r65_37, CallR_iff sp_classOf, CallR_iff sp_priceOf, reduceIte, Option.some.injEq, and_assoc, exists_and_left, exists_eq_left, exists_eq_left', true_and, and_true, List.length_cons, List.length_nil, Nat.reduceAdd, Nat.reduceLeDiff, Sum.inl.injEq, az_0, az_1, az_2, az_3, az_4, az_5, az_6, az_8, az_11, az_14, az_15, az_17, az_20, az_21, az_22, az_23, az_24, az_25, az_26, az_28, az_29, az_30, az_31, az_32, az_33, az_34, az_35, az_36, ak_0, ak_1, ak_2, ak_3, ak_4, ak_5, ak_6, ak_8, ak_11, ak_14, ak_15, ak_17, ak_20, ak_21, ak_22, ak_23, ak_24, ak_25, ak_26, ak_28, ak_29, ak_30, ak_31, ak_32, ak_33, ak_34, ak_35, ak_36, ak_37, eq_self, Int.toNat_natCast, Nat.zero_le, bI_0, b01_0, bI_or, b01_or, ne_eq, reduceCtorEq, not_false_eq_true, Nat.reduceEqDiff, if_true, if_false, ite_true, ite_false, Int.natCast_nonneg, h1, h2, hc, wr_s (show i < 2147483647 by omega)]
theorem sp_worthV {d g : Nat} {h : AH} (hw : WF (h g)) : CallR (d + 2) 65 [vR g 7] h (some (vI (worthV (h g)))) h := by
  have h0 := hw.bd.2.2.1
  have L := lp_worthV (d := d) (g := g) (h := h) (Q := fun v' h2 => v' = some (vI (worthV (h g))) ∧ h2 = h) hw (nB (h g)) 0 (by unfold nB; omega)
  rw [cr_65]
  simp only [r65_0, r65_1, r65_2, r65_3]
  exact L.mpr ⟨by rw [Nat.zero_add]; rfl, rfl⟩
theorem lp_fogSum {d g : Nat} {h : AH} {Q : Option AV → AH → Prop} (hw : WF (h g)) : ∀ (k i : Nat), ((i + k : Nat) : Int) = h g 7 7 → (At (CallR d) ac_48 4 [vR g 7, vI (sumN (h g 2) i), vI i] [] h Q ↔ Q (some (vI (sumN (h g 2) (i + k)))) h)
  | 0, i, e => by
    have h1 : ¬ (i : Int) < h g 7 7 := by omega
    rw [r48_4]
    simp only [r48_5, r48_6, r48_9, r48_12, r48_13, r48_15, r48_18, r48_19, r48_20, r48_23, r48_24, r48_25, r48_26, r48_27, r48_30, r48_33, r48_34, reduceIte, Option.some.injEq, and_assoc, exists_and_left, exists_eq_left, exists_eq_left', true_and, and_true, List.length_cons, List.length_nil, Nat.reduceAdd, Nat.reduceLeDiff, Sum.inl.injEq, az_0, az_1, az_2, az_3, az_4, az_5, az_6, az_8, az_11, az_14, az_15, az_17, az_20, az_21, az_22, az_23, az_24, az_25, az_26, az_28, az_29, az_30, az_31, az_32, az_33, az_34, az_35, az_36, ak_0, ak_1, ak_2, ak_3, ak_4, ak_5, ak_6, ak_8, ak_11, ak_14, ak_15, ak_17, ak_20, ak_21, ak_22, ak_23, ak_24, ak_25, ak_26, ak_28, ak_29, ak_30, ak_31, ak_32, ak_33, ak_34, ak_35, ak_36, ak_37, eq_self, Int.toNat_natCast, Nat.zero_le, bI_0, b01_0, bI_or, b01_or, ne_eq, reduceCtorEq, not_false_eq_true, Nat.reduceEqDiff, if_true, if_false, ite_true, ite_false, Int.natCast_nonneg, h1]
    exact Iff.rfl
  | k + 1, i, e => by
    have h4 := hw.bd.2.1
    have h1 : (i : Int) < h g 7 7 := by omega
    have h2 : (i : Int) < 8 := by omega
    have ih := lp_fogSum (d := d) (Q := Q) hw k (i + 1) (by omega)
    have hbd := sumN_bd (f := h g 2) (B := 99) i (fun j hj => by have := hw.pl j (by omega); omega)
    have hs := hw.pl i (by omega)
    have e2 : sumN (h g 2) (i + 1) = wr (sumN (h g 2) i + h g 2 i) := by
      rw [wr_id (by omega) (by omega)]
      rfl
    rw [show i + 1 + k = i + (k + 1) by omega, e2] at ih
    rw [← ih, r48_4]
    simp only [r48_5, r48_6, r48_9, r48_12, r48_13, r48_15, r48_18, r48_19, r48_20, r48_23, r48_24, r48_25, r48_26, r48_27, r48_30, r48_33, r48_34, reduceIte, Option.some.injEq, and_assoc, exists_and_left, exists_eq_left, exists_eq_left', true_and, and_true, List.length_cons, List.length_nil, Nat.reduceAdd, Nat.reduceLeDiff, Sum.inl.injEq, az_0, az_1, az_2, az_3, az_4, az_5, az_6, az_8, az_11, az_14, az_15, az_17, az_20, az_21, az_22, az_23, az_24, az_25, az_26, az_28, az_29, az_30, az_31, az_32, az_33, az_34, az_35, az_36, ak_0, ak_1, ak_2, ak_3, ak_4, ak_5, ak_6, ak_8, ak_11, ak_14, ak_15, ak_17, ak_20, ak_21, ak_22, ak_23, ak_24, ak_25, ak_26, ak_28, ak_29, ak_30, ak_31, ak_32, ak_33, ak_34, ak_35, ak_36, ak_37, eq_self, Int.toNat_natCast, Nat.zero_le, bI_0, b01_0, bI_or, b01_or, ne_eq, reduceCtorEq, not_false_eq_true, Nat.reduceEqDiff, if_true, if_false, ite_true, ite_false, Int.natCast_nonneg, h1, h2, wr_s (show i < 2147483647 by omega)]
theorem sp_fogSum {d g : Nat} {h : AH} (hw : WF (h g)) : CallR (d + 1) 48 [vR g 7] h (some (vI (fogSum (h g)))) h := by
  have h0 := hw.bd.1
  have L := lp_fogSum (d := d) (g := g) (h := h) (Q := fun v' h2 => v' = some (vI (fogSum (h g))) ∧ h2 = h) hw (nP (h g)) 0 (by unfold nP; omega)
  rw [cr_48]
  simp only [r48_0, r48_1, r48_2, r48_3]
  exact L.mpr ⟨by rw [Nat.zero_add]; rfl, rfl⟩
