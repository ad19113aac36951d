/-! PURE: the reference's acts -/
theorem stg_val {V : VS} (hw : WF V) {s : Int} (hs : s ≠ 200) : ∀ n : Nat, n ≤ nB V → ((stg V s n).1 = -1 ∧ (stg V s n).2 = 0 ∧ cntF V s n = 0) ∨ (∃ b : Nat, b < n ∧ (stg V s n).1 = (b : Int) ∧ V 4 b = (stg V s n).2 ∧ V 5 b = s ∧ 1 ≤ (stg V s n).2 ∧ 0 < cntF V s n)
  | 0, _ => Or.inl ⟨rfl, rfl, rfl⟩
  | n + 1, hn => by
    have h0 := hw.bd.2.2.1
    have ih := stg_val hw hs n (by omega)
    have hb := hw.bt n (by unfold nB at hn; omega)
    have hc := cnt_0 V s n
    have hcs : cntF V s (n + 1) = cntF V s n + (if V 5 n = s then 1 else 0) := rfl
    rw [hcs]
    unfold stg
    by_cases hq : V 5 n = s
    · rw [if_pos hq]
      by_cases hr : (stg V s n).2 < V 4 n
      · rw [if_pos ⟨hq, hr⟩]
        refine Or.inr ⟨n, by omega, rfl, rfl, hq, ?_, by omega⟩
        rcases ih with h | ⟨b, h⟩
        · simp only; omega
        · simp only; omega
      · rw [if_neg (fun q => hr q.2)]
        rcases ih with h | ⟨b, h1, h2, h3, h4, h5, h6⟩
        · omega
        · exact Or.inr ⟨b, by omega, h2, h3, h4, h5, by omega⟩
    · rw [if_neg hq, if_neg (fun q => hq q.1), Int.add_zero]
      rcases ih with h | ⟨b, h1, h2⟩
      · exact Or.inl h
      · exact Or.inr ⟨b, by omega, h2⟩
theorem sm_empties {d : Nat} {h : AH} {b : Int} (h0 : 0 ≤ b) (h12 : b < 12) : CallR (d + 1) 188 [vR 17 27, vI b] h none (fup h 17 (setRV (h 17) (drainV (RV (h 17)) b))) := by
  rw [cr_188]
  simp only [r188_0, r188_1, r188_4, r188_5, r188_6, r188_7, r188_8, r188_11, r188_12, r188_15, r188_16, reduceIte, Option.some.injEq, and_assoc, exists_and_left, exists_eq_left, exists_eq_left', true_and, and_true, List.length_cons, List.length_nil, Nat.reduceAdd, Nat.reduceLeDiff, Sum.inl.injEq, az_0, az_1, az_2, az_3, az_4, az_5, az_6, az_8, az_11, az_14, az_15, az_17, az_20, az_21, az_22, az_23, az_24, az_25, az_26, az_28, az_29, az_30, az_31, az_32, az_33, az_34, az_35, az_36, ak_0, ak_1, ak_2, ak_3, ak_4, ak_5, ak_6, ak_8, ak_11, ak_14, ak_15, ak_17, ak_20, ak_21, ak_22, ak_23, ak_24, ak_25, ak_26, ak_28, ak_29, ak_30, ak_31, ak_32, ak_33, ak_34, ak_35, ak_36, ak_37, eq_self, Int.toNat_natCast, Nat.zero_le, bI_0, b01_0, bI_or, b01_or, ne_eq, reduceCtorEq, not_false_eq_true, Nat.reduceEqDiff, if_true, if_false, ite_true, ite_false, Int.natCast_nonneg, up3, fup_same, fup_fup, fR_0, fR_1, fR_2, fR_3, fR_4, fR_5, fR_6, fR_7, fR_8, fR_9, fR_10, fR_11, fR_12, fR_13, fR_14, fR_15, fR_16, RV_set, set_set, sV_0, sV_1, sV_2, sV_3, sV_4, sV_5, sV_6, sV_7, sV_8, sV_9, sV_10, sV_11, sV_12, sV_13, sV_14, sV_15, sV_16, RV_0, RV_1, RV_2, RV_3, RV_4, RV_5, RV_6, RV_7, RV_8, RV_9, RV_10, RV_11, RV_12, RV_13, RV_14, RV_15, RV_16, fup_ne, h0, h12]
  unfold drainV
  simp only [h0, h12, and_self, if_true, RV_4, RV_5]
theorem lm_carried {d : Nat} {h : AH} {Q : Option AV → AH → Prop} (hb : BD (RV (h 17))) : ∀ (k i : Nat), ((i + k : Nat) : Int) = h 17 27 8 → (At (CallR d) ac_183 4 [vR 17 27, vI (cntF (RV (h 17)) 100 i), vI i] [] h Q ↔ Q (some (vI (cntF (RV (h 17)) 100 (i + k)))) h)
  | 0, i, e => by
    have h1 : ¬ (i : Int) < h 17 27 8 := by omega
    rw [r183_4]
    simp only [r183_5, r183_6, r183_9, r183_12, r183_13, r183_16, r183_17, r183_18, r183_20, r183_23, r183_26, r183_29, r183_32, r183_33, reduceIte, Option.some.injEq, and_assoc, exists_and_left, exists_eq_left, exists_eq_left', true_and, and_true, List.length_cons, List.length_nil, Nat.reduceAdd, Nat.reduceLeDiff, Sum.inl.injEq, az_0, az_1, az_2, az_3, az_4, az_5, az_6, az_8, az_11, az_14, az_15, az_17, az_20, az_21, az_22, az_23, az_24, az_25, az_26, az_28, az_29, az_30, az_31, az_32, az_33, az_34, az_35, az_36, ak_0, ak_1, ak_2, ak_3, ak_4, ak_5, ak_6, ak_8, ak_11, ak_14, ak_15, ak_17, ak_20, ak_21, ak_22, ak_23, ak_24, ak_25, ak_26, ak_28, ak_29, ak_30, ak_31, ak_32, ak_33, ak_34, ak_35, ak_36, ak_37, eq_self, Int.toNat_natCast, Nat.zero_le, bI_0, b01_0, bI_or, b01_or, ne_eq, reduceCtorEq, not_false_eq_true, Nat.reduceEqDiff, if_true, if_false, ite_true, ite_false, Int.natCast_nonneg, h1]
    exact Iff.rfl
  | k + 1, i, e => by
    have h4 := hb.2.2.2
    rw [RV_7] at h4
    have h1 : (i : Int) < h 17 27 8 := by omega
    have h2 : (i : Int) < 12 := by omega
    have hc := sumN_bd (f := fun b => if RV (h 17) 5 b = 100 then 1 else 0) (B := 1) i (fun j _ => by try simp only
                                                                                                      split <;> omega)
    have ih := lm_carried (d := d) (Q := Q) hb k (i + 1) (by omega)
    have hcs : cntF (RV (h 17)) 100 (i + 1) = cntF (RV (h 17)) 100 i + (if h 17 25 i = 100 then 1 else 0) := rfl
    have e1 : wr (cntF (RV (h 17)) 100 i + 1) = cntF (RV (h 17)) 100 i + 1 := wr_id (by unfold cntF; omega) (by unfold cntF; omega)
    rw [show i + 1 + k = i + (k + 1) by omega] at ih
    rw [← ih, r183_4]
    simp only [r183_5, r183_6, r183_9, r183_12, r183_13, r183_16, r183_17, r183_18, r183_20, r183_23, r183_26, r183_29, r183_32, r183_33, reduceIte, Option.some.injEq, and_assoc, exists_and_left, exists_eq_left, exists_eq_left', true_and, and_true, List.length_cons, List.length_nil, Nat.reduceAdd, Nat.reduceLeDiff, Sum.inl.injEq, az_0, az_1, az_2, az_3, az_4, az_5, az_6, az_8, az_11, az_14, az_15, az_17, az_20, az_21, az_22, az_23, az_24, az_25, az_26, az_28, az_29, az_30, az_31, az_32, az_33, az_34, az_35, az_36, ak_0, ak_1, ak_2, ak_3, ak_4, ak_5, ak_6, ak_8, ak_11, ak_14, ak_15, ak_17, ak_20, ak_21, ak_22, ak_23, ak_24, ak_25, ak_26, ak_28, ak_29, ak_30, ak_31, ak_32, ak_33, ak_34, ak_35, ak_36, ak_37, eq_self, Int.toNat_natCast, Nat.zero_le, bI_0, b01_0, bI_or, b01_or, ne_eq, reduceCtorEq, not_false_eq_true, Nat.reduceEqDiff, if_true, if_false, ite_true, ite_false, Int.natCast_nonneg, h1, h2, wr_s (show i < 2147483647 by omega), e1, hcs]
    by_cases hq : h 17 25 i = 100
    · simp only [hq, if_true]
    · simp only [hq, if_false, Int.add_zero]
theorem sm_carried {d : Nat} {h : AH} (hb : BD (RV (h 17))) : CallR (d + 1) 183 [vR 17 27] h (some (vI (cntV (RV (h 17))))) h := by
  have h0 := hb.2.2.1
  rw [RV_7] at h0
  have L := lm_carried (d := d) (h := h) (Q := fun v' h2 => v' = some (vI (cntV (RV (h 17)))) ∧ h2 = h) hb (nB (RV (h 17))) 0 (by unfold nB; rw [RV_7]; omega)
  rw [cr_183]
  simp only [r183_0, r183_1, r183_2, r183_3]
  exact L.mpr ⟨by rw [Nat.zero_add]; rfl, rfl⟩
theorem lm_strC {d : Nat} {h : AH} {Q : Option AV → AH → Prop} (hw : WF (RV (h 17))) : ∀ (k i : Nat), ((i + k : Nat) : Int) = h 17 27 8 → (At (CallR d) ac_184 4 [vR 17 27, vI (sumN (fun b => if RV (h 17) 5 b = 100 then RV (h 17) 4 b else 0) i), vI i] [] h Q ↔ Q (some (vI (sumN (fun b => if RV (h 17) 5 b = 100 then RV (h 17) 4 b else 0) (i + k)))) h)
  | 0, i, e => by
    have h1 : ¬ (i : Int) < h 17 27 8 := by omega
    rw [r184_4]
    simp only [r184_5, r184_6, r184_9, r184_12, r184_13, r184_16, r184_17, r184_18, r184_20, r184_23, r184_24, r184_25, r184_28, r184_29, r184_30, r184_31, r184_32, r184_35, r184_38, r184_39, reduceIte, Option.some.injEq, and_assoc, exists_and_left, exists_eq_left, exists_eq_left', true_and, and_true, List.length_cons, List.length_nil, Nat.reduceAdd, Nat.reduceLeDiff, Sum.inl.injEq, az_0, az_1, az_2, az_3, az_4, az_5, az_6, az_8, az_11, az_14, az_15, az_17, az_20, az_21, az_22, az_23, az_24, az_25, az_26, az_28, az_29, az_30, az_31, az_32, az_33, az_34, az_35, az_36, ak_0, ak_1, ak_2, ak_3, ak_4, ak_5, ak_6, ak_8, ak_11, ak_14, ak_15, ak_17, ak_20, ak_21, ak_22, ak_23, ak_24, ak_25, ak_26, ak_28, ak_29, ak_30, ak_31, ak_32, ak_33, ak_34, ak_35, ak_36, ak_37, eq_self, Int.toNat_natCast, Nat.zero_le, bI_0, b01_0, bI_or, b01_or, ne_eq, reduceCtorEq, not_false_eq_true, Nat.reduceEqDiff, if_true, if_false, ite_true, ite_false, Int.natCast_nonneg, h1]
    exact Iff.rfl
  | k + 1, i, e => by
    have h4 := hw.bd.2.2.2
    rw [RV_7] at h4
    have h1 : (i : Int) < h 17 27 8 := by omega
    have h2 : (i : Int) < 12 := by omega
    have ih := lm_strC (d := d) (Q := Q) hw k (i + 1) (by omega)
    have hbd := sumN_bd (f := fun b => if RV (h 17) 5 b = 100 then RV (h 17) 4 b else 0) (B := 99) i (fun j hj => by
      have := hw.str (b := j) (by unfold nB; rw [RV_7]; omega)
      try simp only
      split <;> omega)
    have hs := hw.str (b := i) (by unfold nB; rw [RV_7]; omega)
    rw [RV_4] at hs
    rw [show i + 1 + k = i + (k + 1) by omega] at ih
    rw [← ih, r184_4]
    simp only [r184_5, r184_6, r184_9, r184_12, r184_13, r184_16, r184_17, r184_18, r184_20, r184_23, r184_24, r184_25, r184_28, r184_29, r184_30, r184_31, r184_32, r184_35, r184_38, r184_39, reduceIte, Option.some.injEq, and_assoc, exists_and_left, exists_eq_left, exists_eq_left', true_and, and_true, List.length_cons, List.length_nil, Nat.reduceAdd, Nat.reduceLeDiff, Sum.inl.injEq, az_0, az_1, az_2, az_3, az_4, az_5, az_6, az_8, az_11, az_14, az_15, az_17, az_20, az_21, az_22, az_23, az_24, az_25, az_26, az_28, az_29, az_30, az_31, az_32, az_33, az_34, az_35, az_36, ak_0, ak_1, ak_2, ak_3, ak_4, ak_5, ak_6, ak_8, ak_11, ak_14, ak_15, ak_17, ak_20, ak_21, ak_22, ak_23, ak_24, ak_25, ak_26, ak_28, ak_29, ak_30, ak_31, ak_32, ak_33, ak_34, ak_35, ak_36, ak_37, eq_self, Int.toNat_natCast, Nat.zero_le, bI_0, b01_0, bI_or, b01_or, ne_eq, reduceCtorEq, not_false_eq_true, Nat.reduceEqDiff, if_true, if_false, ite_true, ite_false, Int.natCast_nonneg, h1, h2, wr_s (show i < 2147483647 by omega)]
    by_cases hq : h 17 25 i = 100
    · have e2 : sumN (fun b => if RV (h 17) 5 b = 100 then RV (h 17) 4 b else 0) (i + 1) = wr (sumN (fun b => if RV (h 17) 5 b = 100 then RV (h 17) 4 b else 0) i + h 17 24 i) := by
        rw [wr_id (by omega) (by omega)]
        simp only [sumN, RV_5, RV_4, hq, if_true]
      rw [if_pos hq, e2]
    · have e2 : sumN (fun b => if RV (h 17) 5 b = 100 then RV (h 17) 4 b else 0) (i + 1) = sumN (fun b => if RV (h 17) 5 b = 100 then RV (h 17) 4 b else 0) i := by
        simp only [sumN, RV_5, hq, if_false, Int.add_zero]
      rw [if_neg hq, e2]
theorem sm_strC {d : Nat} {h : AH} (hw : WF (RV (h 17))) : CallR (d + 1) 184 [vR 17 27] h (some (vI (strC (RV (h 17))))) h := by
  have h0 := hw.bd.2.2.1
  rw [RV_7] at h0
  have L := lm_strC (d := d) (h := h) (Q := fun v' h2 => v' = some (vI (strC (RV (h 17)))) ∧ h2 = h) hw (nB (RV (h 17))) 0 (by unfold nB; rw [RV_7]; omega)
  rw [cr_184]
  simp only [r184_0, r184_1, r184_2, r184_3]
  exact L.mpr ⟨by rw [Nat.zero_add]; rfl, rfl⟩
theorem lm_strong {d : Nat} {h : AH} {s : Int} {Q : Option AV → AH → Prop} (hw : WF (RV (h 17))) (hs : s ≠ 200) : ∀ (k i : Nat), ((i + k : Nat) : Int) = h 17 27 8 → (At (CallR d) ac_185 4 [vR 17 27, vI s, vI (stg (RV (h 17)) s i).1, vI i] [] h Q ↔ Q (some (vI (stg (RV (h 17)) s (i + k)).1)) h)
  | 0, i, e => by
    have h1 : ¬ (i : Int) < h 17 27 8 := by omega
    rw [r185_4]
    simp only [r185_5, r185_6, r185_9, r185_12, r185_13, r185_16, r185_17, r185_18, r185_19, r185_22, r185_23, r185_24, r185_27, r185_28, r185_31, r185_32, r185_33, r185_34, r185_37, r185_38, r185_39, r185_42, r185_43, r185_44, r185_47, r185_50, r185_51, reduceIte, Option.some.injEq, and_assoc, exists_and_left, exists_eq_left, exists_eq_left', true_and, and_true, List.length_cons, List.length_nil, Nat.reduceAdd, Nat.reduceLeDiff, Sum.inl.injEq, az_0, az_1, az_2, az_3, az_4, az_5, az_6, az_8, az_11, az_14, az_15, az_17, az_20, az_21, az_22, az_23, az_24, az_25, az_26, az_28, az_29, az_30, az_31, az_32, az_33, az_34, az_35, az_36, ak_0, ak_1, ak_2, ak_3, ak_4, ak_5, ak_6, ak_8, ak_11, ak_14, ak_15, ak_17, ak_20, ak_21, ak_22, ak_23, ak_24, ak_25, ak_26, ak_28, ak_29, ak_30, ak_31, ak_32, ak_33, ak_34, ak_35, ak_36, ak_37, eq_self, Int.toNat_natCast, Nat.zero_le, bI_0, b01_0, bI_or, b01_or, ne_eq, reduceCtorEq, not_false_eq_true, Nat.reduceEqDiff, if_true, if_false, ite_true, ite_false, Int.natCast_nonneg, h1]
    exact Iff.rfl
  | k + 1, i, e => by
    have h4 := hw.bd.2.2.2
    rw [RV_7] at h4
    have h1 : (i : Int) < h 17 27 8 := by omega
    have h2 : (i : Int) < 12 := by omega
    have hbt := hw.bt i (by rw [RV_7]; exact h1)
    rw [RV_4, RV_5] at hbt
    have hv := stg_val hw hs i (by unfold nB; rw [RV_7]; omega)
    have ih := lm_strong (d := d) (s := s) (Q := Q) hw hs k (i + 1) (by omega)
    rw [show i + 1 + k = i + (k + 1) by omega] at ih
    rw [← ih, r185_4]
    simp only [r185_5, r185_6, r185_9, r185_12, r185_13, r185_16, r185_17, r185_18, r185_19, r185_22, r185_23, r185_24, r185_27, r185_28, r185_31, r185_32, r185_33, r185_34, r185_37, r185_38, r185_39, r185_42, r185_43, r185_44, r185_47, r185_50, r185_51, reduceIte, Option.some.injEq, and_assoc, exists_and_left, exists_eq_left, exists_eq_left', true_and, and_true, List.length_cons, List.length_nil, Nat.reduceAdd, Nat.reduceLeDiff, Sum.inl.injEq, az_0, az_1, az_2, az_3, az_4, az_5, az_6, az_8, az_11, az_14, az_15, az_17, az_20, az_21, az_22, az_23, az_24, az_25, az_26, az_28, az_29, az_30, az_31, az_32, az_33, az_34, az_35, az_36, ak_0, ak_1, ak_2, ak_3, ak_4, ak_5, ak_6, ak_8, ak_11, ak_14, ak_15, ak_17, ak_20, ak_21, ak_22, ak_23, ak_24, ak_25, ak_26, ak_28, ak_29, ak_30, ak_31, ak_32, ak_33, ak_34, ak_35, ak_36, ak_37, eq_self, Int.toNat_natCast, Nat.zero_le, bI_0, b01_0, bI_or, b01_or, ne_eq, reduceCtorEq, not_false_eq_true, Nat.reduceEqDiff, if_true, if_false, ite_true, ite_false, Int.natCast_nonneg, h1, h2, wr_s (show i < 2147483647 by omega), stg, RV_5, RV_4]
    by_cases hq : h 17 25 i = s
    · rcases hv with ⟨v1, v2, -⟩ | ⟨b, hb, v1, v2, v3, v4, -⟩
      · have : 0 < h 17 24 i := by omega
        simp only [hq, v1, v2, if_true, this, and_self]
      · rw [RV_4] at v2
        have hb12 : (b : Int) < 12 := by omega
        have hne : ¬ (b : Int) = -1 := by omega
        simp only [hq, v1, if_true, hne, if_false, reduceIte, Option.some.injEq, and_assoc, exists_and_left, exists_eq_left, exists_eq_left', true_and, and_true, List.length_cons, List.length_nil, Nat.reduceAdd, Nat.reduceLeDiff, Sum.inl.injEq, az_0, az_1, az_2, az_3, az_4, az_5, az_6, az_8, az_11, az_14, az_15, az_17, az_20, az_21, az_22, az_23, az_24, az_25, az_26, az_28, az_29, az_30, az_31, az_32, az_33, az_34, az_35, az_36, ak_0, ak_1, ak_2, ak_3, ak_4, ak_5, ak_6, ak_8, ak_11, ak_14, ak_15, ak_17, ak_20, ak_21, ak_22, ak_23, ak_24, ak_25, ak_26, ak_28, ak_29, ak_30, ak_31, ak_32, ak_33, ak_34, ak_35, ak_36, ak_37, eq_self, Int.toNat_natCast, Nat.zero_le, bI_0, b01_0, bI_or, b01_or, ne_eq, reduceCtorEq, not_false_eq_true, Nat.reduceEqDiff, if_true, if_false, ite_true, ite_false, Int.natCast_nonneg, hb12, v2, true_and]
        by_cases hr : (stg (RV (h 17)) s i).2 < h 17 24 i
        · simp only [hr, if_true]
        · simp only [hr, if_false, v1]
    · simp only [hq, false_and, if_false]
theorem sm_strongest {d : Nat} {h : AH} {s : Int} (hw : WF (RV (h 17))) (hs : s ≠ 200) : CallR (d + 1) 185 [vR 17 27, vI s] h (some (vI (strongV (RV (h 17)) s))) h := by
  have h0 := hw.bd.2.2.1
  rw [RV_7] at h0
  have L := lm_strong (d := d) (h := h) (s := s) (Q := fun v' h2 => v' = some (vI (strongV (RV (h 17)) s)) ∧ h2 = h) hw hs (nB (RV (h 17))) 0 (by unfold nB; rw [RV_7]; omega)
  rw [cr_185]
  simp only [r185_0, r185_1, r185_2, r185_3]
  exact L.mpr ⟨by rw [Nat.zero_add]; rfl, rfl⟩
/-- what is carried, and the strongest of it -/
theorem strong_cases {V : VS} (hw : WF V) {s : Int} (hs : s ≠ 200) : (strongV V s = -1 ∧ cntF V s (nB V) = 0 ∧ strAt V (strongV V s) = 0) ∨ (∃ b : Nat, b < nB V ∧ strongV V s = (b : Int) ∧ V 5 b = s ∧ 1 ≤ V 4 b ∧ 0 < cntF V s (nB V) ∧ strAt V (strongV V s) = V 4 b) := by
  have h12 := WF.nB12 hw.bd
  rcases stg_val hw hs (nB V) (Nat.le_refl _) with ⟨h1, h2, h3⟩ | ⟨b, h1, h2, h3, h4, h5, h6⟩
  · have h1 : strongV V s = -1 := h1
    refine Or.inl ⟨h1, h3, ?_⟩
    unfold strAt
    rw [h1]
    rfl
  · have h2 : strongV V s = (b : Int) := h2
    refine Or.inr ⟨b, h1, h2, h4, by omega, h6, ?_⟩
    unfold strAt
    rw [h2, if_pos (by omega)]
    rfl
theorem clsF_pos (x : Int) : 0 < clsF x ↔ 10 ≤ x := by unfold clsF; (repeat' split) <;> omega
theorem clsF_3 (x : Int) : clsF x = 3 ↔ 70 ≤ x := by unfold clsF; (repeat' split) <;> omega
theorem cnt_pl {V : VS} (hw : WF V) (h : 0 < cntV V) : 0 < V 7 7 := by
  have h0 := hw.bd
  by_cases hq : V 7 7 = 0
  · have := hw.emp hq
    unfold cntV nB at h
    rw [this] at h
    exact absurd h (by show ¬ (0 : Int) < 0; omega)
  · have := h0.1; omega
theorem hpB_f {V : VS} {p : Int} (h : ¬ (0 ≤ p ∧ p < V 7 7 ∧ p < 8)) : hpB V p = false := by
  unfold hpB
  rw [decide_eq_false_iff_not]
  exact h
theorem sm_may {d : Nat} {h : AH} {a : Int} (hw : WF (RV (h 17))) : CallR (d + 2) 186 [vR 17 27, vI a] h (some (vI (b01 (mayV (RV (h 17)) a)))) h := by
  have hy := hw.you
  obtain ⟨b1, b2, b3, b4⟩ := hw.bd
  have hc0 : 0 ≤ cntV (RV (h 17)) := cnt_0 (RV (h 17)) 100 (nB (RV (h 17)))
  have hcp := cnt_pl hw
  rw [RV_7] at hy b1 b2 hcp
  have hyou : h 17 27 9 ≠ 200 := by omega
  have e1 : wr (h 17 27 9 + 1) = h 17 27 9 + 1 := wr_id (by omega) (by omega)
  rw [cr_186]
  simp only [r186_0, r186_1, r186_44, r186_45, r186_46, r186_47, r186_50, r186_53, r186_54, r186_57, r186_58, r186_61, r186_62, r186_64, r186_67, r186_68, r186_71, r186_73, r186_76, r186_77, r186_80, r186_81, r186_84, r186_85, r186_88, r186_89, r186_90, r186_91, r186_94, r186_95, r186_96, r186_97, r186_100, r186_103, r186_104, r186_107, r186_108, r186_109, r186_110, r186_113, r186_116, r186_117, r186_120, r186_121, r186_122, r186_123, r186_126, r186_127, r186_130, r186_133, r186_134, r186_137, r186_140, r186_141, r186_144, r186_145, r186_147, r186_150, r186_151, r186_153, r186_156, r186_157, r186_160, r186_161, r186_162, r186_163, r186_166, r186_169, r186_170, r186_173, r186_174, r186_175, r186_176, r186_177, r186_180, r186_183, r186_184, r186_187, r186_188, r186_191, r186_193, r186_196, r186_197, r186_200, r186_201, r186_202, r186_203, CallR_iff (sm_carried hw.bd), CallR_iff (sm_free hw.bd), CallR_iff (sm_strongest hw (show (100 : Int) ≠ 200 by decide)), CallR_iff (sm_strongest hw hyou), reduceIte, Option.some.injEq, and_assoc, exists_and_left, exists_eq_left, exists_eq_left', true_and, and_true, List.length_cons, List.length_nil, Nat.reduceAdd, Nat.reduceLeDiff, Sum.inl.injEq, az_0, az_1, az_2, az_3, az_4, az_5, az_6, az_8, az_11, az_14, az_15, az_17, az_20, az_21, az_22, az_23, az_24, az_25, az_26, az_28, az_29, az_30, az_31, az_32, az_33, az_34, az_35, az_36, ak_0, ak_1, ak_2, ak_3, ak_4, ak_5, ak_6, ak_8, ak_11, ak_14, ak_15, ak_17, ak_20, ak_21, ak_22, ak_23, ak_24, ak_25, ak_26, ak_28, ak_29, ak_30, ak_31, ak_32, ak_33, ak_34, ak_35, ak_36, ak_37, eq_self, Int.toNat_natCast, Nat.zero_le, bI_0, b01_0, bI_or, b01_or, ne_eq, reduceCtorEq, not_false_eq_true, Nat.reduceEqDiff, if_true, if_false, ite_true, ite_false, Int.natCast_nonneg, e1]
  unfold mayV
  by_cases h0 : a = 0
  · simp [h0, b01]
  · by_cases h1 : a = 1
    · subst h1
      by_cases hp : 0 < h 17 27 7
      · have hpy : hpB (RV (h 17)) (RV (h 17) 7 9) = true := hpB_iff.mpr (by rw [RV_7]; omega)
        have hf : fogV (RV (h 17)) (RV (h 17) 7 9) = h 17 22 (h 17 27 9).toNat := by unfold fogV; rw [hpy]; rfl
        have h8 : 0 ≤ h 17 27 9 ∧ h 17 27 9 < 8 := by omega
        simp only [hf, h8, hp]
        (repeat' split) <;> simp_all [b01] <;> omega
      · have hpy : hpB (RV (h 17)) (RV (h 17) 7 9) = false := hpB_f (by rw [RV_7]; omega)
        have hf : fogV (RV (h 17)) (RV (h 17) 7 9) = 0 := by unfold fogV; rw [hpy]; rfl
        simp [hf, hp, b01]
    · by_cases h2 : a = 2
      · subst h2
        by_cases hq : h 17 27 9 + 1 < h 17 27 7
        · have hpy : hpB (RV (h 17)) (RV (h 17) 7 9 + 1) = true := hpB_iff.mpr (by rw [RV_7]; omega)
          simp [hq, hpy, b01]
        · have hpy : hpB (RV (h 17)) (RV (h 17) 7 9 + 1) = false := hpB_f (by rw [RV_7]; omega)
          simp [hq, hpy, b01]
      · by_cases h3 : a = 3
        · subst h3
          by_cases hq : 0 < h 17 27 9
          · have hpy : hpB (RV (h 17)) (RV (h 17) 7 9 - 1) = true := hpB_iff.mpr (by rw [RV_7]; omega)
            simp [hq, hpy, b01]
          · have hpy : hpB (RV (h 17)) (RV (h 17) 7 9 - 1) = false := hpB_f (by rw [RV_7]; omega)
            simp [hq, hpy, b01]
        · by_cases h4 : a = 4
          · subst h4
            unfold spendB
            rw [RV_7]
            by_cases ht : h 17 27 11 < h 17 27 15
            · have hsc := strong_cases hw (s := 100) (by decide)
              rw [show cntF (RV (h 17)) 100 (nB (RV (h 17))) = cntV (RV (h 17)) from rfl] at hsc
              rcases hsc with ⟨s1, s2, s3⟩ | ⟨b, s0, s1, s2, s3, s4, s5⟩
              · rw [s3, s2]
                simp [ht, b01, clsF]
              · have hb12 : (b : Int) < 12 := by have := WF.nB12 hw.bd; omega
                rw [s5, s1]
                rw [RV_4] at s3 ⊢
                simp only [reduceIte, Option.some.injEq, and_assoc, exists_and_left, exists_eq_left, exists_eq_left', true_and, and_true, List.length_cons, List.length_nil, Nat.reduceAdd, Nat.reduceLeDiff, Sum.inl.injEq, az_0, az_1, az_2, az_3, az_4, az_5, az_6, az_8, az_11, az_14, az_15, az_17, az_20, az_21, az_22, az_23, az_24, az_25, az_26, az_28, az_29, az_30, az_31, az_32, az_33, az_34, az_35, az_36, ak_0, ak_1, ak_2, ak_3, ak_4, ak_5, ak_6, ak_8, ak_11, ak_14, ak_15, ak_17, ak_20, ak_21, ak_22, ak_23, ak_24, ak_25, ak_26, ak_28, ak_29, ak_30, ak_31, ak_32, ak_33, ak_34, ak_35, ak_36, ak_37, eq_self, Int.toNat_natCast, Nat.zero_le, bI_0, b01_0, bI_or, b01_or, ne_eq, reduceCtorEq, not_false_eq_true, Nat.reduceEqDiff, if_true, if_false, ite_true, ite_false, Int.natCast_nonneg, hb12, s4, clsF_pos, ht, true_and]
                by_cases hr : h 17 24 b < 10
                · simp [hr, show ¬ 10 ≤ h 17 24 b by omega, b01]
                · simp [hr, show 10 ≤ h 17 24 b by omega, b01]
            · simp [ht, b01]
          · by_cases h5 : a = 5
            · subst h5
              by_cases hcc : 0 < cntV (RV (h 17))
              · have hpy : hpB (RV (h 17)) (RV (h 17) 7 9) = true := hpB_iff.mpr (by have := hcp hcc; rw [RV_7]; omega)
                have : cntV (RV (h 17)) ≠ 0 := by omega
                simp [hpy, hcc, this, b01]
              · have : cntV (RV (h 17)) = 0 := by omega
                simp [this, b01]
            · by_cases h6 : a = 6
              · subst h6
                rw [RV_7]
                (repeat' split) <;> simp_all [b01] <;> omega
              · simp [h0, h1, h2, h3, h4, h5, h6, b01]
