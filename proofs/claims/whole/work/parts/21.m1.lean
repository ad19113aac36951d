/-! PURE: the reference's reads -/
def RV (R : VS) : VS := fun m => R (m + 20)
def setRV (R V : VS) : VS := fun m => if 20 ≤ m then V (m - 20) else R m
theorem RV_set (R V : VS) : RV (setRV R V) = V := by funext m; simp [RV, setRV]
theorem set_set (R V W : VS) : setRV (setRV R V) W = setRV R W := by funext m; unfold setRV; split <;> rfl
theorem set_RV (R : VS) : setRV R (RV R) = R := by
  funext m
  unfold setRV RV
  split
  · rw [Nat.sub_add_cancel (by assumption)]
  · rfl
theorem fup_set (R V : VS) (m : Nat) (r : Nat → Int) : fup (setRV R V) (m + 20) r = setRV R (fup V m r) := by
  funext k
  unfold fup setRV
  by_cases h : k = m + 20
  · subst h; simp
  · by_cases h2 : 20 ≤ k
    · simp [h, h2, show ¬ k - 20 = m by omega]
    · simp [h, h2]
theorem fup_R (R : VS) (m : Nat) (r : Nat → Int) : fup R (m + 20) r = setRV R (fup (RV R) m r) := by rw [← fup_set, set_RV]
theorem RV_0 (R : VS) : RV R 0 = R 20 := rfl
theorem RV_1 (R : VS) : RV R 1 = R 21 := rfl
theorem RV_2 (R : VS) : RV R 2 = R 22 := rfl
theorem RV_3 (R : VS) : RV R 3 = R 23 := rfl
theorem RV_4 (R : VS) : RV R 4 = R 24 := rfl
theorem RV_5 (R : VS) : RV R 5 = R 25 := rfl
theorem RV_6 (R : VS) : RV R 6 = R 26 := rfl
theorem RV_7 (R : VS) : RV R 7 = R 27 := rfl
theorem RV_8 (R : VS) : RV R 8 = R 28 := rfl
theorem RV_9 (R : VS) : RV R 9 = R 29 := rfl
theorem RV_10 (R : VS) : RV R 10 = R 30 := rfl
theorem RV_11 (R : VS) : RV R 11 = R 31 := rfl
theorem RV_12 (R : VS) : RV R 12 = R 32 := rfl
theorem RV_13 (R : VS) : RV R 13 = R 33 := rfl
theorem RV_14 (R : VS) : RV R 14 = R 34 := rfl
theorem RV_15 (R : VS) : RV R 15 = R 35 := rfl
theorem RV_16 (R : VS) : RV R 16 = R 36 := rfl
theorem sV_0 (R V : VS) : setRV R V 20 = V 0 := rfl
theorem sV_1 (R V : VS) : setRV R V 21 = V 1 := rfl
theorem sV_2 (R V : VS) : setRV R V 22 = V 2 := rfl
theorem sV_3 (R V : VS) : setRV R V 23 = V 3 := rfl
theorem sV_4 (R V : VS) : setRV R V 24 = V 4 := rfl
theorem sV_5 (R V : VS) : setRV R V 25 = V 5 := rfl
theorem sV_6 (R V : VS) : setRV R V 26 = V 6 := rfl
theorem sV_7 (R V : VS) : setRV R V 27 = V 7 := rfl
theorem sV_8 (R V : VS) : setRV R V 28 = V 8 := rfl
theorem sV_9 (R V : VS) : setRV R V 29 = V 9 := rfl
theorem sV_10 (R V : VS) : setRV R V 30 = V 10 := rfl
theorem sV_11 (R V : VS) : setRV R V 31 = V 11 := rfl
theorem sV_12 (R V : VS) : setRV R V 32 = V 12 := rfl
theorem sV_13 (R V : VS) : setRV R V 33 = V 13 := rfl
theorem sV_14 (R V : VS) : setRV R V 34 = V 14 := rfl
theorem sV_15 (R V : VS) : setRV R V 35 = V 15 := rfl
theorem sV_16 (R V : VS) : setRV R V 36 = V 16 := rfl
theorem fS_0 (R V : VS) (r : Nat → Int) : fup (setRV R V) 20 r = setRV R (fup V 0 r) := fup_set R V 0 r
theorem fS_1 (R V : VS) (r : Nat → Int) : fup (setRV R V) 21 r = setRV R (fup V 1 r) := fup_set R V 1 r
theorem fS_2 (R V : VS) (r : Nat → Int) : fup (setRV R V) 22 r = setRV R (fup V 2 r) := fup_set R V 2 r
theorem fS_3 (R V : VS) (r : Nat → Int) : fup (setRV R V) 23 r = setRV R (fup V 3 r) := fup_set R V 3 r
theorem fS_4 (R V : VS) (r : Nat → Int) : fup (setRV R V) 24 r = setRV R (fup V 4 r) := fup_set R V 4 r
theorem fS_5 (R V : VS) (r : Nat → Int) : fup (setRV R V) 25 r = setRV R (fup V 5 r) := fup_set R V 5 r
theorem fS_6 (R V : VS) (r : Nat → Int) : fup (setRV R V) 26 r = setRV R (fup V 6 r) := fup_set R V 6 r
theorem fS_7 (R V : VS) (r : Nat → Int) : fup (setRV R V) 27 r = setRV R (fup V 7 r) := fup_set R V 7 r
theorem fS_8 (R V : VS) (r : Nat → Int) : fup (setRV R V) 28 r = setRV R (fup V 8 r) := fup_set R V 8 r
theorem fS_9 (R V : VS) (r : Nat → Int) : fup (setRV R V) 29 r = setRV R (fup V 9 r) := fup_set R V 9 r
theorem fS_10 (R V : VS) (r : Nat → Int) : fup (setRV R V) 30 r = setRV R (fup V 10 r) := fup_set R V 10 r
theorem fS_11 (R V : VS) (r : Nat → Int) : fup (setRV R V) 31 r = setRV R (fup V 11 r) := fup_set R V 11 r
theorem fS_12 (R V : VS) (r : Nat → Int) : fup (setRV R V) 32 r = setRV R (fup V 12 r) := fup_set R V 12 r
theorem fS_13 (R V : VS) (r : Nat → Int) : fup (setRV R V) 33 r = setRV R (fup V 13 r) := fup_set R V 13 r
theorem fS_14 (R V : VS) (r : Nat → Int) : fup (setRV R V) 34 r = setRV R (fup V 14 r) := fup_set R V 14 r
theorem fS_15 (R V : VS) (r : Nat → Int) : fup (setRV R V) 35 r = setRV R (fup V 15 r) := fup_set R V 15 r
theorem fS_16 (R V : VS) (r : Nat → Int) : fup (setRV R V) 36 r = setRV R (fup V 16 r) := fup_set R V 16 r
theorem fR_0 (R : VS) (r : Nat → Int) : fup R 20 r = setRV R (fup (RV R) 0 r) := fup_R R 0 r
theorem fR_1 (R : VS) (r : Nat → Int) : fup R 21 r = setRV R (fup (RV R) 1 r) := fup_R R 1 r
theorem fR_2 (R : VS) (r : Nat → Int) : fup R 22 r = setRV R (fup (RV R) 2 r) := fup_R R 2 r
theorem fR_3 (R : VS) (r : Nat → Int) : fup R 23 r = setRV R (fup (RV R) 3 r) := fup_R R 3 r
theorem fR_4 (R : VS) (r : Nat → Int) : fup R 24 r = setRV R (fup (RV R) 4 r) := fup_R R 4 r
theorem fR_5 (R : VS) (r : Nat → Int) : fup R 25 r = setRV R (fup (RV R) 5 r) := fup_R R 5 r
theorem fR_6 (R : VS) (r : Nat → Int) : fup R 26 r = setRV R (fup (RV R) 6 r) := fup_R R 6 r
theorem fR_7 (R : VS) (r : Nat → Int) : fup R 27 r = setRV R (fup (RV R) 7 r) := fup_R R 7 r
theorem fR_8 (R : VS) (r : Nat → Int) : fup R 28 r = setRV R (fup (RV R) 8 r) := fup_R R 8 r
theorem fR_9 (R : VS) (r : Nat → Int) : fup R 29 r = setRV R (fup (RV R) 9 r) := fup_R R 9 r
theorem fR_10 (R : VS) (r : Nat → Int) : fup R 30 r = setRV R (fup (RV R) 10 r) := fup_R R 10 r
theorem fR_11 (R : VS) (r : Nat → Int) : fup R 31 r = setRV R (fup (RV R) 11 r) := fup_R R 11 r
theorem fR_12 (R : VS) (r : Nat → Int) : fup R 32 r = setRV R (fup (RV R) 12 r) := fup_R R 12 r
theorem fR_13 (R : VS) (r : Nat → Int) : fup R 33 r = setRV R (fup (RV R) 13 r) := fup_R R 13 r
theorem fR_14 (R : VS) (r : Nat → Int) : fup R 34 r = setRV R (fup (RV R) 14 r) := fup_R R 14 r
theorem fR_15 (R : VS) (r : Nat → Int) : fup R 35 r = setRV R (fup (RV R) 15 r) := fup_R R 15 r
theorem fR_16 (R : VS) (r : Nat → Int) : fup R 36 r = setRV R (fup (RV R) 16 r) := fup_R R 16 r
theorem sm_within {d : Nat} {h : AH} {v lo hi : Int} : CallR (d + 1) 144 [vI v, vI lo, vI hi] h (some (vI (bI (lo ≤ v ∧ v ≤ hi)))) h := by
  rw [cr_144]
  simp only [r144_0, r144_1, r144_2, r144_5, r144_6, r144_7, r144_10, r144_11, r144_14, r144_15, reduceIte, Option.some.injEq, and_assoc, exists_and_left, exists_eq_left, exists_eq_left', true_and, and_true, List.length_cons, List.length_nil, Nat.reduceAdd, Nat.reduceLeDiff, Sum.inl.injEq, az_0, az_1, az_2, az_3, az_4, az_5, az_6, az_8, az_11, az_14, az_15, az_17, az_20, az_21, az_22, az_23, az_24, az_25, az_26, az_28, az_29, az_30, az_31, az_32, az_33, az_34, az_35, az_36, ak_0, ak_1, ak_2, ak_3, ak_4, ak_5, ak_6, ak_8, ak_11, ak_14, ak_15, ak_17, ak_20, ak_21, ak_22, ak_23, ak_24, ak_25, ak_26, ak_28, ak_29, ak_30, ak_31, ak_32, ak_33, ak_34, ak_35, ak_36, ak_37, eq_self, Int.toNat_natCast, Nat.zero_le, bI_0, b01_0, bI_or, b01_or, ne_eq, reduceCtorEq, not_false_eq_true, Nat.reduceEqDiff, if_true, if_false, ite_true, ite_false, Int.natCast_nonneg]
  (repeat' split) <;> simp [bI] <;> omega
theorem sm_isPlace {d : Nat} {h : AH} {p : Int} (hb : BD (RV (h 17))) : CallR (d + 2) 145 [vR 17 27, vI p] h (some (vI (b01 (hpB (RV (h 17)) p)))) h := by
  obtain ⟨b1, b2, b3, b4⟩ := hb
  rw [RV_7] at b1 b2
  rw [cr_145]
  simp only [r145_0, r145_1, r145_2, r145_3, r145_6, r145_7, r145_8, r145_11, CallR_iff sm_within, reduceIte, Option.some.injEq, and_assoc, exists_and_left, exists_eq_left, exists_eq_left', true_and, and_true, List.length_cons, List.length_nil, Nat.reduceAdd, Nat.reduceLeDiff, Sum.inl.injEq, az_0, az_1, az_2, az_3, az_4, az_5, az_6, az_8, az_11, az_14, az_15, az_17, az_20, az_21, az_22, az_23, az_24, az_25, az_26, az_28, az_29, az_30, az_31, az_32, az_33, az_34, az_35, az_36, ak_0, ak_1, ak_2, ak_3, ak_4, ak_5, ak_6, ak_8, ak_11, ak_14, ak_15, ak_17, ak_20, ak_21, ak_22, ak_23, ak_24, ak_25, ak_26, ak_28, ak_29, ak_30, ak_31, ak_32, ak_33, ak_34, ak_35, ak_36, ak_37, eq_self, Int.toNat_natCast, Nat.zero_le, bI_0, b01_0, bI_or, b01_or, ne_eq, reduceCtorEq, not_false_eq_true, Nat.reduceEqDiff, if_true, if_false, ite_true, ite_false, Int.natCast_nonneg, wr_id (show -2147483648 ≤ h 17 27 7 - 1 by omega) (by omega)]
  unfold bI b01 hpB
  rw [RV_7]
  by_cases hq : 0 ≤ p ∧ p ≤ h 17 27 7 - 1
  · simp [hq, show p < h 17 27 7 by omega, show p < 8 by omega]
  · simp [hq]; omega
theorem sm_isBottle {d : Nat} {h : AH} {p : Int} (hb : BD (RV (h 17))) : CallR (d + 2) 146 [vR 17 27, vI p] h (some (vI (bI (0 ≤ p ∧ p < RV (h 17) 7 8 ∧ p < 12)))) h := by
  obtain ⟨b1, b2, b3, b4⟩ := hb
  rw [RV_7] at b3 b4
  rw [cr_146]
  simp only [r146_0, r146_1, r146_2, r146_3, r146_6, r146_7, r146_8, r146_11, CallR_iff sm_within, reduceIte, Option.some.injEq, and_assoc, exists_and_left, exists_eq_left, exists_eq_left', true_and, and_true, List.length_cons, List.length_nil, Nat.reduceAdd, Nat.reduceLeDiff, Sum.inl.injEq, az_0, az_1, az_2, az_3, az_4, az_5, az_6, az_8, az_11, az_14, az_15, az_17, az_20, az_21, az_22, az_23, az_24, az_25, az_26, az_28, az_29, az_30, az_31, az_32, az_33, az_34, az_35, az_36, ak_0, ak_1, ak_2, ak_3, ak_4, ak_5, ak_6, ak_8, ak_11, ak_14, ak_15, ak_17, ak_20, ak_21, ak_22, ak_23, ak_24, ak_25, ak_26, ak_28, ak_29, ak_30, ak_31, ak_32, ak_33, ak_34, ak_35, ak_36, ak_37, eq_self, Int.toNat_natCast, Nat.zero_le, bI_0, b01_0, bI_or, b01_or, ne_eq, reduceCtorEq, not_false_eq_true, Nat.reduceEqDiff, if_true, if_false, ite_true, ite_false, Int.natCast_nonneg, wr_id (show -2147483648 ≤ h 17 27 8 - 1 by omega) (by omega), RV_7]
  unfold bI
  by_cases hq : 0 ≤ p ∧ p ≤ h 17 27 8 - 1
  · simp [hq, show p < h 17 27 8 by omega, show p < 12 by omega]
  · simp [hq]; omega
theorem sm_above {d : Nat} {h : AH} {k : Int} : CallR (d + 1) 155 [vI k] h (some (vI (if k = 3 then 1 else if k = 5 then 2 else if k = 6 then 4 else 0))) h := by
  rw [cr_155]
  simp only [r155_0, r155_1, r155_2, r155_5, r155_6, r155_9, r155_10, r155_11, r155_14, r155_15, r155_18, r155_19, r155_21, r155_24, r155_25, r155_28, r155_29, reduceIte, Option.some.injEq, and_assoc, exists_and_left, exists_eq_left, exists_eq_left', true_and, and_true, List.length_cons, List.length_nil, Nat.reduceAdd, Nat.reduceLeDiff, Sum.inl.injEq, az_0, az_1, az_2, az_3, az_4, az_5, az_6, az_8, az_11, az_14, az_15, az_17, az_20, az_21, az_22, az_23, az_24, az_25, az_26, az_28, az_29, az_30, az_31, az_32, az_33, az_34, az_35, az_36, ak_0, ak_1, ak_2, ak_3, ak_4, ak_5, ak_6, ak_8, ak_11, ak_14, ak_15, ak_17, ak_20, ak_21, ak_22, ak_23, ak_24, ak_25, ak_26, ak_28, ak_29, ak_30, ak_31, ak_32, ak_33, ak_34, ak_35, ak_36, ak_37, eq_self, Int.toNat_natCast, Nat.zero_le, bI_0, b01_0, bI_or, b01_or, ne_eq, reduceCtorEq, not_false_eq_true, Nat.reduceEqDiff, if_true, if_false, ite_true, ite_false, Int.natCast_nonneg]
  (repeat' split) <;> simp
theorem lm_under {d : Nat} {h : AH} {k0 w : Int} {Q : Option AV → AH → Prop} : ∀ (n : Nat) (k : Int), ((k = 0) ∨ ((k = 1 ∨ k = 2 ∨ k = 4) ∧ 1 ≤ n) ∨ ((k = 3 ∨ k = 5 ∨ k = 6) ∧ 2 ≤ n)) → (At (CallR (d + 1)) ac_156 2 [vI k0, vI w, vI k] [] h Q ↔ Q (some (vI (b01 (underB k w)))) h)
  | n, k, hk => by
    by_cases hw : k = w
    · subst hw
      have : underB k k = true := by unfold underB; simp; omega
      rw [r156_2]
      simp only [r156_3, r156_4, r156_7, r156_8, r156_11, r156_12, r156_15, r156_16, r156_19, r156_20, r156_21, r156_24, r156_25, r156_28, r156_29, reduceIte, Option.some.injEq, and_assoc, exists_and_left, exists_eq_left, exists_eq_left', true_and, and_true, List.length_cons, List.length_nil, Nat.reduceAdd, Nat.reduceLeDiff, Sum.inl.injEq, az_0, az_1, az_2, az_3, az_4, az_5, az_6, az_8, az_11, az_14, az_15, az_17, az_20, az_21, az_22, az_23, az_24, az_25, az_26, az_28, az_29, az_30, az_31, az_32, az_33, az_34, az_35, az_36, ak_0, ak_1, ak_2, ak_3, ak_4, ak_5, ak_6, ak_8, ak_11, ak_14, ak_15, ak_17, ak_20, ak_21, ak_22, ak_23, ak_24, ak_25, ak_26, ak_28, ak_29, ak_30, ak_31, ak_32, ak_33, ak_34, ak_35, ak_36, ak_37, eq_self, Int.toNat_natCast, Nat.zero_le, bI_0, b01_0, bI_or, b01_or, ne_eq, reduceCtorEq, not_false_eq_true, Nat.reduceEqDiff, if_true, if_false, ite_true, ite_false, Int.natCast_nonneg, this]
      simp [b01]
    · by_cases h0 : 0 < k
      · match n, hk with
        | 0, hk => omega
        | n + 1, hk =>
          have ih := lm_under (d := d) (h := h) (k0 := k0) (w := w) (Q := Q) n (if k = 3 then 1 else if k = 5 then 2 else if k = 6 then 4 else 0) (by (repeat' split) <;> omega)
          have hu : underB (if k = 3 then 1 else if k = 5 then 2 else if k = 6 then 4 else 0) w = underB k w := by
            unfold underB
            rw [decide_eq_decide]
            (repeat' split) <;> omega
          rw [hu] at ih
          rw [r156_2]
          simp only [r156_3, r156_4, r156_7, r156_8, r156_11, r156_12, r156_15, r156_16, r156_19, r156_20, r156_21, r156_24, r156_25, r156_28, r156_29, CallR_iff sm_above, reduceIte, Option.some.injEq, and_assoc, exists_and_left, exists_eq_left, exists_eq_left', true_and, and_true, List.length_cons, List.length_nil, Nat.reduceAdd, Nat.reduceLeDiff, Sum.inl.injEq, az_0, az_1, az_2, az_3, az_4, az_5, az_6, az_8, az_11, az_14, az_15, az_17, az_20, az_21, az_22, az_23, az_24, az_25, az_26, az_28, az_29, az_30, az_31, az_32, az_33, az_34, az_35, az_36, ak_0, ak_1, ak_2, ak_3, ak_4, ak_5, ak_6, ak_8, ak_11, ak_14, ak_15, ak_17, ak_20, ak_21, ak_22, ak_23, ak_24, ak_25, ak_26, ak_28, ak_29, ak_30, ak_31, ak_32, ak_33, ak_34, ak_35, ak_36, ak_37, eq_self, Int.toNat_natCast, Nat.zero_le, bI_0, b01_0, bI_or, b01_or, ne_eq, reduceCtorEq, not_false_eq_true, Nat.reduceEqDiff, if_true, if_false, ite_true, ite_false, Int.natCast_nonneg, hw, h0]
          exact ih
      · have hk0 : k = 0 := by omega
        subst hk0
        have : underB 0 w = false := by unfold underB; simp; omega
        rw [r156_2]
        simp only [r156_3, r156_4, r156_7, r156_8, r156_11, r156_12, r156_15, r156_16, r156_19, r156_20, r156_21, r156_24, r156_25, r156_28, r156_29, reduceIte, Option.some.injEq, and_assoc, exists_and_left, exists_eq_left, exists_eq_left', true_and, and_true, List.length_cons, List.length_nil, Nat.reduceAdd, Nat.reduceLeDiff, Sum.inl.injEq, az_0, az_1, az_2, az_3, az_4, az_5, az_6, az_8, az_11, az_14, az_15, az_17, az_20, az_21, az_22, az_23, az_24, az_25, az_26, az_28, az_29, az_30, az_31, az_32, az_33, az_34, az_35, az_36, ak_0, ak_1, ak_2, ak_3, ak_4, ak_5, ak_6, ak_8, ak_11, ak_14, ak_15, ak_17, ak_20, ak_21, ak_22, ak_23, ak_24, ak_25, ak_26, ak_28, ak_29, ak_30, ak_31, ak_32, ak_33, ak_34, ak_35, ak_36, ak_37, eq_self, Int.toNat_natCast, Nat.zero_le, bI_0, b01_0, bI_or, b01_or, ne_eq, reduceCtorEq, not_false_eq_true, Nat.reduceEqDiff, if_true, if_false, ite_true, ite_false, Int.natCast_nonneg, this, hw, h0]
        simp [b01]
theorem sm_isUnder {d : Nat} {h : AH} {k w : Int} (h0 : 0 ≤ k) (h6 : k ≤ 6) : CallR (d + 2) 156 [vI k, vI w] h (some (vI (b01 (underB k w)))) h := by
  have L := lm_under (d := d) (h := h) (k0 := k) (w := w) (Q := fun v' h2 => v' = some (vI (b01 (underB k w))) ∧ h2 = h) 2 k (by omega)
  rw [cr_156]
  simp only [r156_0, r156_1, reduceIte, Option.some.injEq, and_assoc, exists_and_left, exists_eq_left, exists_eq_left', true_and, and_true, List.length_cons, List.length_nil, Nat.reduceAdd, Nat.reduceLeDiff, Sum.inl.injEq, az_0, az_1, az_2, az_3, az_4, az_5, az_6, az_8, az_11, az_14, az_15, az_17, az_20, az_21, az_22, az_23, az_24, az_25, az_26, az_28, az_29, az_30, az_31, az_32, az_33, az_34, az_35, az_36, ak_0, ak_1, ak_2, ak_3, ak_4, ak_5, ak_6, ak_8, ak_11, ak_14, ak_15, ak_17, ak_20, ak_21, ak_22, ak_23, ak_24, ak_25, ak_26, ak_28, ak_29, ak_30, ak_31, ak_32, ak_33, ak_34, ak_35, ak_36, ak_37, eq_self, Int.toNat_natCast, Nat.zero_le, bI_0, b01_0, bI_or, b01_or, ne_eq, reduceCtorEq, not_false_eq_true, Nat.reduceEqDiff, if_true, if_false, ite_true, ite_false, Int.natCast_nonneg]
  exact L.mpr ⟨rfl, rfl⟩
theorem sm_isUp {d : Nat} {h : AH} : CallR (d + 1) 158 [vR 17 27] h (some (vI (b01 (upV (RV (h 17)))))) h := by
  rw [cr_158]
  simp only [r158_0, r158_1, r158_4, r158_5, r158_8, r158_11, r158_12, r158_15, r158_17, r158_20, r158_21, r158_24, r158_25, reduceIte, Option.some.injEq, and_assoc, exists_and_left, exists_eq_left, exists_eq_left', true_and, and_true, List.length_cons, List.length_nil, Nat.reduceAdd, Nat.reduceLeDiff, Sum.inl.injEq, az_0, az_1, az_2, az_3, az_4, az_5, az_6, az_8, az_11, az_14, az_15, az_17, az_20, az_21, az_22, az_23, az_24, az_25, az_26, az_28, az_29, az_30, az_31, az_32, az_33, az_34, az_35, az_36, ak_0, ak_1, ak_2, ak_3, ak_4, ak_5, ak_6, ak_8, ak_11, ak_14, ak_15, ak_17, ak_20, ak_21, ak_22, ak_23, ak_24, ak_25, ak_26, ak_28, ak_29, ak_30, ak_31, ak_32, ak_33, ak_34, ak_35, ak_36, ak_37, eq_self, Int.toNat_natCast, Nat.zero_le, bI_0, b01_0, bI_or, b01_or, ne_eq, reduceCtorEq, not_false_eq_true, Nat.reduceEqDiff, if_true, if_false, ite_true, ite_false, Int.natCast_nonneg]
  unfold upV
  rw [RV_7]
  (repeat' split) <;> simp [b01] <;> omega
theorem sm_leaksAt {d : Nat} {h : AH} {p : Int} (hp : hpB (RV (h 17)) p = true) : CallR (d + 2) 159 [vR 17 27, vI p] h (some (vI (leakF (RV (h 17)) p))) h := by
  have h1 := hpB_iff.mp hp
  have hb := leakK_bd (RV (h 17)) (h 17 20 p.toNat) (h 17 21 p.toNat)
  have e0 : leakF (RV (h 17)) p = leakK (RV (h 17)) (h 17 20 p.toNat) (h 17 21 p.toNat) * (if upV (RV (h 17)) then 2 else 1) := by unfold leakF; rw [hp]; rfl
  have e : wr (2 * leakK (RV (h 17)) (h 17 20 p.toNat) (h 17 21 p.toNat)) = leakK (RV (h 17)) (h 17 20 p.toNat) (h 17 21 p.toNat) * 2 := by rw [wr_id (by omega) (by omega), Int.mul_comm]
  have t : ∀ (by_ : Int) (Q : Option AV → AH → Prop), by_ = leakK (RV (h 17)) (h 17 20 p.toNat) (h 17 21 p.toNat) → Q (some (vI (leakF (RV (h 17)) p))) h → At (CallR (d + 1)) ac_159 79 [vR 17 27, vI p, vI by_] [] h Q := by
    intro by_ Q hby hQ
    subst hby
    simp only [r159_79, r159_80, r159_83, r159_86, r159_87, r159_88, r159_89, r159_92, r159_93, CallR_iff sm_isUp, reduceIte, Option.some.injEq, and_assoc, exists_and_left, exists_eq_left, exists_eq_left', true_and, and_true, List.length_cons, List.length_nil, Nat.reduceAdd, Nat.reduceLeDiff, Sum.inl.injEq, az_0, az_1, az_2, az_3, az_4, az_5, az_6, az_8, az_11, az_14, az_15, az_17, az_20, az_21, az_22, az_23, az_24, az_25, az_26, az_28, az_29, az_30, az_31, az_32, az_33, az_34, az_35, az_36, ak_0, ak_1, ak_2, ak_3, ak_4, ak_5, ak_6, ak_8, ak_11, ak_14, ak_15, ak_17, ak_20, ak_21, ak_22, ak_23, ak_24, ak_25, ak_26, ak_28, ak_29, ak_30, ak_31, ak_32, ak_33, ak_34, ak_35, ak_36, ak_37, eq_self, Int.toNat_natCast, Nat.zero_le, bI_0, b01_0, bI_or, b01_or, ne_eq, reduceCtorEq, not_false_eq_true, Nat.reduceEqDiff, if_true, if_false, ite_true, ite_false, Int.natCast_nonneg, e]
    rw [e0] at hQ
    cases hu : upV (RV (h 17))
    · rw [hu] at hQ; simpa using hQ
    · rw [hu] at hQ; simpa using hQ
  have h8 : 0 ≤ p ∧ p < 8 := by omega
  rw [cr_159]
  simp only [r159_0, r159_1, r159_4, r159_5, r159_6, r159_44, r159_45, r159_46, r159_49, r159_50, r159_53, r159_54, r159_57, r159_58, r159_59, r159_62, r159_63, r159_66, r159_67, r159_68, r159_71, r159_73, r159_74, r159_77, r159_78, reduceIte, Option.some.injEq, and_assoc, exists_and_left, exists_eq_left, exists_eq_left', true_and, and_true, List.length_cons, List.length_nil, Nat.reduceAdd, Nat.reduceLeDiff, Sum.inl.injEq, az_0, az_1, az_2, az_3, az_4, az_5, az_6, az_8, az_11, az_14, az_15, az_17, az_20, az_21, az_22, az_23, az_24, az_25, az_26, az_28, az_29, az_30, az_31, az_32, az_33, az_34, az_35, az_36, ak_0, ak_1, ak_2, ak_3, ak_4, ak_5, ak_6, ak_8, ak_11, ak_14, ak_15, ak_17, ak_20, ak_21, ak_22, ak_23, ak_24, ak_25, ak_26, ak_28, ak_29, ak_30, ak_31, ak_32, ak_33, ak_34, ak_35, ak_36, ak_37, eq_self, Int.toNat_natCast, Nat.zero_le, bI_0, b01_0, bI_or, b01_or, ne_eq, reduceCtorEq, not_false_eq_true, Nat.reduceEqDiff, if_true, if_false, ite_true, ite_false, Int.natCast_nonneg, h8]
  have tt := fun by_ hby => t by_ (fun v' h2 => v' = some (vI (leakF (RV (h 17)) p)) ∧ h2 = h) hby ⟨rfl, rfl⟩
  unfold leakK at tt
  rw [RV_7] at tt
  (repeat' split) <;> (apply tt; simp_all)
theorem sm_goesFrom {d : Nat} {h : AH} {p : Nat} (hw : WF (RV (h 17))) (hp : p < 8) : CallR (d + 3) 160 [vR 17 27, vI p] h (some (vI (windT (RV (h 17)) p))) h := by
  have h2 := hw.pl p hp
  rw [RV_0, RV_1, RV_2] at h2
  have h5 : (p : Int) < 8 := by omega
  have e4 : opDiv (h 17 22 p) 4 = h 17 22 p / 4 := opDiv_pos (by omega) (by omega) (by omega) (by omega)
  have e8 : opDiv (h 17 22 p) 8 = h 17 22 p / 8 := opDiv_pos (by omega) (by omega) (by omega) (by omega)
  rw [cr_160]
  simp only [r160_0, r160_1, r160_4, r160_5, r160_6, r160_7, r160_10, r160_13, r160_14, r160_17, r160_18, r160_19, r160_21, r160_22, r160_25, r160_26, r160_29, r160_30, r160_31, r160_32, r160_33, reduceIte, Option.some.injEq, and_assoc, exists_and_left, exists_eq_left, exists_eq_left', true_and, and_true, List.length_cons, List.length_nil, Nat.reduceAdd, Nat.reduceLeDiff, Sum.inl.injEq, az_0, az_1, az_2, az_3, az_4, az_5, az_6, az_8, az_11, az_14, az_15, az_17, az_20, az_21, az_22, az_23, az_24, az_25, az_26, az_28, az_29, az_30, az_31, az_32, az_33, az_34, az_35, az_36, ak_0, ak_1, ak_2, ak_3, ak_4, ak_5, ak_6, ak_8, ak_11, ak_14, ak_15, ak_17, ak_20, ak_21, ak_22, ak_23, ak_24, ak_25, ak_26, ak_28, ak_29, ak_30, ak_31, ak_32, ak_33, ak_34, ak_35, ak_36, ak_37, eq_self, Int.toNat_natCast, Nat.zero_le, bI_0, b01_0, bI_or, b01_or, ne_eq, reduceCtorEq, not_false_eq_true, Nat.reduceEqDiff, if_true, if_false, ite_true, ite_false, Int.natCast_nonneg, h5, CallR_iff (sm_isUnder (k := h 17 20 p) (w := 2) h2.1 h2.2.1), e4, e8]
  unfold windT
  rw [RV_0, RV_2]
  by_cases hq : h 17 20 p = 2 ∨ h 17 20 p = 5
  · have : underB (h 17 20 p) 2 = true := by unfold underB; simp; omega
    simp [hq, this]
  · have : underB (h 17 20 p) 2 = false := by unfold underB; simp; omega
    simp [hq, this]
theorem sm_sunTakes {d : Nat} {h : AH} {p : Nat} (hw : WF (RV (h 17))) (hp : p < 8) : CallR (d + 1) 161 [vR 17 27, vI p] h (some (vI (sunT (RV (h 17)) p))) h := by
  have h2 := hw.pl p hp
  rw [RV_0, RV_1, RV_2] at h2
  have h5 : (p : Int) < 8 := by omega
  have h3 : wr (10 + h 17 21 p) = 10 + h 17 21 p := wr_id (by omega) (by omega)
  rw [cr_161]
  simp only [r161_0, r161_1, r161_4, r161_5, r161_6, r161_44, r161_45, r161_46, r161_48, r161_49, r161_50, r161_51, r161_53, r161_54, r161_57, r161_58, r161_59, r161_60, r161_61, r161_62, reduceIte, Option.some.injEq, and_assoc, exists_and_left, exists_eq_left, exists_eq_left', true_and, and_true, List.length_cons, List.length_nil, Nat.reduceAdd, Nat.reduceLeDiff, Sum.inl.injEq, az_0, az_1, az_2, az_3, az_4, az_5, az_6, az_8, az_11, az_14, az_15, az_17, az_20, az_21, az_22, az_23, az_24, az_25, az_26, az_28, az_29, az_30, az_31, az_32, az_33, az_34, az_35, az_36, ak_0, ak_1, ak_2, ak_3, ak_4, ak_5, ak_6, ak_8, ak_11, ak_14, ak_15, ak_17, ak_20, ak_21, ak_22, ak_23, ak_24, ak_25, ak_26, ak_28, ak_29, ak_30, ak_31, ak_32, ak_33, ak_34, ak_35, ak_36, ak_37, eq_self, Int.toNat_natCast, Nat.zero_le, bI_0, b01_0, bI_or, b01_or, ne_eq, reduceCtorEq, not_false_eq_true, Nat.reduceEqDiff, if_true, if_false, ite_true, ite_false, Int.natCast_nonneg, h5, h3]
  unfold sunT
  rw [RV_0, RV_1]
  (repeat' split) <;> simp_all <;> omega
theorem sm_classOf {d : Nat} {h : AH} {x : Int} : CallR (d + 1) 162 [vI x] h (some (vI (clsF x))) h := by
  rw [cr_162]
  simp only [r162_0, r162_1, r162_3, r162_6, r162_7, r162_10, r162_11, r162_13, r162_16, r162_17, r162_20, r162_21, r162_23, r162_26, r162_27, r162_30, r162_31, reduceIte, Option.some.injEq, and_assoc, exists_and_left, exists_eq_left, exists_eq_left', true_and, and_true, List.length_cons, List.length_nil, Nat.reduceAdd, Nat.reduceLeDiff, Sum.inl.injEq, az_0, az_1, az_2, az_3, az_4, az_5, az_6, az_8, az_11, az_14, az_15, az_17, az_20, az_21, az_22, az_23, az_24, az_25, az_26, az_28, az_29, az_30, az_31, az_32, az_33, az_34, az_35, az_36, ak_0, ak_1, ak_2, ak_3, ak_4, ak_5, ak_6, ak_8, ak_11, ak_14, ak_15, ak_17, ak_20, ak_21, ak_22, ak_23, ak_24, ak_25, ak_26, ak_28, ak_29, ak_30, ak_31, ak_32, ak_33, ak_34, ak_35, ak_36, ak_37, eq_self, Int.toNat_natCast, Nat.zero_le, bI_0, b01_0, bI_or, b01_or, ne_eq, reduceCtorEq, not_false_eq_true, Nat.reduceEqDiff, if_true, if_false, ite_true, ite_false, Int.natCast_nonneg]
  unfold clsF
  (repeat' split) <;> simp
theorem sm_newPlace {d : Nat} {h : AH} {k a f : Int} (h0 : 0 ≤ RV (h 17) 7 7) (h8 : RV (h 17) 7 7 < 8) : CallR (d + 1) 163 [vR 17 27, vI k, vI a, vI f] h (some (vI (RV (h 17) 7 7))) (fup h 17 (setRV (h 17) (addPlV (RV (h 17)) k a f))) := by
  rw [RV_7] at h0 h8
  rw [cr_163]
  simp only [r163_0, r163_1, r163_4, r163_5, r163_8, r163_9, r163_10, r163_11, r163_14, r163_15, r163_18, r163_19, r163_20, r163_21, r163_24, r163_25, r163_28, r163_29, r163_30, r163_31, r163_31r, r163_32, r163_35, r163_36, r163_37, r163_38, r163_41, reduceIte, Option.some.injEq, and_assoc, exists_and_left, exists_eq_left, exists_eq_left', true_and, and_true, List.length_cons, List.length_nil, Nat.reduceAdd, Nat.reduceLeDiff, Sum.inl.injEq, az_0, az_1, az_2, az_3, az_4, az_5, az_6, az_8, az_11, az_14, az_15, az_17, az_20, az_21, az_22, az_23, az_24, az_25, az_26, az_28, az_29, az_30, az_31, az_32, az_33, az_34, az_35, az_36, ak_0, ak_1, ak_2, ak_3, ak_4, ak_5, ak_6, ak_8, ak_11, ak_14, ak_15, ak_17, ak_20, ak_21, ak_22, ak_23, ak_24, ak_25, ak_26, ak_28, ak_29, ak_30, ak_31, ak_32, ak_33, ak_34, ak_35, ak_36, ak_37, eq_self, Int.toNat_natCast, Nat.zero_le, bI_0, b01_0, bI_or, b01_or, ne_eq, reduceCtorEq, not_false_eq_true, Nat.reduceEqDiff, if_true, if_false, ite_true, ite_false, Int.natCast_nonneg, up3, fup_same, fup_fup, fR_0, fR_1, fR_2, fR_3, fR_4, fR_5, fR_6, fR_7, fR_8, fR_9, fR_10, fR_11, fR_12, fR_13, fR_14, fR_15, fR_16, RV_set, set_set, sV_0, sV_1, sV_2, sV_3, sV_4, sV_5, sV_6, sV_7, sV_8, sV_9, sV_10, sV_11, sV_12, sV_13, sV_14, sV_15, sV_16, RV_0, RV_1, RV_2, RV_3, RV_4, RV_5, RV_6, RV_7, RV_8, RV_9, RV_10, RV_11, RV_12, RV_13, RV_14, RV_15, RV_16, fup_ne, h0, h8, wr_id (show -2147483648 ≤ h 17 27 7 + 1 by omega) (by omega)]
  unfold addPlV
  simp only [RV_0, RV_1, RV_2, RV_7]
theorem lm_free {d : Nat} {h : AH} {Q : Option AV → AH → Prop} (hb : BD (RV (h 17))) : ∀ (k i : Nat), ((i + k : Nat) : Int) = h 17 27 8 → (At (CallR d) ac_170 2 [vR 17 27, vI i] [] h Q ↔ Q (some (vI (freeF (RV (h 17)) k i))) h)
  | 0, i, e => by
    have h1 : ¬ (i : Int) < h 17 27 8 := by omega
    rw [r170_2]
    simp only [r170_3, r170_4, r170_7, r170_10, r170_11, r170_14, r170_15, r170_16, r170_19, r170_22, r170_23, r170_24, r170_27, r170_30, r170_31, r170_34, r170_36, r170_39, r170_40, r170_43, r170_46, r170_47, reduceIte, Option.some.injEq, and_assoc, exists_and_left, exists_eq_left, exists_eq_left', true_and, and_true, List.length_cons, List.length_nil, Nat.reduceAdd, Nat.reduceLeDiff, Sum.inl.injEq, az_0, az_1, az_2, az_3, az_4, az_5, az_6, az_8, az_11, az_14, az_15, az_17, az_20, az_21, az_22, az_23, az_24, az_25, az_26, az_28, az_29, az_30, az_31, az_32, az_33, az_34, az_35, az_36, ak_0, ak_1, ak_2, ak_3, ak_4, ak_5, ak_6, ak_8, ak_11, ak_14, ak_15, ak_17, ak_20, ak_21, ak_22, ak_23, ak_24, ak_25, ak_26, ak_28, ak_29, ak_30, ak_31, ak_32, ak_33, ak_34, ak_35, ak_36, ak_37, eq_self, Int.toNat_natCast, Nat.zero_le, bI_0, b01_0, bI_or, b01_or, ne_eq, reduceCtorEq, not_false_eq_true, Nat.reduceEqDiff, if_true, if_false, ite_true, ite_false, Int.natCast_nonneg, h1, freeF, RV_7]
    by_cases hq : h 17 27 8 < 12 <;> simp [hq]
  | k + 1, i, e => by
    have h4 := hb.2.2.2
    rw [RV_7] at h4
    have h1 : (i : Int) < h 17 27 8 := by omega
    have h2 : (i : Int) < 12 := by omega
    have ih := lm_free (d := d) (Q := Q) hb k (i + 1) (by omega)
    rw [r170_2]
    simp only [r170_3, r170_4, r170_7, r170_10, r170_11, r170_14, r170_15, r170_16, r170_19, r170_22, r170_23, r170_24, r170_27, r170_30, r170_31, r170_34, r170_36, r170_39, r170_40, r170_43, r170_46, r170_47, reduceIte, Option.some.injEq, and_assoc, exists_and_left, exists_eq_left, exists_eq_left', true_and, and_true, List.length_cons, List.length_nil, Nat.reduceAdd, Nat.reduceLeDiff, Sum.inl.injEq, az_0, az_1, az_2, az_3, az_4, az_5, az_6, az_8, az_11, az_14, az_15, az_17, az_20, az_21, az_22, az_23, az_24, az_25, az_26, az_28, az_29, az_30, az_31, az_32, az_33, az_34, az_35, az_36, ak_0, ak_1, ak_2, ak_3, ak_4, ak_5, ak_6, ak_8, ak_11, ak_14, ak_15, ak_17, ak_20, ak_21, ak_22, ak_23, ak_24, ak_25, ak_26, ak_28, ak_29, ak_30, ak_31, ak_32, ak_33, ak_34, ak_35, ak_36, ak_37, eq_self, Int.toNat_natCast, Nat.zero_le, bI_0, b01_0, bI_or, b01_or, ne_eq, reduceCtorEq, not_false_eq_true, Nat.reduceEqDiff, if_true, if_false, ite_true, ite_false, Int.natCast_nonneg, h1, h2, freeF, RV_5, wr_s (show i < 2147483647 by omega), ih]
    by_cases hq : h 17 25 i = 200 <;> simp [hq]
theorem sm_free {d : Nat} {h : AH} (hb : BD (RV (h 17))) : CallR (d + 1) 170 [vR 17 27] h (some (vI (freeV (RV (h 17))))) h := by
  have h0 := hb.2.2.1
  rw [RV_7] at h0
  have L := lm_free (d := d) (h := h) (Q := fun v' h2 => v' = some (vI (freeV (RV (h 17)))) ∧ h2 = h) hb (nB (RV (h 17))) 0 (by unfold nB; rw [RV_7]; omega)
  rw [cr_170]
  simp only [r170_0, r170_1]
  exact L.mpr ⟨rfl, rfl⟩
theorem freeF_le (V : VS) (hb : BD V) : ∀ (k i : Nat), ((i + k : Nat) : Int) ≤ V 7 8 → freeF V k i ≤ V 7 8
  | 0, i, h => by unfold freeF; split <;> (have := hb.2.2.1; omega)
  | k + 1, i, h => by
    unfold freeF
    have := freeF_le V hb k (i + 1) (by omega)
    split <;> omega
theorem sm_fills {d : Nat} {h : AH} {s x : Int} (hb : BD (RV (h 17))) (hf : freeV (RV (h 17)) ≠ -1) : CallR (d + 2) 171 [vR 17 27, vI x, vI s] h (some (vI (freeV (RV (h 17))))) (fup h 17 (setRV (h 17) (fillV (RV (h 17)) s x))) := by
  have hbd := freeV_bd hb
  have hle : freeV (RV (h 17)) ≤ h 17 27 8 := freeF_le _ hb _ _ (by have := hb.2.2.1; unfold nB; omega)
  have h4 := hb.2.2.2
  rw [RV_7] at h4
  have h0 : 0 ≤ freeV (RV (h 17)) := by omega
  have h12 : freeV (RV (h 17)) < 12 := by omega
  rw [cr_171]
  simp only [r171_0, r171_1, r171_4, r171_5, r171_6, r171_7, r171_10, r171_13, r171_14, r171_14r, r171_15, r171_18, r171_19, r171_20, r171_23, r171_24, r171_27, r171_28, r171_29, r171_30, r171_31, r171_34, r171_35, r171_36, r171_37, r171_38, CallR_iff (sm_free hb), reduceIte, Option.some.injEq, and_assoc, exists_and_left, exists_eq_left, exists_eq_left', true_and, and_true, List.length_cons, List.length_nil, Nat.reduceAdd, Nat.reduceLeDiff, Sum.inl.injEq, az_0, az_1, az_2, az_3, az_4, az_5, az_6, az_8, az_11, az_14, az_15, az_17, az_20, az_21, az_22, az_23, az_24, az_25, az_26, az_28, az_29, az_30, az_31, az_32, az_33, az_34, az_35, az_36, ak_0, ak_1, ak_2, ak_3, ak_4, ak_5, ak_6, ak_8, ak_11, ak_14, ak_15, ak_17, ak_20, ak_21, ak_22, ak_23, ak_24, ak_25, ak_26, ak_28, ak_29, ak_30, ak_31, ak_32, ak_33, ak_34, ak_35, ak_36, ak_37, eq_self, Int.toNat_natCast, Nat.zero_le, bI_0, b01_0, bI_or, b01_or, ne_eq, reduceCtorEq, not_false_eq_true, Nat.reduceEqDiff, if_true, if_false, ite_true, ite_false, Int.natCast_nonneg]
  unfold fillV
  rw [RV_4, RV_5, RV_7]
  by_cases hq : freeV (RV (h 17)) = h 17 27 8
  · have h9 : wr (h 17 27 8 + 1) = h 17 27 8 + 1 := wr_id (by omega) (by omega)
    rw [hq] at h0 h12
    simp only [hq, if_true, Int.le_refl, reduceIte, Option.some.injEq, and_assoc, exists_and_left, exists_eq_left, exists_eq_left', true_and, and_true, List.length_cons, List.length_nil, Nat.reduceAdd, Nat.reduceLeDiff, Sum.inl.injEq, az_0, az_1, az_2, az_3, az_4, az_5, az_6, az_8, az_11, az_14, az_15, az_17, az_20, az_21, az_22, az_23, az_24, az_25, az_26, az_28, az_29, az_30, az_31, az_32, az_33, az_34, az_35, az_36, ak_0, ak_1, ak_2, ak_3, ak_4, ak_5, ak_6, ak_8, ak_11, ak_14, ak_15, ak_17, ak_20, ak_21, ak_22, ak_23, ak_24, ak_25, ak_26, ak_28, ak_29, ak_30, ak_31, ak_32, ak_33, ak_34, ak_35, ak_36, ak_37, eq_self, Int.toNat_natCast, Nat.zero_le, bI_0, b01_0, bI_or, b01_or, ne_eq, reduceCtorEq, not_false_eq_true, Nat.reduceEqDiff, if_true, if_false, ite_true, ite_false, Int.natCast_nonneg, up3, fup_same, fup_fup, fR_0, fR_1, fR_2, fR_3, fR_4, fR_5, fR_6, fR_7, fR_8, fR_9, fR_10, fR_11, fR_12, fR_13, fR_14, fR_15, fR_16, RV_set, set_set, sV_0, sV_1, sV_2, sV_3, sV_4, sV_5, sV_6, sV_7, sV_8, sV_9, sV_10, sV_11, sV_12, sV_13, sV_14, sV_15, sV_16, RV_0, RV_1, RV_2, RV_3, RV_4, RV_5, RV_6, RV_7, RV_8, RV_9, RV_10, RV_11, RV_12, RV_13, RV_14, RV_15, RV_16, fup_ne, h9, h0, h12]
    rw [fup_comm (RV (h 17)) _ _ (show (7 : Nat) ≠ 4 by decide), fup_comm (fup (RV (h 17)) 4 _) _ _ (show (7 : Nat) ≠ 5 by decide)]
  · simp only [hq, if_false, show ¬ h 17 27 8 ≤ freeV (RV (h 17)) by omega, reduceIte, Option.some.injEq, and_assoc, exists_and_left, exists_eq_left, exists_eq_left', true_and, and_true, List.length_cons, List.length_nil, Nat.reduceAdd, Nat.reduceLeDiff, Sum.inl.injEq, az_0, az_1, az_2, az_3, az_4, az_5, az_6, az_8, az_11, az_14, az_15, az_17, az_20, az_21, az_22, az_23, az_24, az_25, az_26, az_28, az_29, az_30, az_31, az_32, az_33, az_34, az_35, az_36, ak_0, ak_1, ak_2, ak_3, ak_4, ak_5, ak_6, ak_8, ak_11, ak_14, ak_15, ak_17, ak_20, ak_21, ak_22, ak_23, ak_24, ak_25, ak_26, ak_28, ak_29, ak_30, ak_31, ak_32, ak_33, ak_34, ak_35, ak_36, ak_37, eq_self, Int.toNat_natCast, Nat.zero_le, bI_0, b01_0, bI_or, b01_or, ne_eq, reduceCtorEq, not_false_eq_true, Nat.reduceEqDiff, if_true, if_false, ite_true, ite_false, Int.natCast_nonneg, up3, fup_same, fup_fup, fR_0, fR_1, fR_2, fR_3, fR_4, fR_5, fR_6, fR_7, fR_8, fR_9, fR_10, fR_11, fR_12, fR_13, fR_14, fR_15, fR_16, RV_set, set_set, sV_0, sV_1, sV_2, sV_3, sV_4, sV_5, sV_6, sV_7, sV_8, sV_9, sV_10, sV_11, sV_12, sV_13, sV_14, sV_15, sV_16, RV_0, RV_1, RV_2, RV_3, RV_4, RV_5, RV_6, RV_7, RV_8, RV_9, RV_10, RV_11, RV_12, RV_13, RV_14, RV_15, RV_16, fup_ne, h0, h12]
