/-! PURE: leaks, sun, wind, kinds -/
def aboveF (k : Int) : Int := if k = 1 ∨ k = 2 ∨ k = 4 then 0 else if k = 3 then 1 else if k = 5 then 2 else if k = 6 then 4 else -1
theorem sp_above {d : Nat} {h : AH} {k : Int} : CallR (d + 1) 141 [vI k] h (some (vI (aboveF k))) h := by
  rw [cr_141]
  simp only [r141_0, r141_1, r141_40, r141_41, r141_42, r141_43, r141_44, r141_45, r141_46, r141_47, r141_48, r141_49, reduceIte, Option.some.injEq, and_assoc, exists_and_left, exists_eq_left, exists_eq_left', true_and, and_true, List.length_cons, List.length_nil, Nat.reduceAdd, Nat.reduceLeDiff, Sum.inl.injEq, az_0, az_1, az_2, az_3, az_4, az_5, az_6, az_8, az_11, az_14, az_15, az_17, az_20, az_21, az_22, az_23, az_24, az_25, az_26, az_28, az_29, az_30, az_31, az_32, az_33, az_34, az_35, az_36, ak_0, ak_1, ak_2, ak_3, ak_4, ak_5, ak_6, ak_8, ak_11, ak_14, ak_15, ak_17, ak_20, ak_21, ak_22, ak_23, ak_24, ak_25, ak_26, ak_28, ak_29, ak_30, ak_31, ak_32, ak_33, ak_34, ak_35, ak_36, ak_37, eq_self, Int.toNat_natCast, Nat.zero_le, bI_0, b01_0, bI_or, b01_or, ne_eq, reduceCtorEq, not_false_eq_true, Nat.reduceEqDiff, if_true, if_false, ite_true, ite_false, Int.natCast_nonneg]
  unfold aboveF
  (repeat' split) <;> simp_all <;> omega
theorem lp_kind {d g : Nat} {h : AH} {p w : Int} {Q : Option AV → AH → Prop} : ∀ (n : Nat) (k : Int) (i : Nat), i + n ≤ 7 → (k = -1 ∨ (k = 0 ∧ 2 ≤ n) ∨ ((k = 1 ∨ k = 2 ∨ k = 4) ∧ 3 ≤ n) ∨ ((k = 3 ∨ k = 5 ∨ k = 6) ∧ 4 ≤ n)) → (At (CallR (d + 1)) ac_49 9 [vR g 7, vI p, vI w, vI k, vI i] [] h Q ↔ Q (some (vI (b01 (underB k w)))) h)
  | 0, k, i, hn, hk => by
    have hk1 : k = -1 := by omega
    subst hk1
    rw [r49_9]
    simp only [r49_11, r49_13, r49_16, r49_17, r49_18, r49_21, r49_22, r49_23, r49_26, r49_27, r49_28, r49_29, r49_32, r49_33, r49_36, r49_39, r49_40, reduceIte, Option.some.injEq, and_assoc, exists_and_left, exists_eq_left, exists_eq_left', true_and, and_true, List.length_cons, List.length_nil, Nat.reduceAdd, Nat.reduceLeDiff, Sum.inl.injEq, az_0, az_1, az_2, az_3, az_4, az_5, az_6, az_8, az_11, az_14, az_15, az_17, az_20, az_21, az_22, az_23, az_24, az_25, az_26, az_28, az_29, az_30, az_31, az_32, az_33, az_34, az_35, az_36, ak_0, ak_1, ak_2, ak_3, ak_4, ak_5, ak_6, ak_8, ak_11, ak_14, ak_15, ak_17, ak_20, ak_21, ak_22, ak_23, ak_24, ak_25, ak_26, ak_28, ak_29, ak_30, ak_31, ak_32, ak_33, ak_34, ak_35, ak_36, ak_37, eq_self, Int.toNat_natCast, Nat.zero_le, bI_0, b01_0, bI_or, b01_or, ne_eq, reduceCtorEq, not_false_eq_true, Nat.reduceEqDiff, if_true, if_false, ite_true, ite_false, Int.natCast_nonneg]
    by_cases h7 : (i : Int) < 7 <;> simp [h7, underB, b01]
  | n + 1, k, i, hn, hk => by
    have h7 : (i : Int) < 7 := by omega
    rw [r49_9]
    simp only [r49_11, r49_13, r49_16, r49_17, r49_18, r49_21, r49_22, r49_23, r49_26, r49_27, r49_28, r49_29, r49_32, r49_33, r49_36, r49_39, r49_40, CallR_iff sp_above, reduceIte, Option.some.injEq, and_assoc, exists_and_left, exists_eq_left, exists_eq_left', true_and, and_true, List.length_cons, List.length_nil, Nat.reduceAdd, Nat.reduceLeDiff, Sum.inl.injEq, az_0, az_1, az_2, az_3, az_4, az_5, az_6, az_8, az_11, az_14, az_15, az_17, az_20, az_21, az_22, az_23, az_24, az_25, az_26, az_28, az_29, az_30, az_31, az_32, az_33, az_34, az_35, az_36, ak_0, ak_1, ak_2, ak_3, ak_4, ak_5, ak_6, ak_8, ak_11, ak_14, ak_15, ak_17, ak_20, ak_21, ak_22, ak_23, ak_24, ak_25, ak_26, ak_28, ak_29, ak_30, ak_31, ak_32, ak_33, ak_34, ak_35, ak_36, ak_37, eq_self, Int.toNat_natCast, Nat.zero_le, bI_0, b01_0, bI_or, b01_or, ne_eq, reduceCtorEq, not_false_eq_true, Nat.reduceEqDiff, if_true, if_false, ite_true, ite_false, Int.natCast_nonneg, h7, wr_s (show i < 2147483647 by omega)]
    by_cases hm : k = -1
    · subst hm; simp [underB, b01]
    · by_cases hw : k = w
      · subst hw
        have : underB k k = true := by unfold underB; simp; omega
        simp [hm, this, b01]
      · have ih := lp_kind (d := d) (g := g) (h := h) (p := p) (w := w) (Q := Q) n (aboveF k) (i + 1) (by omega) (by unfold aboveF; (repeat' split) <;> omega)
        have hu : underB (aboveF k) w = underB k w := by
          unfold underB aboveF
          rw [decide_eq_decide]
          (repeat' split) <;> omega
        rw [hu] at ih
        simp only [hm, hw, if_false]
        exact ih
theorem sp_isOfKind {d g : Nat} {h : AH} {p w : Int} (hw : WF (h g)) : CallR (d + 3) 49 [vR g 7, vI p, vI w] h (some (vI (b01 (underB (kindV (h g) p) w)))) h := by
  have hk : kindV (h g) p = -1 ∨ (kindV (h g) p = 0 ∧ 2 ≤ 7) ∨ ((kindV (h g) p = 1 ∨ kindV (h g) p = 2 ∨ kindV (h g) p = 4) ∧ 3 ≤ 7) ∨ ((kindV (h g) p = 3 ∨ kindV (h g) p = 5 ∨ kindV (h g) p = 6) ∧ 4 ≤ 7) := by
    unfold kindV
    cases hq : hpB (h g) p
    · exact Or.inl rfl
    · have h1 := hpB_iff.mp hq
      have := hw.pl p.toNat (by omega)
      simp only [if_true]
      omega
  have L := lp_kind (d := d + 1) (g := g) (h := h) (p := p) (w := w) (Q := fun v' h2 => v' = some (vI (b01 (underB (kindV (h g) p) w))) ∧ h2 = h) 7 (kindV (h g) p) 0 (by omega) hk
  rw [cr_49]
  simp only [r49_0, r49_1, r49_2, r49_5, r49_6, r49_7, CallR_iff sp_kindAt, reduceIte, Option.some.injEq, and_assoc, exists_and_left, exists_eq_left, exists_eq_left', true_and, and_true, List.length_cons, List.length_nil, Nat.reduceAdd, Nat.reduceLeDiff, Sum.inl.injEq, az_0, az_1, az_2, az_3, az_4, az_5, az_6, az_8, az_11, az_14, az_15, az_17, az_20, az_21, az_22, az_23, az_24, az_25, az_26, az_28, az_29, az_30, az_31, az_32, az_33, az_34, az_35, az_36, ak_0, ak_1, ak_2, ak_3, ak_4, ak_5, ak_6, ak_8, ak_11, ak_14, ak_15, ak_17, ak_20, ak_21, ak_22, ak_23, ak_24, ak_25, ak_26, ak_28, ak_29, ak_30, ak_31, ak_32, ak_33, ak_34, ak_35, ak_36, ak_37, eq_self, Int.toNat_natCast, Nat.zero_le, bI_0, b01_0, bI_or, b01_or, ne_eq, reduceCtorEq, not_false_eq_true, Nat.reduceEqDiff, if_true, if_false, ite_true, ite_false, Int.natCast_nonneg]
  exact L.mpr ⟨rfl, rfl⟩
theorem sp_sunUp {d g : Nat} {h : AH} : CallR (d + 1) 66 [vR g 7] h (some (vI (b01 (upV (h g))))) h := by
  rw [cr_66]
  simp only [r66_0, r66_1, r66_4, r66_5, r66_8, r66_11, r66_12, r66_15, r66_17, r66_20, r66_21, r66_24, r66_25, reduceIte, Option.some.injEq, and_assoc, exists_and_left, exists_eq_left, exists_eq_left', true_and, and_true, List.length_cons, List.length_nil, Nat.reduceAdd, Nat.reduceLeDiff, Sum.inl.injEq, az_0, az_1, az_2, az_3, az_4, az_5, az_6, az_8, az_11, az_14, az_15, az_17, az_20, az_21, az_22, az_23, az_24, az_25, az_26, az_28, az_29, az_30, az_31, az_32, az_33, az_34, az_35, az_36, ak_0, ak_1, ak_2, ak_3, ak_4, ak_5, ak_6, ak_8, ak_11, ak_14, ak_15, ak_17, ak_20, ak_21, ak_22, ak_23, ak_24, ak_25, ak_26, ak_28, ak_29, ak_30, ak_31, ak_32, ak_33, ak_34, ak_35, ak_36, ak_37, eq_self, Int.toNat_natCast, Nat.zero_le, bI_0, b01_0, bI_or, b01_or, ne_eq, reduceCtorEq, not_false_eq_true, Nat.reduceEqDiff, if_true, if_false, ite_true, ite_false, Int.natCast_nonneg]
  (repeat' split) <;> simp [upV, b01] <;> omega
theorem sp_leakOf {d g : Nat} {h : AH} {k a : Int} : CallR (d + 1) 68 [vR g 7, vI k, vI a] h (some (vI (leakK (h g) k a))) h := by
  rw [cr_68]
  simp only [r68_0, r68_1, r68_40, r68_41, r68_42, r68_43, r68_46, r68_47, r68_50, r68_51, r68_54, r68_55, r68_56, r68_58, r68_59, r68_60, reduceIte, Option.some.injEq, and_assoc, exists_and_left, exists_eq_left, exists_eq_left', true_and, and_true, List.length_cons, List.length_nil, Nat.reduceAdd, Nat.reduceLeDiff, Sum.inl.injEq, az_0, az_1, az_2, az_3, az_4, az_5, az_6, az_8, az_11, az_14, az_15, az_17, az_20, az_21, az_22, az_23, az_24, az_25, az_26, az_28, az_29, az_30, az_31, az_32, az_33, az_34, az_35, az_36, ak_0, ak_1, ak_2, ak_3, ak_4, ak_5, ak_6, ak_8, ak_11, ak_14, ak_15, ak_17, ak_20, ak_21, ak_22, ak_23, ak_24, ak_25, ak_26, ak_28, ak_29, ak_30, ak_31, ak_32, ak_33, ak_34, ak_35, ak_36, ak_37, eq_self, Int.toNat_natCast, Nat.zero_le, bI_0, b01_0, bI_or, b01_or, ne_eq, reduceCtorEq, not_false_eq_true, Nat.reduceEqDiff, if_true, if_false, ite_true, ite_false, Int.natCast_nonneg]
  unfold leakK
  (repeat' split) <;> simp_all <;> omega
theorem leakK_bd (V : VS) (k a : Int) : 0 ≤ leakK V k a ∧ leakK V k a ≤ 6 := by unfold leakK; (repeat' split) <;> omega
theorem leakF_bd (V : VS) (s : Int) : 0 ≤ leakF V s ∧ leakF V s ≤ 12 := by
  have := leakK_bd V (V 0 s.toNat) (V 1 s.toNat)
  unfold leakF
  (repeat' split) <;> omega
theorem sp_leakAt {d g : Nat} {h : AH} {s : Int} : CallR (d + 2) 67 [vR g 7, vI s] h (some (vI (leakF (h g) s))) h := by
  have hb := leakK_bd (h g) (h g 0 s.toNat) (h g 1 s.toNat)
  rw [cr_67]
  simp only [r67_0, r67_1, r67_2, r67_5, r67_8, r67_9, r67_10, r67_13, r67_14, r67_15, r67_16, r67_19, r67_20, r67_21, r67_24, r67_27, r67_28, r67_29, r67_30, r67_33, r67_36, r67_37, r67_38, r67_39, r67_42, r67_43, CallR_iff sp_hasPlace, CallR_iff sp_sunUp, CallR_iff sp_leakOf, reduceIte, Option.some.injEq, and_assoc, exists_and_left, exists_eq_left, exists_eq_left', true_and, and_true, List.length_cons, List.length_nil, Nat.reduceAdd, Nat.reduceLeDiff, Sum.inl.injEq, az_0, az_1, az_2, az_3, az_4, az_5, az_6, az_8, az_11, az_14, az_15, az_17, az_20, az_21, az_22, az_23, az_24, az_25, az_26, az_28, az_29, az_30, az_31, az_32, az_33, az_34, az_35, az_36, ak_0, ak_1, ak_2, ak_3, ak_4, ak_5, ak_6, ak_8, ak_11, ak_14, ak_15, ak_17, ak_20, ak_21, ak_22, ak_23, ak_24, ak_25, ak_26, ak_28, ak_29, ak_30, ak_31, ak_32, ak_33, ak_34, ak_35, ak_36, ak_37, eq_self, Int.toNat_natCast, Nat.zero_le, bI_0, b01_0, bI_or, b01_or, ne_eq, reduceCtorEq, not_false_eq_true, Nat.reduceEqDiff, if_true, if_false, ite_true, ite_false, Int.natCast_nonneg]
  unfold leakF
  cases hq : hpB (h g) s
  · cases hu : upV (h g) <;> simp <;> decide
  · have h1 := hpB_iff.mp hq
    cases hu : upV (h g)
    · simp; omega
    · have e : wr (2 * leakK (h g) (h g 0 s.toNat) (h g 1 s.toNat)) = leakK (h g) (h g 0 s.toNat) (h g 1 s.toNat) * 2 := by rw [wr_id (by omega) (by omega), Int.mul_comm]
      simp [e]
      omega
theorem sp_sunTakes {d g : Nat} {h : AH} {p : Int} (hw : WF (h g)) : CallR (d + 2) 69 [vR g 7, vI p] h (some (vI (if hpB (h g) p then sunT (h g) p.toNat else 0))) h := by
  rw [cr_69]
  simp only [r69_0, r69_1, r69_2, r69_5, r69_8, r69_9, r69_10, r69_11, r69_14, r69_15, r69_16, r69_56, r69_57, r69_58, r69_60, r69_61, r69_63, r69_64, r69_67, r69_68, r69_69, r69_70, r69_71, r69_72, r69_73, r69_74, CallR_iff sp_hasPlace, reduceIte, Option.some.injEq, and_assoc, exists_and_left, exists_eq_left, exists_eq_left', true_and, and_true, List.length_cons, List.length_nil, Nat.reduceAdd, Nat.reduceLeDiff, Sum.inl.injEq, az_0, az_1, az_2, az_3, az_4, az_5, az_6, az_8, az_11, az_14, az_15, az_17, az_20, az_21, az_22, az_23, az_24, az_25, az_26, az_28, az_29, az_30, az_31, az_32, az_33, az_34, az_35, az_36, ak_0, ak_1, ak_2, ak_3, ak_4, ak_5, ak_6, ak_8, ak_11, ak_14, ak_15, ak_17, ak_20, ak_21, ak_22, ak_23, ak_24, ak_25, ak_26, ak_28, ak_29, ak_30, ak_31, ak_32, ak_33, ak_34, ak_35, ak_36, ak_37, eq_self, Int.toNat_natCast, Nat.zero_le, bI_0, b01_0, bI_or, b01_or, ne_eq, reduceCtorEq, not_false_eq_true, Nat.reduceEqDiff, if_true, if_false, ite_true, ite_false, Int.natCast_nonneg]
  cases hq : hpB (h g) p
  · simp
  · have h1 := hpB_iff.mp hq
    have h2 := hw.pl p.toNat (by omega)
    have h3 : wr (10 + h g 1 p.toNat) = 10 + h g 1 p.toNat := wr_id (by omega) (by omega)
    unfold sunT
    rw [h3]
    have h5 : 0 ≤ p ∧ p < 8 := by omega
    simp only [h5, true_and, if_false, if_true, and_self, Bool.true_eq_false]
    (repeat' split) <;> simp_all <;> omega
theorem sp_windTakes {d g : Nat} {h : AH} {p : Int} (hw : WF (h g)) : CallR (d + 2) 70 [vR g 7, vI p] h (some (vI (if hpB (h g) p then windT (h g) p.toNat else 0))) h := by
  rw [cr_70]
  simp only [r70_0, r70_1, r70_2, r70_5, r70_8, r70_9, r70_10, r70_11, r70_14, r70_15, r70_16, r70_17, r70_20, r70_21, r70_24, r70_25, r70_26, r70_27, r70_30, r70_31, r70_34, r70_35, r70_36, r70_38, r70_39, r70_42, r70_43, r70_46, r70_47, r70_48, r70_49, r70_50, CallR_iff sp_hasPlace, reduceIte, Option.some.injEq, and_assoc, exists_and_left, exists_eq_left, exists_eq_left', true_and, and_true, List.length_cons, List.length_nil, Nat.reduceAdd, Nat.reduceLeDiff, Sum.inl.injEq, az_0, az_1, az_2, az_3, az_4, az_5, az_6, az_8, az_11, az_14, az_15, az_17, az_20, az_21, az_22, az_23, az_24, az_25, az_26, az_28, az_29, az_30, az_31, az_32, az_33, az_34, az_35, az_36, ak_0, ak_1, ak_2, ak_3, ak_4, ak_5, ak_6, ak_8, ak_11, ak_14, ak_15, ak_17, ak_20, ak_21, ak_22, ak_23, ak_24, ak_25, ak_26, ak_28, ak_29, ak_30, ak_31, ak_32, ak_33, ak_34, ak_35, ak_36, ak_37, eq_self, Int.toNat_natCast, Nat.zero_le, bI_0, b01_0, bI_or, b01_or, ne_eq, reduceCtorEq, not_false_eq_true, Nat.reduceEqDiff, if_true, if_false, ite_true, ite_false, Int.natCast_nonneg]
  cases hq : hpB (h g) p
  · simp
  · have h1 := hpB_iff.mp hq
    have h2 := hw.pl p.toNat (by omega)
    have h5 : 0 ≤ p ∧ p < 8 := by omega
    have e4 : opDiv (h g 2 p.toNat) 4 = h g 2 p.toNat / 4 := opDiv_pos (by omega) (by omega) (by omega) (by omega)
    have e8 : opDiv (h g 2 p.toNat) 8 = h g 2 p.toNat / 8 := opDiv_pos (by omega) (by omega) (by omega) (by omega)
    unfold windT
    simp only [h5, true_and, if_false, if_true, and_self, Bool.true_eq_false, e4, e8]
    (repeat' split) <;> simp_all
