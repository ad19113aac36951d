/-! PURE: an hour -/
theorem freeF_bd (V : VS) (h0 : 0 ≤ V 7 8) : ∀ (k i : Nat), i + k ≤ 12 → -1 ≤ freeF V k i ∧ freeF V k i ≤ 11
  | 0, i, h => by unfold freeF; split <;> omega
  | k + 1, i, h => by
    unfold freeF
    have := freeF_bd V h0 k (i + 1) (by omega)
    split <;> omega
theorem freeV_bd {V : VS} (h : BD V) : -1 ≤ freeV V ∧ freeV V ≤ 11 := freeF_bd V h.2.2.1 _ _ (by have := WF.nB12 h; omega)
theorem sp_fill {d g : Nat} {h : AH} {s x : Int} (hb : BD (h g)) (hf : freeV (h g) ≠ -1) : CallR (d + 2) 52 [vR g 7, vI s, vI x] h (some (vI (freeV (h g)))) (fup h g (fillV (h g) s x)) := by
  have hbd := freeV_bd hb
  rw [cr_52]
  simp only [r52_0, r52_1, r52_4, r52_5, r52_6, r52_9, r52_10, r52_12, r52_15, r52_16, r52_17, r52_18, r52_21, r52_22, r52_23, r52_24, r52_25, r52_28, r52_29, r52_30, r52_31, r52_32, r52_33, r52_36, r52_39, r52_40, r52_41, r52_42, r52_43, r52_46, r52_47, CallR_iff (sp_freeB hb), reduceIte, Option.some.injEq, and_assoc, exists_and_left, exists_eq_left, exists_eq_left', true_and, and_true, List.length_cons, List.length_nil, Nat.reduceAdd, Nat.reduceLeDiff, Sum.inl.injEq, az_0, az_1, az_2, az_3, az_4, az_5, az_6, az_8, az_11, az_14, az_15, az_17, az_20, az_21, az_22, az_23, az_24, az_25, az_26, az_28, az_29, az_30, az_31, az_32, az_33, az_34, az_35, az_36, ak_0, ak_1, ak_2, ak_3, ak_4, ak_5, ak_6, ak_8, ak_11, ak_14, ak_15, ak_17, ak_20, ak_21, ak_22, ak_23, ak_24, ak_25, ak_26, ak_28, ak_29, ak_30, ak_31, ak_32, ak_33, ak_34, ak_35, ak_36, ak_37, eq_self, Int.toNat_natCast, Nat.zero_le, bI_0, b01_0, bI_or, b01_or, ne_eq, reduceCtorEq, not_false_eq_true, Nat.reduceEqDiff, if_true, if_false, ite_true, ite_false, Int.natCast_nonneg]
  show _
  change freeF (h g) (nB (h g)) 0 ≠ -1 at hf
  unfold fillV
  simp only [freeV] at hbd ⊢
  have h1 : ¬ freeF (h g) (nB (h g)) 0 < 0 := by omega
  have h2 : freeF (h g) (nB (h g)) 0 < 12 := by omega
  have h3 : 0 ≤ freeF (h g) (nB (h g)) 0 := by omega
  simp only [h1, h2, h3, if_false, if_true, true_and, and_self, up3, fup_same, fup_fup, fup_ne, ne_eq, Nat.reduceEqDiff, not_false_eq_true, wr_id (show -2147483648 ≤ freeF (h g) (nB (h g)) 0 + 1 by omega) (by omega)]
  by_cases h4 : freeF (h g) (nB (h g)) 0 < h g 7 8
  · simp [h4, show ¬ h g 7 8 ≤ freeF (h g) (nB (h g)) 0 by omega]
  · simp [h4, show h g 7 8 ≤ freeF (h g) (nB (h g)) 0 by omega, fup_fup, fup_ne]
theorem sp_allows {d g : Nat} {h : AH} {a : Int} (hw : WF (h g)) : CallR (d + 3) 71 [vR g 7, vI a] h (some (vI (b01 (mayV (h g) a)))) h := by
  have hy := hw.you
  have hb := hw.bd
  have e1 : wr (h g 7 9 + 1) = h g 7 9 + 1 := wr_id (by omega) (by have := hb.2.1; omega)
  have e2 : wr (h g 7 9 - 1) = h g 7 9 - 1 := wr_id (by omega) (by have := hb.2.1; omega)
  have hbits := bits_0 (h g) 100 (nB (h g)) (WF.nB12 hb)
  rw [cr_71]
  simp only [r71_0, r71_1, r71_44, r71_45, r71_46, r71_47, r71_48, r71_51, r71_54, r71_56, r71_59, r71_60, r71_63, r71_65, r71_68, r71_69, r71_72, r71_73, r71_76, r71_77, r71_80, r71_81, r71_82, r71_83, r71_84, r71_87, r71_88, r71_89, r71_92, r71_93, r71_94, r71_95, r71_98, r71_99, r71_100, r71_103, r71_104, r71_105, r71_108, r71_109, r71_112, r71_115, r71_116, r71_117, r71_119, r71_122, r71_125, r71_128, r71_129, r71_132, r71_133, r71_134, r71_135, r71_136, r71_139, r71_142, r71_145, r71_146, r71_148, r71_151, r71_154, r71_155, r71_158, r71_159, r71_160, r71_161, r71_164, r71_166, r71_169, r71_170, r71_171, r71_174, r71_177, r71_178, r71_181, r71_182, r71_185, r71_186, r71_187, r71_188, CallR_iff sp_fogAt, CallR_iff (sp_carried hb), CallR_iff (sp_freeB hb), CallR_iff sp_hasPlace, CallR_iff (sp_strongest hb), CallR_iff sp_classOf, CallR_iff (sp_bottlesAt hb), reduceIte, Option.some.injEq, and_assoc, exists_and_left, exists_eq_left, exists_eq_left', true_and, and_true, List.length_cons, List.length_nil, Nat.reduceAdd, Nat.reduceLeDiff, Sum.inl.injEq, az_0, az_1, az_2, az_3, az_4, az_5, az_6, az_8, az_11, az_14, az_15, az_17, az_20, az_21, az_22, az_23, az_24, az_25, az_26, az_28, az_29, az_30, az_31, az_32, az_33, az_34, az_35, az_36, ak_0, ak_1, ak_2, ak_3, ak_4, ak_5, ak_6, ak_8, ak_11, ak_14, ak_15, ak_17, ak_20, ak_21, ak_22, ak_23, ak_24, ak_25, ak_26, ak_28, ak_29, ak_30, ak_31, ak_32, ak_33, ak_34, ak_35, ak_36, ak_37, eq_self, Int.toNat_natCast, Nat.zero_le, bI_0, b01_0, bI_or, b01_or, ne_eq, reduceCtorEq, not_false_eq_true, Nat.reduceEqDiff, if_true, if_false, ite_true, ite_false, Int.natCast_nonneg, e1, e2, hbits]
  have hbb : ∀ b : Bool, b01 b = b01 true ↔ b = true := by decide
  unfold mayV spendB strAt cntV freeV
  (repeat' split) <;> simp_all [b01] <;> omega
theorem sp_spend {d g : Nat} {h : AH} (hw : WF (h g)) : CallR (d + 2) 73 [vR g 7] h none (fup h g (spendV (h g))) := by
  have hb := hw.bd
  have hc := hw.coins
  have hcl := clsF_bd (strAt (h g) (strongV (h g) 100))
  have hpr := hw.pr.2 (clsF (strAt (h g) (strongV (h g) 100))).toNat (by omega)
  have e1 : wr (h g 7 10 + h g 6 (clsF (strAt (h g) (strongV (h g) 100))).toNat) = h g 7 10 + h g 6 (clsF (strAt (h g) (strongV (h g) 100))).toNat := wr_id (by omega) (by omega)
  rw [cr_73]
  simp only [r73_0, r73_1, r73_3, r73_6, r73_7, r73_8, r73_10, r73_11, r73_14, r73_15, r73_16, r73_17, r73_20, r73_23, r73_24, r73_27, r73_30, r73_31, r73_32, r73_35, CallR_iff (sp_strongest hb), CallR_iff sp_classOf, CallR_iff sp_priceOf, CallR_iff sp_drain, reduceIte, Option.some.injEq, and_assoc, exists_and_left, exists_eq_left, exists_eq_left', true_and, and_true, List.length_cons, List.length_nil, Nat.reduceAdd, Nat.reduceLeDiff, Sum.inl.injEq, az_0, az_1, az_2, az_3, az_4, az_5, az_6, az_8, az_11, az_14, az_15, az_17, az_20, az_21, az_22, az_23, az_24, az_25, az_26, az_28, az_29, az_30, az_31, az_32, az_33, az_34, az_35, az_36, ak_0, ak_1, ak_2, ak_3, ak_4, ak_5, ak_6, ak_8, ak_11, ak_14, ak_15, ak_17, ak_20, ak_21, ak_22, ak_23, ak_24, ak_25, ak_26, ak_28, ak_29, ak_30, ak_31, ak_32, ak_33, ak_34, ak_35, ak_36, ak_37, eq_self, Int.toNat_natCast, Nat.zero_le, bI_0, b01_0, bI_or, b01_or, ne_eq, reduceCtorEq, not_false_eq_true, Nat.reduceEqDiff, if_true, if_false, ite_true, ite_false, Int.natCast_nonneg]
  unfold spendV
  rw [show (if 0 ≤ strongV (h g) 100 ∧ strongV (h g) 100 < 12 then h g 4 (strongV (h g) 100).toNat else 0) = strAt (h g) (strongV (h g) 100) from rfl]
  rw [if_pos hcl, e1]
  simp [up3, fup_same, fup_fup]
theorem lp_put {d g : Nat} {h : AH} {Q : Option AV → AH → Prop} (hb : BD (h g)) : ∀ (k i : Nat), ((i + k : Nat) : Int) = h g 7 8 → (At (CallR d) ac_74 2 [vR g 7, vI i] [] (fup h g (fup (h g) 5 (rowN (fun j => if h g 5 j = 100 then h g 7 9 else h g 5 j) (h g 5) i))) Q ↔ Q none (fup h g (fup (h g) 5 (rowN (fun j => if h g 5 j = 100 then h g 7 9 else h g 5 j) (h g 5) (i + k)))))
  | 0, i, e => by
    have h1 : ¬ (i : Int) < h g 7 8 := by omega
    rw [r74_2]
    simp only [r74_3, r74_4, r74_7, r74_10, r74_11, r74_13, r74_16, r74_17, r74_20, r74_21, r74_22, r74_24, r74_27, r74_28, r74_31, r74_32, r74_33, r74_36, r74_37, r74_40, r74_43, reduceIte, Option.some.injEq, and_assoc, exists_and_left, exists_eq_left, exists_eq_left', true_and, and_true, List.length_cons, List.length_nil, Nat.reduceAdd, Nat.reduceLeDiff, Sum.inl.injEq, az_0, az_1, az_2, az_3, az_4, az_5, az_6, az_8, az_11, az_14, az_15, az_17, az_20, az_21, az_22, az_23, az_24, az_25, az_26, az_28, az_29, az_30, az_31, az_32, az_33, az_34, az_35, az_36, ak_0, ak_1, ak_2, ak_3, ak_4, ak_5, ak_6, ak_8, ak_11, ak_14, ak_15, ak_17, ak_20, ak_21, ak_22, ak_23, ak_24, ak_25, ak_26, ak_28, ak_29, ak_30, ak_31, ak_32, ak_33, ak_34, ak_35, ak_36, ak_37, eq_self, Int.toNat_natCast, Nat.zero_le, bI_0, b01_0, bI_or, b01_or, ne_eq, reduceCtorEq, not_false_eq_true, Nat.reduceEqDiff, if_true, if_false, ite_true, ite_false, Int.natCast_nonneg, fup_same, fup_ne, h1]
    exact Iff.rfl
  | k + 1, i, e => by
    have h4 := hb.2.2.2
    have h1 : (i : Int) < h g 7 8 := by omega
    have h2 : (i : Int) < 12 := by omega
    have ih := lp_put (d := d) (Q := Q) hb k (i + 1) (by omega)
    rw [show i + 1 + k = i + (k + 1) by omega] at ih
    rw [← ih, r74_2]
    simp only [r74_3, r74_4, r74_7, r74_10, r74_11, r74_13, r74_16, r74_17, r74_20, r74_21, r74_22, r74_24, r74_27, r74_28, r74_31, r74_32, r74_33, r74_36, r74_37, r74_40, r74_43, reduceIte, Option.some.injEq, and_assoc, exists_and_left, exists_eq_left, exists_eq_left', true_and, and_true, List.length_cons, List.length_nil, Nat.reduceAdd, Nat.reduceLeDiff, Sum.inl.injEq, az_0, az_1, az_2, az_3, az_4, az_5, az_6, az_8, az_11, az_14, az_15, az_17, az_20, az_21, az_22, az_23, az_24, az_25, az_26, az_28, az_29, az_30, az_31, az_32, az_33, az_34, az_35, az_36, ak_0, ak_1, ak_2, ak_3, ak_4, ak_5, ak_6, ak_8, ak_11, ak_14, ak_15, ak_17, ak_20, ak_21, ak_22, ak_23, ak_24, ak_25, ak_26, ak_28, ak_29, ak_30, ak_31, ak_32, ak_33, ak_34, ak_35, ak_36, ak_37, eq_self, Int.toNat_natCast, Nat.zero_le, bI_0, b01_0, bI_or, b01_or, ne_eq, reduceCtorEq, not_false_eq_true, Nat.reduceEqDiff, if_true, if_false, ite_true, ite_false, Int.natCast_nonneg, fup_same, fup_ne, fup_fup, up3, h1, h2, wr_s (show i < 2147483647 by omega), rowN_at]
    by_cases hq : h g 5 i = 100
    · rw [if_pos hq, ← rowN_s]
      simp only [hq, if_true]
    · rw [if_neg hq, rowN_k _ _ _ (by simp only [hq, if_false])]
theorem sp_put {d g : Nat} {h : AH} (hb : BD (h g)) : CallR (d + 1) 74 [vR g 7] h none (fup h g (putV (h g))) := by
  have h0 := hb.2.2.1
  have L := lp_put (d := d) (g := g) (h := h) (Q := fun v' h2 => v' = none ∧ h2 = fup h g (putV (h g))) hb (nB (h g)) 0 (by unfold nB; omega)
  rw [rowN_0, fup_id, fup_id] at L
  rw [cr_74]
  simp only [r74_0, r74_1]
  exact L.mpr ⟨rfl, by rw [Nat.zero_add]; rfl⟩
