/-! PURE: the reference's keeping, and what an hour leaves alone -/
def keepF (V : VS) (j : Nat) : Int := if j < 8 then V 0 j else if j < 16 then V 1 (j - 8) else if j < 24 then V 2 (j - 16) else if j < 36 then V 4 (j - 24) else if j < 48 then V 5 (j - 36) else if j < 51 then V 6 (j - 47) else V 7 (j - 44)
theorem keepF_0 (V : VS) {i : Nat} (h : i < 8) : keepF V i = V 0 i := by unfold keepF; rw [if_pos h]
theorem keepF_1 (V : VS) {i : Nat} (h : i < 8) : keepF V (8 + i) = V 1 i := by unfold keepF; rw [if_neg (by omega), if_pos (by omega), show 8 + i - 8 = i by omega]
theorem keepF_2 (V : VS) {i : Nat} (h : i < 8) : keepF V (16 + i) = V 2 i := by unfold keepF; rw [if_neg (by omega), if_neg (by omega), if_pos (by omega), show 16 + i - 16 = i by omega]
theorem keepF_4 (V : VS) {i : Nat} (h : i < 12) : keepF V (24 + i) = V 4 i := by unfold keepF; rw [if_neg (by omega), if_neg (by omega), if_neg (by omega), if_pos (by omega), show 24 + i - 24 = i by omega]
theorem keepF_5 (V : VS) {i : Nat} (h : i < 12) : keepF V (36 + i) = V 5 i := by unfold keepF; rw [if_neg (by omega), if_neg (by omega), if_neg (by omega), if_neg (by omega), if_pos (by omega), show 36 + i - 36 = i by omega]
theorem keepF_6 (V : VS) {i : Nat} (h1 : 1 ≤ i) (h : i < 4) : keepF V (47 + i) = V 6 i := by unfold keepF; rw [if_neg (by omega), if_neg (by omega), if_neg (by omega), if_neg (by omega), if_neg (by omega), if_pos (by omega), show 47 + i - 47 = i by omega]
theorem keepF_7 (V : VS) {j : Nat} (h : 51 ≤ j) : keepF V j = V 7 (j - 44) := by unfold keepF; rw [if_neg (by omega), if_neg (by omega), if_neg (by omega), if_neg (by omega), if_neg (by omega), if_neg (by omega)]
def kA (V : VS) (r : Nat → Int) (i : Nat) : Nat → Int := fun j => if j < 24 ∧ j % 8 < i then keepF V j else r j
def kB (V : VS) (r : Nat → Int) (i : Nat) : Nat → Int := fun j => if j < 24 ∨ (j < 48 ∧ j % 12 < i) then keepF V j else r j
theorem fup_at {α : Type} (f : Nat → α) (k j : Nat) (v : α) : fup f k v j = if j = k then v else f j := rfl
theorem kA_s (V : VS) (r : Nat → Int) {i : Nat} (h : i < 8) : fup (fup (fup (kA V r i) i (V 0 i)) (8 + i) (V 1 i)) (16 + i) (V 2 i) = kA V r (i + 1) := by
  rw [← keepF_0 V h, ← keepF_1 V h, ← keepF_2 V h]
  funext j
  simp only [fup_at, kA]
  by_cases a : j = 16 + i
  · subst a; rw [if_pos rfl, if_pos (by omega)]
  · by_cases b : j = 8 + i
    · subst b; rw [if_neg a, if_pos rfl, if_pos (by omega)]
    · by_cases c : j = i
      · subst c; rw [if_neg a, if_neg b, if_pos rfl, if_pos (by omega)]
      · rw [if_neg a, if_neg b, if_neg c]
        by_cases e : j < 24 ∧ j % 8 < i
        · rw [if_pos e, if_pos (by omega)]
        · rw [if_neg e, if_neg (by omega)]
theorem kB_s (V : VS) (r : Nat → Int) {i : Nat} (h : i < 12) : fup (fup (kB V r i) (24 + i) (V 4 i)) (36 + i) (V 5 i) = kB V r (i + 1) := by
  rw [← keepF_4 V h, ← keepF_5 V h]
  funext j
  simp only [fup_at, kB]
  by_cases a : j = 36 + i
  · subst a; rw [if_pos rfl, if_pos (by omega)]
  · by_cases b : j = 24 + i
    · subst b; rw [if_neg a, if_pos rfl, if_pos (by omega)]
    · rw [if_neg a, if_neg b]
      by_cases e : j < 24 ∨ (j < 48 ∧ j % 12 < i)
      · rw [if_pos e, if_pos (by omega)]
      · rw [if_neg e, if_neg (by omega)]
theorem kA_0 (V : VS) (r : Nat → Int) : kA V r 0 = r := by funext j; unfold kA; rw [if_neg (by omega)]
theorem kA_B (V : VS) (r : Nat → Int) : kA V r 8 = kB V r 0 := by
  funext j; unfold kA kB
  by_cases e : j < 24
  · rw [if_pos (by omega), if_pos (by omega)]
  · rw [if_neg (by omega), if_neg (by omega)]
theorem kB_C (V : VS) (r : Nat → Int) : kB V r 12 = rowN (keepF V) r (47 + 1) := by
  funext j; unfold kB rowN
  by_cases e : j < 48
  · rw [if_pos (by omega), if_pos (by omega)]
  · rw [if_neg (by omega), if_neg (by omega)]
theorem kC_s (V : VS) (r : Nat → Int) {i : Nat} (h1 : 1 ≤ i) (h : i < 4) : fup (rowN (keepF V) r (47 + i)) (47 + i) (V 6 i) = rowN (keepF V) r (47 + (i + 1)) := by rw [← keepF_6 V h1 h, rowN_s]; rfl
theorem wr_c {c : Int} {k i : Nat} (h : c = (k : Int)) (h1 : k < 1000) (h2 : i < 1000) : wr (c + (i : Int)) = ((k + i : Nat) : Int) := by
  subst h; rw [wr_id (by omega) (by omega)]; exact (Int.natCast_add k i).symm
theorem kD_s (V : VS) (r : Nat → Int) : fup (fup (fup (fup (fup (fup (fup (fup (fup (fup (rowN (keepF V) r (47 + 4)) 51 (V 7 7)) 52 (V 7 8)) 53 (V 7 9)) 54 (V 7 10)) 55 (V 7 11)) 56 (V 7 12)) 57 (V 7 13)) 58 (V 7 14)) 59 (V 7 15)) 60 (V 7 16) = rowN (keepF V) r 61 := by
  rw [show rowN (keepF V) r 61 = fup (fup (fup (fup (fup (fup (fup (fup (fup (fup (rowN (keepF V) r 51) 51 (keepF V 51)) 52 (keepF V 52)) 53 (keepF V 53)) 54 (keepF V 54)) 55 (keepF V 55)) 56 (keepF V 56)) 57 (keepF V 57)) 58 (keepF V 58)) 59 (keepF V 59)) 60 (keepF V 60) by simp only [rowN_s]]
  rfl
theorem sV_k (R V : VS) (k : Nat) : setRV R V (k + 20) = V k := by
  unfold setRV
  rw [if_pos (by omega), Nat.add_sub_cancel]
theorem sm_keep_ {d k : Nat} {h : AH} (hk : 8 ≤ k) (hk2 : k < 17) (ha : akind (k + 20) = 0) (hl : ((alenN (k + 20) : Nat) : Int) = 61) : CallR (d + 1) 231 [vR 17 27, vR 17 (k + 20)] h none (fup h 17 (setRV (h 17) (fup (RV (h 17)) k (rowN (keepF (RV (h 17))) (RV (h 17) k) 61)))) := by
  have hm : ¬ k + 20 = 37 := by omega
  have n0 : (20 : Nat) ≠ k + 20 := by omega
  have n1 : (21 : Nat) ≠ k + 20 := by omega
  have n2 : (22 : Nat) ≠ k + 20 := by omega
  have n4 : (24 : Nat) ≠ k + 20 := by omega
  have n5 : (25 : Nat) ≠ k + 20 := by omega
  have n6 : (26 : Nat) ≠ k + 20 := by omega
  have n7 : (27 : Nat) ≠ k + 20 := by omega
  let G : Prop := True
  have key : ∀ Q : Option AV → AH → Prop, Q none (fup h 17 (setRV (h 17) (fup (RV (h 17)) k (rowN (keepF (RV (h 17))) (RV (h 17) k) 61)))) → At (CallR d) ac_231 0 [vR 17 27, vR 17 (k + 20), vU] [] h Q := by
    intro Q hQ
    have LA := lo_up (P := fun i => At (CallR d) ac_231 2 [vR 17 27, vR 17 (k + 20), vI (i : Int)] [] (fup h 17 (fup (h 17) (k + 20) (kA (RV (h 17)) (h 17 (k + 20)) i))) Q) 8 (fun i hi => by
      have h1 : (i : Int) < 8 := by omega
      have e := kA_s (RV (h 17)) (h 17 (k + 20)) hi
      simp only [RV_0, RV_1, RV_2] at e
      have b8 : ((8 + i : Nat) : Int) < 61 := by omega
      have b16 : ((16 + i : Nat) : Int) < 61 := by omega
      have b0 : (i : Int) < 61 := by omega
      rw [r231_2]
      simp only [r231_3, r231_5, r231_8, r231_8n, r231_8s, r231_9, r231_10, r231_11, r231_14, r231_15, r231_16, r231_17, r231_17n, r231_17s, r231_18, r231_20, r231_21, r231_22, r231_23, r231_26, r231_27, r231_28, r231_29, r231_29n, r231_29s, r231_30, r231_32, r231_33, r231_34, r231_35, r231_38, r231_39, r231_40, r231_41, r231_44, reduceIte, Option.some.injEq, and_assoc, exists_and_left, exists_eq_left, exists_eq_left', true_and, and_true, List.length_cons, List.length_nil, Nat.reduceAdd, Nat.reduceLeDiff, Sum.inl.injEq, az_0, az_1, az_2, az_3, az_4, az_5, az_6, az_8, az_11, az_14, az_15, az_17, az_20, az_21, az_22, az_23, az_24, az_25, az_26, az_28, az_29, az_30, az_31, az_32, az_33, az_34, az_35, az_36, ak_0, ak_1, ak_2, ak_3, ak_4, ak_5, ak_6, ak_8, ak_11, ak_14, ak_15, ak_17, ak_20, ak_21, ak_22, ak_23, ak_24, ak_25, ak_26, ak_28, ak_29, ak_30, ak_31, ak_32, ak_33, ak_34, ak_35, ak_36, ak_37, eq_self, Int.toNat_natCast, Nat.zero_le, bI_0, b01_0, bI_or, b01_or, ne_eq, reduceCtorEq, not_false_eq_true, Nat.reduceEqDiff, if_true, if_false, ite_true, ite_false, Int.natCast_nonneg, up3, fup_same, fup_fup, fup_ne, n0, n1, n2, n7, h1, ha, hl, hm, wr_c (show (8 : Int) = ((8 : Nat) : Int) from rfl) (by omega) (show i < 1000 by omega), wr_c (show (16 : Int) = ((16 : Nat) : Int) from rfl) (by omega) (show i < 1000 by omega), b8, b16, b0, wr_s (show i < 2147483647 by omega), e])
    have LB := lo_up (P := fun i => At (CallR d) ac_231 49 [vR 17 27, vR 17 (k + 20), vI (i : Int)] [] (fup h 17 (fup (h 17) (k + 20) (kB (RV (h 17)) (h 17 (k + 20)) i))) Q) 12 (fun i hi => by
      have h1 : (i : Int) < 12 := by omega
      have e := kB_s (RV (h 17)) (h 17 (k + 20)) hi
      simp only [RV_4, RV_5] at e
      have b8 : ((24 + i : Nat) : Int) < 61 := by omega
      have b16 : ((36 + i : Nat) : Int) < 61 := by omega
      rw [r231_49]
      simp only [r231_50, r231_52, r231_55, r231_55n, r231_55s, r231_56, r231_58, r231_59, r231_60, r231_61, r231_64, r231_65, r231_66, r231_67, r231_67n, r231_67s, r231_68, r231_70, r231_71, r231_72, r231_73, r231_76, r231_77, r231_78, r231_79, r231_82, reduceIte, Option.some.injEq, and_assoc, exists_and_left, exists_eq_left, exists_eq_left', true_and, and_true, List.length_cons, List.length_nil, Nat.reduceAdd, Nat.reduceLeDiff, Sum.inl.injEq, az_0, az_1, az_2, az_3, az_4, az_5, az_6, az_8, az_11, az_14, az_15, az_17, az_20, az_21, az_22, az_23, az_24, az_25, az_26, az_28, az_29, az_30, az_31, az_32, az_33, az_34, az_35, az_36, ak_0, ak_1, ak_2, ak_3, ak_4, ak_5, ak_6, ak_8, ak_11, ak_14, ak_15, ak_17, ak_20, ak_21, ak_22, ak_23, ak_24, ak_25, ak_26, ak_28, ak_29, ak_30, ak_31, ak_32, ak_33, ak_34, ak_35, ak_36, ak_37, eq_self, Int.toNat_natCast, Nat.zero_le, bI_0, b01_0, bI_or, b01_or, ne_eq, reduceCtorEq, not_false_eq_true, Nat.reduceEqDiff, if_true, if_false, ite_true, ite_false, Int.natCast_nonneg, up3, fup_same, fup_fup, fup_ne, n4, n5, n7, h1, ha, hl, hm, wr_c (show (24 : Int) = ((24 : Nat) : Int) from rfl) (by omega) (show i < 1000 by omega), wr_c (show (36 : Int) = ((36 : Nat) : Int) from rfl) (by omega) (show i < 1000 by omega), b8, b16, wr_s (show i < 2147483647 by omega), e])
    have LC := lo_up (P := fun i => At (CallR d) ac_231 87 [vR 17 27, vR 17 (k + 20), vI ((i + 1 : Nat) : Int)] [] (fup h 17 (fup (h 17) (k + 20) (rowN (keepF (RV (h 17))) (h 17 (k + 20)) (47 + (i + 1))))) Q) 3 (fun i hi => by
      have h1 : ((i + 1 : Nat) : Int) < 4 := by omega
      have e := kC_s (RV (h 17)) (h 17 (k + 20)) (show 1 ≤ i + 1 by omega) (show i + 1 < 4 by omega)
      simp only [RV_6] at e
      have b8 : ((47 + (i + 1) : Nat) : Int) < 61 := by omega
      rw [r231_87]
      simp only [r231_88, r231_89, r231_92, r231_92n, r231_92s, r231_93, r231_95, r231_96, r231_97, r231_98, r231_101, r231_102, r231_103, r231_104, r231_107, reduceIte, Option.some.injEq, and_assoc, exists_and_left, exists_eq_left, exists_eq_left', true_and, and_true, List.length_cons, List.length_nil, Nat.reduceAdd, Nat.reduceLeDiff, Sum.inl.injEq, az_0, az_1, az_2, az_3, az_4, az_5, az_6, az_8, az_11, az_14, az_15, az_17, az_20, az_21, az_22, az_23, az_24, az_25, az_26, az_28, az_29, az_30, az_31, az_32, az_33, az_34, az_35, az_36, ak_0, ak_1, ak_2, ak_3, ak_4, ak_5, ak_6, ak_8, ak_11, ak_14, ak_15, ak_17, ak_20, ak_21, ak_22, ak_23, ak_24, ak_25, ak_26, ak_28, ak_29, ak_30, ak_31, ak_32, ak_33, ak_34, ak_35, ak_36, ak_37, eq_self, Int.toNat_natCast, Nat.zero_le, bI_0, b01_0, bI_or, b01_or, ne_eq, reduceCtorEq, not_false_eq_true, Nat.reduceEqDiff, if_true, if_false, ite_true, ite_false, Int.natCast_nonneg, up3, fup_same, fup_fup, fup_ne, n6, n7, h1, ha, hl, hm, wr_c (show (47 : Int) = ((47 : Nat) : Int) from rfl) (by omega) (show i + 1 < 1000 by omega), b8, wr_s (show i + 1 < 2147483647 by omega), e])
    have e := kD_s (RV (h 17)) (h 17 (k + 20))
    simp only [RV_7, Nat.reduceAdd] at e
    simp only [r231_0, r231_1]
    rw [kA_0, fup_id, fup_id] at LA
    refine LA.mpr ?_
    rw [r231_2]
    simp only [r231_3, r231_5, r231_8, r231_8n, r231_8s, r231_9, r231_10, r231_11, r231_14, r231_15, r231_16, r231_17, r231_17n, r231_17s, r231_18, r231_20, r231_21, r231_22, r231_23, r231_26, r231_27, r231_28, r231_29, r231_29n, r231_29s, r231_30, r231_32, r231_33, r231_34, r231_35, r231_38, r231_39, r231_40, r231_41, r231_44, r231_47, r231_48, reduceIte, Option.some.injEq, and_assoc, exists_and_left, exists_eq_left, exists_eq_left', true_and, and_true, List.length_cons, List.length_nil, Nat.reduceAdd, Nat.reduceLeDiff, Sum.inl.injEq, az_0, az_1, az_2, az_3, az_4, az_5, az_6, az_8, az_11, az_14, az_15, az_17, az_20, az_21, az_22, az_23, az_24, az_25, az_26, az_28, az_29, az_30, az_31, az_32, az_33, az_34, az_35, az_36, ak_0, ak_1, ak_2, ak_3, ak_4, ak_5, ak_6, ak_8, ak_11, ak_14, ak_15, ak_17, ak_20, ak_21, ak_22, ak_23, ak_24, ak_25, ak_26, ak_28, ak_29, ak_30, ak_31, ak_32, ak_33, ak_34, ak_35, ak_36, ak_37, eq_self, Int.toNat_natCast, Nat.zero_le, bI_0, b01_0, bI_or, b01_or, ne_eq, reduceCtorEq, not_false_eq_true, Nat.reduceEqDiff, if_true, if_false, ite_true, ite_false, Int.natCast_nonneg, show ¬ ((8 : Nat) : Int) < 8 by decide]
    rw [← kA_B] at LB
    refine LB.mpr ?_
    rw [r231_49]
    simp only [r231_50, r231_52, r231_55, r231_55n, r231_55s, r231_56, r231_58, r231_59, r231_60, r231_61, r231_64, r231_65, r231_66, r231_67, r231_67n, r231_67s, r231_68, r231_70, r231_71, r231_72, r231_73, r231_76, r231_77, r231_78, r231_79, r231_82, r231_85, r231_86, reduceIte, Option.some.injEq, and_assoc, exists_and_left, exists_eq_left, exists_eq_left', true_and, and_true, List.length_cons, List.length_nil, Nat.reduceAdd, Nat.reduceLeDiff, Sum.inl.injEq, az_0, az_1, az_2, az_3, az_4, az_5, az_6, az_8, az_11, az_14, az_15, az_17, az_20, az_21, az_22, az_23, az_24, az_25, az_26, az_28, az_29, az_30, az_31, az_32, az_33, az_34, az_35, az_36, ak_0, ak_1, ak_2, ak_3, ak_4, ak_5, ak_6, ak_8, ak_11, ak_14, ak_15, ak_17, ak_20, ak_21, ak_22, ak_23, ak_24, ak_25, ak_26, ak_28, ak_29, ak_30, ak_31, ak_32, ak_33, ak_34, ak_35, ak_36, ak_37, eq_self, Int.toNat_natCast, Nat.zero_le, bI_0, b01_0, bI_or, b01_or, ne_eq, reduceCtorEq, not_false_eq_true, Nat.reduceEqDiff, if_true, if_false, ite_true, ite_false, Int.natCast_nonneg, show ¬ ((12 : Nat) : Int) < 12 by decide]
    rw [← kB_C] at LC
    refine LC.mpr ?_
    rw [r231_87]
    simp only [r231_88, r231_89, r231_92, r231_92n, r231_92s, r231_93, r231_95, r231_96, r231_97, r231_98, r231_101, r231_102, r231_103, r231_104, r231_107, r231_110, r231_110n, r231_110s, r231_111, r231_113, r231_114, r231_117, r231_118, r231_118n, r231_118s, r231_119, r231_121, r231_122, r231_125, r231_126, r231_126n, r231_126s, r231_127, r231_129, r231_130, r231_133, r231_134, r231_134n, r231_134s, r231_135, r231_137, r231_138, r231_141, r231_142, r231_142n, r231_142s, r231_143, r231_145, r231_146, r231_149, r231_150, r231_150n, r231_150s, r231_151, r231_153, r231_154, r231_157, r231_158, r231_158n, r231_158s, r231_159, r231_161, r231_162, r231_165, r231_166, r231_166n, r231_166s, r231_167, r231_169, r231_170, r231_173, r231_174, r231_174n, r231_174s, r231_175, r231_177, r231_178, r231_181, r231_182, r231_182n, r231_182s, r231_183, r231_185, r231_186, r231_189, r231_190, reduceIte, Option.some.injEq, and_assoc, exists_and_left, exists_eq_left, exists_eq_left', true_and, and_true, List.length_cons, List.length_nil, Nat.reduceAdd, Nat.reduceLeDiff, Sum.inl.injEq, az_0, az_1, az_2, az_3, az_4, az_5, az_6, az_8, az_11, az_14, az_15, az_17, az_20, az_21, az_22, az_23, az_24, az_25, az_26, az_28, az_29, az_30, az_31, az_32, az_33, az_34, az_35, az_36, ak_0, ak_1, ak_2, ak_3, ak_4, ak_5, ak_6, ak_8, ak_11, ak_14, ak_15, ak_17, ak_20, ak_21, ak_22, ak_23, ak_24, ak_25, ak_26, ak_28, ak_29, ak_30, ak_31, ak_32, ak_33, ak_34, ak_35, ak_36, ak_37, eq_self, Int.toNat_natCast, Nat.zero_le, bI_0, b01_0, bI_or, b01_or, ne_eq, reduceCtorEq, not_false_eq_true, Nat.reduceEqDiff, if_true, if_false, ite_true, ite_false, Int.natCast_nonneg, show ¬ ((3 + 1 : Nat) : Int) < 4 by decide, up3, fup_same, fup_fup, fup_ne, n7, ha, hl, hm, Int.reduceLE, Int.reduceLT, Int.reduceToNat]
    rw [← fup_R, show RV (h 17) k = h 17 (k + 20) from rfl, ← e] at hQ
    exact hQ
  rw [cr_231]
  exact key _ ⟨rfl, rfl⟩
def agA (V : VS) (A : Nat → Int) (i : Nat) : VS := fup (fup (fup V 0 (rowN A (V 0) i)) 1 (rowN (fun p => A (8 + p)) (V 1) i)) 2 (rowN (fun p => A (16 + p)) (V 2) i)
def agB (V : VS) (A : Nat → Int) (i : Nat) : VS := fup (fup V 4 (rowN (fun p => A (24 + p)) (V 4) i)) 5 (rowN (fun p => A (36 + p)) (V 5) i)
def agC (V : VS) (A : Nat → Int) (i : Nat) : VS := fup V 6 (fun c => if 1 ≤ c ∧ c < i then A (47 + c) else V 6 c)
def agD (V : VS) (A : Nat → Int) : VS := fup V 7 (fup (fup (fup (fup (fup (fup (fup (fup (fup (fup (V 7) 7 (A 51)) 8 (A 52)) 9 (A 53)) 10 (A 54)) 11 (A 55)) 12 (A 56)) 13 (A 57)) 14 (A 58)) 15 (A 59)) 16 (A 60))
def agV (V : VS) (A : Nat → Int) : VS := agD (agC (agB (agA V A 8) A 12) A 4) A
theorem agA_s (V : VS) (A : Nat → Int) (i : Nat) : fup (fup (fup (agA V A i) 0 (fup (agA V A i 0) i (A i))) 1 (fup (agA V A i 1) i (A (8 + i)))) 2 (fup (agA V A i 2) i (A (16 + i))) = agA V A (i + 1) := by
  have e0 : agA V A i 0 = rowN A (V 0) i := rfl
  have e1 : agA V A i 1 = rowN (fun p => A (8 + p)) (V 1) i := rfl
  have e2 : agA V A i 2 = rowN (fun p => A (16 + p)) (V 2) i := rfl
  rw [e0, e1, e2, rowN_s A, rowN_s (fun p => A (8 + p)), rowN_s (fun p => A (16 + p))]
  funext m
  simp only [agA, fup_at]
  repeat' split
  all_goals first | rfl | omega
theorem agB_s (V : VS) (A : Nat → Int) (i : Nat) : fup (fup (agB V A i) 4 (fup (agB V A i 4) i (A (24 + i)))) 5 (fup (agB V A i 5) i (A (36 + i))) = agB V A (i + 1) := by
  have e1 : agB V A i 4 = rowN (fun p => A (24 + p)) (V 4) i := rfl
  have e2 : agB V A i 5 = rowN (fun p => A (36 + p)) (V 5) i := rfl
  rw [e1, e2, rowN_s (fun p => A (24 + p)), rowN_s (fun p => A (36 + p))]
  funext m
  simp only [agB, fup_at]
  repeat' split
  all_goals first | rfl | omega
theorem agC_s (V : VS) (A : Nat → Int) {i : Nat} (h : 1 ≤ i) : fup (agC V A i) 6 (fup (agC V A i 6) i (A (47 + i))) = agC V A (i + 1) := by
  have e1 : agC V A i 6 = fun c => if 1 ≤ c ∧ c < i then A (47 + c) else V 6 c := rfl
  rw [e1]
  unfold agC
  rw [fup_fup]
  congr 1
  funext c
  simp only [fup_at]
  by_cases a : c = i
  · subst a; rw [if_pos rfl, if_pos (by omega)]
  · rw [if_neg a]
    by_cases b : 1 ≤ c ∧ c < i
    · rw [if_pos b, if_pos (by omega)]
    · rw [if_neg b, if_neg (by omega)]
theorem agA_0 (V : VS) (A : Nat → Int) : agA V A 0 = V := by
  funext m
  simp only [agA, fup_at, rowN_0]
  repeat' split
  all_goals simp_all
theorem agB_0 (V : VS) (A : Nat → Int) : agB V A 0 = V := by
  funext m
  simp only [agB, fup_at, rowN_0]
  repeat' split
  all_goals simp_all
theorem agC_0 (V : VS) (A : Nat → Int) : agC V A 1 = V := by
  funext m
  simp only [agC, fup_at]
  split
  · next h => subst h; funext c; rw [if_neg (by omega)]
  · rfl
theorem agA_k (V : VS) (A : Nat → Int) (i : Nat) {k : Nat} (h : 3 ≤ k) : agA V A i k = V k := by
  simp only [agA, fup_at]; rw [if_neg (by omega), if_neg (by omega), if_neg (by omega)]
theorem agB_k (V : VS) (A : Nat → Int) (i : Nat) {k : Nat} (h : 6 ≤ k) : agB V A i k = V k := by
  simp only [agB, fup_at]; rw [if_neg (by omega), if_neg (by omega)]
theorem agC_k (V : VS) (A : Nat → Int) (i : Nat) {k : Nat} (h : 7 ≤ k) : agC V A i k = V k := by
  simp only [agC, fup_at]; rw [if_neg (by omega)]
theorem agD_k (V : VS) (A : Nat → Int) {k : Nat} (h : 8 ≤ k) : agD V A k = V k := by
  simp only [agD, fup_at]; rw [if_neg (by omega)]
theorem agV_k (V : VS) (A : Nat → Int) {k : Nat} (h : 8 ≤ k) : agV V A k = V k := by
  unfold agV; rw [agD_k _ _ h, agC_k _ _ _ (by omega), agB_k _ _ _ (by omega), agA_k _ _ _ (by omega)]
theorem agV_7 (V : VS) (A : Nat → Int) {k : Nat} (h : 17 ≤ k) : agV V A 7 k = V 7 k := by
  unfold agV
  have e : agC (agB (agA V A 8) A 12) A 4 7 = V 7 := by rw [agC_k _ _ _ (by omega), agB_k _ _ _ (by omega), agA_k _ _ _ (by omega)]
  simp only [agD, fup_same, e]
  repeat rw [fup_ne _ _ (by omega)]
theorem sm_again {d k : Nat} {h : AH} (hk : 8 ≤ k) (hk2 : k < 17) (ha : akind (k + 20) = 0) (hl : ((alenN (k + 20) : Nat) : Int) = 61) : CallR (d + 1) 232 [vR 17 27, vR 17 (k + 20)] h none (fup h 17 (setRV (h 17) (agV (RV (h 17)) (RV (h 17) k)))) := by
  have hm : ¬ k + 20 = 37 := by omega
  have key : ∀ Q : Option AV → AH → Prop, Q none (fup h 17 (setRV (h 17) (agV (RV (h 17)) (RV (h 17) k)))) → At (CallR d) ac_232 0 [vR 17 27, vR 17 (k + 20), vU] [] h Q := by
    intro Q hQ
    generalize hV : RV (h 17) = V at hQ
    generalize hA : V k = A at hQ
    have hR : h 17 = setRV (h 17) V := by rw [← hV, set_RV]
    have LA := lo_up (P := fun i => At (CallR d) ac_232 2 [vR 17 27, vR 17 (k + 20), vI (i : Int)] [] (fup h 17 (setRV (h 17) (agA V A i))) Q) 8 (fun i hi => by
      have h1 : (i : Int) < 8 := by omega
      have e := agA_s V A i
      have eA : agA V A i k = A := by rw [agA_k _ _ _ (by omega), hA]
      have eA0 : fup (agA V A i) 0 (fup (agA V A i 0) i (A i)) k = A := by rw [fup_ne _ _ (by omega), eA]
      have eA1 : fup (fup (agA V A i) 0 (fup (agA V A i 0) i (A i))) 1 (fup (agA V A i 1) i (A (8 + i))) k = A := by rw [fup_ne _ _ (by omega), eA0]
      have b8 : ((8 + i : Nat) : Int) < 61 := by omega
      have b16 : ((16 + i : Nat) : Int) < 61 := by omega
      have b0 : (i : Int) < 61 := by omega
      rw [r232_2]
      simp only [r232_3, r232_5, r232_8, r232_9, r232_12, r232_13, r232_13n, r232_13s, r232_14, r232_15, r232_16, r232_17, r232_18, r232_21, r232_22, r232_22n, r232_22s, r232_23, r232_25, r232_26, r232_27, r232_28, r232_29, r232_30, r232_33, r232_34, r232_34n, r232_34s, r232_35, r232_37, r232_38, r232_39, r232_40, r232_41, r232_44, reduceIte, Option.some.injEq, and_assoc, exists_and_left, exists_eq_left, exists_eq_left', true_and, and_true, List.length_cons, List.length_nil, Nat.reduceAdd, Nat.reduceLeDiff, Sum.inl.injEq, az_0, az_1, az_2, az_3, az_4, az_5, az_6, az_8, az_11, az_14, az_15, az_17, az_20, az_21, az_22, az_23, az_24, az_25, az_26, az_28, az_29, az_30, az_31, az_32, az_33, az_34, az_35, az_36, ak_0, ak_1, ak_2, ak_3, ak_4, ak_5, ak_6, ak_8, ak_11, ak_14, ak_15, ak_17, ak_20, ak_21, ak_22, ak_23, ak_24, ak_25, ak_26, ak_28, ak_29, ak_30, ak_31, ak_32, ak_33, ak_34, ak_35, ak_36, ak_37, eq_self, Int.toNat_natCast, Nat.zero_le, bI_0, b01_0, bI_or, b01_or, ne_eq, reduceCtorEq, not_false_eq_true, Nat.reduceEqDiff, if_true, if_false, ite_true, ite_false, Int.natCast_nonneg, up3, fup_same, fup_fup, fup_ne, sV_0, sV_1, sV_2, sV_7, sV_k, fS_0, fS_1, fS_2, h1, ha, hl, hm, wr_c (show (8 : Int) = ((8 : Nat) : Int) from rfl) (by omega) (show i < 1000 by omega), wr_c (show (16 : Int) = ((16 : Nat) : Int) from rfl) (by omega) (show i < 1000 by omega), b8, b16, b0, wr_s (show i < 2147483647 by omega), eA, eA0, eA1, e])
    have LB := lo_up (P := fun i => At (CallR d) ac_232 49 [vR 17 27, vR 17 (k + 20), vI (i : Int)] [] (fup h 17 (setRV (h 17) (agB (agA V A 8) A i))) Q) 12 (fun i hi => by
      have h1 : (i : Int) < 12 := by omega
      have e := agB_s (agA V A 8) A i
      have eA : agB (agA V A 8) A i k = A := by rw [agB_k _ _ _ (by omega), agA_k _ _ _ (by omega), hA]
      have eA0 : fup (agB (agA V A 8) A i) 4 (fup (agB (agA V A 8) A i 4) i (A (24 + i))) k = A := by rw [fup_ne _ _ (by omega), eA]
      have b8 : ((24 + i : Nat) : Int) < 61 := by omega
      have b16 : ((36 + i : Nat) : Int) < 61 := by omega
      rw [r232_49]
      simp only [r232_50, r232_52, r232_55, r232_56, r232_59, r232_60, r232_60n, r232_60s, r232_61, r232_63, r232_64, r232_65, r232_66, r232_67, r232_68, r232_71, r232_72, r232_72n, r232_72s, r232_73, r232_75, r232_76, r232_77, r232_78, r232_79, r232_82, reduceIte, Option.some.injEq, and_assoc, exists_and_left, exists_eq_left, exists_eq_left', true_and, and_true, List.length_cons, List.length_nil, Nat.reduceAdd, Nat.reduceLeDiff, Sum.inl.injEq, az_0, az_1, az_2, az_3, az_4, az_5, az_6, az_8, az_11, az_14, az_15, az_17, az_20, az_21, az_22, az_23, az_24, az_25, az_26, az_28, az_29, az_30, az_31, az_32, az_33, az_34, az_35, az_36, ak_0, ak_1, ak_2, ak_3, ak_4, ak_5, ak_6, ak_8, ak_11, ak_14, ak_15, ak_17, ak_20, ak_21, ak_22, ak_23, ak_24, ak_25, ak_26, ak_28, ak_29, ak_30, ak_31, ak_32, ak_33, ak_34, ak_35, ak_36, ak_37, eq_self, Int.toNat_natCast, Nat.zero_le, bI_0, b01_0, bI_or, b01_or, ne_eq, reduceCtorEq, not_false_eq_true, Nat.reduceEqDiff, if_true, if_false, ite_true, ite_false, Int.natCast_nonneg, up3, fup_same, fup_fup, fup_ne, sV_4, sV_5, sV_7, sV_k, fS_4, fS_5, h1, ha, hl, hm, wr_c (show (24 : Int) = ((24 : Nat) : Int) from rfl) (by omega) (show i < 1000 by omega), wr_c (show (36 : Int) = ((36 : Nat) : Int) from rfl) (by omega) (show i < 1000 by omega), b8, b16, wr_s (show i < 2147483647 by omega), eA, eA0, e])
    have LC := lo_up (P := fun i => At (CallR d) ac_232 87 [vR 17 27, vR 17 (k + 20), vI ((i + 1 : Nat) : Int)] [] (fup h 17 (setRV (h 17) (agC (agB (agA V A 8) A 12) A (i + 1)))) Q) 3 (fun i hi => by
      have h1 : ((i + 1 : Nat) : Int) < 4 := by omega
      have e := agC_s (agB (agA V A 8) A 12) A (show 1 ≤ i + 1 by omega)
      have eA : agC (agB (agA V A 8) A 12) A (i + 1) k = A := by rw [agC_k _ _ _ (by omega), agB_k _ _ _ (by omega), agA_k _ _ _ (by omega), hA]
      have b8 : ((47 + (i + 1) : Nat) : Int) < 61 := by omega
      rw [r232_87]
      simp only [r232_88, r232_89, r232_92, r232_93, r232_96, r232_97, r232_97n, r232_97s, r232_98, r232_100, r232_101, r232_102, r232_103, r232_104, r232_107, reduceIte, Option.some.injEq, and_assoc, exists_and_left, exists_eq_left, exists_eq_left', true_and, and_true, List.length_cons, List.length_nil, Nat.reduceAdd, Nat.reduceLeDiff, Sum.inl.injEq, az_0, az_1, az_2, az_3, az_4, az_5, az_6, az_8, az_11, az_14, az_15, az_17, az_20, az_21, az_22, az_23, az_24, az_25, az_26, az_28, az_29, az_30, az_31, az_32, az_33, az_34, az_35, az_36, ak_0, ak_1, ak_2, ak_3, ak_4, ak_5, ak_6, ak_8, ak_11, ak_14, ak_15, ak_17, ak_20, ak_21, ak_22, ak_23, ak_24, ak_25, ak_26, ak_28, ak_29, ak_30, ak_31, ak_32, ak_33, ak_34, ak_35, ak_36, ak_37, eq_self, Int.toNat_natCast, Nat.zero_le, bI_0, b01_0, bI_or, b01_or, ne_eq, reduceCtorEq, not_false_eq_true, Nat.reduceEqDiff, if_true, if_false, ite_true, ite_false, Int.natCast_nonneg, up3, fup_same, fup_fup, fup_ne, sV_6, sV_7, sV_k, fS_6, h1, ha, hl, hm, wr_c (show (47 : Int) = ((47 : Nat) : Int) from rfl) (by omega) (show i + 1 < 1000 by omega), b8, wr_s (show i + 1 < 2147483647 by omega), eA, e])
    simp only [r232_0, r232_1]
    rw [agA_0, ← hR, fup_id] at LA
    refine LA.mpr ?_
    rw [r232_2]
    simp only [r232_3, r232_5, r232_8, r232_9, r232_12, r232_13, r232_13n, r232_13s, r232_14, r232_15, r232_16, r232_17, r232_18, r232_21, r232_22, r232_22n, r232_22s, r232_23, r232_25, r232_26, r232_27, r232_28, r232_29, r232_30, r232_33, r232_34, r232_34n, r232_34s, r232_35, r232_37, r232_38, r232_39, r232_40, r232_41, r232_44, r232_47, r232_48, reduceIte, Option.some.injEq, and_assoc, exists_and_left, exists_eq_left, exists_eq_left', true_and, and_true, List.length_cons, List.length_nil, Nat.reduceAdd, Nat.reduceLeDiff, Sum.inl.injEq, az_0, az_1, az_2, az_3, az_4, az_5, az_6, az_8, az_11, az_14, az_15, az_17, az_20, az_21, az_22, az_23, az_24, az_25, az_26, az_28, az_29, az_30, az_31, az_32, az_33, az_34, az_35, az_36, ak_0, ak_1, ak_2, ak_3, ak_4, ak_5, ak_6, ak_8, ak_11, ak_14, ak_15, ak_17, ak_20, ak_21, ak_22, ak_23, ak_24, ak_25, ak_26, ak_28, ak_29, ak_30, ak_31, ak_32, ak_33, ak_34, ak_35, ak_36, ak_37, eq_self, Int.toNat_natCast, Nat.zero_le, bI_0, b01_0, bI_or, b01_or, ne_eq, reduceCtorEq, not_false_eq_true, Nat.reduceEqDiff, if_true, if_false, ite_true, ite_false, Int.natCast_nonneg, show ¬ ((8 : Nat) : Int) < 8 by decide]
    rw [agB_0] at LB
    refine LB.mpr ?_
    rw [r232_49]
    simp only [r232_50, r232_52, r232_55, r232_56, r232_59, r232_60, r232_60n, r232_60s, r232_61, r232_63, r232_64, r232_65, r232_66, r232_67, r232_68, r232_71, r232_72, r232_72n, r232_72s, r232_73, r232_75, r232_76, r232_77, r232_78, r232_79, r232_82, r232_85, r232_86, reduceIte, Option.some.injEq, and_assoc, exists_and_left, exists_eq_left, exists_eq_left', true_and, and_true, List.length_cons, List.length_nil, Nat.reduceAdd, Nat.reduceLeDiff, Sum.inl.injEq, az_0, az_1, az_2, az_3, az_4, az_5, az_6, az_8, az_11, az_14, az_15, az_17, az_20, az_21, az_22, az_23, az_24, az_25, az_26, az_28, az_29, az_30, az_31, az_32, az_33, az_34, az_35, az_36, ak_0, ak_1, ak_2, ak_3, ak_4, ak_5, ak_6, ak_8, ak_11, ak_14, ak_15, ak_17, ak_20, ak_21, ak_22, ak_23, ak_24, ak_25, ak_26, ak_28, ak_29, ak_30, ak_31, ak_32, ak_33, ak_34, ak_35, ak_36, ak_37, eq_self, Int.toNat_natCast, Nat.zero_le, bI_0, b01_0, bI_or, b01_or, ne_eq, reduceCtorEq, not_false_eq_true, Nat.reduceEqDiff, if_true, if_false, ite_true, ite_false, Int.natCast_nonneg, show ¬ ((12 : Nat) : Int) < 12 by decide]
    rw [agC_0] at LC
    refine LC.mpr ?_
    have eA : agC (agB (agA V A 8) A 12) A 4 k = A := by rw [agC_k _ _ _ (by omega), agB_k _ _ _ (by omega), agA_k _ _ _ (by omega), hA]
    rw [r232_87]
    simp only [r232_88, r232_89, r232_92, r232_93, r232_96, r232_97, r232_97n, r232_97s, r232_98, r232_100, r232_101, r232_102, r232_103, r232_104, r232_107, r232_110, r232_111, r232_111n, r232_111s, r232_112, r232_114, r232_115, r232_118, r232_119, r232_119n, r232_119s, r232_120, r232_122, r232_123, r232_126, r232_127, r232_127n, r232_127s, r232_128, r232_130, r232_131, r232_134, r232_135, r232_135n, r232_135s, r232_136, r232_138, r232_139, r232_142, r232_143, r232_143n, r232_143s, r232_144, r232_146, r232_147, r232_150, r232_151, r232_151n, r232_151s, r232_152, r232_154, r232_155, r232_158, r232_159, r232_159n, r232_159s, r232_160, r232_162, r232_163, r232_166, r232_167, r232_167n, r232_167s, r232_168, r232_170, r232_171, r232_174, r232_175, r232_175n, r232_175s, r232_176, r232_178, r232_179, r232_182, r232_183, r232_183n, r232_183s, r232_184, r232_186, r232_187, r232_190, reduceIte, Option.some.injEq, and_assoc, exists_and_left, exists_eq_left, exists_eq_left', true_and, and_true, List.length_cons, List.length_nil, Nat.reduceAdd, Nat.reduceLeDiff, Sum.inl.injEq, az_0, az_1, az_2, az_3, az_4, az_5, az_6, az_8, az_11, az_14, az_15, az_17, az_20, az_21, az_22, az_23, az_24, az_25, az_26, az_28, az_29, az_30, az_31, az_32, az_33, az_34, az_35, az_36, ak_0, ak_1, ak_2, ak_3, ak_4, ak_5, ak_6, ak_8, ak_11, ak_14, ak_15, ak_17, ak_20, ak_21, ak_22, ak_23, ak_24, ak_25, ak_26, ak_28, ak_29, ak_30, ak_31, ak_32, ak_33, ak_34, ak_35, ak_36, ak_37, eq_self, Int.toNat_natCast, Nat.zero_le, bI_0, b01_0, bI_or, b01_or, ne_eq, reduceCtorEq, not_false_eq_true, Nat.reduceEqDiff, if_true, if_false, ite_true, ite_false, Int.natCast_nonneg, show ¬ ((3 + 1 : Nat) : Int) < 4 by decide, up3, fup_same, fup_fup, fup_ne, sV_7, sV_k, fS_7, ha, hl, hm, eA, show k ≠ 7 by omega, Int.reduceLE, Int.reduceLT, Int.reduceToNat]
    exact hQ
  rw [cr_232]
  exact key _ ⟨rfl, rfl⟩
theorem ag_EV {V V0 : VS} {A : Nat → Int} (hV : WF V) (h0 : WF V0) (hA : ∀ j, j < 61 → A j = keepF V0 j) : EV (agV V A) V0 := by
  have z := hV.2.2.2.2.2.2.2.2.2.2.2
  have z0 := h0.2.2.2.2.2.2.2.2.2.2.2
  refine ⟨?_, ?_, ?_, ?_, ?_, ?_, hA 51 (by omega), hA 52 (by omega), hA 53 (by omega), hA 54 (by omega), hA 55 (by omega), hA 56 (by omega), hA 57 (by omega), hA 58 (by omega), hA 59 (by omega), hA 60 (by omega)⟩
  · funext j
    show rowN A (V 0) 8 j = V0 0 j
    unfold rowN
    by_cases hj : j < 8
    · rw [if_pos hj, hA j (by omega), keepF_0 _ hj]
    · rw [if_neg hj, (z.1 j (by omega)).1, (z0.1 j (by omega)).1]
  · funext j
    show rowN (fun p => A (8 + p)) (V 1) 8 j = V0 1 j
    unfold rowN
    by_cases hj : j < 8
    · rw [if_pos hj]
      show A (8 + j) = _
      rw [hA _ (by omega), keepF_1 _ hj]
    · rw [if_neg hj, (z.1 j (by omega)).2.1, (z0.1 j (by omega)).2.1]
  · funext j
    show rowN (fun p => A (16 + p)) (V 2) 8 j = V0 2 j
    unfold rowN
    by_cases hj : j < 8
    · rw [if_pos hj]
      show A (16 + j) = _
      rw [hA _ (by omega), keepF_2 _ hj]
    · rw [if_neg hj, (z.1 j (by omega)).2.2, (z0.1 j (by omega)).2.2]
  · funext j
    show rowN (fun p => A (24 + p)) (V 4) 12 j = V0 4 j
    unfold rowN
    by_cases hj : j < 12
    · rw [if_pos hj]
      show A (24 + j) = _
      rw [hA _ (by omega), keepF_4 _ hj]
    · rw [if_neg hj, (z.2.1 j (by omega)).1, (z0.2.1 j (by omega)).1]
  · funext j
    show rowN (fun p => A (36 + p)) (V 5) 12 j = V0 5 j
    unfold rowN
    by_cases hj : j < 12
    · rw [if_pos hj]
      show A (36 + j) = _
      rw [hA _ (by omega), keepF_5 _ hj]
    · rw [if_neg hj, (z.2.1 j (by omega)).2, (z0.2.1 j (by omega)).2]
  · funext j
    show (if 1 ≤ j ∧ j < 4 then A (47 + j) else V 6 j) = V0 6 j
    by_cases hj : 1 ≤ j ∧ j < 4
    · rw [if_pos hj, hA _ (by omega), keepF_6 _ hj.1 hj.2]
    · rw [if_neg hj]
      by_cases h00 : j = 0
      · subst h00; rw [hV.pr.1, h0.pr.1]
      · rw [z.2.2 j (by omega), z0.2.2 j (by omega)]
/-! what an hour leaves alone -/
def FRM (V V' : VS) : Prop := (∀ m, 8 ≤ m → V' m = V m) ∧ (∀ k, 17 ≤ k → V' 7 k = V 7 k)
theorem FRM.rf (V : VS) : FRM V V := ⟨fun _ _ => rfl, fun _ _ => rfl⟩
theorem FRM.tr {V V' W : VS} (a : FRM V V') (b : FRM V' W) : FRM V W := ⟨fun m h => (b.1 m h).trans (a.1 m h), fun k h => (b.2 k h).trans (a.2 k h)⟩
theorem FRM.r {V V' : VS} (F : FRM V V') {m : Nat} (hm : m < 7) (r : Nat → Int) : FRM V (fup V' m r) := ⟨fun j h => by rw [fup_ne _ _ (by omega)]; exact F.1 j h, fun k h => by rw [fup_ne _ _ (by omega)]; exact F.2 k h⟩
theorem FRM.n {V V' : VS} (F : FRM V V') {r : Nat → Int} (hr : ∀ k, 17 ≤ k → r k = V' 7 k) : FRM V (fup V' 7 r) := ⟨fun j h => by rw [fup_ne _ _ (by omega)]; exact F.1 j h, fun k h => by rw [fup_same, hr k h]; exact F.2 k h⟩
theorem FRM.n1 {V V' : VS} (F : FRM V V') {j : Nat} (hj : j < 17) (x : Int) : FRM V (fup V' 7 (fup (V' 7) j x)) := F.n (fun k h => fup_ne _ _ (by omega))
theorem FRM.ag (V : VS) (A : Nat → Int) : FRM V (agV V A) := ⟨fun _ h => agV_k V A h, fun _ h => agV_7 V A h⟩
section
variable {V V' : VS}
theorem FRM.setFog (F : FRM V V') (p f : Int) : FRM V (setFogV V' p f) := by unfold setFogV; split; exact F.r (by omega) _; exact F
theorem FRM.setPrice (F : FRM V V') (p f : Int) : FRM V (setPriceV V' p f) := by unfold setPriceV; split; exact F.r (by omega) _; exact F
theorem FRM.lay (F : FRM V V') (b s : Int) : FRM V (layV V' b s) := by unfold layV; split; exact F.r (by omega) _; exact F
theorem FRM.drain (F : FRM V V') (b : Int) : FRM V (drainV V' b) := by unfold drainV; split; exact (F.r (by omega) _).r (by omega) _; exact F
theorem FRM.addPl (F : FRM V V') (k a f : Int) : FRM V (addPlV V' k a f) := ((F.r (by omega) _).r (by omega) _ |>.r (by omega) _).n (fun k h => fup_ne _ _ (by omega))
theorem FRM.fill (F : FRM V V') (s x : Int) : FRM V (fillV V' s x) := by
  unfold fillV
  dsimp only
  split
  · exact ((F.r (by omega) _).r (by omega) _).n (fun k h => fup_ne _ _ (by omega))
  · exact (F.r (by omega) _).r (by omega) _
theorem FRM.act (F : FRM V V') (a : Int) : FRM V (actV V' a) := by
  unfold actV
  split
  · exact (F.fill _ _).setFog _ _
  split
  · exact F.n1 (by omega) _
  split
  · exact F.n1 (by omega) _
  split
  · exact (F.n1 (by omega) _).drain _
  split
  · exact F.r (by omega) _
  split
  · exact F.lay _ _
  · exact F
theorem FRM.pass (F : FRM V V') (a : Int) : FRM V (passV V' a) := by
  have f1 := F.act a
  have f2 : FRM V (leakV (actV V' a)) := (f1.r (by omega) _).r (by omega) _
  have f3 : FRM V (thinIf (leakV (actV V' a))) := by unfold thinIf; split; exact f2.r (by omega) _; exact f2
  have f4 : FRM V (blowIf (thinIf (leakV (actV V' a)))) := by unfold blowIf; split; exact f3; exact (f3.r (by omega) _).r (by omega) _
  have f5 : FRM V (marshV (blowIf (thinIf (leakV (actV V' a))))) := f4.r (by omega) _
  unfold passV hourV
  split
  · exact f5.n (fun k h => by rw [fup_ne _ _ (by omega), fup_ne _ _ (by omega)])
  · exact f5.n1 (by omega) _
theorem FRM.wait (F : FRM V V') : ∀ n, FRM V (waitV V' n)
  | 0 => F
  | n + 1 => (FRM.wait F n).pass _
theorem FRM.follow (F : FRM V V') (r : Int) : ∀ n, FRM V (followV V' r n)
  | 0 => F
  | n + 1 => (FRM.follow F r n).pass _
theorem FRM.seed (F : FRM V V') : FRM V (seedV V') := F.n1 (by omega) _
end
/-- a question of the reference: kept, gone on, as before -/
def kpV (V : VS) : VS := fup V 15 (rowN (keepF V) (V 15) 61)
theorem kp_wf {V : VS} (hw : WF V) : WF (kpV V) := hw
theorem kp_EV (V : VS) : EV (kpV V) V := EV.rf V
def MEQ (V V' : VS) : Prop := EV V V' ∧ (V 8 = V' 8 ∧ V 9 = V' 9 ∧ V 10 = V' 10 ∧ V 11 = V' 11 ∧ V 12 = V' 12 ∧ V 13 = V' 13) ∧ V 7 20 = V' 7 20 ∧ V 7 21 = V' 7 21 ∧ V 7 22 = V' 7 22
def qrV (W : VS) : VS := agV W (W 15)
theorem qr_EV {V W : VS} (hV : WF V) (hW : WF W) (F : FRM (kpV V) W) : EV (qrV W) V := by
  refine ag_EV hW hV (fun j hj => ?_)
  rw [F.1 15 (by omega)]
  show rowN (keepF V) (V 15) 61 j = _
  unfold rowN
  rw [if_pos hj]
theorem qr_F {V W : VS} (F : FRM (kpV V) W) : FRM (kpV V) (qrV W) := F.tr (FRM.ag _ _)
theorem qr_MEQ {V W : VS} (hV : WF V) (hW : WF W) (F : FRM (kpV V) W) : MEQ V (qrV W) := by
  have G := qr_F F
  exact ⟨(qr_EV hV hW F).sy, ⟨(G.1 8 (by omega)).symm, (G.1 9 (by omega)).symm, (G.1 10 (by omega)).symm, (G.1 11 (by omega)).symm, (G.1 12 (by omega)).symm, (G.1 13 (by omega)).symm⟩, (G.2 20 (by omega)).symm, (G.2 21 (by omega)).symm, (G.2 22 (by omega)).symm⟩
theorem sm_keepNow {d : Nat} {h : AH} : CallR (d + 1) 231 [vR 17 27, vR 17 35] h none (fup h 17 (setRV (h 17) (kpV (RV (h 17))))) := sm_keep_ (k := 15) (by omega) (by omega) rfl rfl
theorem sm_againNow {d : Nat} {h : AH} : CallR (d + 1) 232 [vR 17 27, vR 17 35] h none (fup h 17 (setRV (h 17) (qrV (RV (h 17))))) := sm_again (k := 15) (by omega) (by omega) rfl rfl
