/-! PURE: the reference's hour -/
theorem sm_put {d : Nat} {h : AH} {V : VS} {a : AV} {Q : Option AV → AH → Prop} (hb : BD V) : ∀ (k i : Nat), ((i + k : Nat) : Int) = V 7 8 → (At (CallR d) ac_187 136 [vR 17 27, a, vI i] [] (fup h 17 (setRV (h 17) (fup V 5 (rowN (fun j => if V 5 j = 100 then V 7 9 else V 5 j) (V 5) i)))) Q ↔ Q none (fup h 17 (setRV (h 17) (fup V 5 (rowN (fun j => if V 5 j = 100 then V 7 9 else V 5 j) (V 5) (i + k))))))
  | 0, i, e => by
    have h1 : ¬ (i : Int) < V 7 8 := by omega
    rw [r187_136]
    simp only [r187_137, r187_138, r187_141, r187_144, r187_145, r187_148, r187_149, r187_150, r187_152, r187_155, r187_156, r187_159, r187_160, r187_161, r187_164, r187_165, r187_168, r187_171, reduceIte, Option.some.injEq, and_assoc, exists_and_left, exists_eq_left, exists_eq_left', true_and, and_true, List.length_cons, List.length_nil, Nat.reduceAdd, Nat.reduceLeDiff, Sum.inl.injEq, az_0, az_1, az_2, az_3, az_4, az_5, az_6, az_8, az_11, az_14, az_15, az_17, az_20, az_21, az_22, az_23, az_24, az_25, az_26, az_28, az_29, az_30, az_31, az_32, az_33, az_34, az_35, az_36, ak_0, ak_1, ak_2, ak_3, ak_4, ak_5, ak_6, ak_8, ak_11, ak_14, ak_15, ak_17, ak_20, ak_21, ak_22, ak_23, ak_24, ak_25, ak_26, ak_28, ak_29, ak_30, ak_31, ak_32, ak_33, ak_34, ak_35, ak_36, ak_37, eq_self, Int.toNat_natCast, Nat.zero_le, bI_0, b01_0, bI_or, b01_or, ne_eq, reduceCtorEq, not_false_eq_true, Nat.reduceEqDiff, if_true, if_false, ite_true, ite_false, Int.natCast_nonneg, up3, fup_same, fup_fup, fR_0, fR_1, fR_2, fR_3, fR_4, fR_5, fR_6, fR_7, fR_8, fR_9, fR_10, fR_11, fR_12, fR_13, fR_14, fR_15, fR_16, RV_set, set_set, sV_0, sV_1, sV_2, sV_3, sV_4, sV_5, sV_6, sV_7, sV_8, sV_9, sV_10, sV_11, sV_12, sV_13, sV_14, sV_15, sV_16, RV_0, RV_1, RV_2, RV_3, RV_4, RV_5, RV_6, RV_7, RV_8, RV_9, RV_10, RV_11, RV_12, RV_13, RV_14, RV_15, RV_16, fup_ne, h1]
    exact Iff.rfl
  | k + 1, i, e => by
    have h4 := hb.2.2.2
    have h1 : (i : Int) < V 7 8 := by omega
    have h2 : (i : Int) < 12 := by omega
    have ih := sm_put (d := d) (h := h) (a := a) (Q := Q) hb k (i + 1) (by omega)
    rw [show i + 1 + k = i + (k + 1) by omega] at ih
    rw [← ih, r187_136]
    simp only [r187_137, r187_138, r187_141, r187_144, r187_145, r187_148, r187_149, r187_150, r187_152, r187_155, r187_156, r187_159, r187_160, r187_161, r187_164, r187_165, r187_168, r187_171, reduceIte, Option.some.injEq, and_assoc, exists_and_left, exists_eq_left, exists_eq_left', true_and, and_true, List.length_cons, List.length_nil, Nat.reduceAdd, Nat.reduceLeDiff, Sum.inl.injEq, az_0, az_1, az_2, az_3, az_4, az_5, az_6, az_8, az_11, az_14, az_15, az_17, az_20, az_21, az_22, az_23, az_24, az_25, az_26, az_28, az_29, az_30, az_31, az_32, az_33, az_34, az_35, az_36, ak_0, ak_1, ak_2, ak_3, ak_4, ak_5, ak_6, ak_8, ak_11, ak_14, ak_15, ak_17, ak_20, ak_21, ak_22, ak_23, ak_24, ak_25, ak_26, ak_28, ak_29, ak_30, ak_31, ak_32, ak_33, ak_34, ak_35, ak_36, ak_37, eq_self, Int.toNat_natCast, Nat.zero_le, bI_0, b01_0, bI_or, b01_or, ne_eq, reduceCtorEq, not_false_eq_true, Nat.reduceEqDiff, if_true, if_false, ite_true, ite_false, Int.natCast_nonneg, up3, fup_same, fup_fup, fR_0, fR_1, fR_2, fR_3, fR_4, fR_5, fR_6, fR_7, fR_8, fR_9, fR_10, fR_11, fR_12, fR_13, fR_14, fR_15, fR_16, RV_set, set_set, sV_0, sV_1, sV_2, sV_3, sV_4, sV_5, sV_6, sV_7, sV_8, sV_9, sV_10, sV_11, sV_12, sV_13, sV_14, sV_15, sV_16, RV_0, RV_1, RV_2, RV_3, RV_4, RV_5, RV_6, RV_7, RV_8, RV_9, RV_10, RV_11, RV_12, RV_13, RV_14, RV_15, RV_16, fup_ne, fS_5, h1, h2, wr_s (show i < 2147483647 by omega), rowN_at]
    by_cases hq : V 5 i = 100
    · rw [if_pos hq, ← rowN_s]
      simp only [hq, if_true]
    · rw [if_neg hq, rowN_k _ _ _ (by simp only [hq, if_false])]
theorem sm_acts {d : Nat} {h : AH} {a : Int} (hw : WF (RV (h 17))) (hm : mayV (RV (h 17)) a = true) : CallR (d + 3) 187 [vR 17 27, vI a] h none (fup h 17 (setRV (h 17) (actV (RV (h 17)) a))) := by
  have hb := hw.bd
  have hy := hw.you
  obtain ⟨b1, b2, b3, b4⟩ := hw.bd
  have hf := fogV_bd hw (RV (h 17) 7 9)
  have hc := hw.coins
  rw [RV_7] at hy hc b1 b2 b3 b4
  rw [RV_7] at hf
  have hyou : h 17 27 9 ≠ 200 := by omega
  have e1 : wr (h 17 27 9 + 1) = h 17 27 9 + 1 := wr_id (by omega) (by omega)
  have e2 : wr (h 17 27 9 - 1) = h 17 27 9 - 1 := wr_id (by omega) (by omega)
  rw [cr_187]
  by_cases h1 : a = 1
  · subst h1
    unfold mayV at hm
    simp at hm
    obtain ⟨m1, m2, hfr⟩ := hm
    rw [RV_7] at m1
    have hpy : hpB (RV (h 17)) (h 17 27 9) = true := by
      cases hq : hpB (RV (h 17)) (h 17 27 9)
      · unfold fogV at m1; rw [hq] at m1; simp at m1
      · rfl
    have hfy : fogV (RV (h 17)) (h 17 27 9) = h 17 22 (h 17 27 9).toNat := by unfold fogV; rw [hpy]; rfl
    have hp := hpB_iff.mp hpy
    have h8 : 0 ≤ h 17 27 9 ∧ h 17 27 9 < 8 := by omega
    rw [hfy] at hf
    have e3 : wr (h 17 22 (h 17 27 9).toNat - 10) = h 17 22 (h 17 27 9).toNat - 10 := wr_id (by omega) (by omega)
    simp only [r187_0, r187_1, r187_40, r187_41, r187_42, r187_45, r187_46, r187_49, r187_50, r187_52, r187_55, r187_56, r187_57, r187_60, r187_61, r187_64, r187_65, r187_66, r187_68, r187_69, r187_70, r187_71, r187_72, r187_72r, r187_73, r187_76, r187_77, r187_78, r187_81, r187_82, r187_83, r187_83r, r187_84, r187_87, r187_88, r187_89, r187_92, r187_93, r187_94, r187_96, r187_99, r187_100, r187_101, r187_103, r187_104, r187_107, r187_108, r187_111, r187_112, r187_115, r187_116, r187_117, r187_120, r187_121, r187_122, r187_125, r187_128, r187_129, r187_130, r187_133, r187_134, r187_135, r187_172, r187_173, r187_176, r187_177, r187_178, r187_181, r187_184, r187_186, r187_187, r187_188, CallR_iff (sm_fills hb hfr), reduceIte, Option.some.injEq, and_assoc, exists_and_left, exists_eq_left, exists_eq_left', true_and, and_true, List.length_cons, List.length_nil, Nat.reduceAdd, Nat.reduceLeDiff, Sum.inl.injEq, az_0, az_1, az_2, az_3, az_4, az_5, az_6, az_8, az_11, az_14, az_15, az_17, az_20, az_21, az_22, az_23, az_24, az_25, az_26, az_28, az_29, az_30, az_31, az_32, az_33, az_34, az_35, az_36, ak_0, ak_1, ak_2, ak_3, ak_4, ak_5, ak_6, ak_8, ak_11, ak_14, ak_15, ak_17, ak_20, ak_21, ak_22, ak_23, ak_24, ak_25, ak_26, ak_28, ak_29, ak_30, ak_31, ak_32, ak_33, ak_34, ak_35, ak_36, ak_37, eq_self, Int.toNat_natCast, Nat.zero_le, bI_0, b01_0, bI_or, b01_or, ne_eq, reduceCtorEq, not_false_eq_true, Nat.reduceEqDiff, if_true, if_false, ite_true, ite_false, Int.natCast_nonneg, h8, up3, fup_same, fup_fup, fR_0, fR_1, fR_2, fR_3, fR_4, fR_5, fR_6, fR_7, fR_8, fR_9, fR_10, fR_11, fR_12, fR_13, fR_14, fR_15, fR_16, RV_set, set_set, sV_0, sV_1, sV_2, sV_3, sV_4, sV_5, sV_6, sV_7, sV_8, sV_9, sV_10, sV_11, sV_12, sV_13, sV_14, sV_15, sV_16, RV_0, RV_1, RV_2, RV_3, RV_4, RV_5, RV_6, RV_7, RV_8, RV_9, RV_10, RV_11, RV_12, RV_13, RV_14, RV_15, RV_16, fup_ne, fS_2, fill_79, fill_2, RV_7, RV_2, e3]
    unfold actV gatherV setFogV
    rw [hpB_r (fill_77 _ _ _), RV_7, hpy, hfy]
    simp only [if_true, fill_2, RV_2]
  · by_cases h2 : a = 2
    · subst h2
      simp only [r187_0, r187_1, r187_40, r187_41, r187_42, r187_45, r187_46, r187_49, r187_50, r187_52, r187_55, r187_56, r187_57, r187_60, r187_61, r187_64, r187_65, r187_66, r187_68, r187_69, r187_70, r187_71, r187_72, r187_72r, r187_73, r187_76, r187_77, r187_78, r187_81, r187_82, r187_83, r187_83r, r187_84, r187_87, r187_88, r187_89, r187_92, r187_93, r187_94, r187_96, r187_99, r187_100, r187_101, r187_103, r187_104, r187_107, r187_108, r187_111, r187_112, r187_115, r187_116, r187_117, r187_120, r187_121, r187_122, r187_125, r187_128, r187_129, r187_130, r187_133, r187_134, r187_135, r187_172, r187_173, r187_176, r187_177, r187_178, r187_181, r187_184, r187_186, r187_187, r187_188, reduceIte, Option.some.injEq, and_assoc, exists_and_left, exists_eq_left, exists_eq_left', true_and, and_true, List.length_cons, List.length_nil, Nat.reduceAdd, Nat.reduceLeDiff, Sum.inl.injEq, az_0, az_1, az_2, az_3, az_4, az_5, az_6, az_8, az_11, az_14, az_15, az_17, az_20, az_21, az_22, az_23, az_24, az_25, az_26, az_28, az_29, az_30, az_31, az_32, az_33, az_34, az_35, az_36, ak_0, ak_1, ak_2, ak_3, ak_4, ak_5, ak_6, ak_8, ak_11, ak_14, ak_15, ak_17, ak_20, ak_21, ak_22, ak_23, ak_24, ak_25, ak_26, ak_28, ak_29, ak_30, ak_31, ak_32, ak_33, ak_34, ak_35, ak_36, ak_37, eq_self, Int.toNat_natCast, Nat.zero_le, bI_0, b01_0, bI_or, b01_or, ne_eq, reduceCtorEq, not_false_eq_true, Nat.reduceEqDiff, if_true, if_false, ite_true, ite_false, Int.natCast_nonneg, up3, fup_same, fup_fup, fR_0, fR_1, fR_2, fR_3, fR_4, fR_5, fR_6, fR_7, fR_8, fR_9, fR_10, fR_11, fR_12, fR_13, fR_14, fR_15, fR_16, RV_set, set_set, sV_0, sV_1, sV_2, sV_3, sV_4, sV_5, sV_6, sV_7, sV_8, sV_9, sV_10, sV_11, sV_12, sV_13, sV_14, sV_15, sV_16, RV_0, RV_1, RV_2, RV_3, RV_4, RV_5, RV_6, RV_7, RV_8, RV_9, RV_10, RV_11, RV_12, RV_13, RV_14, RV_15, RV_16, fup_ne, e1]
      unfold actV youV
      simp [RV_7]
    · by_cases h3 : a = 3
      · subst h3
        simp only [r187_0, r187_1, r187_40, r187_41, r187_42, r187_45, r187_46, r187_49, r187_50, r187_52, r187_55, r187_56, r187_57, r187_60, r187_61, r187_64, r187_65, r187_66, r187_68, r187_69, r187_70, r187_71, r187_72, r187_72r, r187_73, r187_76, r187_77, r187_78, r187_81, r187_82, r187_83, r187_83r, r187_84, r187_87, r187_88, r187_89, r187_92, r187_93, r187_94, r187_96, r187_99, r187_100, r187_101, r187_103, r187_104, r187_107, r187_108, r187_111, r187_112, r187_115, r187_116, r187_117, r187_120, r187_121, r187_122, r187_125, r187_128, r187_129, r187_130, r187_133, r187_134, r187_135, r187_172, r187_173, r187_176, r187_177, r187_178, r187_181, r187_184, r187_186, r187_187, r187_188, reduceIte, Option.some.injEq, and_assoc, exists_and_left, exists_eq_left, exists_eq_left', true_and, and_true, List.length_cons, List.length_nil, Nat.reduceAdd, Nat.reduceLeDiff, Sum.inl.injEq, az_0, az_1, az_2, az_3, az_4, az_5, az_6, az_8, az_11, az_14, az_15, az_17, az_20, az_21, az_22, az_23, az_24, az_25, az_26, az_28, az_29, az_30, az_31, az_32, az_33, az_34, az_35, az_36, ak_0, ak_1, ak_2, ak_3, ak_4, ak_5, ak_6, ak_8, ak_11, ak_14, ak_15, ak_17, ak_20, ak_21, ak_22, ak_23, ak_24, ak_25, ak_26, ak_28, ak_29, ak_30, ak_31, ak_32, ak_33, ak_34, ak_35, ak_36, ak_37, eq_self, Int.toNat_natCast, Nat.zero_le, bI_0, b01_0, bI_or, b01_or, ne_eq, reduceCtorEq, not_false_eq_true, Nat.reduceEqDiff, if_true, if_false, ite_true, ite_false, Int.natCast_nonneg, up3, fup_same, fup_fup, fR_0, fR_1, fR_2, fR_3, fR_4, fR_5, fR_6, fR_7, fR_8, fR_9, fR_10, fR_11, fR_12, fR_13, fR_14, fR_15, fR_16, RV_set, set_set, sV_0, sV_1, sV_2, sV_3, sV_4, sV_5, sV_6, sV_7, sV_8, sV_9, sV_10, sV_11, sV_12, sV_13, sV_14, sV_15, sV_16, RV_0, RV_1, RV_2, RV_3, RV_4, RV_5, RV_6, RV_7, RV_8, RV_9, RV_10, RV_11, RV_12, RV_13, RV_14, RV_15, RV_16, fup_ne, e2]
        unfold actV youV
        simp [RV_7]
      · by_cases h4 : a = 4
        · subst h4
          unfold mayV spendB at hm
          simp [clsF_pos] at hm
          rcases strong_cases hw (s := 100) (by decide) with ⟨s1, s2, s3⟩ | ⟨b, s0, s1, s2, s3, s4, s5⟩
          · rw [s3] at hm; omega
          · have hb12 : (b : Int) < 12 := by have := WF.nB12 hw.bd; omega
            have hcl := clsF_bd (RV (h 17) 4 b)
            have hpr := hw.pr.2 (clsF (RV (h 17) 4 b)).toNat (by omega)
            rw [RV_4] at hcl hpr
            rw [RV_6] at hpr
            have e3 : wr (h 17 27 10 + h 17 26 (clsF (h 17 24 b)).toNat) = h 17 27 10 + h 17 26 (clsF (h 17 24 b)).toNat := wr_id (by omega) (by omega)
            simp only [r187_0, r187_1, r187_40, r187_41, r187_42, r187_45, r187_46, r187_49, r187_50, r187_52, r187_55, r187_56, r187_57, r187_60, r187_61, r187_64, r187_65, r187_66, r187_68, r187_69, r187_70, r187_71, r187_72, r187_72r, r187_73, r187_76, r187_77, r187_78, r187_81, r187_82, r187_83, r187_83r, r187_84, r187_87, r187_88, r187_89, r187_92, r187_93, r187_94, r187_96, r187_99, r187_100, r187_101, r187_103, r187_104, r187_107, r187_108, r187_111, r187_112, r187_115, r187_116, r187_117, r187_120, r187_121, r187_122, r187_125, r187_128, r187_129, r187_130, r187_133, r187_134, r187_135, r187_172, r187_173, r187_176, r187_177, r187_178, r187_181, r187_184, r187_186, r187_187, r187_188, CallR_iff (sm_strongest hw (show (100 : Int) ≠ 200 by decide)), s1, CallR_iff sm_classOf, CallR_iff (sm_empties (Int.natCast_nonneg b) hb12), reduceIte, Option.some.injEq, and_assoc, exists_and_left, exists_eq_left, exists_eq_left', true_and, and_true, List.length_cons, List.length_nil, Nat.reduceAdd, Nat.reduceLeDiff, Sum.inl.injEq, az_0, az_1, az_2, az_3, az_4, az_5, az_6, az_8, az_11, az_14, az_15, az_17, az_20, az_21, az_22, az_23, az_24, az_25, az_26, az_28, az_29, az_30, az_31, az_32, az_33, az_34, az_35, az_36, ak_0, ak_1, ak_2, ak_3, ak_4, ak_5, ak_6, ak_8, ak_11, ak_14, ak_15, ak_17, ak_20, ak_21, ak_22, ak_23, ak_24, ak_25, ak_26, ak_28, ak_29, ak_30, ak_31, ak_32, ak_33, ak_34, ak_35, ak_36, ak_37, eq_self, Int.toNat_natCast, Nat.zero_le, bI_0, b01_0, bI_or, b01_or, ne_eq, reduceCtorEq, not_false_eq_true, Nat.reduceEqDiff, if_true, if_false, ite_true, ite_false, Int.natCast_nonneg, hb12, hcl, e3, up3, fup_same, fup_fup, fR_0, fR_1, fR_2, fR_3, fR_4, fR_5, fR_6, fR_7, fR_8, fR_9, fR_10, fR_11, fR_12, fR_13, fR_14, fR_15, fR_16, RV_set, set_set, sV_0, sV_1, sV_2, sV_3, sV_4, sV_5, sV_6, sV_7, sV_8, sV_9, sV_10, sV_11, sV_12, sV_13, sV_14, sV_15, sV_16, RV_0, RV_1, RV_2, RV_3, RV_4, RV_5, RV_6, RV_7, RV_8, RV_9, RV_10, RV_11, RV_12, RV_13, RV_14, RV_15, RV_16, fup_ne]
            unfold actV spendV
            rw [s5, s1]
            simp [RV_4, RV_6, RV_7]
        · by_cases h5 : a = 5
          · subst h5
            have L := sm_put (d := d + 2) (h := h) (V := RV (h 17)) (a := vI 5) (Q := fun v' h2 => v' = none ∧ h2 = fup h 17 (setRV (h 17) (actV (RV (h 17)) 5))) hb (nB (RV (h 17))) 0 (by unfold nB; rw [RV_7]; omega)
            rw [rowN_0, fup_id, set_RV, fup_id] at L
            simp only [r187_0, r187_1, r187_40, r187_41, r187_42, r187_45, r187_46, r187_49, r187_50, r187_52, r187_55, r187_56, r187_57, r187_60, r187_61, r187_64, r187_65, r187_66, r187_68, r187_69, r187_70, r187_71, r187_72, r187_72r, r187_73, r187_76, r187_77, r187_78, r187_81, r187_82, r187_83, r187_83r, r187_84, r187_87, r187_88, r187_89, r187_92, r187_93, r187_94, r187_96, r187_99, r187_100, r187_101, r187_103, r187_104, r187_107, r187_108, r187_111, r187_112, r187_115, r187_116, r187_117, r187_120, r187_121, r187_122, r187_125, r187_128, r187_129, r187_130, r187_133, r187_134, r187_135, r187_172, r187_173, r187_176, r187_177, r187_178, r187_181, r187_184, r187_186, r187_187, r187_188, reduceIte, Option.some.injEq, and_assoc, exists_and_left, exists_eq_left, exists_eq_left', true_and, and_true, List.length_cons, List.length_nil, Nat.reduceAdd, Nat.reduceLeDiff, Sum.inl.injEq, az_0, az_1, az_2, az_3, az_4, az_5, az_6, az_8, az_11, az_14, az_15, az_17, az_20, az_21, az_22, az_23, az_24, az_25, az_26, az_28, az_29, az_30, az_31, az_32, az_33, az_34, az_35, az_36, ak_0, ak_1, ak_2, ak_3, ak_4, ak_5, ak_6, ak_8, ak_11, ak_14, ak_15, ak_17, ak_20, ak_21, ak_22, ak_23, ak_24, ak_25, ak_26, ak_28, ak_29, ak_30, ak_31, ak_32, ak_33, ak_34, ak_35, ak_36, ak_37, eq_self, Int.toNat_natCast, Nat.zero_le, bI_0, b01_0, bI_or, b01_or, ne_eq, reduceCtorEq, not_false_eq_true, Nat.reduceEqDiff, if_true, if_false, ite_true, ite_false, Int.natCast_nonneg]
            exact L.mpr ⟨rfl, by rw [Nat.zero_add]; rfl⟩
          · by_cases h6 : a = 6
            · subst h6
              unfold mayV at hm
              simp at hm
              rw [RV_7] at hm
              rcases strong_cases hw (s := h 17 27 9) hyou with ⟨s1, -⟩ | ⟨b, s0, s1, -⟩
              · exact absurd s1 hm.2
              · have hb12 : (b : Int) < 12 := by have := WF.nB12 hw.bd; omega
                have hbB : (b : Int) < h 17 27 8 := by unfold nB at s0; rw [RV_7] at s0; omega
                simp only [r187_0, r187_1, r187_40, r187_41, r187_42, r187_45, r187_46, r187_49, r187_50, r187_52, r187_55, r187_56, r187_57, r187_60, r187_61, r187_64, r187_65, r187_66, r187_68, r187_69, r187_70, r187_71, r187_72, r187_72r, r187_73, r187_76, r187_77, r187_78, r187_81, r187_82, r187_83, r187_83r, r187_84, r187_87, r187_88, r187_89, r187_92, r187_93, r187_94, r187_96, r187_99, r187_100, r187_101, r187_103, r187_104, r187_107, r187_108, r187_111, r187_112, r187_115, r187_116, r187_117, r187_120, r187_121, r187_122, r187_125, r187_128, r187_129, r187_130, r187_133, r187_134, r187_135, r187_172, r187_173, r187_176, r187_177, r187_178, r187_181, r187_184, r187_186, r187_187, r187_188, CallR_iff (sm_strongest hw hyou), s1, reduceIte, Option.some.injEq, and_assoc, exists_and_left, exists_eq_left, exists_eq_left', true_and, and_true, List.length_cons, List.length_nil, Nat.reduceAdd, Nat.reduceLeDiff, Sum.inl.injEq, az_0, az_1, az_2, az_3, az_4, az_5, az_6, az_8, az_11, az_14, az_15, az_17, az_20, az_21, az_22, az_23, az_24, az_25, az_26, az_28, az_29, az_30, az_31, az_32, az_33, az_34, az_35, az_36, ak_0, ak_1, ak_2, ak_3, ak_4, ak_5, ak_6, ak_8, ak_11, ak_14, ak_15, ak_17, ak_20, ak_21, ak_22, ak_23, ak_24, ak_25, ak_26, ak_28, ak_29, ak_30, ak_31, ak_32, ak_33, ak_34, ak_35, ak_36, ak_37, eq_self, Int.toNat_natCast, Nat.zero_le, bI_0, b01_0, bI_or, b01_or, ne_eq, reduceCtorEq, not_false_eq_true, Nat.reduceEqDiff, if_true, if_false, ite_true, ite_false, Int.natCast_nonneg, hb12, up3, fup_same, fup_fup, fR_0, fR_1, fR_2, fR_3, fR_4, fR_5, fR_6, fR_7, fR_8, fR_9, fR_10, fR_11, fR_12, fR_13, fR_14, fR_15, fR_16, RV_set, set_set, sV_0, sV_1, sV_2, sV_3, sV_4, sV_5, sV_6, sV_7, sV_8, sV_9, sV_10, sV_11, sV_12, sV_13, sV_14, sV_15, sV_16, RV_0, RV_1, RV_2, RV_3, RV_4, RV_5, RV_6, RV_7, RV_8, RV_9, RV_10, RV_11, RV_12, RV_13, RV_14, RV_15, RV_16, fup_ne]
                unfold actV layV
                rw [RV_7, s1]
                simp [hb12, hbB, RV_5]
            · unfold actV
              simp only [r187_0, r187_1, r187_40, r187_41, r187_42, r187_45, r187_46, r187_49, r187_50, r187_52, r187_55, r187_56, r187_57, r187_60, r187_61, r187_64, r187_65, r187_66, r187_68, r187_69, r187_70, r187_71, r187_72, r187_72r, r187_73, r187_76, r187_77, r187_78, r187_81, r187_82, r187_83, r187_83r, r187_84, r187_87, r187_88, r187_89, r187_92, r187_93, r187_94, r187_96, r187_99, r187_100, r187_101, r187_103, r187_104, r187_107, r187_108, r187_111, r187_112, r187_115, r187_116, r187_117, r187_120, r187_121, r187_122, r187_125, r187_128, r187_129, r187_130, r187_133, r187_134, r187_135, r187_172, r187_173, r187_176, r187_177, r187_178, r187_181, r187_184, r187_186, r187_187, r187_188, reduceIte, Option.some.injEq, and_assoc, exists_and_left, exists_eq_left, exists_eq_left', true_and, and_true, List.length_cons, List.length_nil, Nat.reduceAdd, Nat.reduceLeDiff, Sum.inl.injEq, az_0, az_1, az_2, az_3, az_4, az_5, az_6, az_8, az_11, az_14, az_15, az_17, az_20, az_21, az_22, az_23, az_24, az_25, az_26, az_28, az_29, az_30, az_31, az_32, az_33, az_34, az_35, az_36, ak_0, ak_1, ak_2, ak_3, ak_4, ak_5, ak_6, ak_8, ak_11, ak_14, ak_15, ak_17, ak_20, ak_21, ak_22, ak_23, ak_24, ak_25, ak_26, ak_28, ak_29, ak_30, ak_31, ak_32, ak_33, ak_34, ak_35, ak_36, ak_37, eq_self, Int.toNat_natCast, Nat.zero_le, bI_0, b01_0, bI_or, b01_or, ne_eq, reduceCtorEq, not_false_eq_true, Nat.reduceEqDiff, if_true, if_false, ite_true, ite_false, Int.natCast_nonneg, h1, h2, h3, h4, h5, h6, if_false, set_RV, fup_id]
              repeat' split
              all_goals first | omega | simp_all
