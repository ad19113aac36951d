/-! PURE: loops; the reference's waiting, rules, sums, keeping -/
theorem lo_up {P : Nat → Prop} : ∀ (n : Nat), (∀ i, i < n → (P i ↔ P (i + 1))) → (P 0 ↔ P n)
  | 0, _ => Iff.rfl
  | n + 1, s => (lo_up n (fun i h => s i (by omega))).trans (s n (by omega))
theorem lo_upj {α : Type} {n : Nat} {P : Nat → α → Prop} {G : Prop} (he : ∀ a, P n a ↔ G) (s : ∀ i, i < n → ∀ a, ∃ a', (P i a ↔ P (i + 1) a')) : ∀ k i, i + k = n → ∀ a, P i a ↔ G
  | 0, i, e, a => by have : i = n := by omega
                     subst this; exact he a
  | k + 1, i, e, a => by
    obtain ⟨a', h⟩ := s i (by omega) a
    exact h.trans (lo_upj he s k (i + 1) (by omega) a')
theorem sm_waits {d : Nat} {h : AH} {n : Int} (hw : WF (RV (h 17))) (h0 : 0 ≤ n) (hn : n < 2147483647) : CallR (d + 5) 191 [vR 17 27, vI n] h none (fup h 17 (setRV (h 17) (waitV (RV (h 17)) n.toNat))) := by
  obtain ⟨m, rfl⟩ : ∃ m : Nat, n = (m : Int) := ⟨n.toNat, by omega⟩
  have L := lo_up (P := fun i => At (CallR (d + 4)) ac_191 2 [vR 17 27, vI m, vI (i : Int)] [] (fup h 17 (setRV (h 17) (waitV (RV (h 17)) i))) (fun v' h2 => v' = none ∧ h2 = fup h 17 (setRV (h 17) (waitV (RV (h 17)) m)))) m (fun i hi => by
    have h1 : (i : Int) < (m : Int) := by omega
    have hwi : WF (RV ((fup h 17 (setRV (h 17) (waitV (RV (h 17)) i))) 17)) := by rw [fup_same, RV_set]; exact wait_wf hw i
    rw [r191_2]
    simp only [r191_3, r191_4, r191_7, r191_8, r191_9, r191_12, r191_15, r191_18, CallR_iff (sm_goOn hwi (may_0 _)), reduceIte, Option.some.injEq, and_assoc, exists_and_left, exists_eq_left, exists_eq_left', true_and, and_true, List.length_cons, List.length_nil, Nat.reduceAdd, Nat.reduceLeDiff, Sum.inl.injEq, az_0, az_1, az_2, az_3, az_4, az_5, az_6, az_8, az_11, az_14, az_15, az_17, az_20, az_21, az_22, az_23, az_24, az_25, az_26, az_28, az_29, az_30, az_31, az_32, az_33, az_34, az_35, az_36, ak_0, ak_1, ak_2, ak_3, ak_4, ak_5, ak_6, ak_8, ak_11, ak_14, ak_15, ak_17, ak_20, ak_21, ak_22, ak_23, ak_24, ak_25, ak_26, ak_28, ak_29, ak_30, ak_31, ak_32, ak_33, ak_34, ak_35, ak_36, ak_37, eq_self, Int.toNat_natCast, Nat.zero_le, bI_0, b01_0, bI_or, b01_or, ne_eq, reduceCtorEq, not_false_eq_true, Nat.reduceEqDiff, if_true, if_false, ite_true, ite_false, Int.natCast_nonneg, fup_same, RV_set, set_set, fup_fup, h1, wr_s (show i < 2147483647 by omega)]
    exact Iff.rfl)
  simp only [show waitV (RV (h 17)) 0 = RV (h 17) from rfl, set_RV, fup_id] at L
  rw [cr_191]
  simp only [r191_0, r191_1, Int.toNat_natCast]
  refine L.mpr ?_
  rw [r191_2]
  simp only [r191_3, r191_4, r191_7, r191_8, r191_9, r191_12, r191_15, r191_18, reduceIte, Option.some.injEq, and_assoc, exists_and_left, exists_eq_left, exists_eq_left', true_and, and_true, List.length_cons, List.length_nil, Nat.reduceAdd, Nat.reduceLeDiff, Sum.inl.injEq, az_0, az_1, az_2, az_3, az_4, az_5, az_6, az_8, az_11, az_14, az_15, az_17, az_20, az_21, az_22, az_23, az_24, az_25, az_26, az_28, az_29, az_30, az_31, az_32, az_33, az_34, az_35, az_36, ak_0, ak_1, ak_2, ak_3, ak_4, ak_5, ak_6, ak_8, ak_11, ak_14, ak_15, ak_17, ak_20, ak_21, ak_22, ak_23, ak_24, ak_25, ak_26, ak_28, ak_29, ak_30, ak_31, ak_32, ak_33, ak_34, ak_35, ak_36, ak_37, eq_self, Int.toNat_natCast, Nat.zero_le, bI_0, b01_0, bI_or, b01_or, ne_eq, reduceCtorEq, not_false_eq_true, Nat.reduceEqDiff, if_true, if_false, ite_true, ite_false, Int.natCast_nonneg, show ¬ (m : Int) < (m : Int) by omega, and_self]
def firstV (V : VS) (a b c : Int) : Int := if mayV V a = true then a else if mayV V b = true then b else if mayV V c = true then c else 0
theorem sm_first {d : Nat} {h : AH} {a b c : Int} (hw : WF (RV (h 17))) : CallR (d + 3) 202 [vR 17 27, vI a, vI b, vI c] h (some (vI (firstV (RV (h 17)) a b c))) h := by
  rw [cr_202]
  simp only [r202_0, r202_1, r202_2, r202_5, r202_8, r202_9, r202_12, r202_13, r202_14, r202_17, r202_20, r202_21, r202_24, r202_25, r202_26, r202_29, r202_32, r202_33, r202_36, r202_37, CallR_iff (sm_may hw), reduceIte, Option.some.injEq, and_assoc, exists_and_left, exists_eq_left, exists_eq_left', true_and, and_true, List.length_cons, List.length_nil, Nat.reduceAdd, Nat.reduceLeDiff, Sum.inl.injEq, az_0, az_1, az_2, az_3, az_4, az_5, az_6, az_8, az_11, az_14, az_15, az_17, az_20, az_21, az_22, az_23, az_24, az_25, az_26, az_28, az_29, az_30, az_31, az_32, az_33, az_34, az_35, az_36, ak_0, ak_1, ak_2, ak_3, ak_4, ak_5, ak_6, ak_8, ak_11, ak_14, ak_15, ak_17, ak_20, ak_21, ak_22, ak_23, ak_24, ak_25, ak_26, ak_28, ak_29, ak_30, ak_31, ak_32, ak_33, ak_34, ak_35, ak_36, ak_37, eq_self, Int.toNat_natCast, Nat.zero_le, bI_0, b01_0, bI_or, b01_or, ne_eq, reduceCtorEq, not_false_eq_true, Nat.reduceEqDiff, if_true, if_false, ite_true, ite_false, Int.natCast_nonneg]
  unfold firstV
  cases mayV (RV (h 17)) a <;> cases mayV (RV (h 17)) b <;> cases mayV (RV (h 17)) c <;> simp
theorem sm_ruled {d : Nat} {h : AH} {r : Int} (hw : WF (RV (h 17))) (h0 : 0 ≤ r) (h3 : r < 4) : CallR (d + 4) 203 [vR 17 27, vI r] h (some (vI (ruleV (RV (h 17)) r))) h := by
  have hy := hw.you
  obtain ⟨b1, b2, b3, b4⟩ := hw.bd
  rw [RV_7] at hy b1 b2
  have hsc := strong_cases hw (s := 100) (by decide)
  rw [show cntF (RV (h 17)) 100 (nB (RV (h 17))) = cntV (RV (h 17)) from rfl] at hsc
  have hb12 := WF.nB12 hw.bd
  have m0 := may_0 (RV (h 17))
  rw [cr_203]
  by_cases r0 : r = 0
  · subst r0
    simp only [r203_0, r203_1, r203_28, r203_29, r203_30, r203_31, r203_32, r203_35, r203_36, r203_37, r203_38, r203_39, r203_40, r203_43, r203_44, r203_45, r203_48, r203_51, r203_52, r203_55, r203_56, r203_58, r203_61, r203_62, r203_64, r203_67, r203_68, r203_69, r203_70, r203_71, r203_74, r203_77, r203_78, r203_79, r203_80, r203_81, r203_84, r203_85, r203_86, r203_87, r203_90, r203_93, r203_94, r203_95, r203_96, r203_99, r203_102, r203_103, r203_106, r203_107, r203_110, r203_111, r203_112, r203_115, r203_118, r203_119, r203_120, r203_123, r203_126, r203_127, r203_128, r203_129, r203_130, r203_131, r203_132, r203_135, CallR_iff (sm_first hw), reduceIte, Option.some.injEq, and_assoc, exists_and_left, exists_eq_left, exists_eq_left', true_and, and_true, List.length_cons, List.length_nil, Nat.reduceAdd, Nat.reduceLeDiff, Sum.inl.injEq, az_0, az_1, az_2, az_3, az_4, az_5, az_6, az_8, az_11, az_14, az_15, az_17, az_20, az_21, az_22, az_23, az_24, az_25, az_26, az_28, az_29, az_30, az_31, az_32, az_33, az_34, az_35, az_36, ak_0, ak_1, ak_2, ak_3, ak_4, ak_5, ak_6, ak_8, ak_11, ak_14, ak_15, ak_17, ak_20, ak_21, ak_22, ak_23, ak_24, ak_25, ak_26, ak_28, ak_29, ak_30, ak_31, ak_32, ak_33, ak_34, ak_35, ak_36, ak_37, eq_self, Int.toNat_natCast, Nat.zero_le, bI_0, b01_0, bI_or, b01_or, ne_eq, reduceCtorEq, not_false_eq_true, Nat.reduceEqDiff, if_true, if_false, ite_true, ite_false, Int.natCast_nonneg]
    unfold firstV ruleV
    cases mayV (RV (h 17)) 4 <;> cases mayV (RV (h 17)) 1 <;> simp [m0]
  · by_cases r1 : r = 1
    · subst r1
      simp only [r203_0, r203_1, r203_28, r203_29, r203_30, r203_31, r203_32, r203_35, r203_36, r203_37, r203_38, r203_39, r203_40, r203_43, r203_44, r203_45, r203_48, r203_51, r203_52, r203_55, r203_56, r203_58, r203_61, r203_62, r203_64, r203_67, r203_68, r203_69, r203_70, r203_71, r203_74, r203_77, r203_78, r203_79, r203_80, r203_81, r203_84, r203_85, r203_86, r203_87, r203_90, r203_93, r203_94, r203_95, r203_96, r203_99, r203_102, r203_103, r203_106, r203_107, r203_110, r203_111, r203_112, r203_115, r203_118, r203_119, r203_120, r203_123, r203_126, r203_127, r203_128, r203_129, r203_130, r203_131, r203_132, r203_135, CallR_iff (sm_first hw), reduceIte, Option.some.injEq, and_assoc, exists_and_left, exists_eq_left, exists_eq_left', true_and, and_true, List.length_cons, List.length_nil, Nat.reduceAdd, Nat.reduceLeDiff, Sum.inl.injEq, az_0, az_1, az_2, az_3, az_4, az_5, az_6, az_8, az_11, az_14, az_15, az_17, az_20, az_21, az_22, az_23, az_24, az_25, az_26, az_28, az_29, az_30, az_31, az_32, az_33, az_34, az_35, az_36, ak_0, ak_1, ak_2, ak_3, ak_4, ak_5, ak_6, ak_8, ak_11, ak_14, ak_15, ak_17, ak_20, ak_21, ak_22, ak_23, ak_24, ak_25, ak_26, ak_28, ak_29, ak_30, ak_31, ak_32, ak_33, ak_34, ak_35, ak_36, ak_37, eq_self, Int.toNat_natCast, Nat.zero_le, bI_0, b01_0, bI_or, b01_or, ne_eq, reduceCtorEq, not_false_eq_true, Nat.reduceEqDiff, if_true, if_false, ite_true, ite_false, Int.natCast_nonneg]
      unfold firstV ruleV
      cases mayV (RV (h 17)) 4 <;> cases mayV (RV (h 17)) 1 <;> simp [m0]
    · by_cases r2 : r = 2
      · subst r2
        rcases hsc with ⟨s1, s2, s3⟩ | ⟨b, s0, s1, s2, s3, s4, s5⟩
        · simp only [r203_0, r203_1, r203_28, r203_29, r203_30, r203_31, r203_32, r203_35, r203_36, r203_37, r203_38, r203_39, r203_40, r203_43, r203_44, r203_45, r203_48, r203_51, r203_52, r203_55, r203_56, r203_58, r203_61, r203_62, r203_64, r203_67, r203_68, r203_69, r203_70, r203_71, r203_74, r203_77, r203_78, r203_79, r203_80, r203_81, r203_84, r203_85, r203_86, r203_87, r203_90, r203_93, r203_94, r203_95, r203_96, r203_99, r203_102, r203_103, r203_106, r203_107, r203_110, r203_111, r203_112, r203_115, r203_118, r203_119, r203_120, r203_123, r203_126, r203_127, r203_128, r203_129, r203_130, r203_131, r203_132, r203_135, CallR_iff (sm_carried hw.bd), s2, CallR_iff (sm_first hw), reduceIte, Option.some.injEq, and_assoc, exists_and_left, exists_eq_left, exists_eq_left', true_and, and_true, List.length_cons, List.length_nil, Nat.reduceAdd, Nat.reduceLeDiff, Sum.inl.injEq, az_0, az_1, az_2, az_3, az_4, az_5, az_6, az_8, az_11, az_14, az_15, az_17, az_20, az_21, az_22, az_23, az_24, az_25, az_26, az_28, az_29, az_30, az_31, az_32, az_33, az_34, az_35, az_36, ak_0, ak_1, ak_2, ak_3, ak_4, ak_5, ak_6, ak_8, ak_11, ak_14, ak_15, ak_17, ak_20, ak_21, ak_22, ak_23, ak_24, ak_25, ak_26, ak_28, ak_29, ak_30, ak_31, ak_32, ak_33, ak_34, ak_35, ak_36, ak_37, eq_self, Int.toNat_natCast, Nat.zero_le, bI_0, b01_0, bI_or, b01_or, ne_eq, reduceCtorEq, not_false_eq_true, Nat.reduceEqDiff, if_true, if_false, ite_true, ite_false, Int.natCast_nonneg]
          unfold firstV ruleV
          rw [s3]
          cases mayV (RV (h 17)) 4 <;> cases mayV (RV (h 17)) 1 <;> simp [m0, clsF]
        · rw [RV_4] at s5
          have hb : (b : Int) < 12 := by omega
          simp only [r203_0, r203_1, r203_28, r203_29, r203_30, r203_31, r203_32, r203_35, r203_36, r203_37, r203_38, r203_39, r203_40, r203_43, r203_44, r203_45, r203_48, r203_51, r203_52, r203_55, r203_56, r203_58, r203_61, r203_62, r203_64, r203_67, r203_68, r203_69, r203_70, r203_71, r203_74, r203_77, r203_78, r203_79, r203_80, r203_81, r203_84, r203_85, r203_86, r203_87, r203_90, r203_93, r203_94, r203_95, r203_96, r203_99, r203_102, r203_103, r203_106, r203_107, r203_110, r203_111, r203_112, r203_115, r203_118, r203_119, r203_120, r203_123, r203_126, r203_127, r203_128, r203_129, r203_130, r203_131, r203_132, r203_135, CallR_iff (sm_carried hw.bd), CallR_iff (sm_strongest hw (show (100 : Int) ≠ 200 by decide)), s1, CallR_iff (sm_first hw), reduceIte, Option.some.injEq, and_assoc, exists_and_left, exists_eq_left, exists_eq_left', true_and, and_true, List.length_cons, List.length_nil, Nat.reduceAdd, Nat.reduceLeDiff, Sum.inl.injEq, az_0, az_1, az_2, az_3, az_4, az_5, az_6, az_8, az_11, az_14, az_15, az_17, az_20, az_21, az_22, az_23, az_24, az_25, az_26, az_28, az_29, az_30, az_31, az_32, az_33, az_34, az_35, az_36, ak_0, ak_1, ak_2, ak_3, ak_4, ak_5, ak_6, ak_8, ak_11, ak_14, ak_15, ak_17, ak_20, ak_21, ak_22, ak_23, ak_24, ak_25, ak_26, ak_28, ak_29, ak_30, ak_31, ak_32, ak_33, ak_34, ak_35, ak_36, ak_37, eq_self, Int.toNat_natCast, Nat.zero_le, bI_0, b01_0, bI_or, b01_or, ne_eq, reduceCtorEq, not_false_eq_true, Nat.reduceEqDiff, if_true, if_false, ite_true, ite_false, Int.natCast_nonneg, s4, hb]
          unfold firstV ruleV
          rw [s5]
          simp only [clsF_3]
          by_cases h7 : h 17 24 b < 70
          · have : ¬ 70 ≤ h 17 24 b := by omega
            cases mayV (RV (h 17)) 4 <;> cases mayV (RV (h 17)) 1 <;> simp [m0, h7, this]
          · have : 70 ≤ h 17 24 b := by omega
            cases mayV (RV (h 17)) 4 <;> cases mayV (RV (h 17)) 1 <;> simp [m0, h7, this]
      · have r3 : r = 3 := by omega
        subst r3
        clear hsc
        by_cases hp : 0 < h 17 27 7
        · have hpy : hpB (RV (h 17)) (RV (h 17) 7 9) = true := hpB_iff.mpr (by rw [RV_7]; omega)
          have hkv : kindV (RV (h 17)) (RV (h 17) 7 9) = h 17 20 (h 17 27 9).toNat := by unfold kindV; rw [hpy]; rfl
          have h8 : 0 ≤ h 17 27 9 ∧ h 17 27 9 < 8 := by omega
          have hk := hw.pl (h 17 27 9).toNat (by omega)
          rw [RV_0] at hk
          simp only [r203_0, r203_1, r203_28, r203_29, r203_30, r203_31, r203_32, r203_35, r203_36, r203_37, r203_38, r203_39, r203_40, r203_43, r203_44, r203_45, r203_48, r203_51, r203_52, r203_55, r203_56, r203_58, r203_61, r203_62, r203_64, r203_67, r203_68, r203_69, r203_70, r203_71, r203_74, r203_77, r203_78, r203_79, r203_80, r203_81, r203_84, r203_85, r203_86, r203_87, r203_90, r203_93, r203_94, r203_95, r203_96, r203_99, r203_102, r203_103, r203_106, r203_107, r203_110, r203_111, r203_112, r203_115, r203_118, r203_119, r203_120, r203_123, r203_126, r203_127, r203_128, r203_129, r203_130, r203_131, r203_132, r203_135, CallR_iff (sm_may hw), CallR_iff (sm_isUnder (k := h 17 20 (h 17 27 9).toNat) (w := 1) hk.1 hk.2.1), CallR_iff (sm_first hw), reduceIte, Option.some.injEq, and_assoc, exists_and_left, exists_eq_left, exists_eq_left', true_and, and_true, List.length_cons, List.length_nil, Nat.reduceAdd, Nat.reduceLeDiff, Sum.inl.injEq, az_0, az_1, az_2, az_3, az_4, az_5, az_6, az_8, az_11, az_14, az_15, az_17, az_20, az_21, az_22, az_23, az_24, az_25, az_26, az_28, az_29, az_30, az_31, az_32, az_33, az_34, az_35, az_36, ak_0, ak_1, ak_2, ak_3, ak_4, ak_5, ak_6, ak_8, ak_11, ak_14, ak_15, ak_17, ak_20, ak_21, ak_22, ak_23, ak_24, ak_25, ak_26, ak_28, ak_29, ak_30, ak_31, ak_32, ak_33, ak_34, ak_35, ak_36, ak_37, eq_self, Int.toNat_natCast, Nat.zero_le, bI_0, b01_0, bI_or, b01_or, ne_eq, reduceCtorEq, not_false_eq_true, Nat.reduceEqDiff, if_true, if_false, ite_true, ite_false, Int.natCast_nonneg, hp, h8]
          unfold firstV ruleV
          rw [hkv]
          cases mayV (RV (h 17)) 4 <;> cases mayV (RV (h 17)) 1 <;> cases mayV (RV (h 17)) 2 <;> cases mayV (RV (h 17)) 5 <;> cases underB (h 17 20 (h 17 27 9).toNat) 1 <;> simp [m0]
        · have hpy : hpB (RV (h 17)) (RV (h 17) 7 9) = false := hpB_f (by rw [RV_7]; omega)
          have hkv : kindV (RV (h 17)) (RV (h 17) 7 9) = -1 := by unfold kindV; rw [hpy]; rfl
          simp only [r203_0, r203_1, r203_28, r203_29, r203_30, r203_31, r203_32, r203_35, r203_36, r203_37, r203_38, r203_39, r203_40, r203_43, r203_44, r203_45, r203_48, r203_51, r203_52, r203_55, r203_56, r203_58, r203_61, r203_62, r203_64, r203_67, r203_68, r203_69, r203_70, r203_71, r203_74, r203_77, r203_78, r203_79, r203_80, r203_81, r203_84, r203_85, r203_86, r203_87, r203_90, r203_93, r203_94, r203_95, r203_96, r203_99, r203_102, r203_103, r203_106, r203_107, r203_110, r203_111, r203_112, r203_115, r203_118, r203_119, r203_120, r203_123, r203_126, r203_127, r203_128, r203_129, r203_130, r203_131, r203_132, r203_135, CallR_iff (sm_may hw), CallR_iff (sm_first hw), reduceIte, Option.some.injEq, and_assoc, exists_and_left, exists_eq_left, exists_eq_left', true_and, and_true, List.length_cons, List.length_nil, Nat.reduceAdd, Nat.reduceLeDiff, Sum.inl.injEq, az_0, az_1, az_2, az_3, az_4, az_5, az_6, az_8, az_11, az_14, az_15, az_17, az_20, az_21, az_22, az_23, az_24, az_25, az_26, az_28, az_29, az_30, az_31, az_32, az_33, az_34, az_35, az_36, ak_0, ak_1, ak_2, ak_3, ak_4, ak_5, ak_6, ak_8, ak_11, ak_14, ak_15, ak_17, ak_20, ak_21, ak_22, ak_23, ak_24, ak_25, ak_26, ak_28, ak_29, ak_30, ak_31, ak_32, ak_33, ak_34, ak_35, ak_36, ak_37, eq_self, Int.toNat_natCast, Nat.zero_le, bI_0, b01_0, bI_or, b01_or, ne_eq, reduceCtorEq, not_false_eq_true, Nat.reduceEqDiff, if_true, if_false, ite_true, ite_false, Int.natCast_nonneg, hp]
          unfold firstV ruleV
          rw [hkv]
          cases mayV (RV (h 17)) 4 <;> cases mayV (RV (h 17)) 1 <;> cases mayV (RV (h 17)) 2 <;> simp [m0, underB]
theorem sm_runs {d : Nat} {h : AH} {r n : Int} (hw : WF (RV (h 17))) (r0 : 0 ≤ r) (r3 : r < 4) (h0 : 0 ≤ n) (hn : n < 2147483647) : CallR (d + 5) 204 [vR 17 27, vI r, vI n] h none (fup h 17 (setRV (h 17) (followV (RV (h 17)) r n.toNat))) := by
  obtain ⟨m, rfl⟩ : ∃ m : Nat, n = (m : Int) := ⟨n.toNat, by omega⟩
  have L := lo_up (P := fun i => At (CallR (d + 4)) ac_204 2 [vR 17 27, vI r, vI m, vI (i : Int)] [] (fup h 17 (setRV (h 17) (followV (RV (h 17)) r i))) (fun v' h2 => v' = none ∧ h2 = fup h 17 (setRV (h 17) (followV (RV (h 17)) r m)))) m (fun i hi => by
    have h1 : (i : Int) < (m : Int) := by omega
    have hwi : WF (RV ((fup h 17 (setRV (h 17) (followV (RV (h 17)) r i))) 17)) := by rw [fup_same, RV_set]; exact follow_wf hw r i
    have hm : mayV (RV ((fup h 17 (setRV (h 17) (followV (RV (h 17)) r i))) 17)) (ruleV (followV (RV (h 17)) r i) r) = true := by rw [fup_same, RV_set]; exact rule_may _ _
    rw [r204_2]
    simp only [r204_3, r204_4, r204_7, r204_8, r204_9, r204_10, r204_13, r204_16, r204_19, r204_22, CallR_iff (sm_ruled hwi r0 r3), reduceIte, Option.some.injEq, and_assoc, exists_and_left, exists_eq_left, exists_eq_left', true_and, and_true, List.length_cons, List.length_nil, Nat.reduceAdd, Nat.reduceLeDiff, Sum.inl.injEq, az_0, az_1, az_2, az_3, az_4, az_5, az_6, az_8, az_11, az_14, az_15, az_17, az_20, az_21, az_22, az_23, az_24, az_25, az_26, az_28, az_29, az_30, az_31, az_32, az_33, az_34, az_35, az_36, ak_0, ak_1, ak_2, ak_3, ak_4, ak_5, ak_6, ak_8, ak_11, ak_14, ak_15, ak_17, ak_20, ak_21, ak_22, ak_23, ak_24, ak_25, ak_26, ak_28, ak_29, ak_30, ak_31, ak_32, ak_33, ak_34, ak_35, ak_36, ak_37, eq_self, Int.toNat_natCast, Nat.zero_le, bI_0, b01_0, bI_or, b01_or, ne_eq, reduceCtorEq, not_false_eq_true, Nat.reduceEqDiff, if_true, if_false, ite_true, ite_false, Int.natCast_nonneg, fup_same, RV_set, h1]
    simp only [r204_3, r204_4, r204_7, r204_8, r204_9, r204_10, r204_13, r204_16, r204_19, r204_22, CallR_iff (sm_goOn hwi hm), reduceIte, Option.some.injEq, and_assoc, exists_and_left, exists_eq_left, exists_eq_left', true_and, and_true, List.length_cons, List.length_nil, Nat.reduceAdd, Nat.reduceLeDiff, Sum.inl.injEq, az_0, az_1, az_2, az_3, az_4, az_5, az_6, az_8, az_11, az_14, az_15, az_17, az_20, az_21, az_22, az_23, az_24, az_25, az_26, az_28, az_29, az_30, az_31, az_32, az_33, az_34, az_35, az_36, ak_0, ak_1, ak_2, ak_3, ak_4, ak_5, ak_6, ak_8, ak_11, ak_14, ak_15, ak_17, ak_20, ak_21, ak_22, ak_23, ak_24, ak_25, ak_26, ak_28, ak_29, ak_30, ak_31, ak_32, ak_33, ak_34, ak_35, ak_36, ak_37, eq_self, Int.toNat_natCast, Nat.zero_le, bI_0, b01_0, bI_or, b01_or, ne_eq, reduceCtorEq, not_false_eq_true, Nat.reduceEqDiff, if_true, if_false, ite_true, ite_false, Int.natCast_nonneg, fup_same, RV_set, set_set, fup_fup, wr_s (show i < 2147483647 by omega)]
    exact Iff.rfl)
  simp only [show followV (RV (h 17)) r 0 = RV (h 17) from rfl, set_RV, fup_id] at L
  rw [cr_204]
  simp only [r204_0, r204_1, Int.toNat_natCast]
  refine L.mpr ?_
  rw [r204_2]
  simp only [r204_3, r204_4, r204_7, r204_8, r204_9, r204_10, r204_13, r204_16, r204_19, r204_22, reduceIte, Option.some.injEq, and_assoc, exists_and_left, exists_eq_left, exists_eq_left', true_and, and_true, List.length_cons, List.length_nil, Nat.reduceAdd, Nat.reduceLeDiff, Sum.inl.injEq, az_0, az_1, az_2, az_3, az_4, az_5, az_6, az_8, az_11, az_14, az_15, az_17, az_20, az_21, az_22, az_23, az_24, az_25, az_26, az_28, az_29, az_30, az_31, az_32, az_33, az_34, az_35, az_36, ak_0, ak_1, ak_2, ak_3, ak_4, ak_5, ak_6, ak_8, ak_11, ak_14, ak_15, ak_17, ak_20, ak_21, ak_22, ak_23, ak_24, ak_25, ak_26, ak_28, ak_29, ak_30, ak_31, ak_32, ak_33, ak_34, ak_35, ak_36, ak_37, eq_self, Int.toNat_natCast, Nat.zero_le, bI_0, b01_0, bI_or, b01_or, ne_eq, reduceCtorEq, not_false_eq_true, Nat.reduceEqDiff, if_true, if_false, ite_true, ite_false, Int.natCast_nonneg, show ¬ (m : Int) < (m : Int) by omega, and_self]
