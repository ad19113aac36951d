/-! PURE: waiting, rules, draws, becoming another -/
def waitV (V : VS) : Nat → VS
  | 0 => V
  | n + 1 => passV (waitV V n) 0
theorem may_0 (V : VS) : mayV V 0 = true := rfl
theorem wait_wf {V : VS} (hw : WF V) : ∀ n, WF (waitV V n)
  | 0 => hw
  | n + 1 => pass_wf (wait_wf hw n) (may_0 _)
theorem lp_wait {d g : Nat} {h : AH} {n : Nat} {Q : Option AV → AH → Prop} (hw : WF (h g)) (hn : n < 2147483647) : ∀ (k i : Nat), i + k = n → (At (CallR (d + 4)) ac_76 2 [vR g 7, vI n, vI i] [] (fup h g (waitV (h g) i)) Q ↔ Q none (fup h g (waitV (h g) n)))
  | 0, i, e => by
    have h1 : ¬ (i : Int) < (n : Int) := by omega
    have hi : i = n := by omega
    subst hi
    rw [r76_2]
    simp only [r76_3, r76_4, r76_7, r76_8, r76_9, r76_12, r76_15, r76_18, reduceIte, Option.some.injEq, and_assoc, exists_and_left, exists_eq_left, exists_eq_left', true_and, and_true, List.length_cons, List.length_nil, Nat.reduceAdd, Nat.reduceLeDiff, Sum.inl.injEq, az_0, az_1, az_2, az_3, az_4, az_5, az_6, az_8, az_11, az_14, az_15, az_17, az_20, az_21, az_22, az_23, az_24, az_25, az_26, az_28, az_29, az_30, az_31, az_32, az_33, az_34, az_35, az_36, ak_0, ak_1, ak_2, ak_3, ak_4, ak_5, ak_6, ak_8, ak_11, ak_14, ak_15, ak_17, ak_20, ak_21, ak_22, ak_23, ak_24, ak_25, ak_26, ak_28, ak_29, ak_30, ak_31, ak_32, ak_33, ak_34, ak_35, ak_36, ak_37, eq_self, Int.toNat_natCast, Nat.zero_le, bI_0, b01_0, bI_or, b01_or, ne_eq, reduceCtorEq, not_false_eq_true, Nat.reduceEqDiff, if_true, if_false, ite_true, ite_false, Int.natCast_nonneg, h1]
  | k + 1, i, e => by
    have h1 : (i : Int) < (n : Int) := by omega
    have hwi : WF ((fup h g (waitV (h g) i)) g) := by rw [fup_same]; exact wait_wf hw i
    have ih := lp_wait (d := d) (Q := Q) hw hn k (i + 1) (by omega)
    rw [← ih, r76_2]
    simp only [r76_3, r76_4, r76_7, r76_8, r76_9, r76_12, r76_15, r76_18, CallR_iff (sp_pass hwi (may_0 _)), reduceIte, Option.some.injEq, and_assoc, exists_and_left, exists_eq_left, exists_eq_left', true_and, and_true, List.length_cons, List.length_nil, Nat.reduceAdd, Nat.reduceLeDiff, Sum.inl.injEq, az_0, az_1, az_2, az_3, az_4, az_5, az_6, az_8, az_11, az_14, az_15, az_17, az_20, az_21, az_22, az_23, az_24, az_25, az_26, az_28, az_29, az_30, az_31, az_32, az_33, az_34, az_35, az_36, ak_0, ak_1, ak_2, ak_3, ak_4, ak_5, ak_6, ak_8, ak_11, ak_14, ak_15, ak_17, ak_20, ak_21, ak_22, ak_23, ak_24, ak_25, ak_26, ak_28, ak_29, ak_30, ak_31, ak_32, ak_33, ak_34, ak_35, ak_36, ak_37, eq_self, Int.toNat_natCast, Nat.zero_le, bI_0, b01_0, bI_or, b01_or, ne_eq, reduceCtorEq, not_false_eq_true, Nat.reduceEqDiff, if_true, if_false, ite_true, ite_false, Int.natCast_nonneg, fup_same, fup_fup, h1, wr_s (show i < 2147483647 by omega)]
    exact Iff.rfl
theorem sp_wait {d g : Nat} {h : AH} {n : Int} (hw : WF (h g)) (h0 : 0 ≤ n) (hn : n < 2147483647) : CallR (d + 5) 76 [vR g 7, vI n] h none (fup h g (waitV (h g) n.toNat)) := by
  obtain ⟨m, rfl⟩ : ∃ m : Nat, n = (m : Int) := ⟨n.toNat, by omega⟩
  have L := lp_wait (d := d) (g := g) (h := h) (n := m) (Q := fun v' h2 => v' = none ∧ h2 = fup h g (waitV (h g) m)) hw (by omega) m 0 (by omega)
  rw [show waitV (h g) 0 = h g from rfl, fup_id] at L
  rw [cr_76]
  simp only [r76_0, r76_1, Int.toNat_natCast]
  exact L.mpr ⟨rfl, rfl⟩
/-- the act of a rule -/
def ruleV (V : VS) (r : Int) : Int :=
  if mayV V 4 = true ∧ (r = 0 ∨ (r = 2 ∧ clsF (strAt V (strongV V 100)) = 3)) then 4
  else if mayV V 1 = true then 1
  else if r = 3 ∧ underB (kindV V (V 7 9)) 1 = true ∧ mayV V 5 = true then 5
  else if r = 3 ∧ mayV V 2 = true then 2
  else if mayV V 4 = true then 4 else 0
theorem rule_may (V : VS) (r : Int) : mayV V (ruleV V r) = true := by
  unfold ruleV
  (repeat' split)
  · next h => exact h.1
  · next h => exact h
  · next h => exact h.2.2
  · next h => exact h.2
  · next h => exact h
  · rfl
theorem sp_ruled {d g : Nat} {h : AH} {r : Int} (hw : WF (h g)) : CallR (d + 4) 82 [vR g 7, vI r] h (some (vI (ruleV (h g) r))) h := by
  rw [cr_82]
  simp only [r82_0, r82_1, r82_2, r82_5, r82_6, r82_7, r82_10, r82_11, r82_14, r82_15, r82_16, r82_19, r82_20, r82_21, r82_23, r82_26, r82_29, r82_30, r82_33, r82_34, r82_35, r82_36, r82_37, r82_40, r82_43, r82_44, r82_45, r82_46, r82_47, r82_50, r82_51, r82_52, r82_55, r82_56, r82_59, r82_62, r82_63, r82_64, r82_67, r82_70, r82_71, r82_72, r82_73, r82_74, r82_77, r82_78, r82_79, r82_82, r82_85, r82_86, r82_87, r82_88, r82_91, r82_92, r82_95, r82_96, CallR_iff (sp_allows hw), CallR_iff (sp_strongest hw.bd), CallR_iff sp_classOf, CallR_iff (sp_isOfKind hw), reduceIte, Option.some.injEq, and_assoc, exists_and_left, exists_eq_left, exists_eq_left', true_and, and_true, List.length_cons, List.length_nil, Nat.reduceAdd, Nat.reduceLeDiff, Sum.inl.injEq, az_0, az_1, az_2, az_3, az_4, az_5, az_6, az_8, az_11, az_14, az_15, az_17, az_20, az_21, az_22, az_23, az_24, az_25, az_26, az_28, az_29, az_30, az_31, az_32, az_33, az_34, az_35, az_36, ak_0, ak_1, ak_2, ak_3, ak_4, ak_5, ak_6, ak_8, ak_11, ak_14, ak_15, ak_17, ak_20, ak_21, ak_22, ak_23, ak_24, ak_25, ak_26, ak_28, ak_29, ak_30, ak_31, ak_32, ak_33, ak_34, ak_35, ak_36, ak_37, eq_self, Int.toNat_natCast, Nat.zero_le, bI_0, b01_0, bI_or, b01_or, ne_eq, reduceCtorEq, not_false_eq_true, Nat.reduceEqDiff, if_true, if_false, ite_true, ite_false, Int.natCast_nonneg]
  rw [show (if 0 ≤ strongV (h g) 100 ∧ strongV (h g) 100 < 12 then h g 4 (strongV (h g) 100).toNat else 0) = strAt (h g) (strongV (h g) 100) from rfl]
  unfold ruleV
  cases h4 : mayV (h g) 4 <;> cases h1 : mayV (h g) 1 <;> cases h5 : mayV (h g) 5 <;> cases h2 : mayV (h g) 2 <;> cases hu : underB (kindV (h g) (h g 7 9)) 1 <;> simp <;> (repeat' split) <;> simp_all
def followV (V : VS) (r : Int) : Nat → VS
  | 0 => V
  | n + 1 => passV (followV V r n) (ruleV (followV V r n) r)
theorem follow_wf {V : VS} (hw : WF V) (r : Int) : ∀ n, WF (followV V r n)
  | 0 => hw
  | n + 1 => pass_wf (follow_wf hw r n) (rule_may _ _)
theorem lp_follow {d g : Nat} {h : AH} {r : Int} {n : Nat} {Q : Option AV → AH → Prop} (hw : WF (h g)) (hn : n < 2147483647) : ∀ (k i : Nat), i + k = n → (At (CallR (d + 4)) ac_81 2 [vR g 7, vI r, vI n, vI i] [] (fup h g (followV (h g) r i)) Q ↔ Q none (fup h g (followV (h g) r n)))
  | 0, i, e => by
    have h1 : ¬ (i : Int) < (n : Int) := by omega
    have hi : i = n := by omega
    subst hi
    rw [r81_2]
    simp only [r81_3, r81_4, r81_7, r81_8, r81_9, r81_10, r81_13, r81_16, r81_19, r81_22, reduceIte, Option.some.injEq, and_assoc, exists_and_left, exists_eq_left, exists_eq_left', true_and, and_true, List.length_cons, List.length_nil, Nat.reduceAdd, Nat.reduceLeDiff, Sum.inl.injEq, az_0, az_1, az_2, az_3, az_4, az_5, az_6, az_8, az_11, az_14, az_15, az_17, az_20, az_21, az_22, az_23, az_24, az_25, az_26, az_28, az_29, az_30, az_31, az_32, az_33, az_34, az_35, az_36, ak_0, ak_1, ak_2, ak_3, ak_4, ak_5, ak_6, ak_8, ak_11, ak_14, ak_15, ak_17, ak_20, ak_21, ak_22, ak_23, ak_24, ak_25, ak_26, ak_28, ak_29, ak_30, ak_31, ak_32, ak_33, ak_34, ak_35, ak_36, ak_37, eq_self, Int.toNat_natCast, Nat.zero_le, bI_0, b01_0, bI_or, b01_or, ne_eq, reduceCtorEq, not_false_eq_true, Nat.reduceEqDiff, if_true, if_false, ite_true, ite_false, Int.natCast_nonneg, h1]
  | k + 1, i, e => by
    have h1 : (i : Int) < (n : Int) := by omega
    have hwi : WF ((fup h g (followV (h g) r i)) g) := by rw [fup_same]; exact follow_wf hw r i
    have hm : mayV ((fup h g (followV (h g) r i)) g) (ruleV (followV (h g) r i) r) = true := by rw [fup_same]; exact rule_may _ _
    have ih := lp_follow (d := d) (r := r) (Q := Q) hw hn k (i + 1) (by omega)
    rw [← ih, r81_2]
    simp only [r81_3, r81_4, r81_7, r81_8, r81_9, r81_10, r81_13, r81_16, r81_19, r81_22, CallR_iff (sp_ruled hwi), reduceIte, Option.some.injEq, and_assoc, exists_and_left, exists_eq_left, exists_eq_left', true_and, and_true, List.length_cons, List.length_nil, Nat.reduceAdd, Nat.reduceLeDiff, Sum.inl.injEq, az_0, az_1, az_2, az_3, az_4, az_5, az_6, az_8, az_11, az_14, az_15, az_17, az_20, az_21, az_22, az_23, az_24, az_25, az_26, az_28, az_29, az_30, az_31, az_32, az_33, az_34, az_35, az_36, ak_0, ak_1, ak_2, ak_3, ak_4, ak_5, ak_6, ak_8, ak_11, ak_14, ak_15, ak_17, ak_20, ak_21, ak_22, ak_23, ak_24, ak_25, ak_26, ak_28, ak_29, ak_30, ak_31, ak_32, ak_33, ak_34, ak_35, ak_36, ak_37, eq_self, Int.toNat_natCast, Nat.zero_le, bI_0, b01_0, bI_or, b01_or, ne_eq, reduceCtorEq, not_false_eq_true, Nat.reduceEqDiff, if_true, if_false, ite_true, ite_false, Int.natCast_nonneg, fup_same, h1]
    simp only [r81_3, r81_4, r81_7, r81_8, r81_9, r81_10, r81_13, r81_16, r81_19, r81_22, CallR_iff (sp_pass hwi hm), reduceIte, Option.some.injEq, and_assoc, exists_and_left, exists_eq_left, exists_eq_left', true_and, and_true, List.length_cons, List.length_nil, Nat.reduceAdd, Nat.reduceLeDiff, Sum.inl.injEq, az_0, az_1, az_2, az_3, az_4, az_5, az_6, az_8, az_11, az_14, az_15, az_17, az_20, az_21, az_22, az_23, az_24, az_25, az_26, az_28, az_29, az_30, az_31, az_32, az_33, az_34, az_35, az_36, ak_0, ak_1, ak_2, ak_3, ak_4, ak_5, ak_6, ak_8, ak_11, ak_14, ak_15, ak_17, ak_20, ak_21, ak_22, ak_23, ak_24, ak_25, ak_26, ak_28, ak_29, ak_30, ak_31, ak_32, ak_33, ak_34, ak_35, ak_36, ak_37, eq_self, Int.toNat_natCast, Nat.zero_le, bI_0, b01_0, bI_or, b01_or, ne_eq, reduceCtorEq, not_false_eq_true, Nat.reduceEqDiff, if_true, if_false, ite_true, ite_false, Int.natCast_nonneg, fup_same, fup_fup, h1, wr_s (show i < 2147483647 by omega)]
    exact Iff.rfl
theorem sp_follow {d g : Nat} {h : AH} {r n : Int} (hw : WF (h g)) (h0 : 0 ≤ n) (hn : n < 2147483647) : CallR (d + 5) 81 [vR g 7, vI r, vI n] h none (fup h g (followV (h g) r n.toNat)) := by
  obtain ⟨m, rfl⟩ : ∃ m : Nat, n = (m : Int) := ⟨n.toNat, by omega⟩
  have L := lp_follow (d := d) (g := g) (h := h) (r := r) (n := m) (Q := fun v' h2 => v' = none ∧ h2 = fup h g (followV (h g) r m)) hw (by omega) m 0 (by omega)
  rw [show followV (h g) r 0 = h g from rfl, fup_id] at L
  rw [cr_81]
  simp only [r81_0, r81_1, Int.toNat_natCast]
  exact L.mpr ⟨rfl, rfl⟩
def seedN (s : Int) : Int := wr (wr (s * 1103515245) + 12345)
def seedV (V : VS) : VS := fup V 7 (fup (V 7) 16 (seedN (V 7 16)))
theorem sp_draw {d g : Nat} {h : AH} {n : Int} (hn : 0 < n) : CallR (d + 1) 83 [vR g 7, vI n] h (some (vI (opRem (opUshr (seedN (h g 7 16)) 16) n))) (fup h g (seedV (h g))) := by
  rw [cr_83]
  simp only [r83_0, r83_1, r83_2, r83_5, r83_7, r83_8, r83_11, r83_12, r83_15, r83_16, r83_19, r83_20, r83_23, r83_25, r83_26, r83_27, r83_28, r83_31, r83_32, reduceIte, Option.some.injEq, and_assoc, exists_and_left, exists_eq_left, exists_eq_left', true_and, and_true, List.length_cons, List.length_nil, Nat.reduceAdd, Nat.reduceLeDiff, Sum.inl.injEq, az_0, az_1, az_2, az_3, az_4, az_5, az_6, az_8, az_11, az_14, az_15, az_17, az_20, az_21, az_22, az_23, az_24, az_25, az_26, az_28, az_29, az_30, az_31, az_32, az_33, az_34, az_35, az_36, ak_0, ak_1, ak_2, ak_3, ak_4, ak_5, ak_6, ak_8, ak_11, ak_14, ak_15, ak_17, ak_20, ak_21, ak_22, ak_23, ak_24, ak_25, ak_26, ak_28, ak_29, ak_30, ak_31, ak_32, ak_33, ak_34, ak_35, ak_36, ak_37, eq_self, Int.toNat_natCast, Nat.zero_le, bI_0, b01_0, bI_or, b01_or, ne_eq, reduceCtorEq, not_false_eq_true, Nat.reduceEqDiff, if_true, if_false, ite_true, ite_false, Int.natCast_nonneg, up3, fup_same, hn]
  have : ¬ n = 0 := by omega
  simp only [this, not_false_eq_true, true_and]
  exact ⟨rfl, rfl⟩
/-- becoming another -/
def becV (V W : VS) : VS := fup (fup (fup (fup (fup (fup (fup V 0 (W 0)) 1 (W 1)) 2 (W 2)) 4 (W 4)) 5 (W 5)) 6 (W 6)) 7 (fup (fup (fup (fup (fup (fup (fup (fup (fup (fup (V 7) 7 (W 7 7)) 8 (W 7 8)) 9 (W 7 9)) 10 (W 7 10)) 11 (W 7 11)) 12 (W 7 12)) 13 (W 7 13)) 14 (W 7 14)) 15 (W 7 15)) 16 (W 7 16))
theorem acp {h : AH} {g m g1 m1 : Nat} {n : Int} (e : n.toNat = alenN m) (e1 : n.toNat = alenN m1) : acopy h g m g1 m1 (Int.toNat 0) (Int.toNat 0) n.toNat = fup h g1 (fup (h g1) m1 (h g m)) := by
  unfold acopy
  rw [if_pos ⟨rfl, rfl, e, e1⟩]
theorem sp_become {d g g' : Nat} {h : AH} (hne : g' ≠ g) : CallR (d + 1) 40 [vR g 7, vR g' 7] h none (fup h g (becV (h g) (h g'))) := by
  rw [cr_40]
  simp only [r40_0, r40_0n, r40_0s, r40_1, r40_4, r40_5, r40_6, r40_9, r40_10, r40_12, r40_15, r40_15n, r40_15s, r40_16, r40_19, r40_20, r40_21, r40_24, r40_25, r40_27, r40_30, r40_30n, r40_30s, r40_31, r40_34, r40_35, r40_36, r40_39, r40_40, r40_42, r40_45, r40_45n, r40_45s, r40_46, r40_49, r40_50, r40_51, r40_54, r40_55, r40_57, r40_60, r40_60n, r40_60s, r40_61, r40_64, r40_65, r40_66, r40_69, r40_70, r40_72, r40_75, r40_75n, r40_75s, r40_76, r40_79, r40_80, r40_81, r40_84, r40_85, r40_86, r40_89, r40_90, r40_90n, r40_90s, r40_91, r40_94, r40_97, r40_98, r40_98n, r40_98s, r40_99, r40_102, r40_105, r40_106, r40_106n, r40_106s, r40_107, r40_110, r40_113, r40_114, r40_114n, r40_114s, r40_115, r40_118, r40_121, r40_122, r40_122n, r40_122s, r40_123, r40_126, r40_129, r40_130, r40_130n, r40_130s, r40_131, r40_134, r40_137, r40_138, r40_138n, r40_138s, r40_139, r40_142, r40_145, r40_146, r40_146n, r40_146s, r40_147, r40_150, r40_153, r40_154, r40_154n, r40_154s, r40_155, r40_158, r40_161, r40_162, r40_162n, r40_162s, r40_163, r40_166, r40_169, reduceIte, Option.some.injEq, and_assoc, exists_and_left, exists_eq_left, exists_eq_left', true_and, and_true, List.length_cons, List.length_nil, Nat.reduceAdd, Nat.reduceLeDiff, Sum.inl.injEq, az_0, az_1, az_2, az_3, az_4, az_5, az_6, az_8, az_11, az_14, az_15, az_17, az_20, az_21, az_22, az_23, az_24, az_25, az_26, az_28, az_29, az_30, az_31, az_32, az_33, az_34, az_35, az_36, ak_0, ak_1, ak_2, ak_3, ak_4, ak_5, ak_6, ak_8, ak_11, ak_14, ak_15, ak_17, ak_20, ak_21, ak_22, ak_23, ak_24, ak_25, ak_26, ak_28, ak_29, ak_30, ak_31, ak_32, ak_33, ak_34, ak_35, ak_36, ak_37, eq_self, Int.toNat_natCast, Nat.zero_le, bI_0, b01_0, bI_or, b01_or, ne_eq, reduceCtorEq, not_false_eq_true, Nat.reduceEqDiff, if_true, if_false, ite_true, ite_false, Int.natCast_nonneg, acp (m := 0) (m1 := 0) (n := 8) rfl rfl, acp (m := 1) (m1 := 1) (n := 8) rfl rfl, acp (m := 2) (m1 := 2) (n := 8) rfl rfl, acp (m := 4) (m1 := 4) (n := 12) rfl rfl, acp (m := 5) (m1 := 5) (n := 12) rfl rfl, acp (m := 6) (m1 := 6) (n := 4) rfl rfl, up3, fup_same, fup_fup, fup_ne _ _ hne]
  unfold becV
  simp [fup_same, fup_ne, hne, fup_fup]
