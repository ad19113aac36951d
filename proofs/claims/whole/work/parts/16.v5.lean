theorem fup3 {α : Type} (f : Nat → α) {k l : Nat} (a b c : α) (h : k ≠ l) : fup (fup (fup f k a) l b) k c = fup (fup f k c) l b := by
  rw [fup_comm _ _ _ h.symm, fup_fup]
theorem fogV_r {V V' : VS} (h2 : V' 2 = V 2) (h7 : V' 7 7 = V 7 7) (p : Int) : fogV V' p = fogV V p := by unfold fogV hpB; rw [h2, h7]
theorem fill_2 (V : VS) (s x : Int) : fillV V s x 2 = V 2 := by unfold fillV; split <;> rfl
theorem fill_77 (V : VS) (s x : Int) : fillV V s x 7 7 = V 7 7 := by unfold fillV; split <;> rfl
theorem fill_79 (V : VS) (s x : Int) : fillV V s x 7 9 = V 7 9 := by unfold fillV; split <;> rfl
theorem fogV_bd {V : VS} (hw : WF V) (p : Int) : 0 ≤ fogV V p ∧ fogV V p ≤ 99 := by
  unfold fogV
  split
  · next hq =>
    have h1 := hpB_iff.mp hq
    have := hw.pl p.toNat (by omega)
    omega
  · omega
theorem sp_perform {d g : Nat} {h : AH} {a : Int} (hw : WF (h g)) (hm : mayV (h g) a = true) : CallR (d + 3) 72 [vR g 7, vI a] h none (fup h g (actV (h g) a)) := by
  have hb := hw.bd
  have hy := hw.you
  have hf := fogV_bd hw (h g 7 9)
  have e1 : wr (h g 7 9 + 1) = h g 7 9 + 1 := wr_id (by omega) (by have := hb.2.1; omega)
  have e2 : wr (h g 7 9 - 1) = h g 7 9 - 1 := wr_id (by omega) (by have := hb.2.1; omega)
  have e3 : wr (fogV (h g) (h g 7 9) - 10) = fogV (h g) (h g 7 9) - 10 := wr_id (by omega) (by omega)
  rw [cr_72]
  by_cases h1 : a = 1
  · have hfr : freeV (h g) ≠ -1 := by
      subst h1
      unfold mayV at hm
      simp at hm
      exact hm.2.2
    simp only [r72_0, r72_1, r72_40, r72_41, r72_43, r72_44, r72_45, r72_48, r72_51, r72_54, r72_55, r72_56, r72_57, r72_60, r72_61, r72_62, r72_65, r72_68, r72_70, r72_71, r72_74, r72_77, r72_78, r72_78r, r72_79, r72_82, r72_83, r72_84, r72_87, r72_90, r72_91, r72_91r, r72_92, r72_95, r72_96, r72_97, r72_100, r72_103, r72_104, r72_107, r72_110, r72_111, r72_114, r72_117, r72_118, r72_119, r72_120, r72_123, r72_126, r72_128, r72_131, r72_134, CallR_iff sp_fogAt, CallR_iff (sp_fill hb hfr), CallR_iff sp_setFog, reduceIte, Option.some.injEq, and_assoc, exists_and_left, exists_eq_left, exists_eq_left', true_and, and_true, List.length_cons, List.length_nil, Nat.reduceAdd, Nat.reduceLeDiff, Sum.inl.injEq, az_0, az_1, az_2, az_3, az_4, az_5, az_6, az_8, az_11, az_14, az_15, az_17, az_20, az_21, az_22, az_23, az_24, az_25, az_26, az_28, az_29, az_30, az_31, az_32, az_33, az_34, az_35, az_36, ak_0, ak_1, ak_2, ak_3, ak_4, ak_5, ak_6, ak_8, ak_11, ak_14, ak_15, ak_17, ak_20, ak_21, ak_22, ak_23, ak_24, ak_25, ak_26, ak_28, ak_29, ak_30, ak_31, ak_32, ak_33, ak_34, ak_35, ak_36, ak_37, eq_self, Int.toNat_natCast, Nat.zero_le, bI_0, b01_0, bI_or, b01_or, ne_eq, reduceCtorEq, not_false_eq_true, Nat.reduceEqDiff, if_true, if_false, ite_true, ite_false, Int.natCast_nonneg, h1, fup_same, fill_79, fogV_r (fill_2 _ _ _) (fill_77 _ _ _), e3, fup_fup]
    unfold actV gatherV
    simp
  · by_cases h2 : a = 2
    · simp only [r72_0, r72_1, r72_40, r72_41, r72_43, r72_44, r72_45, r72_48, r72_51, r72_54, r72_55, r72_56, r72_57, r72_60, r72_61, r72_62, r72_65, r72_68, r72_70, r72_71, r72_74, r72_77, r72_78, r72_78r, r72_79, r72_82, r72_83, r72_84, r72_87, r72_90, r72_91, r72_91r, r72_92, r72_95, r72_96, r72_97, r72_100, r72_103, r72_104, r72_107, r72_110, r72_111, r72_114, r72_117, r72_118, r72_119, r72_120, r72_123, r72_126, r72_128, r72_131, r72_134, reduceIte, Option.some.injEq, and_assoc, exists_and_left, exists_eq_left, exists_eq_left', true_and, and_true, List.length_cons, List.length_nil, Nat.reduceAdd, Nat.reduceLeDiff, Sum.inl.injEq, az_0, az_1, az_2, az_3, az_4, az_5, az_6, az_8, az_11, az_14, az_15, az_17, az_20, az_21, az_22, az_23, az_24, az_25, az_26, az_28, az_29, az_30, az_31, az_32, az_33, az_34, az_35, az_36, ak_0, ak_1, ak_2, ak_3, ak_4, ak_5, ak_6, ak_8, ak_11, ak_14, ak_15, ak_17, ak_20, ak_21, ak_22, ak_23, ak_24, ak_25, ak_26, ak_28, ak_29, ak_30, ak_31, ak_32, ak_33, ak_34, ak_35, ak_36, ak_37, eq_self, Int.toNat_natCast, Nat.zero_le, bI_0, b01_0, bI_or, b01_or, ne_eq, reduceCtorEq, not_false_eq_true, Nat.reduceEqDiff, if_true, if_false, ite_true, ite_false, Int.natCast_nonneg, h2, e1, up3]
      unfold actV youV
      simp
    · by_cases h3 : a = 3
      · simp only [r72_0, r72_1, r72_40, r72_41, r72_43, r72_44, r72_45, r72_48, r72_51, r72_54, r72_55, r72_56, r72_57, r72_60, r72_61, r72_62, r72_65, r72_68, r72_70, r72_71, r72_74, r72_77, r72_78, r72_78r, r72_79, r72_82, r72_83, r72_84, r72_87, r72_90, r72_91, r72_91r, r72_92, r72_95, r72_96, r72_97, r72_100, r72_103, r72_104, r72_107, r72_110, r72_111, r72_114, r72_117, r72_118, r72_119, r72_120, r72_123, r72_126, r72_128, r72_131, r72_134, reduceIte, Option.some.injEq, and_assoc, exists_and_left, exists_eq_left, exists_eq_left', true_and, and_true, List.length_cons, List.length_nil, Nat.reduceAdd, Nat.reduceLeDiff, Sum.inl.injEq, az_0, az_1, az_2, az_3, az_4, az_5, az_6, az_8, az_11, az_14, az_15, az_17, az_20, az_21, az_22, az_23, az_24, az_25, az_26, az_28, az_29, az_30, az_31, az_32, az_33, az_34, az_35, az_36, ak_0, ak_1, ak_2, ak_3, ak_4, ak_5, ak_6, ak_8, ak_11, ak_14, ak_15, ak_17, ak_20, ak_21, ak_22, ak_23, ak_24, ak_25, ak_26, ak_28, ak_29, ak_30, ak_31, ak_32, ak_33, ak_34, ak_35, ak_36, ak_37, eq_self, Int.toNat_natCast, Nat.zero_le, bI_0, b01_0, bI_or, b01_or, ne_eq, reduceCtorEq, not_false_eq_true, Nat.reduceEqDiff, if_true, if_false, ite_true, ite_false, Int.natCast_nonneg, h3, e2, up3]
        unfold actV youV
        simp
      · by_cases h4 : a = 4
        · simp only [r72_0, r72_1, r72_40, r72_41, r72_43, r72_44, r72_45, r72_48, r72_51, r72_54, r72_55, r72_56, r72_57, r72_60, r72_61, r72_62, r72_65, r72_68, r72_70, r72_71, r72_74, r72_77, r72_78, r72_78r, r72_79, r72_82, r72_83, r72_84, r72_87, r72_90, r72_91, r72_91r, r72_92, r72_95, r72_96, r72_97, r72_100, r72_103, r72_104, r72_107, r72_110, r72_111, r72_114, r72_117, r72_118, r72_119, r72_120, r72_123, r72_126, r72_128, r72_131, r72_134, CallR_iff (sp_spend hw), reduceIte, Option.some.injEq, and_assoc, exists_and_left, exists_eq_left, exists_eq_left', true_and, and_true, List.length_cons, List.length_nil, Nat.reduceAdd, Nat.reduceLeDiff, Sum.inl.injEq, az_0, az_1, az_2, az_3, az_4, az_5, az_6, az_8, az_11, az_14, az_15, az_17, az_20, az_21, az_22, az_23, az_24, az_25, az_26, az_28, az_29, az_30, az_31, az_32, az_33, az_34, az_35, az_36, ak_0, ak_1, ak_2, ak_3, ak_4, ak_5, ak_6, ak_8, ak_11, ak_14, ak_15, ak_17, ak_20, ak_21, ak_22, ak_23, ak_24, ak_25, ak_26, ak_28, ak_29, ak_30, ak_31, ak_32, ak_33, ak_34, ak_35, ak_36, ak_37, eq_self, Int.toNat_natCast, Nat.zero_le, bI_0, b01_0, bI_or, b01_or, ne_eq, reduceCtorEq, not_false_eq_true, Nat.reduceEqDiff, if_true, if_false, ite_true, ite_false, Int.natCast_nonneg, h4]
          unfold actV
          simp
        · by_cases h5 : a = 5
          · simp only [r72_0, r72_1, r72_40, r72_41, r72_43, r72_44, r72_45, r72_48, r72_51, r72_54, r72_55, r72_56, r72_57, r72_60, r72_61, r72_62, r72_65, r72_68, r72_70, r72_71, r72_74, r72_77, r72_78, r72_78r, r72_79, r72_82, r72_83, r72_84, r72_87, r72_90, r72_91, r72_91r, r72_92, r72_95, r72_96, r72_97, r72_100, r72_103, r72_104, r72_107, r72_110, r72_111, r72_114, r72_117, r72_118, r72_119, r72_120, r72_123, r72_126, r72_128, r72_131, r72_134, CallR_iff (sp_put hb), reduceIte, Option.some.injEq, and_assoc, exists_and_left, exists_eq_left, exists_eq_left', true_and, and_true, List.length_cons, List.length_nil, Nat.reduceAdd, Nat.reduceLeDiff, Sum.inl.injEq, az_0, az_1, az_2, az_3, az_4, az_5, az_6, az_8, az_11, az_14, az_15, az_17, az_20, az_21, az_22, az_23, az_24, az_25, az_26, az_28, az_29, az_30, az_31, az_32, az_33, az_34, az_35, az_36, ak_0, ak_1, ak_2, ak_3, ak_4, ak_5, ak_6, ak_8, ak_11, ak_14, ak_15, ak_17, ak_20, ak_21, ak_22, ak_23, ak_24, ak_25, ak_26, ak_28, ak_29, ak_30, ak_31, ak_32, ak_33, ak_34, ak_35, ak_36, ak_37, eq_self, Int.toNat_natCast, Nat.zero_le, bI_0, b01_0, bI_or, b01_or, ne_eq, reduceCtorEq, not_false_eq_true, Nat.reduceEqDiff, if_true, if_false, ite_true, ite_false, Int.natCast_nonneg, h5]
            unfold actV
            simp
          · by_cases h6 : a = 6
            · simp only [r72_0, r72_1, r72_40, r72_41, r72_43, r72_44, r72_45, r72_48, r72_51, r72_54, r72_55, r72_56, r72_57, r72_60, r72_61, r72_62, r72_65, r72_68, r72_70, r72_71, r72_74, r72_77, r72_78, r72_78r, r72_79, r72_82, r72_83, r72_84, r72_87, r72_90, r72_91, r72_91r, r72_92, r72_95, r72_96, r72_97, r72_100, r72_103, r72_104, r72_107, r72_110, r72_111, r72_114, r72_117, r72_118, r72_119, r72_120, r72_123, r72_126, r72_128, r72_131, r72_134, CallR_iff (sp_strongest hb), CallR_iff sp_lay, reduceIte, Option.some.injEq, and_assoc, exists_and_left, exists_eq_left, exists_eq_left', true_and, and_true, List.length_cons, List.length_nil, Nat.reduceAdd, Nat.reduceLeDiff, Sum.inl.injEq, az_0, az_1, az_2, az_3, az_4, az_5, az_6, az_8, az_11, az_14, az_15, az_17, az_20, az_21, az_22, az_23, az_24, az_25, az_26, az_28, az_29, az_30, az_31, az_32, az_33, az_34, az_35, az_36, ak_0, ak_1, ak_2, ak_3, ak_4, ak_5, ak_6, ak_8, ak_11, ak_14, ak_15, ak_17, ak_20, ak_21, ak_22, ak_23, ak_24, ak_25, ak_26, ak_28, ak_29, ak_30, ak_31, ak_32, ak_33, ak_34, ak_35, ak_36, ak_37, eq_self, Int.toNat_natCast, Nat.zero_le, bI_0, b01_0, bI_or, b01_or, ne_eq, reduceCtorEq, not_false_eq_true, Nat.reduceEqDiff, if_true, if_false, ite_true, ite_false, Int.natCast_nonneg, h6]
              unfold actV
              simp
            · simp only [r72_0, r72_1, r72_40, r72_41, r72_43, r72_44, r72_45, r72_48, r72_51, r72_54, r72_55, r72_56, r72_57, r72_60, r72_61, r72_62, r72_65, r72_68, r72_70, r72_71, r72_74, r72_77, r72_78, r72_78r, r72_79, r72_82, r72_83, r72_84, r72_87, r72_90, r72_91, r72_91r, r72_92, r72_95, r72_96, r72_97, r72_100, r72_103, r72_104, r72_107, r72_110, r72_111, r72_114, r72_117, r72_118, r72_119, r72_120, r72_123, r72_126, r72_128, r72_131, r72_134, reduceIte, Option.some.injEq, and_assoc, exists_and_left, exists_eq_left, exists_eq_left', true_and, and_true, List.length_cons, List.length_nil, Nat.reduceAdd, Nat.reduceLeDiff, Sum.inl.injEq, az_0, az_1, az_2, az_3, az_4, az_5, az_6, az_8, az_11, az_14, az_15, az_17, az_20, az_21, az_22, az_23, az_24, az_25, az_26, az_28, az_29, az_30, az_31, az_32, az_33, az_34, az_35, az_36, ak_0, ak_1, ak_2, ak_3, ak_4, ak_5, ak_6, ak_8, ak_11, ak_14, ak_15, ak_17, ak_20, ak_21, ak_22, ak_23, ak_24, ak_25, ak_26, ak_28, ak_29, ak_30, ak_31, ak_32, ak_33, ak_34, ak_35, ak_36, ak_37, eq_self, Int.toNat_natCast, Nat.zero_le, bI_0, b01_0, bI_or, b01_or, ne_eq, reduceCtorEq, not_false_eq_true, Nat.reduceEqDiff, if_true, if_false, ite_true, ite_false, Int.natCast_nonneg, h1, h2, h3, h4, h5, h6]
              unfold actV
              simp [h1, h2, h3, h4, h5, h6, fup_id]
theorem leakF_r {V V' : VS} (h0 : V' 0 = V 0) (h1 : V' 1 = V 1) (h7 : V' 7 = V 7) (s : Int) : leakF V' s = leakF V s := by unfold leakF leakK upV hpB; rw [h0, h1, h7]
def lk4 (V : VS) (b : Nat) : Int := if V 5 b = 200 then V 4 b else if leakS V b ≤ 0 then 0 else leakS V b
def lk5 (V : VS) (b : Nat) : Int := if V 5 b = 200 then 200 else if leakS V b ≤ 0 then 200 else V 5 b
def lkV (V : VS) (i : Nat) : VS := fup (fup V 4 (rowN (lk4 V) (V 4) i)) 5 (rowN (lk5 V) (V 5) i)
theorem lk_4 (V : VS) (i : Nat) : lkV V i 4 = rowN (lk4 V) (V 4) i := rfl
theorem lk_5 (V : VS) (i : Nat) : lkV V i 5 = rowN (lk5 V) (V 5) i := rfl
theorem lk_7 (V : VS) (i : Nat) : lkV V i 7 = V 7 := rfl
theorem lk_leak (V : VS) (i : Nat) (s : Int) : leakF (lkV V i) s = leakF V s := leakF_r rfl rfl rfl s
theorem lk_s1 (V : VS) (i : Nat) (h : V 5 i = 200) : lkV V (i + 1) = lkV V i := by
  unfold lkV
  rw [rowN_k _ _ _ (by unfold lk4; rw [if_pos h]), rowN_k _ _ _ (by unfold lk5; rw [if_pos h, h])]
theorem lk_s2 (V : VS) (i : Nat) (h : ¬ V 5 i = 200) (h2 : ¬ leakS V i ≤ 0) : lkV V (i + 1) = fup (lkV V i) 4 (fup (rowN (lk4 V) (V 4) i) i (leakS V i)) := by
  unfold lkV
  rw [fup3 _ _ _ _ (by decide), rowN_k (lk5 V) _ _ (by unfold lk5; rw [if_neg h, if_neg h2]), ← rowN_s]
  unfold lk4
  rw [if_neg h, if_neg h2]
theorem lk_s3 (V : VS) (i : Nat) (h : ¬ V 5 i = 200) (h2 : leakS V i ≤ 0) : lkV V (i + 1) = fup (fup (lkV V i) 4 (fup (rowN (lk4 V) (V 4) i) i 0)) 5 (fup (rowN (lk5 V) (V 5) i) i 200) := by
  unfold lkV
  rw [fup3 _ _ _ _ (by decide), fup3 _ _ _ _ (by decide), ← rowN_s, ← rowN_s]
  have e4 : lk4 V i = 0 := by unfold lk4; rw [if_neg h, if_pos h2]
  have e5 : lk5 V i = 200 := by unfold lk5; rw [if_neg h, if_pos h2]
  rw [e4, e5]
theorem lp_leak {d g : Nat} {h : AH} {Q : Option AV → AH → Prop} (hw : WF (h g)) : ∀ (k i : Nat), ((i + k : Nat) : Int) = h g 7 8 → (At (CallR (d + 2)) ac_77 2 [vR g 7, vI i] [] (fup h g (lkV (h g) i)) Q ↔ Q none (fup h g (lkV (h g) (i + k))))
  | 0, i, e => by
    have h1 : ¬ (i : Int) < h g 7 8 := by omega
    rw [r77_2]
    simp only [r77_3, r77_4, r77_7, r77_10, r77_11, r77_13, r77_16, r77_17, r77_20, r77_21, r77_22, r77_25, r77_28, r77_29, r77_32, r77_33, r77_34, r77_35, r77_36, r77_37, r77_40, r77_41, r77_42, r77_45, r77_46, r77_47, r77_48, r77_51, r77_52, r77_53, r77_56, r77_57, r77_58, r77_61, r77_64, r77_67, reduceIte, Option.some.injEq, and_assoc, exists_and_left, exists_eq_left, exists_eq_left', true_and, and_true, List.length_cons, List.length_nil, Nat.reduceAdd, Nat.reduceLeDiff, Sum.inl.injEq, az_0, az_1, az_2, az_3, az_4, az_5, az_6, az_8, az_11, az_14, az_15, az_17, az_20, az_21, az_22, az_23, az_24, az_25, az_26, az_28, az_29, az_30, az_31, az_32, az_33, az_34, az_35, az_36, ak_0, ak_1, ak_2, ak_3, ak_4, ak_5, ak_6, ak_8, ak_11, ak_14, ak_15, ak_17, ak_20, ak_21, ak_22, ak_23, ak_24, ak_25, ak_26, ak_28, ak_29, ak_30, ak_31, ak_32, ak_33, ak_34, ak_35, ak_36, ak_37, eq_self, Int.toNat_natCast, Nat.zero_le, bI_0, b01_0, bI_or, b01_or, ne_eq, reduceCtorEq, not_false_eq_true, Nat.reduceEqDiff, if_true, if_false, ite_true, ite_false, Int.natCast_nonneg, fup_same, lk_7, h1]
    exact Iff.rfl
  | k + 1, i, e => by
    have h4 := hw.bd.2.2.2
    have h1 : (i : Int) < h g 7 8 := by omega
    have h2 : (i : Int) < 12 := by omega
    have hs := hw.str (b := i) (by unfold nB; omega)
    have hl := leakF_bd (h g) (h g 5 i)
    have ih := lp_leak (d := d) (Q := Q) hw k (i + 1) (by omega)
    have e1 : wr (h g 4 i - leakF (h g) (h g 5 i)) = leakS (h g) i := wr_id (by omega) (by omega)
    rw [show i + 1 + k = i + (k + 1) by omega] at ih
    rw [← ih, r77_2]
    simp only [r77_3, r77_4, r77_7, r77_10, r77_11, r77_13, r77_16, r77_17, r77_20, r77_21, r77_22, r77_25, r77_28, r77_29, r77_32, r77_33, r77_34, r77_35, r77_36, r77_37, r77_40, r77_41, r77_42, r77_45, r77_46, r77_47, r77_48, r77_51, r77_52, r77_53, r77_56, r77_57, r77_58, r77_61, r77_64, r77_67, CallR_iff sp_leakAt, CallR_iff sp_drain, reduceIte, Option.some.injEq, and_assoc, exists_and_left, exists_eq_left, exists_eq_left', true_and, and_true, List.length_cons, List.length_nil, Nat.reduceAdd, Nat.reduceLeDiff, Sum.inl.injEq, az_0, az_1, az_2, az_3, az_4, az_5, az_6, az_8, az_11, az_14, az_15, az_17, az_20, az_21, az_22, az_23, az_24, az_25, az_26, az_28, az_29, az_30, az_31, az_32, az_33, az_34, az_35, az_36, ak_0, ak_1, ak_2, ak_3, ak_4, ak_5, ak_6, ak_8, ak_11, ak_14, ak_15, ak_17, ak_20, ak_21, ak_22, ak_23, ak_24, ak_25, ak_26, ak_28, ak_29, ak_30, ak_31, ak_32, ak_33, ak_34, ak_35, ak_36, ak_37, eq_self, Int.toNat_natCast, Nat.zero_le, bI_0, b01_0, bI_or, b01_or, ne_eq, reduceCtorEq, not_false_eq_true, Nat.reduceEqDiff, if_true, if_false, ite_true, ite_false, Int.natCast_nonneg, fup_same, fup_ne, fup_fup, up3, h1, h2, wr_s (show i < 2147483647 by omega), lk_4, lk_5, lk_7, lk_leak, rowN_at, e1]
    by_cases hq : h g 5 i = 200
    · rw [if_pos hq, lk_s1 _ _ hq]
    · rw [if_neg hq]
      by_cases hr : 0 < leakS (h g) i
      · rw [if_pos hr, lk_s2 _ _ hq (by omega)]
      · rw [if_neg hr, lk_s3 _ _ hq (by omega)]
        simp only [drainV, Int.natCast_nonneg, h2, and_self, if_true, Int.toNat_natCast, fup_same, fup_fup]
        rw [show fup (lkV (h g) i) 4 (fup (rowN (lk4 (h g)) (h g 4) i) i (leakS (h g) i)) 5 = rowN (lk5 (h g)) (h g 5) i from rfl]
theorem sp_leakAll {d g : Nat} {h : AH} (hw : WF (h g)) : CallR (d + 3) 77 [vR g 7] h none (fup h g (leakV (h g))) := by
  have h0 := hw.bd.2.2.1
  have L := lp_leak (d := d) (g := g) (h := h) (Q := fun v' h2 => v' = none ∧ h2 = fup h g (leakV (h g))) hw (nB (h g)) 0 (by unfold nB; omega)
  have e0 : lkV (h g) 0 = h g := by unfold lkV; rw [rowN_0, rowN_0, fup_id, fup_id]
  rw [e0, fup_id] at L
  rw [cr_77]
  simp only [r77_0, r77_1]
  exact L.mpr ⟨rfl, by rw [Nat.zero_add]; rfl⟩
