/-! PURE: first questions, both sides -/
def wsF (V : VS) (w : Int) (b : Nat) : Int := if V 5 b ≠ 200 ∧ (w = -1 ∨ V 5 b = w) then priceB V b else 0
theorem ws_eq {V : VS} (hw : WF V) (w : Int) (h2 : w ≠ 200) : sumN (wsF V w) (nB V) = if w = -1 then worthV V else worthA V w := by
  have h0 := hw.bd.2.2.1
  have h8 := hw.bd.2.1
  by_cases a : w = -1
  · rw [if_pos a]
    unfold worthV
    refine sumN_congr _ (fun j hj => ?_)
    unfold wsF
    by_cases b : V 5 j = 200
    · rw [if_neg (fun q => q.1 b)]
      have hb := hw.bt j (by unfold nB at hj; omega)
      unfold priceB
      have : V 4 j = 0 := by omega
      rw [this]
      exact hw.pr.1.symm
    · rw [if_pos ⟨b, Or.inl a⟩]
  · rw [if_neg a]
    unfold worthA
    refine sumN_congr _ (fun j hj => ?_)
    unfold wsF
    by_cases b : V 5 j = w
    · rw [if_pos ⟨by omega, Or.inr b⟩, if_pos b]
    · rw [if_neg (by omega), if_neg b]
theorem sm_worthOf {d : Nat} {h : AH} {w : Int} (hw : WF (RV (h 17))) (h2 : w ≠ 200) : CallR (d + 2) 195 [vR 17 27, vI w] h (some (vI (if w = -1 then worthV (RV (h 17)) else worthA (RV (h 17)) w))) h := by
  have h0 := hw.bd.2.2.1
  have h12 := WF.nB12 hw.bd
  rw [← ws_eq hw w h2]
  have L := lo_up (P := fun i => At (CallR (d + 1)) ac_195 4 [vR 17 27, vI w, vI (sumN (wsF (RV (h 17)) w) i), vI (i : Int)] [] h (fun v' h2 => v' = some (vI (sumN (wsF (RV (h 17)) w) (nB (RV (h 17))))) ∧ h2 = h)) (nB (RV (h 17))) (fun i hi => by
    have h1 : (i : Int) < h 17 27 8 := by unfold nB at hi; rw [RV_7] at h0 hi; omega
    have h3 : (i : Int) < 12 := by omega
    have hbd := sumN_bd (f := wsF (RV (h 17)) w) (B := 99) i (fun j _ => by
      have := hw.priceB j
      unfold wsF
      split <;> omega)
    have hs := hw.priceB i
    have hc := clsF_bd (h 17 24 i)
    have e2 : sumN (wsF (RV (h 17)) w) (i + 1) = sumN (wsF (RV (h 17)) w) i + wsF (RV (h 17)) w i := rfl
    have e3 : wr (sumN (wsF (RV (h 17)) w) i + h 17 26 (clsF (h 17 24 i)).toNat) = sumN (wsF (RV (h 17)) w) i + priceB (RV (h 17)) i := by
      show wr (sumN (wsF (RV (h 17)) w) i + priceB (RV (h 17)) i) = _
      exact wr_id (by omega) (by omega)
    rw [r195_4]
    simp only [r195_5, r195_6, r195_9, r195_12, r195_13, r195_16, r195_17, r195_18, r195_21, r195_24, r195_25, r195_26, r195_29, r195_30, r195_33, r195_34, r195_35, r195_36, r195_39, r195_40, r195_41, r195_44, r195_45, r195_48, r195_49, r195_50, r195_53, r195_54, r195_55, r195_56, r195_59, r195_62, r195_63, CallR_iff sm_classOf, reduceIte, Option.some.injEq, and_assoc, exists_and_left, exists_eq_left, exists_eq_left', true_and, and_true, List.length_cons, List.length_nil, Nat.reduceAdd, Nat.reduceLeDiff, Sum.inl.injEq, az_0, az_1, az_2, az_3, az_4, az_5, az_6, az_8, az_11, az_14, az_15, az_17, az_20, az_21, az_22, az_23, az_24, az_25, az_26, az_28, az_29, az_30, az_31, az_32, az_33, az_34, az_35, az_36, ak_0, ak_1, ak_2, ak_3, ak_4, ak_5, ak_6, ak_8, ak_11, ak_14, ak_15, ak_17, ak_20, ak_21, ak_22, ak_23, ak_24, ak_25, ak_26, ak_28, ak_29, ak_30, ak_31, ak_32, ak_33, ak_34, ak_35, ak_36, ak_37, eq_self, Int.toNat_natCast, Nat.zero_le, bI_0, b01_0, bI_or, b01_or, ne_eq, reduceCtorEq, not_false_eq_true, Nat.reduceEqDiff, if_true, if_false, ite_true, ite_false, Int.natCast_nonneg, not_true_eq_false, Bool.true_eq_false, Bool.false_eq_true, Int.reduceEq, Int.reduceLT, Int.reduceLE, Int.reduceToNat, and_self, inA, h1, h3, hc, wr_s (show i < 2147483647 by omega), e2, e3]
    unfold wsF
    rw [RV_5]
    by_cases a : h 17 25 i = 200
    · simp [a]
    · by_cases b : w = -1
      · simp [a, b]
      · by_cases c : h 17 25 i = w
        · simp [b, c, h2]
        · simp [a, b, c])
  rw [cr_195]
  simp only [r195_0, r195_1, r195_2, r195_3]
  refine L.mpr ?_
  have hn : ¬ ((nB (RV (h 17)) : Nat) : Int) < h 17 27 8 := by unfold nB; rw [RV_7] at h0 ⊢; omega
  rw [r195_4]
  simp only [r195_5, r195_6, r195_9, r195_12, r195_13, r195_16, r195_17, r195_18, r195_21, r195_24, r195_25, r195_26, r195_29, r195_30, r195_33, r195_34, r195_35, r195_36, r195_39, r195_40, r195_41, r195_44, r195_45, r195_48, r195_49, r195_50, r195_53, r195_54, r195_55, r195_56, r195_59, r195_62, r195_63, reduceIte, Option.some.injEq, and_assoc, exists_and_left, exists_eq_left, exists_eq_left', true_and, and_true, List.length_cons, List.length_nil, Nat.reduceAdd, Nat.reduceLeDiff, Sum.inl.injEq, az_0, az_1, az_2, az_3, az_4, az_5, az_6, az_8, az_11, az_14, az_15, az_17, az_20, az_21, az_22, az_23, az_24, az_25, az_26, az_28, az_29, az_30, az_31, az_32, az_33, az_34, az_35, az_36, ak_0, ak_1, ak_2, ak_3, ak_4, ak_5, ak_6, ak_8, ak_11, ak_14, ak_15, ak_17, ak_20, ak_21, ak_22, ak_23, ak_24, ak_25, ak_26, ak_28, ak_29, ak_30, ak_31, ak_32, ak_33, ak_34, ak_35, ak_36, ak_37, eq_self, Int.toNat_natCast, Nat.zero_le, bI_0, b01_0, bI_or, b01_or, ne_eq, reduceCtorEq, not_false_eq_true, Nat.reduceEqDiff, if_true, if_false, ite_true, ite_false, Int.natCast_nonneg, not_true_eq_false, Bool.true_eq_false, Bool.false_eq_true, Int.reduceEq, Int.reduceLT, Int.reduceLE, Int.reduceToNat, and_self, inA, hn]
theorem ok_worth {S : VS} {d : Nat} {h : AH} (R : REL S h) : OKI S d 123 218 [] h := by
  have hw := R.w
  have hw0 := R.w0
  refine ⟨worthV (RV (h 17)), h, h, ?_, ?_, R⟩
  · rw [← R.ev.c_worthV]
    rw [cr_123]; simp only [r123_0, r123_1, r123_4, r123_7, CallR_iff (sp_worthV hw0), reduceIte, Option.some.injEq, and_assoc, exists_and_left, exists_eq_left, exists_eq_left', true_and, and_true, List.length_cons, List.length_nil, Nat.reduceAdd, Nat.reduceLeDiff, Sum.inl.injEq, az_0, az_1, az_2, az_3, az_4, az_5, az_6, az_8, az_11, az_14, az_15, az_17, az_20, az_21, az_22, az_23, az_24, az_25, az_26, az_28, az_29, az_30, az_31, az_32, az_33, az_34, az_35, az_36, ak_0, ak_1, ak_2, ak_3, ak_4, ak_5, ak_6, ak_8, ak_11, ak_14, ak_15, ak_17, ak_20, ak_21, ak_22, ak_23, ak_24, ak_25, ak_26, ak_28, ak_29, ak_30, ak_31, ak_32, ak_33, ak_34, ak_35, ak_36, ak_37, eq_self, Int.toNat_natCast, Nat.zero_le, bI_0, b01_0, bI_or, b01_or, ne_eq, reduceCtorEq, not_false_eq_true, Nat.reduceEqDiff, if_true, if_false, ite_true, ite_false, Int.natCast_nonneg, not_true_eq_false, Bool.true_eq_false, Bool.false_eq_true, Int.reduceEq, Int.reduceLT, Int.reduceLE, Int.reduceToNat, and_self, inA]
  · rw [cr_218]; simp only [r218_0, r218_1, r218_2, r218_5, CallR_iff (sm_worthOf (w := -1) hw (by decide)), reduceIte, Option.some.injEq, and_assoc, exists_and_left, exists_eq_left, exists_eq_left', true_and, and_true, List.length_cons, List.length_nil, Nat.reduceAdd, Nat.reduceLeDiff, Sum.inl.injEq, az_0, az_1, az_2, az_3, az_4, az_5, az_6, az_8, az_11, az_14, az_15, az_17, az_20, az_21, az_22, az_23, az_24, az_25, az_26, az_28, az_29, az_30, az_31, az_32, az_33, az_34, az_35, az_36, ak_0, ak_1, ak_2, ak_3, ak_4, ak_5, ak_6, ak_8, ak_11, ak_14, ak_15, ak_17, ak_20, ak_21, ak_22, ak_23, ak_24, ak_25, ak_26, ak_28, ak_29, ak_30, ak_31, ak_32, ak_33, ak_34, ak_35, ak_36, ak_37, eq_self, Int.toNat_natCast, Nat.zero_le, bI_0, b01_0, bI_or, b01_or, ne_eq, reduceCtorEq, not_false_eq_true, Nat.reduceEqDiff, if_true, if_false, ite_true, ite_false, Int.natCast_nonneg, not_true_eq_false, Bool.true_eq_false, Bool.false_eq_true, Int.reduceEq, Int.reduceLT, Int.reduceLE, Int.reduceToNat, and_self, inA]
theorem ok_fault {S : VS} {d : Nat} {h : AH} (R : REL S h) : OKI S d 100 182 [] h := by
  refine ⟨h 17 27 20, h, h, ?_, ?_, R⟩
  · have e : h 16 10 9 = h 17 27 20 := R.2.2.2.2.2.1
    rw [cr_100]; simp only [r100_0, r100_1, r100_4, e, reduceIte, Option.some.injEq, and_assoc, exists_and_left, exists_eq_left, exists_eq_left', true_and, and_true, List.length_cons, List.length_nil, Nat.reduceAdd, Nat.reduceLeDiff, Sum.inl.injEq, az_0, az_1, az_2, az_3, az_4, az_5, az_6, az_8, az_11, az_14, az_15, az_17, az_20, az_21, az_22, az_23, az_24, az_25, az_26, az_28, az_29, az_30, az_31, az_32, az_33, az_34, az_35, az_36, ak_0, ak_1, ak_2, ak_3, ak_4, ak_5, ak_6, ak_8, ak_11, ak_14, ak_15, ak_17, ak_20, ak_21, ak_22, ak_23, ak_24, ak_25, ak_26, ak_28, ak_29, ak_30, ak_31, ak_32, ak_33, ak_34, ak_35, ak_36, ak_37, eq_self, Int.toNat_natCast, Nat.zero_le, bI_0, b01_0, bI_or, b01_or, ne_eq, reduceCtorEq, not_false_eq_true, Nat.reduceEqDiff, if_true, if_false, ite_true, ite_false, Int.natCast_nonneg, not_true_eq_false, Bool.true_eq_false, Bool.false_eq_true, Int.reduceEq, Int.reduceLT, Int.reduceLE, Int.reduceToNat, and_self, inA]
  · rw [cr_182]; simp only [r182_0, r182_1, r182_4, reduceIte, Option.some.injEq, and_assoc, exists_and_left, exists_eq_left, exists_eq_left', true_and, and_true, List.length_cons, List.length_nil, Nat.reduceAdd, Nat.reduceLeDiff, Sum.inl.injEq, az_0, az_1, az_2, az_3, az_4, az_5, az_6, az_8, az_11, az_14, az_15, az_17, az_20, az_21, az_22, az_23, az_24, az_25, az_26, az_28, az_29, az_30, az_31, az_32, az_33, az_34, az_35, az_36, ak_0, ak_1, ak_2, ak_3, ak_4, ak_5, ak_6, ak_8, ak_11, ak_14, ak_15, ak_17, ak_20, ak_21, ak_22, ak_23, ak_24, ak_25, ak_26, ak_28, ak_29, ak_30, ak_31, ak_32, ak_33, ak_34, ak_35, ak_36, ak_37, eq_self, Int.toNat_natCast, Nat.zero_le, bI_0, b01_0, bI_or, b01_or, ne_eq, reduceCtorEq, not_false_eq_true, Nat.reduceEqDiff, if_true, if_false, ite_true, ite_false, Int.natCast_nonneg, not_true_eq_false, Bool.true_eq_false, Bool.false_eq_true, Int.reduceEq, Int.reduceLT, Int.reduceLE, Int.reduceToNat, and_self, inA]
theorem wf_seed {V : VS} (hw : WF V) (x : Int) : WF (fup V 7 (fup (V 7) 16 x)) := hw.nums rfl rfl rfl rfl rfl rfl rfl rfl hw.you hw.coins hw.hour hw.wind hw.sun hw.tender
theorem ok_seed {S : VS} {d : Nat} {h : AH} {v : Int} (R : REL S h) : OKI S d 128 224 [vI v] h := by
  have hw := R.w
  have E := R.ev
  have e : h 0 7 16 = h 17 27 16 := E.at7 (k := 16) (by omega) (by omega)
  refine ⟨h 17 27 16, fup h 0 (fup (h 0) 7 (fup (h 0 7) 16 v)), fup (fup h 0 (fup (h 0) 7 (fup (h 0 7) 16 v))) 17 (setRV (h 17) (fup (RV (h 17)) 7 (fup (RV (h 17) 7) 16 v))), ?_, ?_, R.nowp (SX.rf h) (wf_seed hw v) (E.n1 rfl) (FRM.w (FRM.n1 (FRM.rf _) (by omega) _)) (by show RV (h 17) 7 7 ≤ RV (h 17) 7 7; omega)⟩
  · rw [cr_128]; simp only [r128_0, r128_1, r128_4, r128_7, r128_8, r128_9, r128_12, r128_13, r128_16, r128_17, e, up3, reduceIte, Option.some.injEq, and_assoc, exists_and_left, exists_eq_left, exists_eq_left', true_and, and_true, List.length_cons, List.length_nil, Nat.reduceAdd, Nat.reduceLeDiff, Sum.inl.injEq, az_0, az_1, az_2, az_3, az_4, az_5, az_6, az_8, az_11, az_14, az_15, az_17, az_20, az_21, az_22, az_23, az_24, az_25, az_26, az_28, az_29, az_30, az_31, az_32, az_33, az_34, az_35, az_36, ak_0, ak_1, ak_2, ak_3, ak_4, ak_5, ak_6, ak_8, ak_11, ak_14, ak_15, ak_17, ak_20, ak_21, ak_22, ak_23, ak_24, ak_25, ak_26, ak_28, ak_29, ak_30, ak_31, ak_32, ak_33, ak_34, ak_35, ak_36, ak_37, eq_self, Int.toNat_natCast, Nat.zero_le, bI_0, b01_0, bI_or, b01_or, ne_eq, reduceCtorEq, not_false_eq_true, Nat.reduceEqDiff, if_true, if_false, ite_true, ite_false, Int.natCast_nonneg, not_true_eq_false, Bool.true_eq_false, Bool.false_eq_true, Int.reduceEq, Int.reduceLT, Int.reduceLE, Int.reduceToNat, and_self, inA]
  · rw [cr_224]; simp only [r224_0, r224_1, r224_4, r224_5, r224_6, r224_7, r224_10, r224_11, up3, fup_same, fup_fup, fR_0, fR_1, fR_2, fR_3, fR_4, fR_5, fR_6, fR_7, fR_8, fR_9, fR_10, fR_11, fR_12, fR_13, fR_14, fR_15, fR_16, RV_set, set_set, sV_0, sV_1, sV_2, sV_3, sV_4, sV_5, sV_6, sV_7, sV_8, sV_9, sV_10, sV_11, sV_12, sV_13, sV_14, sV_15, sV_16, RV_0, RV_1, RV_2, RV_3, RV_4, RV_5, RV_6, RV_7, RV_8, RV_9, RV_10, RV_11, RV_12, RV_13, RV_14, RV_15, RV_16, fup_ne, reduceIte, Option.some.injEq, and_assoc, exists_and_left, exists_eq_left, exists_eq_left', true_and, and_true, List.length_cons, List.length_nil, Nat.reduceAdd, Nat.reduceLeDiff, Sum.inl.injEq, az_0, az_1, az_2, az_3, az_4, az_5, az_6, az_8, az_11, az_14, az_15, az_17, az_20, az_21, az_22, az_23, az_24, az_25, az_26, az_28, az_29, az_30, az_31, az_32, az_33, az_34, az_35, az_36, ak_0, ak_1, ak_2, ak_3, ak_4, ak_5, ak_6, ak_8, ak_11, ak_14, ak_15, ak_17, ak_20, ak_21, ak_22, ak_23, ak_24, ak_25, ak_26, ak_28, ak_29, ak_30, ak_31, ak_32, ak_33, ak_34, ak_35, ak_36, ak_37, eq_self, Int.toNat_natCast, Nat.zero_le, bI_0, b01_0, bI_or, b01_or, ne_eq, reduceCtorEq, not_false_eq_true, Nat.reduceEqDiff, if_true, if_false, ite_true, ite_false, Int.natCast_nonneg, not_true_eq_false, Bool.true_eq_false, Bool.false_eq_true, Int.reduceEq, Int.reduceLT, Int.reduceLE, Int.reduceToNat, and_self, inA]
theorem ok_trace {S : VS} {d : Nat} {h : AH} {i : Int} (R : REL S h) : OKI S d 130 230 [vI i] h := by
  obtain ⟨x1, x2, x3, x4⟩ := R.2.2.2.2.2.2.1
  rw [RV_7] at x1 x2 x3 x4
  rw [RV_12] at x4
  have hx : ∀ x, (x = if 0 ≤ i ∧ i < h 17 27 21 ∧ i < 20 then h 17 32 i.toNat else -1) → CallR (d + 30) 130 [vR 16 10, vI i] h (some (vI x)) h := by
    rintro x rfl
    rw [cr_130]
    have hb : CallR (d + 29) 19 [vR 16 16, vI i] h (some (vI (if 0 ≤ i ∧ i < h 17 27 21 ∧ i < 20 then h 17 32 i.toNat else -1))) h := by
      rw [cr_19]; simp only [r19_0, r19_1, r19_4, r19_5, r19_6, r19_9, r19_12, r19_13, r19_15, r19_18, r19_19, r19_22, r19_23, r19_24, r19_27, r19_28, x1, reduceIte, Option.some.injEq, and_assoc, exists_and_left, exists_eq_left, exists_eq_left', true_and, and_true, List.length_cons, List.length_nil, Nat.reduceAdd, Nat.reduceLeDiff, Sum.inl.injEq, az_0, az_1, az_2, az_3, az_4, az_5, az_6, az_8, az_11, az_14, az_15, az_17, az_20, az_21, az_22, az_23, az_24, az_25, az_26, az_28, az_29, az_30, az_31, az_32, az_33, az_34, az_35, az_36, ak_0, ak_1, ak_2, ak_3, ak_4, ak_5, ak_6, ak_8, ak_11, ak_14, ak_15, ak_17, ak_20, ak_21, ak_22, ak_23, ak_24, ak_25, ak_26, ak_28, ak_29, ak_30, ak_31, ak_32, ak_33, ak_34, ak_35, ak_36, ak_37, eq_self, Int.toNat_natCast, Nat.zero_le, bI_0, b01_0, bI_or, b01_or, ne_eq, reduceCtorEq, not_false_eq_true, Nat.reduceEqDiff, if_true, if_false, ite_true, ite_false, Int.natCast_nonneg, not_true_eq_false, Bool.true_eq_false, Bool.false_eq_true, Int.reduceEq, Int.reduceLT, Int.reduceLE, Int.reduceToNat, and_self, inA]
      by_cases a : i < 0
      · simp [a, show ¬ 0 ≤ i by omega]
      · by_cases b : i < h 17 27 21
        · by_cases c : i < 20
          · have := x4 i.toNat (by omega) (by omega)
            simp [a, b, c, show 0 ≤ i by omega, this]
          · simp [a, b, c]
        · simp [a, b]
    simp only [r130_0, r130_1, r130_4, r130_5, r130_8, CallR_iff hb, reduceIte, Option.some.injEq, and_assoc, exists_and_left, exists_eq_left, exists_eq_left', true_and, and_true, List.length_cons, List.length_nil, Nat.reduceAdd, Nat.reduceLeDiff, Sum.inl.injEq, az_0, az_1, az_2, az_3, az_4, az_5, az_6, az_8, az_11, az_14, az_15, az_17, az_20, az_21, az_22, az_23, az_24, az_25, az_26, az_28, az_29, az_30, az_31, az_32, az_33, az_34, az_35, az_36, ak_0, ak_1, ak_2, ak_3, ak_4, ak_5, ak_6, ak_8, ak_11, ak_14, ak_15, ak_17, ak_20, ak_21, ak_22, ak_23, ak_24, ak_25, ak_26, ak_28, ak_29, ak_30, ak_31, ak_32, ak_33, ak_34, ak_35, ak_36, ak_37, eq_self, Int.toNat_natCast, Nat.zero_le, bI_0, b01_0, bI_or, b01_or, ne_eq, reduceCtorEq, not_false_eq_true, Nat.reduceEqDiff, if_true, if_false, ite_true, ite_false, Int.natCast_nonneg, not_true_eq_false, Bool.true_eq_false, Bool.false_eq_true, Int.reduceEq, Int.reduceLT, Int.reduceLE, Int.reduceToNat, and_self, inA]
  refine ⟨_, h, h, hx _ rfl, ?_, R⟩
  rw [cr_230]; simp only [r230_0, r230_1, r230_4, r230_5, r230_6, r230_9, r230_12, r230_13, r230_15, r230_18, r230_19, r230_22, r230_23, r230_24, r230_27, r230_28, reduceIte, Option.some.injEq, and_assoc, exists_and_left, exists_eq_left, exists_eq_left', true_and, and_true, List.length_cons, List.length_nil, Nat.reduceAdd, Nat.reduceLeDiff, Sum.inl.injEq, az_0, az_1, az_2, az_3, az_4, az_5, az_6, az_8, az_11, az_14, az_15, az_17, az_20, az_21, az_22, az_23, az_24, az_25, az_26, az_28, az_29, az_30, az_31, az_32, az_33, az_34, az_35, az_36, ak_0, ak_1, ak_2, ak_3, ak_4, ak_5, ak_6, ak_8, ak_11, ak_14, ak_15, ak_17, ak_20, ak_21, ak_22, ak_23, ak_24, ak_25, ak_26, ak_28, ak_29, ak_30, ak_31, ak_32, ak_33, ak_34, ak_35, ak_36, ak_37, eq_self, Int.toNat_natCast, Nat.zero_le, bI_0, b01_0, bI_or, b01_or, ne_eq, reduceCtorEq, not_false_eq_true, Nat.reduceEqDiff, if_true, if_false, ite_true, ite_false, Int.natCast_nonneg, not_true_eq_false, Bool.true_eq_false, Bool.false_eq_true, Int.reduceEq, Int.reduceLT, Int.reduceLE, Int.reduceToNat, and_self, inA]
  by_cases a : i < 0
  · simp [a, show ¬ 0 ≤ i by omega]
  · by_cases b : i < h 17 27 21
    · by_cases c : i < 20
      · simp [a, b, c, show 0 ≤ i by omega]
      · simp [a, b, c]
    · simp [a, b]
theorem ok_holds {S : VS} {d : Nat} {h : AH} {s : Int} (R : REL S h) : OKI S d 89 154 [vI s] h := by
  by_cases hs : 0 ≤ s ∧ s < 8
  · obtain ⟨m, rfl⟩ : ∃ m : Nat, s = (m : Int) := ⟨s.toNat, by omega⟩
    have e := (R.sh (s := m) (by omega)).1
    have h7 : (m : Int) ≤ 7 := by omega
    rw [RV_8] at e
    refine ⟨h 17 28 m, h, h, ?_, ?_, R⟩
    · rw [cr_89]; simp only [r89_0, r89_1, r89_2, r89_5, r89_6, r89_6n, r89_6s, r89_7, r89_7n, r89_10, r89_11, r89_14, r89_14n, r89_14s, r89_15, r89_18, CallR_iff (sx_shelf hs.1 hs.2), e, reduceIte, Option.some.injEq, and_assoc, exists_and_left, exists_eq_left, exists_eq_left', true_and, and_true, List.length_cons, List.length_nil, Nat.reduceAdd, Nat.reduceLeDiff, Sum.inl.injEq, az_0, az_1, az_2, az_3, az_4, az_5, az_6, az_8, az_11, az_14, az_15, az_17, az_20, az_21, az_22, az_23, az_24, az_25, az_26, az_28, az_29, az_30, az_31, az_32, az_33, az_34, az_35, az_36, ak_0, ak_1, ak_2, ak_3, ak_4, ak_5, ak_6, ak_8, ak_11, ak_14, ak_15, ak_17, ak_20, ak_21, ak_22, ak_23, ak_24, ak_25, ak_26, ak_28, ak_29, ak_30, ak_31, ak_32, ak_33, ak_34, ak_35, ak_36, ak_37, eq_self, Int.toNat_natCast, Nat.zero_le, bI_0, b01_0, bI_or, b01_or, ne_eq, reduceCtorEq, not_false_eq_true, Nat.reduceEqDiff, if_true, if_false, ite_true, ite_false, Int.natCast_nonneg, not_true_eq_false, Bool.true_eq_false, Bool.false_eq_true, Int.reduceEq, Int.reduceLT, Int.reduceLE, Int.reduceToNat, and_self, inA]
    · rw [cr_154]; simp only [r154_0, r154_1, r154_2, r154_4, r154_7, r154_10, r154_11, r154_14, r154_15, r154_16, r154_19, r154_20, CallR_iff sm_within, h7, hs.2, reduceIte, Option.some.injEq, and_assoc, exists_and_left, exists_eq_left, exists_eq_left', true_and, and_true, List.length_cons, List.length_nil, Nat.reduceAdd, Nat.reduceLeDiff, Sum.inl.injEq, az_0, az_1, az_2, az_3, az_4, az_5, az_6, az_8, az_11, az_14, az_15, az_17, az_20, az_21, az_22, az_23, az_24, az_25, az_26, az_28, az_29, az_30, az_31, az_32, az_33, az_34, az_35, az_36, ak_0, ak_1, ak_2, ak_3, ak_4, ak_5, ak_6, ak_8, ak_11, ak_14, ak_15, ak_17, ak_20, ak_21, ak_22, ak_23, ak_24, ak_25, ak_26, ak_28, ak_29, ak_30, ak_31, ak_32, ak_33, ak_34, ak_35, ak_36, ak_37, eq_self, Int.toNat_natCast, Nat.zero_le, bI_0, b01_0, bI_or, b01_or, ne_eq, reduceCtorEq, not_false_eq_true, Nat.reduceEqDiff, if_true, if_false, ite_true, ite_false, Int.natCast_nonneg, not_true_eq_false, Bool.true_eq_false, Bool.false_eq_true, Int.reduceEq, Int.reduceLT, Int.reduceLE, Int.reduceToNat, and_self, inA]
  · refine ⟨-1, h, h, ?_, ?_, R⟩
    · rw [cr_89]; simp only [r89_0, r89_1, r89_2, r89_5, r89_6, r89_6n, r89_6s, r89_7, r89_7n, r89_10, r89_11, r89_14, r89_14n, r89_14s, r89_15, r89_18, CallR_iff (sx_shelfN hs), reduceIte, Option.some.injEq, and_assoc, exists_and_left, exists_eq_left, exists_eq_left', true_and, and_true, List.length_cons, List.length_nil, Nat.reduceAdd, Nat.reduceLeDiff, Sum.inl.injEq, az_0, az_1, az_2, az_3, az_4, az_5, az_6, az_8, az_11, az_14, az_15, az_17, az_20, az_21, az_22, az_23, az_24, az_25, az_26, az_28, az_29, az_30, az_31, az_32, az_33, az_34, az_35, az_36, ak_0, ak_1, ak_2, ak_3, ak_4, ak_5, ak_6, ak_8, ak_11, ak_14, ak_15, ak_17, ak_20, ak_21, ak_22, ak_23, ak_24, ak_25, ak_26, ak_28, ak_29, ak_30, ak_31, ak_32, ak_33, ak_34, ak_35, ak_36, ak_37, eq_self, Int.toNat_natCast, Nat.zero_le, bI_0, b01_0, bI_or, b01_or, ne_eq, reduceCtorEq, not_false_eq_true, Nat.reduceEqDiff, if_true, if_false, ite_true, ite_false, Int.natCast_nonneg, not_true_eq_false, Bool.true_eq_false, Bool.false_eq_true, Int.reduceEq, Int.reduceLT, Int.reduceLE, Int.reduceToNat, and_self, inA]
    · rw [cr_154]; simp only [r154_0, r154_1, r154_2, r154_4, r154_7, r154_10, r154_11, r154_14, r154_15, r154_16, r154_19, r154_20, CallR_iff sm_within, show ¬ (0 ≤ s ∧ s ≤ 7) by omega, reduceIte, Option.some.injEq, and_assoc, exists_and_left, exists_eq_left, exists_eq_left', true_and, and_true, List.length_cons, List.length_nil, Nat.reduceAdd, Nat.reduceLeDiff, Sum.inl.injEq, az_0, az_1, az_2, az_3, az_4, az_5, az_6, az_8, az_11, az_14, az_15, az_17, az_20, az_21, az_22, az_23, az_24, az_25, az_26, az_28, az_29, az_30, az_31, az_32, az_33, az_34, az_35, az_36, ak_0, ak_1, ak_2, ak_3, ak_4, ak_5, ak_6, ak_8, ak_11, ak_14, ak_15, ak_17, ak_20, ak_21, ak_22, ak_23, ak_24, ak_25, ak_26, ak_28, ak_29, ak_30, ak_31, ak_32, ak_33, ak_34, ak_35, ak_36, ak_37, eq_self, Int.toNat_natCast, Nat.zero_le, bI_0, b01_0, bI_or, b01_or, ne_eq, reduceCtorEq, not_false_eq_true, Nat.reduceEqDiff, if_true, if_false, ite_true, ite_false, Int.natCast_nonneg, not_true_eq_false, Bool.true_eq_false, Bool.false_eq_true, Int.reduceEq, Int.reduceLT, Int.reduceLE, Int.reduceToNat, and_self, inA]
theorem ok_does {S : VS} {d : Nat} {h : AH} {a : Int} (R : REL S h) : OKI S d 126 221 [vI a] h := by
  have E := R.ev
  have hw := R.w
  have hw0 := R.w0
  cases hm : mayV (RV (h 17)) a
  · have hm0 : mayV (h 0) a = false := by rw [E.c_mayV, hm]
    refine R.refused (c := -6) (x := -6) ?_ (fun h1 e => ?_)
    · rw [cr_126]; simp only [r126_0, r126_1, r126_4, r126_5, r126_8, r126_11, r126_12, r126_14, r126_17, r126_18, r126_19, r126_22, r126_23, r126_26, r126_27, r126_30, r126_33, CallR_iff (sp_allows hw0), CallR_iff (sx_refuse (c := -6) (by decide) (by decide)), hm0, reduceIte, Option.some.injEq, and_assoc, exists_and_left, exists_eq_left, exists_eq_left', true_and, and_true, List.length_cons, List.length_nil, Nat.reduceAdd, Nat.reduceLeDiff, Sum.inl.injEq, az_0, az_1, az_2, az_3, az_4, az_5, az_6, az_8, az_11, az_14, az_15, az_17, az_20, az_21, az_22, az_23, az_24, az_25, az_26, az_28, az_29, az_30, az_31, az_32, az_33, az_34, az_35, az_36, ak_0, ak_1, ak_2, ak_3, ak_4, ak_5, ak_6, ak_8, ak_11, ak_14, ak_15, ak_17, ak_20, ak_21, ak_22, ak_23, ak_24, ak_25, ak_26, ak_28, ak_29, ak_30, ak_31, ak_32, ak_33, ak_34, ak_35, ak_36, ak_37, eq_self, Int.toNat_natCast, Nat.zero_le, bI_0, b01_0, bI_or, b01_or, ne_eq, reduceCtorEq, not_false_eq_true, Nat.reduceEqDiff, if_true, if_false, ite_true, ite_false, Int.natCast_nonneg, not_true_eq_false, Bool.true_eq_false, Bool.false_eq_true, Int.reduceEq, Int.reduceLT, Int.reduceLE, Int.reduceToNat, and_self, inA]
    · rw [← e] at hm hw
      rw [cr_221]; simp only [r221_0, r221_1, r221_2, r221_5, r221_8, r221_9, r221_11, r221_14, r221_15, r221_16, r221_17, r221_20, r221_21, r221_24, CallR_iff (sm_may hw), CallR_iff (sm_no (c := -6) (by decide) (by decide)), hm, reduceIte, Option.some.injEq, and_assoc, exists_and_left, exists_eq_left, exists_eq_left', true_and, and_true, List.length_cons, List.length_nil, Nat.reduceAdd, Nat.reduceLeDiff, Sum.inl.injEq, az_0, az_1, az_2, az_3, az_4, az_5, az_6, az_8, az_11, az_14, az_15, az_17, az_20, az_21, az_22, az_23, az_24, az_25, az_26, az_28, az_29, az_30, az_31, az_32, az_33, az_34, az_35, az_36, ak_0, ak_1, ak_2, ak_3, ak_4, ak_5, ak_6, ak_8, ak_11, ak_14, ak_15, ak_17, ak_20, ak_21, ak_22, ak_23, ak_24, ak_25, ak_26, ak_28, ak_29, ak_30, ak_31, ak_32, ak_33, ak_34, ak_35, ak_36, ak_37, eq_self, Int.toNat_natCast, Nat.zero_le, bI_0, b01_0, bI_or, b01_or, ne_eq, reduceCtorEq, not_false_eq_true, Nat.reduceEqDiff, if_true, if_false, ite_true, ite_false, Int.natCast_nonneg, not_true_eq_false, Bool.true_eq_false, Bool.false_eq_true, Int.reduceEq, Int.reduceLT, Int.reduceLE, Int.reduceToNat, and_self, inA]
  · have hm0 : mayV (h 0) a = true := by rw [E.c_mayV, hm]
    have EP := E.c_passV a
    refine ⟨passV (RV (h 17)) a 7 10, fup h 0 (passV (h 0) a), fup (fup h 0 (passV (h 0) a)) 17 (setRV (h 17) (passV (RV (h 17)) a)), ?_, ?_, R.nowp (SX.rf h) (pass_wf hw hm) EP (FRM.w (FRM.pass (FRM.rf _) _)) (by rw [(FIX.pass (RV (h 17)) a).2.2.2.1]; omega)⟩
    · rw [← EP.at7 (k := 10) (by omega) (by omega)]
      rw [cr_126]; simp only [r126_0, r126_1, r126_4, r126_5, r126_8, r126_11, r126_12, r126_14, r126_17, r126_18, r126_19, r126_22, r126_23, r126_26, r126_27, r126_30, r126_33, CallR_iff (sp_allows hw0), CallR_iff (sp_pass hw0 hm0), hm0, fup_same, reduceIte, Option.some.injEq, and_assoc, exists_and_left, exists_eq_left, exists_eq_left', true_and, and_true, List.length_cons, List.length_nil, Nat.reduceAdd, Nat.reduceLeDiff, Sum.inl.injEq, az_0, az_1, az_2, az_3, az_4, az_5, az_6, az_8, az_11, az_14, az_15, az_17, az_20, az_21, az_22, az_23, az_24, az_25, az_26, az_28, az_29, az_30, az_31, az_32, az_33, az_34, az_35, az_36, ak_0, ak_1, ak_2, ak_3, ak_4, ak_5, ak_6, ak_8, ak_11, ak_14, ak_15, ak_17, ak_20, ak_21, ak_22, ak_23, ak_24, ak_25, ak_26, ak_28, ak_29, ak_30, ak_31, ak_32, ak_33, ak_34, ak_35, ak_36, ak_37, eq_self, Int.toNat_natCast, Nat.zero_le, bI_0, b01_0, bI_or, b01_or, ne_eq, reduceCtorEq, not_false_eq_true, Nat.reduceEqDiff, if_true, if_false, ite_true, ite_false, Int.natCast_nonneg, not_true_eq_false, Bool.true_eq_false, Bool.false_eq_true, Int.reduceEq, Int.reduceLT, Int.reduceLE, Int.reduceToNat, and_self, inA]
    · have hw1 : WF (RV ((fup h 0 (passV (h 0) a)) 17)) := hw
      have hm1 : mayV (RV ((fup h 0 (passV (h 0) a)) 17)) a = true := hm
      rw [cr_221]; simp only [r221_0, r221_1, r221_2, r221_5, r221_8, r221_9, r221_11, r221_14, r221_15, r221_16, r221_17, r221_20, r221_21, r221_24, CallR_iff (sm_may hw1), CallR_iff (sm_goOn hw1 hm1), hm, up3, fup_same, fup_fup, fR_0, fR_1, fR_2, fR_3, fR_4, fR_5, fR_6, fR_7, fR_8, fR_9, fR_10, fR_11, fR_12, fR_13, fR_14, fR_15, fR_16, RV_set, set_set, sV_0, sV_1, sV_2, sV_3, sV_4, sV_5, sV_6, sV_7, sV_8, sV_9, sV_10, sV_11, sV_12, sV_13, sV_14, sV_15, sV_16, RV_0, RV_1, RV_2, RV_3, RV_4, RV_5, RV_6, RV_7, RV_8, RV_9, RV_10, RV_11, RV_12, RV_13, RV_14, RV_15, RV_16, fup_ne, reduceIte, Option.some.injEq, and_assoc, exists_and_left, exists_eq_left, exists_eq_left', true_and, and_true, List.length_cons, List.length_nil, Nat.reduceAdd, Nat.reduceLeDiff, Sum.inl.injEq, az_0, az_1, az_2, az_3, az_4, az_5, az_6, az_8, az_11, az_14, az_15, az_17, az_20, az_21, az_22, az_23, az_24, az_25, az_26, az_28, az_29, az_30, az_31, az_32, az_33, az_34, az_35, az_36, ak_0, ak_1, ak_2, ak_3, ak_4, ak_5, ak_6, ak_8, ak_11, ak_14, ak_15, ak_17, ak_20, ak_21, ak_22, ak_23, ak_24, ak_25, ak_26, ak_28, ak_29, ak_30, ak_31, ak_32, ak_33, ak_34, ak_35, ak_36, ak_37, eq_self, Int.toNat_natCast, Nat.zero_le, bI_0, b01_0, bI_or, b01_or, ne_eq, reduceCtorEq, not_false_eq_true, Nat.reduceEqDiff, if_true, if_false, ite_true, ite_false, Int.natCast_nonneg, not_true_eq_false, Bool.true_eq_false, Bool.false_eq_true, Int.reduceEq, Int.reduceLT, Int.reduceLE, Int.reduceToNat, and_self, inA]
