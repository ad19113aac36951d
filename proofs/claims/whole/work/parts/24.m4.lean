/-! PURE: the reference's hour, its loops -/
theorem wr_days (x : Int) : wr (wr (x + 1)) = wr (x + 1) := by unfold wr; exact Int.bmod_bmod
def gmr (V : VS) (i : Nat) : VS := mrV V i
theorem lm_end {d : Nat} {h : AH} {V : VS} {a b c : AV} {Q : Option AV → AH → Prop} (hw : WF V) : At (CallR d) ac_189 291 [vR 17 27, a, b, c] [] (fup h 17 (setRV (h 17) V)) Q ↔ Q none (fup h 17 (setRV (h 17) (hourV V))) := by
  have hh := hw.hour
  have e1 : wr (V 7 11 + 1) = V 7 11 + 1 := wr_id (by omega) (by omega)
  simp only [r189_291, r189_292, r189_292r, r189_293, r189_296, r189_297, r189_298, r189_301, r189_302, r189_305, r189_307, r189_310, r189_311, r189_312, r189_313, r189_316, r189_317, r189_317r, r189_318, r189_321, r189_322, r189_323, r189_326, reduceIte, Option.some.injEq, and_assoc, exists_and_left, exists_eq_left, exists_eq_left', true_and, and_true, List.length_cons, List.length_nil, Nat.reduceAdd, Nat.reduceLeDiff, Sum.inl.injEq, az_0, az_1, az_2, az_3, az_4, az_5, az_6, az_8, az_11, az_14, az_15, az_17, az_20, az_21, az_22, az_23, az_24, az_25, az_26, az_28, az_29, az_30, az_31, az_32, az_33, az_34, az_35, az_36, ak_0, ak_1, ak_2, ak_3, ak_4, ak_5, ak_6, ak_8, ak_11, ak_14, ak_15, ak_17, ak_20, ak_21, ak_22, ak_23, ak_24, ak_25, ak_26, ak_28, ak_29, ak_30, ak_31, ak_32, ak_33, ak_34, ak_35, ak_36, ak_37, eq_self, Int.toNat_natCast, Nat.zero_le, bI_0, b01_0, bI_or, b01_or, ne_eq, reduceCtorEq, not_false_eq_true, Nat.reduceEqDiff, if_true, if_false, ite_true, ite_false, Int.natCast_nonneg, up3, fup_same, fup_fup, fR_0, fR_1, fR_2, fR_3, fR_4, fR_5, fR_6, fR_7, fR_8, fR_9, fR_10, fR_11, fR_12, fR_13, fR_14, fR_15, fR_16, RV_set, set_set, sV_0, sV_1, sV_2, sV_3, sV_4, sV_5, sV_6, sV_7, sV_8, sV_9, sV_10, sV_11, sV_12, sV_13, sV_14, sV_15, sV_16, RV_0, RV_1, RV_2, RV_3, RV_4, RV_5, RV_6, RV_7, RV_8, RV_9, RV_10, RV_11, RV_12, RV_13, RV_14, RV_15, RV_16, fup_ne, fS_7, e1]
  unfold hourV
  by_cases hq : 23 < V 7 11 + 1
  · rw [if_pos hq, if_neg (by omega)]
  · rw [if_neg hq, if_pos (by omega)]
theorem lm_marsh {d : Nat} {h : AH} {V : VS} {a c : AV} {Q : Option AV → AH → Prop} (hw : WF V) : ∀ (k i : Nat), ((i + k : Nat) : Int) = V 7 7 → (At (CallR d) ac_189 243 [vR 17 27, a, vI i, c] [] (fup h 17 (setRV (h 17) (mrV V i))) Q ↔ Q none (fup h 17 (setRV (h 17) (hourV (mrV V (i + k))))))
  | 0, i, e => by
    have h1 : ¬ (i : Int) < V 7 7 := by omega
    have hwm : WF (mrV V i) := by
      have := marsh_wf hw
      rwa [show marshV V = mrV V (nP V) from rfl, show nP V = i by unfold nP; omega] at this
    rw [r189_243]
    simp only [r189_244, r189_245, r189_248, r189_251, r189_252, r189_255, r189_256, r189_257, r189_258, r189_261, r189_262, r189_265, r189_266, r189_268, r189_269, r189_272, r189_273, r189_274, r189_275, r189_278, r189_279, r189_280, r189_281, r189_284, r189_285, r189_288, reduceIte, Option.some.injEq, and_assoc, exists_and_left, exists_eq_left, exists_eq_left', true_and, and_true, List.length_cons, List.length_nil, Nat.reduceAdd, Nat.reduceLeDiff, Sum.inl.injEq, az_0, az_1, az_2, az_3, az_4, az_5, az_6, az_8, az_11, az_14, az_15, az_17, az_20, az_21, az_22, az_23, az_24, az_25, az_26, az_28, az_29, az_30, az_31, az_32, az_33, az_34, az_35, az_36, ak_0, ak_1, ak_2, ak_3, ak_4, ak_5, ak_6, ak_8, ak_11, ak_14, ak_15, ak_17, ak_20, ak_21, ak_22, ak_23, ak_24, ak_25, ak_26, ak_28, ak_29, ak_30, ak_31, ak_32, ak_33, ak_34, ak_35, ak_36, ak_37, eq_self, Int.toNat_natCast, Nat.zero_le, bI_0, b01_0, bI_or, b01_or, ne_eq, reduceCtorEq, not_false_eq_true, Nat.reduceEqDiff, if_true, if_false, ite_true, ite_false, Int.natCast_nonneg, up3, fup_same, fup_fup, fR_0, fR_1, fR_2, fR_3, fR_4, fR_5, fR_6, fR_7, fR_8, fR_9, fR_10, fR_11, fR_12, fR_13, fR_14, fR_15, fR_16, RV_set, set_set, sV_0, sV_1, sV_2, sV_3, sV_4, sV_5, sV_6, sV_7, sV_8, sV_9, sV_10, sV_11, sV_12, sV_13, sV_14, sV_15, sV_16, RV_0, RV_1, RV_2, RV_3, RV_4, RV_5, RV_6, RV_7, RV_8, RV_9, RV_10, RV_11, RV_12, RV_13, RV_14, RV_15, RV_16, fup_ne, h1, show mrV V i 7 = V 7 from rfl]
    exact lm_end hwm
  | k + 1, i, e => by
    have h4 := hw.bd.2.1
    have h1 : (i : Int) < V 7 7 := by omega
    have h2 : (i : Int) < 8 := by omega
    have hp := hw.pl i (by omega)
    have ih := lm_marsh (d := d) (h := h) (a := a) (c := c) (Q := Q) hw k (i + 1) (by omega)
    have e1 : wr (V 2 i + V 1 i) = V 2 i + V 1 i := wr_id (by omega) (by omega)
    have e4 : mrV V i 2 i = V 2 i := by rw [mr_2, rowN_at]
    rw [show i + 1 + k = i + (k + 1) by omega] at ih
    rw [← ih, r189_243]
    simp only [r189_244, r189_245, r189_248, r189_251, r189_252, r189_255, r189_256, r189_257, r189_258, r189_261, r189_262, r189_265, r189_266, r189_268, r189_269, r189_272, r189_273, r189_274, r189_275, r189_278, r189_279, r189_280, r189_281, r189_284, r189_285, r189_288, reduceIte, Option.some.injEq, and_assoc, exists_and_left, exists_eq_left, exists_eq_left', true_and, and_true, List.length_cons, List.length_nil, Nat.reduceAdd, Nat.reduceLeDiff, Sum.inl.injEq, az_0, az_1, az_2, az_3, az_4, az_5, az_6, az_8, az_11, az_14, az_15, az_17, az_20, az_21, az_22, az_23, az_24, az_25, az_26, az_28, az_29, az_30, az_31, az_32, az_33, az_34, az_35, az_36, ak_0, ak_1, ak_2, ak_3, ak_4, ak_5, ak_6, ak_8, ak_11, ak_14, ak_15, ak_17, ak_20, ak_21, ak_22, ak_23, ak_24, ak_25, ak_26, ak_28, ak_29, ak_30, ak_31, ak_32, ak_33, ak_34, ak_35, ak_36, ak_37, eq_self, Int.toNat_natCast, Nat.zero_le, bI_0, b01_0, bI_or, b01_or, ne_eq, reduceCtorEq, not_false_eq_true, Nat.reduceEqDiff, if_true, if_false, ite_true, ite_false, Int.natCast_nonneg, up3, fup_same, fup_fup, fR_0, fR_1, fR_2, fR_3, fR_4, fR_5, fR_6, fR_7, fR_8, fR_9, fR_10, fR_11, fR_12, fR_13, fR_14, fR_15, fR_16, RV_set, set_set, sV_0, sV_1, sV_2, sV_3, sV_4, sV_5, sV_6, sV_7, sV_8, sV_9, sV_10, sV_11, sV_12, sV_13, sV_14, sV_15, sV_16, RV_0, RV_1, RV_2, RV_3, RV_4, RV_5, RV_6, RV_7, RV_8, RV_9, RV_10, RV_11, RV_12, RV_13, RV_14, RV_15, RV_16, fup_ne, fS_2, h1, h2, wr_s (show i < 2147483647 by omega), show mrV V i 7 = V 7 from rfl, show mrV V i 0 = V 0 from rfl, show mrV V i 1 = V 1 from rfl, e1, e4]
    by_cases hq : V 0 i = 5
    · have e5 : fup (mrV V i) 2 (fup (mrV V i 2) i (amin 99 (V 2 i + V 1 i))) = mrV V (i + 1) := by
        rw [mr_2]
        unfold mrV
        rw [fup_fup, ← rowN_s]
        simp only [hq, if_true]
      rw [if_pos hq, e5]
    · have e5 : mrV V (i + 1) = mrV V i := by
        unfold mrV
        rw [rowN_k _ _ _ (by simp only [hq, if_false])]
      rw [if_neg hq, e5]
theorem lm_m {d : Nat} {h : AH} {V : VS} {a b c : AV} {Q : Option AV → AH → Prop} (hw : WF V) : At (CallR d) ac_189 241 [vR 17 27, a, b, c] [] (fup h 17 (setRV (h 17) V)) Q ↔ Q none (fup h 17 (setRV (h 17) (hourV (marshV V)))) := by
  have h0 := hw.bd.1
  have L := lm_marsh (d := d) (h := h) (a := a) (c := c) (Q := Q) hw (nP V) 0 (by unfold nP; omega)
  rw [show mrV V 0 = V by unfold mrV; rw [rowN_0, fup_id], Nat.zero_add] at L
  simp only [r189_241, r189_242]
  exact L
theorem lm_w2 {d : Nat} {h : AH} {V : VS} {a : AV} {Q : Option AV → AH → Prop} (hw : WF V) : ∀ (k i : Nat) (c : AV), ((i + k : Nat) : Int) = V 7 7 → (At (CallR (d + 2)) ac_189 177 [vR 17 27, a, vI i, c] [] (fup h 17 (setRV (h 17) (w2V V i))) Q ↔ Q none (fup h 17 (setRV (h 17) (hourV (marshV (w2V V (i + k)))))))
  | 0, i, c, e => by
    have h1 : ¬ (i : Int) < V 7 7 := by omega
    have h4 := hw.bd.2.1
    rw [r189_177]
    simp only [r189_178, r189_179, r189_182, r189_185, r189_186, r189_187, r189_190, r189_191, r189_192, r189_193, r189_196, r189_197, r189_199, r189_200, r189_203, r189_204, r189_205, r189_206, r189_209, r189_210, r189_211, r189_212, r189_213, r189_214, r189_217, r189_220, r189_221, r189_224, r189_225, r189_226, r189_229, r189_230, r189_231, r189_234, r189_235, r189_238, reduceIte, Option.some.injEq, and_assoc, exists_and_left, exists_eq_left, exists_eq_left', true_and, and_true, List.length_cons, List.length_nil, Nat.reduceAdd, Nat.reduceLeDiff, Sum.inl.injEq, az_0, az_1, az_2, az_3, az_4, az_5, az_6, az_8, az_11, az_14, az_15, az_17, az_20, az_21, az_22, az_23, az_24, az_25, az_26, az_28, az_29, az_30, az_31, az_32, az_33, az_34, az_35, az_36, ak_0, ak_1, ak_2, ak_3, ak_4, ak_5, ak_6, ak_8, ak_11, ak_14, ak_15, ak_17, ak_20, ak_21, ak_22, ak_23, ak_24, ak_25, ak_26, ak_28, ak_29, ak_30, ak_31, ak_32, ak_33, ak_34, ak_35, ak_36, ak_37, eq_self, Int.toNat_natCast, Nat.zero_le, bI_0, b01_0, bI_or, b01_or, ne_eq, reduceCtorEq, not_false_eq_true, Nat.reduceEqDiff, if_true, if_false, ite_true, ite_false, Int.natCast_nonneg, up3, fup_same, fup_fup, fR_0, fR_1, fR_2, fR_3, fR_4, fR_5, fR_6, fR_7, fR_8, fR_9, fR_10, fR_11, fR_12, fR_13, fR_14, fR_15, fR_16, RV_set, set_set, sV_0, sV_1, sV_2, sV_3, sV_4, sV_5, sV_6, sV_7, sV_8, sV_9, sV_10, sV_11, sV_12, sV_13, sV_14, sV_15, sV_16, RV_0, RV_1, RV_2, RV_3, RV_4, RV_5, RV_6, RV_7, RV_8, RV_9, RV_10, RV_11, RV_12, RV_13, RV_14, RV_15, RV_16, fup_ne, h1, show w2V V i 7 = V 7 from rfl]
    exact lm_m (w2_wf hw i (by omega))
  | k + 1, i, c, e => by
    have h4 := hw.bd.2.1
    have h1 : (i : Int) < V 7 7 := by omega
    have h2 : (i : Int) < 8 := by omega
    have h9 : (i : Int) < 9 := by omega
    have hp := hw.pl i (by omega)
    have hwd := hw.wind
    have hs := windT_bd hw (p := i) (by omega)
    have ih := lm_w2 (d := d) (h := h) (a := a) (Q := Q) hw k (i + 1)
    have e0 : wr ((i : Int) - V 7 13) = (i : Int) - V 7 13 := wr_id (by omega) (by omega)
    have e1 : wr (V 2 i - windT V i) = V 2 i - windT V i := wr_id (by omega) (by omega)
    have b3 : w2V V i 3 = rowN (windT V) (V 3) (nP V) := rfl
    have b3i : rowN (windT V) (V 3) (nP V) i = windT V i := by unfold rowN nP; rw [if_pos (by omega)]
    have e4 : w2V V i 2 i = V 2 i := by rw [w2_2, rowN_at]
    have hc := comesV_bd hw i
    have e2 : wr (V 2 i - windT V i + comesV V i) = V 2 i - windT V i + comesV V i := wr_id (by omega) (by omega)
    have e5 : fup (w2V V i) 2 (fup (w2V V i 2) i (amin 99 (V 2 i - windT V i + comesV V i))) = w2V V (i + 1) := by
      rw [w2_2]
      unfold w2V
      rw [fup_fup, rowN_s (fun p => amin 99 (V 2 p - windT V p + comesV V p))]
    have hbd : BD (RV ((fup h 17 (setRV (h 17) (w2V V i))) 17)) := by rw [fup_same, RV_set]; exact (w2_wf hw i (by omega)).bd
    rw [show i + 1 + k = i + (k + 1) by omega] at ih
    have hpr : hpB (w2V V i) ((i : Int) - V 7 13) = hpB V ((i : Int) - V 7 13) := hpB_r rfl _
    rw [← ih (vI ((i : Int) - V 7 13)) (by omega), r189_177]
    simp only [r189_178, r189_179, r189_182, r189_185, r189_186, r189_187, r189_190, r189_191, r189_192, r189_193, r189_196, r189_197, r189_199, r189_200, r189_203, r189_204, r189_205, r189_206, r189_209, r189_210, r189_211, r189_212, r189_213, r189_214, r189_217, r189_220, r189_221, r189_224, r189_225, r189_226, r189_229, r189_230, r189_231, r189_234, r189_235, r189_238, CallR_iff (sm_isPlace hbd), reduceIte, Option.some.injEq, and_assoc, exists_and_left, exists_eq_left, exists_eq_left', true_and, and_true, List.length_cons, List.length_nil, Nat.reduceAdd, Nat.reduceLeDiff, Sum.inl.injEq, az_0, az_1, az_2, az_3, az_4, az_5, az_6, az_8, az_11, az_14, az_15, az_17, az_20, az_21, az_22, az_23, az_24, az_25, az_26, az_28, az_29, az_30, az_31, az_32, az_33, az_34, az_35, az_36, ak_0, ak_1, ak_2, ak_3, ak_4, ak_5, ak_6, ak_8, ak_11, ak_14, ak_15, ak_17, ak_20, ak_21, ak_22, ak_23, ak_24, ak_25, ak_26, ak_28, ak_29, ak_30, ak_31, ak_32, ak_33, ak_34, ak_35, ak_36, ak_37, eq_self, Int.toNat_natCast, Nat.zero_le, bI_0, b01_0, bI_or, b01_or, ne_eq, reduceCtorEq, not_false_eq_true, Nat.reduceEqDiff, if_true, if_false, ite_true, ite_false, Int.natCast_nonneg, up3, fup_same, fup_fup, fR_0, fR_1, fR_2, fR_3, fR_4, fR_5, fR_6, fR_7, fR_8, fR_9, fR_10, fR_11, fR_12, fR_13, fR_14, fR_15, fR_16, RV_set, set_set, sV_0, sV_1, sV_2, sV_3, sV_4, sV_5, sV_6, sV_7, sV_8, sV_9, sV_10, sV_11, sV_12, sV_13, sV_14, sV_15, sV_16, RV_0, RV_1, RV_2, RV_3, RV_4, RV_5, RV_6, RV_7, RV_8, RV_9, RV_10, RV_11, RV_12, RV_13, RV_14, RV_15, RV_16, fup_ne, fS_2, h1, h2, h9, wr_s (show i < 2147483647 by omega), show w2V V i 7 = V 7 from rfl, e0, b3, b3i, e4]
    cases hq : hpB V ((i : Int) - V 7 13)
    · have hc0 : comesV V i = 0 := by unfold comesV; rw [hq]; rfl
      rw [hc0] at e2 e5
      rw [hpr, hq]
      simp only [if_true, e1, e2, e5]
    · have h5 := hpB_iff.mp hq
      have hc0 : rowN (windT V) (V 3) (nP V) ((i : Int) - V 7 13).toNat = comesV V i := by
        unfold comesV rowN nP
        rw [hq, if_pos (by omega)]
        rfl
      have h6 : (0 ≤ (i : Int) - V 7 13 ∧ (i : Int) - V 7 13 < 9) := by omega
      rw [hpr, hq]
      simp only [if_false, Bool.true_eq_false, hc0, h6, e1, e2, e5, true_and, and_self, reduceIte]
theorem lm_w {d : Nat} {h : AH} {V : VS} {a b c : AV} {Q : Option AV → AH → Prop} (hw : WF V) : At (CallR (d + 2)) ac_189 175 [vR 17 27, a, b, c] [] (fup h 17 (setRV (h 17) (w1V V (nP V)))) Q ↔ Q none (fup h 17 (setRV (h 17) (hourV (marshV (blowV V))))) := by
  have h0 := hw.bd.1
  have L := lm_w2 (d := d) (h := h) (a := a) (Q := Q) hw (nP V) 0 c (by unfold nP; omega)
  have e0 : w2V V 0 = w1V V (nP V) := by
    show fup (w1V V (nP V)) 2 (rowN _ (w1V V (nP V) 2) 0) = _
    rw [rowN_0, fup_id]
  rw [e0, Nat.zero_add] at L
  simp only [r189_175, r189_176]
  exact L
theorem lm_w1 {d : Nat} {h : AH} {V : VS} {a c : AV} {Q : Option AV → AH → Prop} (hw : WF V) : ∀ (k i : Nat), ((i + k : Nat) : Int) = V 7 7 → (At (CallR (d + 3)) ac_189 150 [vR 17 27, a, vI i, c] [] (fup h 17 (setRV (h 17) (w1V V i))) Q ↔ Q none (fup h 17 (setRV (h 17) (hourV (marshV (blowV V))))))
  | 0, i, e => by
    have h1 : ¬ (i : Int) < V 7 7 := by omega
    have hi : i = nP V := by unfold nP; omega
    subst hi
    rw [r189_150]
    simp only [r189_151, r189_152, r189_155, r189_158, r189_159, r189_162, r189_163, r189_164, r189_165, r189_168, r189_169, r189_172, reduceIte, Option.some.injEq, and_assoc, exists_and_left, exists_eq_left, exists_eq_left', true_and, and_true, List.length_cons, List.length_nil, Nat.reduceAdd, Nat.reduceLeDiff, Sum.inl.injEq, az_0, az_1, az_2, az_3, az_4, az_5, az_6, az_8, az_11, az_14, az_15, az_17, az_20, az_21, az_22, az_23, az_24, az_25, az_26, az_28, az_29, az_30, az_31, az_32, az_33, az_34, az_35, az_36, ak_0, ak_1, ak_2, ak_3, ak_4, ak_5, ak_6, ak_8, ak_11, ak_14, ak_15, ak_17, ak_20, ak_21, ak_22, ak_23, ak_24, ak_25, ak_26, ak_28, ak_29, ak_30, ak_31, ak_32, ak_33, ak_34, ak_35, ak_36, ak_37, eq_self, Int.toNat_natCast, Nat.zero_le, bI_0, b01_0, bI_or, b01_or, ne_eq, reduceCtorEq, not_false_eq_true, Nat.reduceEqDiff, if_true, if_false, ite_true, ite_false, Int.natCast_nonneg, up3, fup_same, fup_fup, fR_0, fR_1, fR_2, fR_3, fR_4, fR_5, fR_6, fR_7, fR_8, fR_9, fR_10, fR_11, fR_12, fR_13, fR_14, fR_15, fR_16, RV_set, set_set, sV_0, sV_1, sV_2, sV_3, sV_4, sV_5, sV_6, sV_7, sV_8, sV_9, sV_10, sV_11, sV_12, sV_13, sV_14, sV_15, sV_16, RV_0, RV_1, RV_2, RV_3, RV_4, RV_5, RV_6, RV_7, RV_8, RV_9, RV_10, RV_11, RV_12, RV_13, RV_14, RV_15, RV_16, fup_ne, h1, show w1V V (nP V) 7 = V 7 from rfl]
    exact lm_w hw
  | k + 1, i, e => by
    have h4 := hw.bd.2.1
    have h1 : (i : Int) < V 7 7 := by omega
    have h2 : (i : Int) < 9 := by omega
    have hwt2 : WF (RV ((fup h 17 (setRV (h 17) (w1V V i))) 17)) := by rw [fup_same, RV_set]; exact w1_wf hw i
    have ih := lm_w1 (d := d) (h := h) (a := a) (c := c) (Q := Q) hw k (i + 1) (by omega)
    have e2 : windT (w1V V i) i = windT V i := windT_r rfl rfl i
    have e5 : fup (w1V V i) 3 (fup (w1V V i 3) i (windT V i)) = w1V V (i + 1) := by
      rw [w1_2]
      unfold w1V
      rw [fup_fup, rowN_s (windT V)]
    rw [← ih, r189_150]
    simp only [r189_151, r189_152, r189_155, r189_158, r189_159, r189_162, r189_163, r189_164, r189_165, r189_168, r189_169, r189_172, CallR_iff (sm_goesFrom hwt2 (show i < 8 by omega)), reduceIte, Option.some.injEq, and_assoc, exists_and_left, exists_eq_left, exists_eq_left', true_and, and_true, List.length_cons, List.length_nil, Nat.reduceAdd, Nat.reduceLeDiff, Sum.inl.injEq, az_0, az_1, az_2, az_3, az_4, az_5, az_6, az_8, az_11, az_14, az_15, az_17, az_20, az_21, az_22, az_23, az_24, az_25, az_26, az_28, az_29, az_30, az_31, az_32, az_33, az_34, az_35, az_36, ak_0, ak_1, ak_2, ak_3, ak_4, ak_5, ak_6, ak_8, ak_11, ak_14, ak_15, ak_17, ak_20, ak_21, ak_22, ak_23, ak_24, ak_25, ak_26, ak_28, ak_29, ak_30, ak_31, ak_32, ak_33, ak_34, ak_35, ak_36, ak_37, eq_self, Int.toNat_natCast, Nat.zero_le, bI_0, b01_0, bI_or, b01_or, ne_eq, reduceCtorEq, not_false_eq_true, Nat.reduceEqDiff, if_true, if_false, ite_true, ite_false, Int.natCast_nonneg, up3, fup_same, fup_fup, fR_0, fR_1, fR_2, fR_3, fR_4, fR_5, fR_6, fR_7, fR_8, fR_9, fR_10, fR_11, fR_12, fR_13, fR_14, fR_15, fR_16, RV_set, set_set, sV_0, sV_1, sV_2, sV_3, sV_4, sV_5, sV_6, sV_7, sV_8, sV_9, sV_10, sV_11, sV_12, sV_13, sV_14, sV_15, sV_16, RV_0, RV_1, RV_2, RV_3, RV_4, RV_5, RV_6, RV_7, RV_8, RV_9, RV_10, RV_11, RV_12, RV_13, RV_14, RV_15, RV_16, fup_ne, fS_3, h1, h2, wr_s (show i < 2147483647 by omega), show w1V V i 7 = V 7 from rfl, e2, e5]
theorem lm_wind {d : Nat} {h : AH} {V : VS} {a b c : AV} {Q : Option AV → AH → Prop} (hw : WF V) : At (CallR (d + 3)) ac_189 141 [vR 17 27, a, b, c] [] (fup h 17 (setRV (h 17) V)) Q ↔ Q none (fup h 17 (setRV (h 17) (hourV (marshV (blowIf V))))) := by
  have h0 := hw.bd.1
  have L := lm_w1 (d := d) (h := h) (a := a) (c := c) (Q := Q) hw (nP V) 0 (by unfold nP; omega)
  rw [show w1V V 0 = V by unfold w1V; rw [rowN_0, fup_id]] at L
  simp only [r189_141, r189_142, r189_145, r189_148, r189_149, reduceIte, Option.some.injEq, and_assoc, exists_and_left, exists_eq_left, exists_eq_left', true_and, and_true, List.length_cons, List.length_nil, Nat.reduceAdd, Nat.reduceLeDiff, Sum.inl.injEq, az_0, az_1, az_2, az_3, az_4, az_5, az_6, az_8, az_11, az_14, az_15, az_17, az_20, az_21, az_22, az_23, az_24, az_25, az_26, az_28, az_29, az_30, az_31, az_32, az_33, az_34, az_35, az_36, ak_0, ak_1, ak_2, ak_3, ak_4, ak_5, ak_6, ak_8, ak_11, ak_14, ak_15, ak_17, ak_20, ak_21, ak_22, ak_23, ak_24, ak_25, ak_26, ak_28, ak_29, ak_30, ak_31, ak_32, ak_33, ak_34, ak_35, ak_36, ak_37, eq_self, Int.toNat_natCast, Nat.zero_le, bI_0, b01_0, bI_or, b01_or, ne_eq, reduceCtorEq, not_false_eq_true, Nat.reduceEqDiff, if_true, if_false, ite_true, ite_false, Int.natCast_nonneg, up3, fup_same, fup_fup, fR_0, fR_1, fR_2, fR_3, fR_4, fR_5, fR_6, fR_7, fR_8, fR_9, fR_10, fR_11, fR_12, fR_13, fR_14, fR_15, fR_16, RV_set, set_set, sV_0, sV_1, sV_2, sV_3, sV_4, sV_5, sV_6, sV_7, sV_8, sV_9, sV_10, sV_11, sV_12, sV_13, sV_14, sV_15, sV_16, RV_0, RV_1, RV_2, RV_3, RV_4, RV_5, RV_6, RV_7, RV_8, RV_9, RV_10, RV_11, RV_12, RV_13, RV_14, RV_15, RV_16, fup_ne]
  unfold blowIf
  by_cases hq : V 7 13 = 0
  · rw [if_pos hq, if_pos hq]
    exact lm_m hw
  · rw [if_neg hq, if_neg hq]
    exact L
theorem upV_r {V V' : VS} (h : V' 7 = V 7) : upV V' = upV V := by unfold upV; rw [h]
theorem thin_upV (V : VS) (i : Nat) : upV (thV V i) = upV V := upV_r rfl
theorem lm_thin {d : Nat} {h : AH} {V : VS} {a c : AV} {Q : Option AV → AH → Prop} (hw : WF V) (hu : upV V = true) : ∀ (k i : Nat), ((i + k : Nat) : Int) = V 7 7 → (At (CallR (d + 3)) ac_189 98 [vR 17 27, a, vI i, c] [] (fup h 17 (setRV (h 17) (thV V i))) Q ↔ Q none (fup h 17 (setRV (h 17) (hourV (marshV (blowIf (thV V (i + k))))))))
  | 0, i, e => by
    have h1 : ¬ (i : Int) < V 7 7 := by omega
    have h8 := hw.bd.2.1
    rw [r189_98]
    simp only [r189_99, r189_100, r189_103, r189_106, r189_107, r189_110, r189_113, r189_114, r189_117, r189_118, r189_119, r189_120, r189_123, r189_124, r189_125, r189_126, r189_127, r189_130, r189_131, r189_134, r189_135, r189_138, reduceIte, Option.some.injEq, and_assoc, exists_and_left, exists_eq_left, exists_eq_left', true_and, and_true, List.length_cons, List.length_nil, Nat.reduceAdd, Nat.reduceLeDiff, Sum.inl.injEq, az_0, az_1, az_2, az_3, az_4, az_5, az_6, az_8, az_11, az_14, az_15, az_17, az_20, az_21, az_22, az_23, az_24, az_25, az_26, az_28, az_29, az_30, az_31, az_32, az_33, az_34, az_35, az_36, ak_0, ak_1, ak_2, ak_3, ak_4, ak_5, ak_6, ak_8, ak_11, ak_14, ak_15, ak_17, ak_20, ak_21, ak_22, ak_23, ak_24, ak_25, ak_26, ak_28, ak_29, ak_30, ak_31, ak_32, ak_33, ak_34, ak_35, ak_36, ak_37, eq_self, Int.toNat_natCast, Nat.zero_le, bI_0, b01_0, bI_or, b01_or, ne_eq, reduceCtorEq, not_false_eq_true, Nat.reduceEqDiff, if_true, if_false, ite_true, ite_false, Int.natCast_nonneg, up3, fup_same, fup_fup, fR_0, fR_1, fR_2, fR_3, fR_4, fR_5, fR_6, fR_7, fR_8, fR_9, fR_10, fR_11, fR_12, fR_13, fR_14, fR_15, fR_16, RV_set, set_set, sV_0, sV_1, sV_2, sV_3, sV_4, sV_5, sV_6, sV_7, sV_8, sV_9, sV_10, sV_11, sV_12, sV_13, sV_14, sV_15, sV_16, RV_0, RV_1, RV_2, RV_3, RV_4, RV_5, RV_6, RV_7, RV_8, RV_9, RV_10, RV_11, RV_12, RV_13, RV_14, RV_15, RV_16, fup_ne, h1, show thV V i 7 = V 7 from rfl]
    exact lm_wind (th_wf hw i (by omega))
  | k + 1, i, e => by
    have h4 := hw.bd.2.1
    have h1 : (i : Int) < V 7 7 := by omega
    have h2 : (i : Int) < 8 := by omega
    have hwt2 : WF (RV ((fup h 17 (setRV (h 17) (thV V i))) 17)) := by rw [fup_same, RV_set]; exact th_wf hw i (by omega)
    have hp := hw.pl i (by omega)
    have hs := sunT_bd hw (p := i) (by omega)
    have ih := lm_thin (d := d) (h := h) (a := a) (c := c) (Q := Q) hw hu k (i + 1) (by omega)
    have e1 : wr (V 2 i - sunT V i) = V 2 i - sunT V i := wr_id (by omega) (by omega)
    have e2 : sunT (thV V i) i = sunT V i := sunT_r rfl rfl i
    have e4 : thV V i 2 i = V 2 i := by rw [th_2, rowN_at]
    have e5 : fup (thV V i) 2 (fup (thV V i 2) i (amax 0 (V 2 i - sunT V i))) = thV V (i + 1) := by
      rw [th_2]
      unfold thV
      rw [fup_fup, rowN_s (fun p => amax 0 (V 2 p - sunT V p))]
    rw [show i + 1 + k = i + (k + 1) by omega] at ih
    rw [← ih, r189_98]
    simp only [r189_99, r189_100, r189_103, r189_106, r189_107, r189_110, r189_113, r189_114, r189_117, r189_118, r189_119, r189_120, r189_123, r189_124, r189_125, r189_126, r189_127, r189_130, r189_131, r189_134, r189_135, r189_138, CallR_iff sm_isUp, CallR_iff (sm_sunTakes hwt2 (show i < 8 by omega)), reduceIte, Option.some.injEq, and_assoc, exists_and_left, exists_eq_left, exists_eq_left', true_and, and_true, List.length_cons, List.length_nil, Nat.reduceAdd, Nat.reduceLeDiff, Sum.inl.injEq, az_0, az_1, az_2, az_3, az_4, az_5, az_6, az_8, az_11, az_14, az_15, az_17, az_20, az_21, az_22, az_23, az_24, az_25, az_26, az_28, az_29, az_30, az_31, az_32, az_33, az_34, az_35, az_36, ak_0, ak_1, ak_2, ak_3, ak_4, ak_5, ak_6, ak_8, ak_11, ak_14, ak_15, ak_17, ak_20, ak_21, ak_22, ak_23, ak_24, ak_25, ak_26, ak_28, ak_29, ak_30, ak_31, ak_32, ak_33, ak_34, ak_35, ak_36, ak_37, eq_self, Int.toNat_natCast, Nat.zero_le, bI_0, b01_0, bI_or, b01_or, ne_eq, reduceCtorEq, not_false_eq_true, Nat.reduceEqDiff, if_true, if_false, ite_true, ite_false, Int.natCast_nonneg, up3, fup_same, fup_fup, fR_0, fR_1, fR_2, fR_3, fR_4, fR_5, fR_6, fR_7, fR_8, fR_9, fR_10, fR_11, fR_12, fR_13, fR_14, fR_15, fR_16, RV_set, set_set, sV_0, sV_1, sV_2, sV_3, sV_4, sV_5, sV_6, sV_7, sV_8, sV_9, sV_10, sV_11, sV_12, sV_13, sV_14, sV_15, sV_16, RV_0, RV_1, RV_2, RV_3, RV_4, RV_5, RV_6, RV_7, RV_8, RV_9, RV_10, RV_11, RV_12, RV_13, RV_14, RV_15, RV_16, fup_ne, fS_2, h1, h2, wr_s (show i < 2147483647 by omega), show thV V i 7 = V 7 from rfl, thin_upV, hu, Bool.true_eq_false, e1, e2, e4, e5]
theorem lm_sun {d : Nat} {h : AH} {V : VS} {a b c : AV} {Q : Option AV → AH → Prop} (hw : WF V) : At (CallR (d + 3)) ac_189 96 [vR 17 27, a, b, c] [] (fup h 17 (setRV (h 17) V)) Q ↔ Q none (fup h 17 (setRV (h 17) (hourV (marshV (blowIf (thinIf V)))))) := by
  have h0 := hw.bd.1
  unfold thinIf
  cases hu : upV V
  · have hw2 : WF (RV ((fup h 17 (setRV (h 17) V)) 17)) := by rw [fup_same, RV_set]; exact hw
    simp only [r189_96, r189_97]
    rw [r189_98]
    simp only [r189_99, r189_100, r189_103, r189_106, r189_107, r189_110, r189_113, r189_114, r189_117, r189_118, r189_119, r189_120, r189_123, r189_124, r189_125, r189_126, r189_127, r189_130, r189_131, r189_134, r189_135, r189_138, CallR_iff sm_isUp, reduceIte, Option.some.injEq, and_assoc, exists_and_left, exists_eq_left, exists_eq_left', true_and, and_true, List.length_cons, List.length_nil, Nat.reduceAdd, Nat.reduceLeDiff, Sum.inl.injEq, az_0, az_1, az_2, az_3, az_4, az_5, az_6, az_8, az_11, az_14, az_15, az_17, az_20, az_21, az_22, az_23, az_24, az_25, az_26, az_28, az_29, az_30, az_31, az_32, az_33, az_34, az_35, az_36, ak_0, ak_1, ak_2, ak_3, ak_4, ak_5, ak_6, ak_8, ak_11, ak_14, ak_15, ak_17, ak_20, ak_21, ak_22, ak_23, ak_24, ak_25, ak_26, ak_28, ak_29, ak_30, ak_31, ak_32, ak_33, ak_34, ak_35, ak_36, ak_37, eq_self, Int.toNat_natCast, Nat.zero_le, bI_0, b01_0, bI_or, b01_or, ne_eq, reduceCtorEq, not_false_eq_true, Nat.reduceEqDiff, if_true, if_false, ite_true, ite_false, Int.natCast_nonneg, up3, fup_same, fup_fup, fR_0, fR_1, fR_2, fR_3, fR_4, fR_5, fR_6, fR_7, fR_8, fR_9, fR_10, fR_11, fR_12, fR_13, fR_14, fR_15, fR_16, RV_set, set_set, sV_0, sV_1, sV_2, sV_3, sV_4, sV_5, sV_6, sV_7, sV_8, sV_9, sV_10, sV_11, sV_12, sV_13, sV_14, sV_15, sV_16, RV_0, RV_1, RV_2, RV_3, RV_4, RV_5, RV_6, RV_7, RV_8, RV_9, RV_10, RV_11, RV_12, RV_13, RV_14, RV_15, RV_16, fup_ne, hu, Bool.false_eq_true, ite_self]
    exact lm_wind hw
  · have L := lm_thin (d := d) (h := h) (a := a) (c := c) (Q := Q) hw hu (nP V) 0 (by unfold nP; omega)
    rw [show thV V 0 = V by unfold thV; rw [rowN_0, fup_id], Nat.zero_add] at L
    simp only [r189_96, r189_97]
    exact L
theorem leak_at {V : VS} {s : Int} (h : s = 100) : leakF V s = (if upV V then 6 else 3) := by
  subst h
  unfold leakF
  rw [hpB_f (by omega)]
  cases upV V <;> rfl
theorem lm_leak {d : Nat} {h : AH} {V : VS} {a c : AV} {Q : Option AV → AH → Prop} (hw : WF V) : ∀ (k i : Nat), ((i + k : Nat) : Int) = V 7 8 → (At (CallR (d + 3)) ac_189 7 [vR 17 27, a, vI i, c] [] (fup h 17 (setRV (h 17) (lkV V i))) Q ↔ Q none (fup h 17 (setRV (h 17) (hourV (marshV (blowIf (thinIf (leakV V))))))))
  | 0, i, e => by
    have h1 : ¬ (i : Int) < V 7 8 := by omega
    have hi : i = nB V := by unfold nB; omega
    subst hi
    have hwl := leak_wf hw
    rw [r189_7]
    simp only [r189_8, r189_9, r189_12, r189_15, r189_16, r189_19, r189_20, r189_21, r189_24, r189_27, r189_30, r189_31, r189_34, r189_35, r189_36, r189_37, r189_38, r189_41, r189_42, r189_43, r189_45, r189_48, r189_49, r189_50, r189_53, r189_54, r189_55, r189_58, r189_61, r189_62, r189_65, r189_68, r189_70, r189_73, r189_74, r189_75, r189_76, r189_77, r189_80, r189_81, r189_82, r189_85, r189_86, r189_87, r189_90, r189_93, reduceIte, Option.some.injEq, and_assoc, exists_and_left, exists_eq_left, exists_eq_left', true_and, and_true, List.length_cons, List.length_nil, Nat.reduceAdd, Nat.reduceLeDiff, Sum.inl.injEq, az_0, az_1, az_2, az_3, az_4, az_5, az_6, az_8, az_11, az_14, az_15, az_17, az_20, az_21, az_22, az_23, az_24, az_25, az_26, az_28, az_29, az_30, az_31, az_32, az_33, az_34, az_35, az_36, ak_0, ak_1, ak_2, ak_3, ak_4, ak_5, ak_6, ak_8, ak_11, ak_14, ak_15, ak_17, ak_20, ak_21, ak_22, ak_23, ak_24, ak_25, ak_26, ak_28, ak_29, ak_30, ak_31, ak_32, ak_33, ak_34, ak_35, ak_36, ak_37, eq_self, Int.toNat_natCast, Nat.zero_le, bI_0, b01_0, bI_or, b01_or, ne_eq, reduceCtorEq, not_false_eq_true, Nat.reduceEqDiff, if_true, if_false, ite_true, ite_false, Int.natCast_nonneg, up3, fup_same, fup_fup, fR_0, fR_1, fR_2, fR_3, fR_4, fR_5, fR_6, fR_7, fR_8, fR_9, fR_10, fR_11, fR_12, fR_13, fR_14, fR_15, fR_16, RV_set, set_set, sV_0, sV_1, sV_2, sV_3, sV_4, sV_5, sV_6, sV_7, sV_8, sV_9, sV_10, sV_11, sV_12, sV_13, sV_14, sV_15, sV_16, RV_0, RV_1, RV_2, RV_3, RV_4, RV_5, RV_6, RV_7, RV_8, RV_9, RV_10, RV_11, RV_12, RV_13, RV_14, RV_15, RV_16, fup_ne, h1, show lkV V (nB V) 7 = V 7 from rfl]
    exact lm_sun hwl
  | k + 1, i, e => by
    have h4 := hw.bd.2.2.2
    have h8 := hw.bd.2.1
    have h1 : (i : Int) < V 7 8 := by omega
    have h2 : (i : Int) < 12 := by omega
    have hs := hw.str (b := i) (by unfold nB; omega)
    have hl := leakF_bd V (V 5 i)
    have hbt := hw.bt i h1
    have ih := lm_leak (d := d) (h := h) (a := a) (c := c) (Q := Q) hw k (i + 1) (by omega)
    have e1 : wr (V 4 i - leakF V (V 5 i)) = leakS V i := wr_id (by omega) (by omega)
    have f4 : lkV V i 4 i = V 4 i := by rw [lk_4, rowN_at]
    have f5 : lkV V i 5 i = V 5 i := by rw [lk_5, rowN_at]
    have hup : upV (lkV V i) = upV V := upV_r rfl
    rw [← ih, r189_7]
    by_cases hq : V 5 i = 200
    · simp only [r189_8, r189_9, r189_12, r189_15, r189_16, r189_19, r189_20, r189_21, r189_24, r189_27, r189_30, r189_31, r189_34, r189_35, r189_36, r189_37, r189_38, r189_41, r189_42, r189_43, r189_45, r189_48, r189_49, r189_50, r189_53, r189_54, r189_55, r189_58, r189_61, r189_62, r189_65, r189_68, r189_70, r189_73, r189_74, r189_75, r189_76, r189_77, r189_80, r189_81, r189_82, r189_85, r189_86, r189_87, r189_90, r189_93, reduceIte, Option.some.injEq, and_assoc, exists_and_left, exists_eq_left, exists_eq_left', true_and, and_true, List.length_cons, List.length_nil, Nat.reduceAdd, Nat.reduceLeDiff, Sum.inl.injEq, az_0, az_1, az_2, az_3, az_4, az_5, az_6, az_8, az_11, az_14, az_15, az_17, az_20, az_21, az_22, az_23, az_24, az_25, az_26, az_28, az_29, az_30, az_31, az_32, az_33, az_34, az_35, az_36, ak_0, ak_1, ak_2, ak_3, ak_4, ak_5, ak_6, ak_8, ak_11, ak_14, ak_15, ak_17, ak_20, ak_21, ak_22, ak_23, ak_24, ak_25, ak_26, ak_28, ak_29, ak_30, ak_31, ak_32, ak_33, ak_34, ak_35, ak_36, ak_37, eq_self, Int.toNat_natCast, Nat.zero_le, bI_0, b01_0, bI_or, b01_or, ne_eq, reduceCtorEq, not_false_eq_true, Nat.reduceEqDiff, if_true, if_false, ite_true, ite_false, Int.natCast_nonneg, up3, fup_same, fup_fup, fR_0, fR_1, fR_2, fR_3, fR_4, fR_5, fR_6, fR_7, fR_8, fR_9, fR_10, fR_11, fR_12, fR_13, fR_14, fR_15, fR_16, RV_set, set_set, sV_0, sV_1, sV_2, sV_3, sV_4, sV_5, sV_6, sV_7, sV_8, sV_9, sV_10, sV_11, sV_12, sV_13, sV_14, sV_15, sV_16, RV_0, RV_1, RV_2, RV_3, RV_4, RV_5, RV_6, RV_7, RV_8, RV_9, RV_10, RV_11, RV_12, RV_13, RV_14, RV_15, RV_16, fup_ne, h1, h2, wr_s (show i < 2147483647 by omega), show lkV V i 7 = V 7 from rfl, f5, hq, lk_s1 _ _ hq]
    · have fin : ∀ Q : Option AV → AH → Prop, At (CallR (d + 3)) ac_189 76 [vR 17 27, a, vI i, c] [] (fup h 17 (setRV (h 17) (fup (lkV V i) 4 (fup (lkV V i 4) i (leakS V i))))) Q ↔ At (CallR (d + 3)) ac_189 7 [vR 17 27, a, vI ((i + 1 : Nat) : Int), c] [] (fup h 17 (setRV (h 17) (lkV V (i + 1)))) Q := by
        intro Q
        simp only [r189_76, r189_77, r189_80, r189_81, r189_82, r189_85, r189_86, r189_87, r189_90, r189_93, CallR_iff (sm_empties (Int.natCast_nonneg i) h2), reduceIte, Option.some.injEq, and_assoc, exists_and_left, exists_eq_left, exists_eq_left', true_and, and_true, List.length_cons, List.length_nil, Nat.reduceAdd, Nat.reduceLeDiff, Sum.inl.injEq, az_0, az_1, az_2, az_3, az_4, az_5, az_6, az_8, az_11, az_14, az_15, az_17, az_20, az_21, az_22, az_23, az_24, az_25, az_26, az_28, az_29, az_30, az_31, az_32, az_33, az_34, az_35, az_36, ak_0, ak_1, ak_2, ak_3, ak_4, ak_5, ak_6, ak_8, ak_11, ak_14, ak_15, ak_17, ak_20, ak_21, ak_22, ak_23, ak_24, ak_25, ak_26, ak_28, ak_29, ak_30, ak_31, ak_32, ak_33, ak_34, ak_35, ak_36, ak_37, eq_self, Int.toNat_natCast, Nat.zero_le, bI_0, b01_0, bI_or, b01_or, ne_eq, reduceCtorEq, not_false_eq_true, Nat.reduceEqDiff, if_true, if_false, ite_true, ite_false, Int.natCast_nonneg, up3, fup_same, fup_fup, fR_0, fR_1, fR_2, fR_3, fR_4, fR_5, fR_6, fR_7, fR_8, fR_9, fR_10, fR_11, fR_12, fR_13, fR_14, fR_15, fR_16, RV_set, set_set, sV_0, sV_1, sV_2, sV_3, sV_4, sV_5, sV_6, sV_7, sV_8, sV_9, sV_10, sV_11, sV_12, sV_13, sV_14, sV_15, sV_16, RV_0, RV_1, RV_2, RV_3, RV_4, RV_5, RV_6, RV_7, RV_8, RV_9, RV_10, RV_11, RV_12, RV_13, RV_14, RV_15, RV_16, fup_ne, h2, wr_s (show i < 2147483647 by omega)]
        by_cases hr : 0 < leakS V i
        · rw [if_pos hr, lk_s2 _ _ hq (by omega), lk_4]
        · rw [if_neg hr, lk_s3 _ _ hq (by omega)]
          unfold drainV
          simp only [Int.natCast_nonneg, h2, and_self, if_true, Int.toNat_natCast, fup_same, fup_fup, lk_4]
          rw [show fup (lkV V i) 4 (fup (rowN (lk4 V) (V 4) i) i (leakS V i)) 5 = rowN (lk5 V) (V 5) i from rfl]
      by_cases hc : V 5 i = 100
      · have e6 : leakF V (V 5 i) = (if upV V then 6 else 3) := leak_at hc
        rw [e6] at e1
        cases hu : upV V
        · rw [hu] at e1
          simp only [Bool.false_eq_true, if_false] at e1
          rw [← fin]
          simp only [r189_8, r189_9, r189_12, r189_15, r189_16, r189_19, r189_20, r189_21, r189_24, r189_27, r189_30, r189_31, r189_34, r189_35, r189_36, r189_37, r189_38, r189_41, r189_42, r189_43, r189_45, r189_48, r189_49, r189_50, r189_53, r189_54, r189_55, r189_58, r189_61, r189_62, r189_65, r189_68, r189_70, r189_73, r189_74, r189_75, r189_90, r189_93, CallR_iff sm_isUp, reduceIte, Option.some.injEq, and_assoc, exists_and_left, exists_eq_left, exists_eq_left', true_and, and_true, List.length_cons, List.length_nil, Nat.reduceAdd, Nat.reduceLeDiff, Sum.inl.injEq, az_0, az_1, az_2, az_3, az_4, az_5, az_6, az_8, az_11, az_14, az_15, az_17, az_20, az_21, az_22, az_23, az_24, az_25, az_26, az_28, az_29, az_30, az_31, az_32, az_33, az_34, az_35, az_36, ak_0, ak_1, ak_2, ak_3, ak_4, ak_5, ak_6, ak_8, ak_11, ak_14, ak_15, ak_17, ak_20, ak_21, ak_22, ak_23, ak_24, ak_25, ak_26, ak_28, ak_29, ak_30, ak_31, ak_32, ak_33, ak_34, ak_35, ak_36, ak_37, eq_self, Int.toNat_natCast, Nat.zero_le, bI_0, b01_0, bI_or, b01_or, ne_eq, reduceCtorEq, not_false_eq_true, Nat.reduceEqDiff, if_true, if_false, ite_true, ite_false, Int.natCast_nonneg, up3, fup_same, fup_fup, fR_0, fR_1, fR_2, fR_3, fR_4, fR_5, fR_6, fR_7, fR_8, fR_9, fR_10, fR_11, fR_12, fR_13, fR_14, fR_15, fR_16, RV_set, set_set, sV_0, sV_1, sV_2, sV_3, sV_4, sV_5, sV_6, sV_7, sV_8, sV_9, sV_10, sV_11, sV_12, sV_13, sV_14, sV_15, sV_16, RV_0, RV_1, RV_2, RV_3, RV_4, RV_5, RV_6, RV_7, RV_8, RV_9, RV_10, RV_11, RV_12, RV_13, RV_14, RV_15, RV_16, fup_ne, fS_4, h1, h2, show lkV V i 7 = V 7 from rfl, f4, f5, hc, hup, hu, Int.reduceLT, Int.reduceEq, e1]
        · rw [hu] at e1
          simp only [if_true] at e1
          rw [← fin]
          simp only [r189_8, r189_9, r189_12, r189_15, r189_16, r189_19, r189_20, r189_21, r189_24, r189_27, r189_30, r189_31, r189_34, r189_35, r189_36, r189_37, r189_38, r189_41, r189_42, r189_43, r189_45, r189_48, r189_49, r189_50, r189_53, r189_54, r189_55, r189_58, r189_61, r189_62, r189_65, r189_68, r189_70, r189_73, r189_74, r189_75, r189_90, r189_93, CallR_iff sm_isUp, reduceIte, Option.some.injEq, and_assoc, exists_and_left, exists_eq_left, exists_eq_left', true_and, and_true, List.length_cons, List.length_nil, Nat.reduceAdd, Nat.reduceLeDiff, Sum.inl.injEq, az_0, az_1, az_2, az_3, az_4, az_5, az_6, az_8, az_11, az_14, az_15, az_17, az_20, az_21, az_22, az_23, az_24, az_25, az_26, az_28, az_29, az_30, az_31, az_32, az_33, az_34, az_35, az_36, ak_0, ak_1, ak_2, ak_3, ak_4, ak_5, ak_6, ak_8, ak_11, ak_14, ak_15, ak_17, ak_20, ak_21, ak_22, ak_23, ak_24, ak_25, ak_26, ak_28, ak_29, ak_30, ak_31, ak_32, ak_33, ak_34, ak_35, ak_36, ak_37, eq_self, Int.toNat_natCast, Nat.zero_le, bI_0, b01_0, bI_or, b01_or, ne_eq, reduceCtorEq, not_false_eq_true, Nat.reduceEqDiff, if_true, if_false, ite_true, ite_false, Int.natCast_nonneg, up3, fup_same, fup_fup, fR_0, fR_1, fR_2, fR_3, fR_4, fR_5, fR_6, fR_7, fR_8, fR_9, fR_10, fR_11, fR_12, fR_13, fR_14, fR_15, fR_16, RV_set, set_set, sV_0, sV_1, sV_2, sV_3, sV_4, sV_5, sV_6, sV_7, sV_8, sV_9, sV_10, sV_11, sV_12, sV_13, sV_14, sV_15, sV_16, RV_0, RV_1, RV_2, RV_3, RV_4, RV_5, RV_6, RV_7, RV_8, RV_9, RV_10, RV_11, RV_12, RV_13, RV_14, RV_15, RV_16, fup_ne, fS_4, h1, h2, show lkV V i 7 = V 7 from rfl, f4, f5, hc, hup, hu, Int.reduceLT, Int.reduceEq, e1, Bool.true_eq_false]
      · have h100 : V 5 i < 100 := by omega
        have hp : hpB (RV ((fup h 17 (setRV (h 17) (lkV V i))) 17)) (V 5 i) = true := by
          rw [fup_same, RV_set, hpB_r (V := V) (V' := lkV V i) rfl]
          exact hpB_iff.mpr (by omega)
        rw [← fin]
        simp only [r189_8, r189_9, r189_12, r189_15, r189_16, r189_19, r189_20, r189_21, r189_24, r189_27, r189_30, r189_31, r189_34, r189_35, r189_36, r189_37, r189_38, r189_41, r189_42, r189_43, r189_45, r189_48, r189_49, r189_50, r189_53, r189_54, r189_55, r189_58, r189_61, r189_62, r189_65, r189_68, r189_70, r189_73, r189_74, r189_75, r189_90, r189_93, CallR_iff (sm_leaksAt hp), reduceIte, Option.some.injEq, and_assoc, exists_and_left, exists_eq_left, exists_eq_left', true_and, and_true, List.length_cons, List.length_nil, Nat.reduceAdd, Nat.reduceLeDiff, Sum.inl.injEq, az_0, az_1, az_2, az_3, az_4, az_5, az_6, az_8, az_11, az_14, az_15, az_17, az_20, az_21, az_22, az_23, az_24, az_25, az_26, az_28, az_29, az_30, az_31, az_32, az_33, az_34, az_35, az_36, ak_0, ak_1, ak_2, ak_3, ak_4, ak_5, ak_6, ak_8, ak_11, ak_14, ak_15, ak_17, ak_20, ak_21, ak_22, ak_23, ak_24, ak_25, ak_26, ak_28, ak_29, ak_30, ak_31, ak_32, ak_33, ak_34, ak_35, ak_36, ak_37, eq_self, Int.toNat_natCast, Nat.zero_le, bI_0, b01_0, bI_or, b01_or, ne_eq, reduceCtorEq, not_false_eq_true, Nat.reduceEqDiff, if_true, if_false, ite_true, ite_false, Int.natCast_nonneg, up3, fup_same, fup_fup, fR_0, fR_1, fR_2, fR_3, fR_4, fR_5, fR_6, fR_7, fR_8, fR_9, fR_10, fR_11, fR_12, fR_13, fR_14, fR_15, fR_16, RV_set, set_set, sV_0, sV_1, sV_2, sV_3, sV_4, sV_5, sV_6, sV_7, sV_8, sV_9, sV_10, sV_11, sV_12, sV_13, sV_14, sV_15, sV_16, RV_0, RV_1, RV_2, RV_3, RV_4, RV_5, RV_6, RV_7, RV_8, RV_9, RV_10, RV_11, RV_12, RV_13, RV_14, RV_15, RV_16, fup_ne, fS_4, h1, h2, show lkV V i 7 = V 7 from rfl, f4, f5, hq, h100, lk_leak, e1]
theorem sm_goOn {d : Nat} {h : AH} {a : Int} (hw : WF (RV (h 17))) (hm : mayV (RV (h 17)) a = true) : CallR (d + 4) 189 [vR 17 27, vI a] h none (fup h 17 (setRV (h 17) (passV (RV (h 17)) a))) := by
  have w1 := act_wf hw hm
  have h0 := w1.bd.2.2.1
  have L := lm_leak (d := d) (h := h) (a := vI a) (c := vU) (Q := fun v' h2 => v' = none ∧ h2 = fup h 17 (setRV (h 17) (passV (RV (h 17)) a))) w1 (nB (actV (RV (h 17)) a)) 0 (by unfold nB; omega)
  have e0 : lkV (actV (RV (h 17)) a) 0 = actV (RV (h 17)) a := by unfold lkV; rw [rowN_0, rowN_0, fup_id, fup_id]
  rw [e0] at L
  rw [cr_189]
  simp only [r189_0, r189_1, r189_2, r189_5, r189_6, CallR_iff (sm_acts hw hm), reduceIte, Option.some.injEq, and_assoc, exists_and_left, exists_eq_left, exists_eq_left', true_and, and_true, List.length_cons, List.length_nil, Nat.reduceAdd, Nat.reduceLeDiff, Sum.inl.injEq, az_0, az_1, az_2, az_3, az_4, az_5, az_6, az_8, az_11, az_14, az_15, az_17, az_20, az_21, az_22, az_23, az_24, az_25, az_26, az_28, az_29, az_30, az_31, az_32, az_33, az_34, az_35, az_36, ak_0, ak_1, ak_2, ak_3, ak_4, ak_5, ak_6, ak_8, ak_11, ak_14, ak_15, ak_17, ak_20, ak_21, ak_22, ak_23, ak_24, ak_25, ak_26, ak_28, ak_29, ak_30, ak_31, ak_32, ak_33, ak_34, ak_35, ak_36, ak_37, eq_self, Int.toNat_natCast, Nat.zero_le, bI_0, b01_0, bI_or, b01_or, ne_eq, reduceCtorEq, not_false_eq_true, Nat.reduceEqDiff, if_true, if_false, ite_true, ite_false, Int.natCast_nonneg]
  exact L.mpr ⟨rfl, rfl⟩
