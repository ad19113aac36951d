/-! the law's loop -/
theorem opCmp_s (x : Int) : opCmp x x = 0 := by
  unfold opCmp
  rw [if_neg (Int.lt_irrefl x), if_pos rfl]
def SC (S : VS) : Prop := (0 ≤ S 38 0 ∧ S 38 0 < 2147483000) ∧ ∀ k, -2147483648 ≤ S 37 k ∧ S 37 k < 2147483648
theorem OKI.y {S : VS} {d kX kM : Nat} {args : List AV} {h : AH} (R : REL S h) (o : OKI S d kX kM args h) (ha : OKL args) : ∃ (x : Int) (h1 h2 : AH), CallR (d + 30) kX (vR 16 10 :: args) h (some (vI x)) h1 ∧ CallR (d + 30) kM (vR 17 27 :: args) h1 (some (vI x)) h2 ∧ h1 18 = S ∧ h2 18 = S ∧ REL S h2 := o.x R ha
theorem OKJ.y {S : VS} {d kX kM : Nat} {args : List AV} {h : AH} (R : REL S h) (o : OKJ S d kX kM args h) (ha : OKL args) : ∃ (x : Int) (h1 h2 : AH), CallR (d + 30) kX (vR 16 10 :: args) h (some (vJ x)) h1 ∧ CallR (d + 30) kM (vR 17 27 :: args) h1 (some (vJ x)) h2 ∧ h1 18 = S ∧ h2 18 = S ∧ REL S h2 := o.x R ha
section LP
variable {S : VS} {d i : Nat} {h : AH} {Q : Option AV → AH → Prop}
theorem lw_0 (R : REL S h) (hr : SC S) (hi : (i : Int) + 6 ≤ S 38 0) (K : ∀ h2, REL S h2 → At (CallR (d + 30)) ac_237 1510 [vR 18 37, vR 16 10, vR 17 27, vI i] [] h2 Q) : At (CallR (d + 30)) ac_237 220 [vR 18 37, vR 16 10, vR 17 27, vI i] [] h Q := by
  have hr1 := hr.1
  have e0 := R.1
  have k1 : wr ((i : Int) + 1) = ((i + 1 : Nat) : Int) := by rw [wr_id (by omega) (by omega)]; omega
  have g1 : ((i + 1 : Nat) : Int) < S 38 0 := by omega
  have k2 : wr ((i : Int) + 2) = ((i + 2 : Nat) : Int) := by rw [wr_id (by omega) (by omega)]; omega
  have g2 : ((i + 2 : Nat) : Int) < S 38 0 := by omega
  have k3 : wr ((i : Int) + 3) = ((i + 3 : Nat) : Int) := by rw [wr_id (by omega) (by omega)]; omega
  have g3 : ((i + 3 : Nat) : Int) < S 38 0 := by omega
  obtain ⟨x, h1, h2, c1, c2, e1, -, R2⟩ := OKI.y R (ok_row (s := S 37 (i + 1)) (c := S 37 (i + 2)) (n := S 37 (i + 3)) (d := d) R) ⟨trivial, trivial, trivial, trivial⟩
  simp only [r237_220, r237_220n, r237_220s, r237_221, r237_221n, r237_221s, r237_222, r237_223, r237_224, r237_225, r237_226, r237_226n, r237_226s, r237_227, r237_228, r237_229, r237_230, r237_231, r237_231n, r237_231s, r237_232, r237_233, r237_234, r237_235, r237_236, r237_239, r237_239n, r237_239s, r237_240, r237_240n, r237_240s, r237_241, r237_242, r237_243, r237_244, r237_245, r237_245n, r237_245s, r237_246, r237_247, r237_248, r237_249, r237_250, r237_250n, r237_250s, r237_251, r237_252, r237_253, r237_254, r237_255, r237_258, r237_261, r237_262, reduceIte, Option.some.injEq, and_assoc, exists_and_left, exists_eq_left, exists_eq_left', true_and, and_true, List.length_cons, List.length_nil, Nat.reduceAdd, Nat.reduceLeDiff, Sum.inl.injEq, az_0, az_1, az_2, az_3, az_4, az_5, az_6, az_8, az_11, az_14, az_15, az_17, az_20, az_21, az_22, az_23, az_24, az_25, az_26, az_28, az_29, az_30, az_31, az_32, az_33, az_34, az_35, az_36, ak_0, ak_1, ak_2, ak_3, ak_4, ak_5, ak_6, ak_8, ak_11, ak_14, ak_15, ak_17, ak_20, ak_21, ak_22, ak_23, ak_24, ak_25, ak_26, ak_28, ak_29, ak_30, ak_31, ak_32, ak_33, ak_34, ak_35, ak_36, ak_37, eq_self, Int.toNat_natCast, Nat.zero_le, bI_0, b01_0, bI_or, b01_or, ne_eq, reduceCtorEq, not_false_eq_true, Nat.reduceEqDiff, if_true, if_false, ite_true, ite_false, Int.natCast_nonneg, not_true_eq_false, Bool.true_eq_false, Bool.false_eq_true, Int.reduceEq, Int.reduceLT, Int.reduceLE, Int.reduceToNat, and_self, inA, exists_eq, or_true, true_or, or_false, false_or, and_false, false_and, or_self, Nat.reduceLT, ak_37, k1, g1, k2, g2, k3, g3, e0, e1, CallR_iff c1, CallR_iff c2, opCmp_s]
  exact K _ R2
theorem lw_1 (R : REL S h) (hr : SC S) (hi : (i : Int) + 6 ≤ S 38 0) (K : ∀ h2, REL S h2 → At (CallR (d + 30)) ac_237 1510 [vR 18 37, vR 16 10, vR 17 27, vI i] [] h2 Q) : At (CallR (d + 30)) ac_237 263 [vR 18 37, vR 16 10, vR 17 27, vI i] [] h Q := by
  have hr1 := hr.1
  have e0 := R.1
  have k1 : wr ((i : Int) + 1) = ((i + 1 : Nat) : Int) := by rw [wr_id (by omega) (by omega)]; omega
  have g1 : ((i + 1 : Nat) : Int) < S 38 0 := by omega
  have k2 : wr ((i : Int) + 2) = ((i + 2 : Nat) : Int) := by rw [wr_id (by omega) (by omega)]; omega
  have g2 : ((i + 2 : Nat) : Int) < S 38 0 := by omega
  have k3 : wr ((i : Int) + 3) = ((i + 3 : Nat) : Int) := by rw [wr_id (by omega) (by omega)]; omega
  have g3 : ((i + 3 : Nat) : Int) < S 38 0 := by omega
  have k4 : wr ((i : Int) + 4) = ((i + 4 : Nat) : Int) := by rw [wr_id (by omega) (by omega)]; omega
  have g4 : ((i + 4 : Nat) : Int) < S 38 0 := by omega
  obtain ⟨x, h1, h2, c1, c2, R2⟩ := ok_set (s := S 37 (i + 1)) (i := S 37 (i + 2)) (v := opLor (opLshl (S 37 (i + 3)) 32) (opLand (S 37 (i + 4)) 4294967295)) (d := d) R
  have e1 : h1 18 = S := (call18 _ _ _ _ _ _ c1 ⟨(show (16 : Nat) ≠ 18 by decide), trivial, trivial, trivial, trivial⟩).1.trans R.1
  simp only [r237_263, r237_263n, r237_263s, r237_264, r237_264n, r237_264s, r237_265, r237_266, r237_267, r237_268, r237_269, r237_269n, r237_269s, r237_270, r237_271, r237_272, r237_273, r237_274, r237_274n, r237_274s, r237_275, r237_276, r237_277, r237_278, r237_279, r237_280, r237_282, r237_283, r237_283n, r237_283s, r237_284, r237_285, r237_286, r237_287, r237_288, r237_289, r237_292, r237_293, r237_294, r237_297, r237_297n, r237_297s, r237_298, r237_298n, r237_298s, r237_299, r237_300, r237_301, r237_302, r237_303, r237_303n, r237_303s, r237_304, r237_305, r237_306, r237_307, r237_308, r237_308n, r237_308s, r237_309, r237_310, r237_311, r237_312, r237_313, r237_314, r237_316, r237_317, r237_317n, r237_317s, r237_318, r237_319, r237_320, r237_321, r237_322, r237_323, r237_326, r237_327, r237_328, r237_331, r237_334, r237_335, reduceIte, Option.some.injEq, and_assoc, exists_and_left, exists_eq_left, exists_eq_left', true_and, and_true, List.length_cons, List.length_nil, Nat.reduceAdd, Nat.reduceLeDiff, Sum.inl.injEq, az_0, az_1, az_2, az_3, az_4, az_5, az_6, az_8, az_11, az_14, az_15, az_17, az_20, az_21, az_22, az_23, az_24, az_25, az_26, az_28, az_29, az_30, az_31, az_32, az_33, az_34, az_35, az_36, ak_0, ak_1, ak_2, ak_3, ak_4, ak_5, ak_6, ak_8, ak_11, ak_14, ak_15, ak_17, ak_20, ak_21, ak_22, ak_23, ak_24, ak_25, ak_26, ak_28, ak_29, ak_30, ak_31, ak_32, ak_33, ak_34, ak_35, ak_36, ak_37, eq_self, Int.toNat_natCast, Nat.zero_le, bI_0, b01_0, bI_or, b01_or, ne_eq, reduceCtorEq, not_false_eq_true, Nat.reduceEqDiff, if_true, if_false, ite_true, ite_false, Int.natCast_nonneg, not_true_eq_false, Bool.true_eq_false, Bool.false_eq_true, Int.reduceEq, Int.reduceLT, Int.reduceLE, Int.reduceToNat, and_self, inA, exists_eq, or_true, true_or, or_false, false_or, and_false, false_and, or_self, Nat.reduceLT, ak_37, k1, g1, k2, g2, k3, g3, k4, g4, e0, e1, CallR_iff c1, CallR_iff c2, opCmp_s]
  exact K _ R2
theorem lw_2 (R : REL S h) (hr : SC S) (hi : (i : Int) + 6 ≤ S 38 0) (K : ∀ h2, REL S h2 → At (CallR (d + 30)) ac_237 1510 [vR 18 37, vR 16 10, vR 17 27, vI i] [] h2 Q) : At (CallR (d + 30)) ac_237 336 [vR 18 37, vR 16 10, vR 17 27, vI i] [] h Q := by
  have hr1 := hr.1
  have e0 := R.1
  have k1 : wr ((i : Int) + 1) = ((i + 1 : Nat) : Int) := by rw [wr_id (by omega) (by omega)]; omega
  have g1 : ((i + 1 : Nat) : Int) < S 38 0 := by omega
  have k2 : wr ((i : Int) + 2) = ((i + 2 : Nat) : Int) := by rw [wr_id (by omega) (by omega)]; omega
  have g2 : ((i + 2 : Nat) : Int) < S 38 0 := by omega
  have k3 : wr ((i : Int) + 3) = ((i + 3 : Nat) : Int) := by rw [wr_id (by omega) (by omega)]; omega
  have g3 : ((i + 3 : Nat) : Int) < S 38 0 := by omega
  have k4 : wr ((i : Int) + 4) = ((i + 4 : Nat) : Int) := by rw [wr_id (by omega) (by omega)]; omega
  have g4 : ((i + 4 : Nat) : Int) < S 38 0 := by omega
  have k5 : wr ((i : Int) + 5) = ((i + 5 : Nat) : Int) := by rw [wr_id (by omega) (by omega)]; omega
  have g5 : ((i + 5 : Nat) : Int) < S 38 0 := by omega
  obtain ⟨x, h1, h2, c1, c2, e1, -, R2⟩ := OKI.y R (ok_copy (p := S 37 (i + 1)) (q := S 37 (i + 2)) (i := S 37 (i + 3)) (j := S 37 (i + 4)) (n := S 37 (i + 5)) (d := d) R (hr.2 _) (hr.2 _) (hr.2 _)) ⟨trivial, trivial, trivial, trivial, trivial, trivial⟩
  simp only [r237_336, r237_336n, r237_336s, r237_337, r237_337n, r237_337s, r237_338, r237_339, r237_340, r237_341, r237_342, r237_342n, r237_342s, r237_343, r237_344, r237_345, r237_346, r237_347, r237_347n, r237_347s, r237_348, r237_349, r237_350, r237_351, r237_352, r237_352n, r237_352s, r237_353, r237_354, r237_355, r237_356, r237_357, r237_357n, r237_357s, r237_358, r237_359, r237_360, r237_361, r237_362, r237_365, r237_365n, r237_365s, r237_366, r237_366n, r237_366s, r237_367, r237_368, r237_369, r237_370, r237_371, r237_371n, r237_371s, r237_372, r237_373, r237_374, r237_375, r237_376, r237_376n, r237_376s, r237_377, r237_378, r237_379, r237_380, r237_381, r237_381n, r237_381s, r237_382, r237_383, r237_384, r237_385, r237_386, r237_386n, r237_386s, r237_387, r237_388, r237_389, r237_390, r237_391, r237_394, r237_397, r237_398, reduceIte, Option.some.injEq, and_assoc, exists_and_left, exists_eq_left, exists_eq_left', true_and, and_true, List.length_cons, List.length_nil, Nat.reduceAdd, Nat.reduceLeDiff, Sum.inl.injEq, az_0, az_1, az_2, az_3, az_4, az_5, az_6, az_8, az_11, az_14, az_15, az_17, az_20, az_21, az_22, az_23, az_24, az_25, az_26, az_28, az_29, az_30, az_31, az_32, az_33, az_34, az_35, az_36, ak_0, ak_1, ak_2, ak_3, ak_4, ak_5, ak_6, ak_8, ak_11, ak_14, ak_15, ak_17, ak_20, ak_21, ak_22, ak_23, ak_24, ak_25, ak_26, ak_28, ak_29, ak_30, ak_31, ak_32, ak_33, ak_34, ak_35, ak_36, ak_37, eq_self, Int.toNat_natCast, Nat.zero_le, bI_0, b01_0, bI_or, b01_or, ne_eq, reduceCtorEq, not_false_eq_true, Nat.reduceEqDiff, if_true, if_false, ite_true, ite_false, Int.natCast_nonneg, not_true_eq_false, Bool.true_eq_false, Bool.false_eq_true, Int.reduceEq, Int.reduceLT, Int.reduceLE, Int.reduceToNat, and_self, inA, exists_eq, or_true, true_or, or_false, false_or, and_false, false_and, or_self, Nat.reduceLT, ak_37, k1, g1, k2, g2, k3, g3, k4, g4, k5, g5, e0, e1, CallR_iff c1, CallR_iff c2, opCmp_s]
  exact K _ R2
theorem lw_3 (R : REL S h) (hr : SC S) (hi : (i : Int) + 6 ≤ S 38 0) (K : ∀ h2, REL S h2 → At (CallR (d + 30)) ac_237 1510 [vR 18 37, vR 16 10, vR 17 27, vI i] [] h2 Q) : At (CallR (d + 30)) ac_237 399 [vR 18 37, vR 16 10, vR 17 27, vI i] [] h Q := by
  have hr1 := hr.1
  have e0 := R.1
  have k1 : wr ((i : Int) + 1) = ((i + 1 : Nat) : Int) := by rw [wr_id (by omega) (by omega)]; omega
  have g1 : ((i + 1 : Nat) : Int) < S 38 0 := by omega
  have k2 : wr ((i : Int) + 2) = ((i + 2 : Nat) : Int) := by rw [wr_id (by omega) (by omega)]; omega
  have g2 : ((i + 2 : Nat) : Int) < S 38 0 := by omega
  obtain ⟨x, h1, h2, c1, c2, e1, -, R2⟩ := OKJ.y R (ok_element (s := S 37 (i + 1)) (i := S 37 (i + 2)) (d := d) R) ⟨trivial, trivial, trivial⟩
  simp only [r237_399, r237_399n, r237_399s, r237_400, r237_400n, r237_400s, r237_401, r237_402, r237_403, r237_404, r237_405, r237_405n, r237_405s, r237_406, r237_407, r237_408, r237_409, r237_410, r237_413, r237_413n, r237_413s, r237_414, r237_414n, r237_414s, r237_415, r237_416, r237_417, r237_418, r237_419, r237_419n, r237_419s, r237_420, r237_421, r237_422, r237_423, r237_424, r237_427, r237_428, r237_431, r237_432, reduceIte, Option.some.injEq, and_assoc, exists_and_left, exists_eq_left, exists_eq_left', true_and, and_true, List.length_cons, List.length_nil, Nat.reduceAdd, Nat.reduceLeDiff, Sum.inl.injEq, az_0, az_1, az_2, az_3, az_4, az_5, az_6, az_8, az_11, az_14, az_15, az_17, az_20, az_21, az_22, az_23, az_24, az_25, az_26, az_28, az_29, az_30, az_31, az_32, az_33, az_34, az_35, az_36, ak_0, ak_1, ak_2, ak_3, ak_4, ak_5, ak_6, ak_8, ak_11, ak_14, ak_15, ak_17, ak_20, ak_21, ak_22, ak_23, ak_24, ak_25, ak_26, ak_28, ak_29, ak_30, ak_31, ak_32, ak_33, ak_34, ak_35, ak_36, ak_37, eq_self, Int.toNat_natCast, Nat.zero_le, bI_0, b01_0, bI_or, b01_or, ne_eq, reduceCtorEq, not_false_eq_true, Nat.reduceEqDiff, if_true, if_false, ite_true, ite_false, Int.natCast_nonneg, not_true_eq_false, Bool.true_eq_false, Bool.false_eq_true, Int.reduceEq, Int.reduceLT, Int.reduceLE, Int.reduceToNat, and_self, inA, exists_eq, or_true, true_or, or_false, false_or, and_false, false_and, or_self, Nat.reduceLT, ak_37, k1, g1, k2, g2, e0, e1, CallR_iff c1, CallR_iff c2, opCmp_s]
  exact K _ R2
theorem lw_4 (R : REL S h) (hr : SC S) (hi : (i : Int) + 6 ≤ S 38 0) (K : ∀ h2, REL S h2 → At (CallR (d + 30)) ac_237 1510 [vR 18 37, vR 16 10, vR 17 27, vI i] [] h2 Q) : At (CallR (d + 30)) ac_237 433 [vR 18 37, vR 16 10, vR 17 27, vI i] [] h Q := by
  have hr1 := hr.1
  have e0 := R.1
  have k1 : wr ((i : Int) + 1) = ((i + 1 : Nat) : Int) := by rw [wr_id (by omega) (by omega)]; omega
  have g1 : ((i + 1 : Nat) : Int) < S 38 0 := by omega
  have k2 : wr ((i : Int) + 2) = ((i + 2 : Nat) : Int) := by rw [wr_id (by omega) (by omega)]; omega
  have g2 : ((i + 2 : Nat) : Int) < S 38 0 := by omega
  obtain ⟨x, h1, h2, c1, c2, e1, -, R2⟩ := OKI.y R (ok_show (s := S 37 (i + 1)) (p := S 37 (i + 2)) (d := d) R) ⟨trivial, trivial, trivial⟩
  simp only [r237_433, r237_433n, r237_433s, r237_434, r237_434n, r237_434s, r237_435, r237_436, r237_437, r237_438, r237_439, r237_439n, r237_439s, r237_440, r237_441, r237_442, r237_443, r237_444, r237_447, r237_447n, r237_447s, r237_448, r237_448n, r237_448s, r237_449, r237_450, r237_451, r237_452, r237_453, r237_453n, r237_453s, r237_454, r237_455, r237_456, r237_457, r237_458, r237_461, r237_464, r237_465, reduceIte, Option.some.injEq, and_assoc, exists_and_left, exists_eq_left, exists_eq_left', true_and, and_true, List.length_cons, List.length_nil, Nat.reduceAdd, Nat.reduceLeDiff, Sum.inl.injEq, az_0, az_1, az_2, az_3, az_4, az_5, az_6, az_8, az_11, az_14, az_15, az_17, az_20, az_21, az_22, az_23, az_24, az_25, az_26, az_28, az_29, az_30, az_31, az_32, az_33, az_34, az_35, az_36, ak_0, ak_1, ak_2, ak_3, ak_4, ak_5, ak_6, ak_8, ak_11, ak_14, ak_15, ak_17, ak_20, ak_21, ak_22, ak_23, ak_24, ak_25, ak_26, ak_28, ak_29, ak_30, ak_31, ak_32, ak_33, ak_34, ak_35, ak_36, ak_37, eq_self, Int.toNat_natCast, Nat.zero_le, bI_0, b01_0, bI_or, b01_or, ne_eq, reduceCtorEq, not_false_eq_true, Nat.reduceEqDiff, if_true, if_false, ite_true, ite_false, Int.natCast_nonneg, not_true_eq_false, Bool.true_eq_false, Bool.false_eq_true, Int.reduceEq, Int.reduceLT, Int.reduceLE, Int.reduceToNat, and_self, inA, exists_eq, or_true, true_or, or_false, false_or, and_false, false_and, or_self, Nat.reduceLT, ak_37, k1, g1, k2, g2, e0, e1, CallR_iff c1, CallR_iff c2, opCmp_s]
  exact K _ R2
theorem lw_5 (R : REL S h) (hr : SC S) (hi : (i : Int) + 6 ≤ S 38 0) (K : ∀ h2, REL S h2 → At (CallR (d + 30)) ac_237 1510 [vR 18 37, vR 16 10, vR 17 27, vI i] [] h2 Q) : At (CallR (d + 30)) ac_237 466 [vR 18 37, vR 16 10, vR 17 27, vI i] [] h Q := by
  have hr1 := hr.1
  have e0 := R.1
  have k1 : wr ((i : Int) + 1) = ((i + 1 : Nat) : Int) := by rw [wr_id (by omega) (by omega)]; omega
  have g1 : ((i + 1 : Nat) : Int) < S 38 0 := by omega
  obtain ⟨x, h1, h2, c1, c2, e1, -, R2⟩ := OKI.y R (ok_holds (s := S 37 (i + 1)) (d := d) R) ⟨trivial, trivial⟩
  simp only [r237_466, r237_466n, r237_466s, r237_467, r237_467n, r237_467s, r237_468, r237_469, r237_470, r237_471, r237_472, r237_475, r237_475n, r237_475s, r237_476, r237_476n, r237_476s, r237_477, r237_478, r237_479, r237_480, r237_481, r237_484, r237_487, r237_488, reduceIte, Option.some.injEq, and_assoc, exists_and_left, exists_eq_left, exists_eq_left', true_and, and_true, List.length_cons, List.length_nil, Nat.reduceAdd, Nat.reduceLeDiff, Sum.inl.injEq, az_0, az_1, az_2, az_3, az_4, az_5, az_6, az_8, az_11, az_14, az_15, az_17, az_20, az_21, az_22, az_23, az_24, az_25, az_26, az_28, az_29, az_30, az_31, az_32, az_33, az_34, az_35, az_36, ak_0, ak_1, ak_2, ak_3, ak_4, ak_5, ak_6, ak_8, ak_11, ak_14, ak_15, ak_17, ak_20, ak_21, ak_22, ak_23, ak_24, ak_25, ak_26, ak_28, ak_29, ak_30, ak_31, ak_32, ak_33, ak_34, ak_35, ak_36, ak_37, eq_self, Int.toNat_natCast, Nat.zero_le, bI_0, b01_0, bI_or, b01_or, ne_eq, reduceCtorEq, not_false_eq_true, Nat.reduceEqDiff, if_true, if_false, ite_true, ite_false, Int.natCast_nonneg, not_true_eq_false, Bool.true_eq_false, Bool.false_eq_true, Int.reduceEq, Int.reduceLT, Int.reduceLE, Int.reduceToNat, and_self, inA, exists_eq, or_true, true_or, or_false, false_or, and_false, false_and, or_self, Nat.reduceLT, ak_37, k1, g1, e0, e1, CallR_iff c1, CallR_iff c2, opCmp_s]
  exact K _ R2
theorem lw_6 (R : REL S h) (hr : SC S) (hi : (i : Int) + 6 ≤ S 38 0) (K : ∀ h2, REL S h2 → At (CallR (d + 30)) ac_237 1510 [vR 18 37, vR 16 10, vR 17 27, vI i] [] h2 Q) : At (CallR (d + 30)) ac_237 489 [vR 18 37, vR 16 10, vR 17 27, vI i] [] h Q := by
  have hr1 := hr.1
  have e0 := R.1
  have k1 : wr ((i : Int) + 1) = ((i + 1 : Nat) : Int) := by rw [wr_id (by omega) (by omega)]; omega
  have g1 : ((i + 1 : Nat) : Int) < S 38 0 := by omega
  have k2 : wr ((i : Int) + 2) = ((i + 2 : Nat) : Int) := by rw [wr_id (by omega) (by omega)]; omega
  have g2 : ((i + 2 : Nat) : Int) < S 38 0 := by omega
  obtain ⟨x, h1, h2, c1, c2, e1, -, R2⟩ := OKI.y R (ok_says (s := S 37 (i + 1)) (k := S 37 (i + 2)) (d := d) R) ⟨trivial, trivial, trivial⟩
  simp only [r237_489, r237_489n, r237_489s, r237_490, r237_490n, r237_490s, r237_491, r237_492, r237_493, r237_494, r237_495, r237_495n, r237_495s, r237_496, r237_497, r237_498, r237_499, r237_500, r237_503, r237_503n, r237_503s, r237_504, r237_504n, r237_504s, r237_505, r237_506, r237_507, r237_508, r237_509, r237_509n, r237_509s, r237_510, r237_511, r237_512, r237_513, r237_514, r237_517, r237_520, r237_521, reduceIte, Option.some.injEq, and_assoc, exists_and_left, exists_eq_left, exists_eq_left', true_and, and_true, List.length_cons, List.length_nil, Nat.reduceAdd, Nat.reduceLeDiff, Sum.inl.injEq, az_0, az_1, az_2, az_3, az_4, az_5, az_6, az_8, az_11, az_14, az_15, az_17, az_20, az_21, az_22, az_23, az_24, az_25, az_26, az_28, az_29, az_30, az_31, az_32, az_33, az_34, az_35, az_36, ak_0, ak_1, ak_2, ak_3, ak_4, ak_5, ak_6, ak_8, ak_11, ak_14, ak_15, ak_17, ak_20, ak_21, ak_22, ak_23, ak_24, ak_25, ak_26, ak_28, ak_29, ak_30, ak_31, ak_32, ak_33, ak_34, ak_35, ak_36, ak_37, eq_self, Int.toNat_natCast, Nat.zero_le, bI_0, b01_0, bI_or, b01_or, ne_eq, reduceCtorEq, not_false_eq_true, Nat.reduceEqDiff, if_true, if_false, ite_true, ite_false, Int.natCast_nonneg, not_true_eq_false, Bool.true_eq_false, Bool.false_eq_true, Int.reduceEq, Int.reduceLT, Int.reduceLE, Int.reduceToNat, and_self, inA, exists_eq, or_true, true_or, or_false, false_or, and_false, false_and, or_self, Nat.reduceLT, ak_37, k1, g1, k2, g2, e0, e1, CallR_iff c1, CallR_iff c2, opCmp_s]
  exact K _ R2
theorem lw_7 (R : REL S h) (hr : SC S) (hi : (i : Int) + 6 ≤ S 38 0) (K : ∀ h2, REL S h2 → At (CallR (d + 30)) ac_237 1510 [vR 18 37, vR 16 10, vR 17 27, vI i] [] h2 Q) : At (CallR (d + 30)) ac_237 522 [vR 18 37, vR 16 10, vR 17 27, vI i] [] h Q := by
  have hr1 := hr.1
  have e0 := R.1
  have k1 : wr ((i : Int) + 1) = ((i + 1 : Nat) : Int) := by rw [wr_id (by omega) (by omega)]; omega
  have g1 : ((i + 1 : Nat) : Int) < S 38 0 := by omega
  have k2 : wr ((i : Int) + 2) = ((i + 2 : Nat) : Int) := by rw [wr_id (by omega) (by omega)]; omega
  have g2 : ((i + 2 : Nat) : Int) < S 38 0 := by omega
  have k3 : wr ((i : Int) + 3) = ((i + 3 : Nat) : Int) := by rw [wr_id (by omega) (by omega)]; omega
  have g3 : ((i + 3 : Nat) : Int) < S 38 0 := by omega
  obtain ⟨x, h1, h2, c1, c2, e1, -, R2⟩ := OKI.y R (ok_place (k := S 37 (i + 1)) (a := S 37 (i + 2)) (f := S 37 (i + 3)) (d := d) R) ⟨trivial, trivial, trivial, trivial⟩
  simp only [r237_522, r237_522n, r237_522s, r237_523, r237_523n, r237_523s, r237_524, r237_525, r237_526, r237_527, r237_528, r237_528n, r237_528s, r237_529, r237_530, r237_531, r237_532, r237_533, r237_533n, r237_533s, r237_534, r237_535, r237_536, r237_537, r237_538, r237_541, r237_541n, r237_541s, r237_542, r237_542n, r237_542s, r237_543, r237_544, r237_545, r237_546, r237_547, r237_547n, r237_547s, r237_548, r237_549, r237_550, r237_551, r237_552, r237_552n, r237_552s, r237_553, r237_554, r237_555, r237_556, r237_557, r237_560, r237_563, r237_564, reduceIte, Option.some.injEq, and_assoc, exists_and_left, exists_eq_left, exists_eq_left', true_and, and_true, List.length_cons, List.length_nil, Nat.reduceAdd, Nat.reduceLeDiff, Sum.inl.injEq, az_0, az_1, az_2, az_3, az_4, az_5, az_6, az_8, az_11, az_14, az_15, az_17, az_20, az_21, az_22, az_23, az_24, az_25, az_26, az_28, az_29, az_30, az_31, az_32, az_33, az_34, az_35, az_36, ak_0, ak_1, ak_2, ak_3, ak_4, ak_5, ak_6, ak_8, ak_11, ak_14, ak_15, ak_17, ak_20, ak_21, ak_22, ak_23, ak_24, ak_25, ak_26, ak_28, ak_29, ak_30, ak_31, ak_32, ak_33, ak_34, ak_35, ak_36, ak_37, eq_self, Int.toNat_natCast, Nat.zero_le, bI_0, b01_0, bI_or, b01_or, ne_eq, reduceCtorEq, not_false_eq_true, Nat.reduceEqDiff, if_true, if_false, ite_true, ite_false, Int.natCast_nonneg, not_true_eq_false, Bool.true_eq_false, Bool.false_eq_true, Int.reduceEq, Int.reduceLT, Int.reduceLE, Int.reduceToNat, and_self, inA, exists_eq, or_true, true_or, or_false, false_or, and_false, false_and, or_self, Nat.reduceLT, ak_37, k1, g1, k2, g2, k3, g3, e0, e1, CallR_iff c1, CallR_iff c2, opCmp_s]
  exact K _ R2
theorem lw_8 (R : REL S h) (hr : SC S) (hi : (i : Int) + 6 ≤ S 38 0) (K : ∀ h2, REL S h2 → At (CallR (d + 30)) ac_237 1510 [vR 18 37, vR 16 10, vR 17 27, vI i] [] h2 Q) : At (CallR (d + 30)) ac_237 565 [vR 18 37, vR 16 10, vR 17 27, vI i] [] h Q := by
  have hr1 := hr.1
  have e0 := R.1
  have k1 : wr ((i : Int) + 1) = ((i + 1 : Nat) : Int) := by rw [wr_id (by omega) (by omega)]; omega
  have g1 : ((i + 1 : Nat) : Int) < S 38 0 := by omega
  have k2 : wr ((i : Int) + 2) = ((i + 2 : Nat) : Int) := by rw [wr_id (by omega) (by omega)]; omega
  have g2 : ((i + 2 : Nat) : Int) < S 38 0 := by omega
  obtain ⟨x, h1, h2, c1, c2, e1, -, R2⟩ := OKI.y R (ok_placeOf (p := S 37 (i + 1)) (w := S 37 (i + 2)) (d := d) R) ⟨trivial, trivial, trivial⟩
  simp only [r237_565, r237_565n, r237_565s, r237_566, r237_566n, r237_566s, r237_567, r237_568, r237_569, r237_570, r237_571, r237_571n, r237_571s, r237_572, r237_573, r237_574, r237_575, r237_576, r237_579, r237_579n, r237_579s, r237_580, r237_580n, r237_580s, r237_581, r237_582, r237_583, r237_584, r237_585, r237_585n, r237_585s, r237_586, r237_587, r237_588, r237_589, r237_590, r237_593, r237_596, r237_597, reduceIte, Option.some.injEq, and_assoc, exists_and_left, exists_eq_left, exists_eq_left', true_and, and_true, List.length_cons, List.length_nil, Nat.reduceAdd, Nat.reduceLeDiff, Sum.inl.injEq, az_0, az_1, az_2, az_3, az_4, az_5, az_6, az_8, az_11, az_14, az_15, az_17, az_20, az_21, az_22, az_23, az_24, az_25, az_26, az_28, az_29, az_30, az_31, az_32, az_33, az_34, az_35, az_36, ak_0, ak_1, ak_2, ak_3, ak_4, ak_5, ak_6, ak_8, ak_11, ak_14, ak_15, ak_17, ak_20, ak_21, ak_22, ak_23, ak_24, ak_25, ak_26, ak_28, ak_29, ak_30, ak_31, ak_32, ak_33, ak_34, ak_35, ak_36, ak_37, eq_self, Int.toNat_natCast, Nat.zero_le, bI_0, b01_0, bI_or, b01_or, ne_eq, reduceCtorEq, not_false_eq_true, Nat.reduceEqDiff, if_true, if_false, ite_true, ite_false, Int.natCast_nonneg, not_true_eq_false, Bool.true_eq_false, Bool.false_eq_true, Int.reduceEq, Int.reduceLT, Int.reduceLE, Int.reduceToNat, and_self, inA, exists_eq, or_true, true_or, or_false, false_or, and_false, false_and, or_self, Nat.reduceLT, ak_37, k1, g1, k2, g2, e0, e1, CallR_iff c1, CallR_iff c2, opCmp_s]
  exact K _ R2
theorem lw_9 (R : REL S h) (hr : SC S) (hi : (i : Int) + 6 ≤ S 38 0) (K : ∀ h2, REL S h2 → At (CallR (d + 30)) ac_237 1510 [vR 18 37, vR 16 10, vR 17 27, vI i] [] h2 Q) : At (CallR (d + 30)) ac_237 598 [vR 18 37, vR 16 10, vR 17 27, vI i] [] h Q := by
  have hr1 := hr.1
  have e0 := R.1
  have k1 : wr ((i : Int) + 1) = ((i + 1 : Nat) : Int) := by rw [wr_id (by omega) (by omega)]; omega
  have g1 : ((i + 1 : Nat) : Int) < S 38 0 := by omega
  have k2 : wr ((i : Int) + 2) = ((i + 2 : Nat) : Int) := by rw [wr_id (by omega) (by omega)]; omega
  have g2 : ((i + 2 : Nat) : Int) < S 38 0 := by omega
  obtain ⟨x, h1, h2, c1, c2, e1, -, R2⟩ := OKI.y R (ok_fog (p := S 37 (i + 1)) (v := S 37 (i + 2)) (d := d) R) ⟨trivial, trivial, trivial⟩
  simp only [r237_598, r237_598n, r237_598s, r237_599, r237_599n, r237_599s, r237_600, r237_601, r237_602, r237_603, r237_604, r237_604n, r237_604s, r237_605, r237_606, r237_607, r237_608, r237_609, r237_612, r237_612n, r237_612s, r237_613, r237_613n, r237_613s, r237_614, r237_615, r237_616, r237_617, r237_618, r237_618n, r237_618s, r237_619, r237_620, r237_621, r237_622, r237_623, r237_626, r237_629, r237_630, reduceIte, Option.some.injEq, and_assoc, exists_and_left, exists_eq_left, exists_eq_left', true_and, and_true, List.length_cons, List.length_nil, Nat.reduceAdd, Nat.reduceLeDiff, Sum.inl.injEq, az_0, az_1, az_2, az_3, az_4, az_5, az_6, az_8, az_11, az_14, az_15, az_17, az_20, az_21, az_22, az_23, az_24, az_25, az_26, az_28, az_29, az_30, az_31, az_32, az_33, az_34, az_35, az_36, ak_0, ak_1, ak_2, ak_3, ak_4, ak_5, ak_6, ak_8, ak_11, ak_14, ak_15, ak_17, ak_20, ak_21, ak_22, ak_23, ak_24, ak_25, ak_26, ak_28, ak_29, ak_30, ak_31, ak_32, ak_33, ak_34, ak_35, ak_36, ak_37, eq_self, Int.toNat_natCast, Nat.zero_le, bI_0, b01_0, bI_or, b01_or, ne_eq, reduceCtorEq, not_false_eq_true, Nat.reduceEqDiff, if_true, if_false, ite_true, ite_false, Int.natCast_nonneg, not_true_eq_false, Bool.true_eq_false, Bool.false_eq_true, Int.reduceEq, Int.reduceLT, Int.reduceLE, Int.reduceToNat, and_self, inA, exists_eq, or_true, true_or, or_false, false_or, and_false, false_and, or_self, Nat.reduceLT, ak_37, k1, g1, k2, g2, e0, e1, CallR_iff c1, CallR_iff c2, opCmp_s]
  exact K _ R2
theorem lw_10 (R : REL S h) (hr : SC S) (hi : (i : Int) + 6 ≤ S 38 0) (K : ∀ h2, REL S h2 → At (CallR (d + 30)) ac_237 1510 [vR 18 37, vR 16 10, vR 17 27, vI i] [] h2 Q) : At (CallR (d + 30)) ac_237 631 [vR 18 37, vR 16 10, vR 17 27, vI i] [] h Q := by
  have hr1 := hr.1
  have e0 := R.1
  have k1 : wr ((i : Int) + 1) = ((i + 1 : Nat) : Int) := by rw [wr_id (by omega) (by omega)]; omega
  have g1 : ((i + 1 : Nat) : Int) < S 38 0 := by omega
  have k2 : wr ((i : Int) + 2) = ((i + 2 : Nat) : Int) := by rw [wr_id (by omega) (by omega)]; omega
  have g2 : ((i + 2 : Nat) : Int) < S 38 0 := by omega
  obtain ⟨x, h1, h2, c1, c2, e1, -, R2⟩ := OKI.y R (ok_ask (w := S 37 (i + 1)) (v := S 37 (i + 2)) (d := d) R) ⟨trivial, trivial, trivial⟩
  simp only [r237_631, r237_631n, r237_631s, r237_632, r237_632n, r237_632s, r237_633, r237_634, r237_635, r237_636, r237_637, r237_637n, r237_637s, r237_638, r237_639, r237_640, r237_641, r237_642, r237_645, r237_645n, r237_645s, r237_646, r237_646n, r237_646s, r237_647, r237_648, r237_649, r237_650, r237_651, r237_651n, r237_651s, r237_652, r237_653, r237_654, r237_655, r237_656, r237_659, r237_662, r237_663, reduceIte, Option.some.injEq, and_assoc, exists_and_left, exists_eq_left, exists_eq_left', true_and, and_true, List.length_cons, List.length_nil, Nat.reduceAdd, Nat.reduceLeDiff, Sum.inl.injEq, az_0, az_1, az_2, az_3, az_4, az_5, az_6, az_8, az_11, az_14, az_15, az_17, az_20, az_21, az_22, az_23, az_24, az_25, az_26, az_28, az_29, az_30, az_31, az_32, az_33, az_34, az_35, az_36, ak_0, ak_1, ak_2, ak_3, ak_4, ak_5, ak_6, ak_8, ak_11, ak_14, ak_15, ak_17, ak_20, ak_21, ak_22, ak_23, ak_24, ak_25, ak_26, ak_28, ak_29, ak_30, ak_31, ak_32, ak_33, ak_34, ak_35, ak_36, ak_37, eq_self, Int.toNat_natCast, Nat.zero_le, bI_0, b01_0, bI_or, b01_or, ne_eq, reduceCtorEq, not_false_eq_true, Nat.reduceEqDiff, if_true, if_false, ite_true, ite_false, Int.natCast_nonneg, not_true_eq_false, Bool.true_eq_false, Bool.false_eq_true, Int.reduceEq, Int.reduceLT, Int.reduceLE, Int.reduceToNat, and_self, inA, exists_eq, or_true, true_or, or_false, false_or, and_false, false_and, or_self, Nat.reduceLT, ak_37, k1, g1, k2, g2, e0, e1, CallR_iff c1, CallR_iff c2, opCmp_s]
  exact K _ R2
theorem lw_11 (R : REL S h) (hr : SC S) (hi : (i : Int) + 6 ≤ S 38 0) (K : ∀ h2, REL S h2 → At (CallR (d + 30)) ac_237 1510 [vR 18 37, vR 16 10, vR 17 27, vI i] [] h2 Q) : At (CallR (d + 30)) ac_237 664 [vR 18 37, vR 16 10, vR 17 27, vI i] [] h Q := by
  have hr1 := hr.1
  have e0 := R.1
  have k1 : wr ((i : Int) + 1) = ((i + 1 : Nat) : Int) := by rw [wr_id (by omega) (by omega)]; omega
  have g1 : ((i + 1 : Nat) : Int) < S 38 0 := by omega
  have k2 : wr ((i : Int) + 2) = ((i + 2 : Nat) : Int) := by rw [wr_id (by omega) (by omega)]; omega
  have g2 : ((i + 2 : Nat) : Int) < S 38 0 := by omega
  obtain ⟨x, h1, h2, c1, c2, e1, -, R2⟩ := OKI.y R (ok_bottle (p := S 37 (i + 1)) (v := S 37 (i + 2)) (d := d) R) ⟨trivial, trivial, trivial⟩
  simp only [r237_664, r237_664n, r237_664s, r237_665, r237_665n, r237_665s, r237_666, r237_667, r237_668, r237_669, r237_670, r237_670n, r237_670s, r237_671, r237_672, r237_673, r237_674, r237_675, r237_678, r237_678n, r237_678s, r237_679, r237_679n, r237_679s, r237_680, r237_681, r237_682, r237_683, r237_684, r237_684n, r237_684s, r237_685, r237_686, r237_687, r237_688, r237_689, r237_692, r237_695, r237_696, reduceIte, Option.some.injEq, and_assoc, exists_and_left, exists_eq_left, exists_eq_left', true_and, and_true, List.length_cons, List.length_nil, Nat.reduceAdd, Nat.reduceLeDiff, Sum.inl.injEq, az_0, az_1, az_2, az_3, az_4, az_5, az_6, az_8, az_11, az_14, az_15, az_17, az_20, az_21, az_22, az_23, az_24, az_25, az_26, az_28, az_29, az_30, az_31, az_32, az_33, az_34, az_35, az_36, ak_0, ak_1, ak_2, ak_3, ak_4, ak_5, ak_6, ak_8, ak_11, ak_14, ak_15, ak_17, ak_20, ak_21, ak_22, ak_23, ak_24, ak_25, ak_26, ak_28, ak_29, ak_30, ak_31, ak_32, ak_33, ak_34, ak_35, ak_36, ak_37, eq_self, Int.toNat_natCast, Nat.zero_le, bI_0, b01_0, bI_or, b01_or, ne_eq, reduceCtorEq, not_false_eq_true, Nat.reduceEqDiff, if_true, if_false, ite_true, ite_false, Int.natCast_nonneg, not_true_eq_false, Bool.true_eq_false, Bool.false_eq_true, Int.reduceEq, Int.reduceLT, Int.reduceLE, Int.reduceToNat, and_self, inA, exists_eq, or_true, true_or, or_false, false_or, and_false, false_and, or_self, Nat.reduceLT, ak_37, k1, g1, k2, g2, e0, e1, CallR_iff c1, CallR_iff c2, opCmp_s]
  exact K _ R2
theorem lw_12 (R : REL S h) (hr : SC S) (hi : (i : Int) + 6 ≤ S 38 0) (K : ∀ h2, REL S h2 → At (CallR (d + 30)) ac_237 1510 [vR 18 37, vR 16 10, vR 17 27, vI i] [] h2 Q) : At (CallR (d + 30)) ac_237 697 [vR 18 37, vR 16 10, vR 17 27, vI i] [] h Q := by
  have hr1 := hr.1
  have e0 := R.1
  have k1 : wr ((i : Int) + 1) = ((i + 1 : Nat) : Int) := by rw [wr_id (by omega) (by omega)]; omega
  have g1 : ((i + 1 : Nat) : Int) < S 38 0 := by omega
  have k2 : wr ((i : Int) + 2) = ((i + 2 : Nat) : Int) := by rw [wr_id (by omega) (by omega)]; omega
  have g2 : ((i + 2 : Nat) : Int) < S 38 0 := by omega
  obtain ⟨x, h1, h2, c1, c2, e1, -, R2⟩ := OKI.y R (ok_bottleOf (b := S 37 (i + 1)) (w := S 37 (i + 2)) (d := d) R) ⟨trivial, trivial, trivial⟩
  simp only [r237_697, r237_697n, r237_697s, r237_698, r237_698n, r237_698s, r237_699, r237_700, r237_701, r237_702, r237_703, r237_703n, r237_703s, r237_704, r237_705, r237_706, r237_707, r237_708, r237_711, r237_711n, r237_711s, r237_712, r237_712n, r237_712s, r237_713, r237_714, r237_715, r237_716, r237_717, r237_717n, r237_717s, r237_718, r237_719, r237_720, r237_721, r237_722, r237_725, r237_728, r237_729, reduceIte, Option.some.injEq, and_assoc, exists_and_left, exists_eq_left, exists_eq_left', true_and, and_true, List.length_cons, List.length_nil, Nat.reduceAdd, Nat.reduceLeDiff, Sum.inl.injEq, az_0, az_1, az_2, az_3, az_4, az_5, az_6, az_8, az_11, az_14, az_15, az_17, az_20, az_21, az_22, az_23, az_24, az_25, az_26, az_28, az_29, az_30, az_31, az_32, az_33, az_34, az_35, az_36, ak_0, ak_1, ak_2, ak_3, ak_4, ak_5, ak_6, ak_8, ak_11, ak_14, ak_15, ak_17, ak_20, ak_21, ak_22, ak_23, ak_24, ak_25, ak_26, ak_28, ak_29, ak_30, ak_31, ak_32, ak_33, ak_34, ak_35, ak_36, ak_37, eq_self, Int.toNat_natCast, Nat.zero_le, bI_0, b01_0, bI_or, b01_or, ne_eq, reduceCtorEq, not_false_eq_true, Nat.reduceEqDiff, if_true, if_false, ite_true, ite_false, Int.natCast_nonneg, not_true_eq_false, Bool.true_eq_false, Bool.false_eq_true, Int.reduceEq, Int.reduceLT, Int.reduceLE, Int.reduceToNat, and_self, inA, exists_eq, or_true, true_or, or_false, false_or, and_false, false_and, or_self, Nat.reduceLT, ak_37, k1, g1, k2, g2, e0, e1, CallR_iff c1, CallR_iff c2, opCmp_s]
  exact K _ R2
theorem lw_13 (R : REL S h) (hr : SC S) (hi : (i : Int) + 6 ≤ S 38 0) (K : ∀ h2, REL S h2 → At (CallR (d + 30)) ac_237 1510 [vR 18 37, vR 16 10, vR 17 27, vI i] [] h2 Q) : At (CallR (d + 30)) ac_237 730 [vR 18 37, vR 16 10, vR 17 27, vI i] [] h Q := by
  have hr1 := hr.1
  have e0 := R.1
  have k1 : wr ((i : Int) + 1) = ((i + 1 : Nat) : Int) := by rw [wr_id (by omega) (by omega)]; omega
  have g1 : ((i + 1 : Nat) : Int) < S 38 0 := by omega
  obtain ⟨x, h1, h2, c1, c2, e1, -, R2⟩ := OKI.y R (ok_law (s := S 37 (i + 1)) (d := d) R) ⟨trivial, trivial⟩
  simp only [r237_730, r237_730n, r237_730s, r237_731, r237_731n, r237_731s, r237_732, r237_733, r237_734, r237_735, r237_736, r237_739, r237_739n, r237_739s, r237_740, r237_740n, r237_740s, r237_741, r237_742, r237_743, r237_744, r237_745, r237_748, r237_751, r237_752, reduceIte, Option.some.injEq, and_assoc, exists_and_left, exists_eq_left, exists_eq_left', true_and, and_true, List.length_cons, List.length_nil, Nat.reduceAdd, Nat.reduceLeDiff, Sum.inl.injEq, az_0, az_1, az_2, az_3, az_4, az_5, az_6, az_8, az_11, az_14, az_15, az_17, az_20, az_21, az_22, az_23, az_24, az_25, az_26, az_28, az_29, az_30, az_31, az_32, az_33, az_34, az_35, az_36, ak_0, ak_1, ak_2, ak_3, ak_4, ak_5, ak_6, ak_8, ak_11, ak_14, ak_15, ak_17, ak_20, ak_21, ak_22, ak_23, ak_24, ak_25, ak_26, ak_28, ak_29, ak_30, ak_31, ak_32, ak_33, ak_34, ak_35, ak_36, ak_37, eq_self, Int.toNat_natCast, Nat.zero_le, bI_0, b01_0, bI_or, b01_or, ne_eq, reduceCtorEq, not_false_eq_true, Nat.reduceEqDiff, if_true, if_false, ite_true, ite_false, Int.natCast_nonneg, not_true_eq_false, Bool.true_eq_false, Bool.false_eq_true, Int.reduceEq, Int.reduceLT, Int.reduceLE, Int.reduceToNat, and_self, inA, exists_eq, or_true, true_or, or_false, false_or, and_false, false_and, or_self, Nat.reduceLT, ak_37, k1, g1, e0, e1, CallR_iff c1, CallR_iff c2, opCmp_s]
  exact K _ R2
theorem lw_14 (R : REL S h) (hr : SC S) (hi : (i : Int) + 6 ≤ S 38 0) (K : ∀ h2, REL S h2 → At (CallR (d + 30)) ac_237 1510 [vR 18 37, vR 16 10, vR 17 27, vI i] [] h2 Q) : At (CallR (d + 30)) ac_237 753 [vR 18 37, vR 16 10, vR 17 27, vI i] [] h Q := by
  have hr1 := hr.1
  have e0 := R.1

  obtain ⟨x, h1, h2, c1, c2, e1, -, R2⟩ := OKI.y R (ok_fault (d := d) R) trivial
  simp only [r237_753, r237_753n, r237_753s, r237_754, r237_757, r237_757n, r237_757s, r237_758, r237_761, r237_764, r237_765, reduceIte, Option.some.injEq, and_assoc, exists_and_left, exists_eq_left, exists_eq_left', true_and, and_true, List.length_cons, List.length_nil, Nat.reduceAdd, Nat.reduceLeDiff, Sum.inl.injEq, az_0, az_1, az_2, az_3, az_4, az_5, az_6, az_8, az_11, az_14, az_15, az_17, az_20, az_21, az_22, az_23, az_24, az_25, az_26, az_28, az_29, az_30, az_31, az_32, az_33, az_34, az_35, az_36, ak_0, ak_1, ak_2, ak_3, ak_4, ak_5, ak_6, ak_8, ak_11, ak_14, ak_15, ak_17, ak_20, ak_21, ak_22, ak_23, ak_24, ak_25, ak_26, ak_28, ak_29, ak_30, ak_31, ak_32, ak_33, ak_34, ak_35, ak_36, ak_37, eq_self, Int.toNat_natCast, Nat.zero_le, bI_0, b01_0, bI_or, b01_or, ne_eq, reduceCtorEq, not_false_eq_true, Nat.reduceEqDiff, if_true, if_false, ite_true, ite_false, Int.natCast_nonneg, not_true_eq_false, Bool.true_eq_false, Bool.false_eq_true, Int.reduceEq, Int.reduceLT, Int.reduceLE, Int.reduceToNat, and_self, inA, exists_eq, or_true, true_or, or_false, false_or, and_false, false_and, or_self, Nat.reduceLT, ak_37, e0, e1, CallR_iff c1, CallR_iff c2, opCmp_s]
  exact K _ R2
theorem lw_15 (R : REL S h) (hr : SC S) (hi : (i : Int) + 6 ≤ S 38 0) (K : ∀ h2, REL S h2 → At (CallR (d + 30)) ac_237 1510 [vR 18 37, vR 16 10, vR 17 27, vI i] [] h2 Q) : At (CallR (d + 30)) ac_237 766 [vR 18 37, vR 16 10, vR 17 27, vI i] [] h Q := by
  have hr1 := hr.1
  have e0 := R.1

  obtain ⟨x, h1, h2, c1, c2, e1, -, R2⟩ := OKI.y R (ok_may (d := d) R) trivial
  simp only [r237_766, r237_766n, r237_766s, r237_767, r237_770, r237_770n, r237_770s, r237_771, r237_774, r237_777, r237_778, reduceIte, Option.some.injEq, and_assoc, exists_and_left, exists_eq_left, exists_eq_left', true_and, and_true, List.length_cons, List.length_nil, Nat.reduceAdd, Nat.reduceLeDiff, Sum.inl.injEq, az_0, az_1, az_2, az_3, az_4, az_5, az_6, az_8, az_11, az_14, az_15, az_17, az_20, az_21, az_22, az_23, az_24, az_25, az_26, az_28, az_29, az_30, az_31, az_32, az_33, az_34, az_35, az_36, ak_0, ak_1, ak_2, ak_3, ak_4, ak_5, ak_6, ak_8, ak_11, ak_14, ak_15, ak_17, ak_20, ak_21, ak_22, ak_23, ak_24, ak_25, ak_26, ak_28, ak_29, ak_30, ak_31, ak_32, ak_33, ak_34, ak_35, ak_36, ak_37, eq_self, Int.toNat_natCast, Nat.zero_le, bI_0, b01_0, bI_or, b01_or, ne_eq, reduceCtorEq, not_false_eq_true, Nat.reduceEqDiff, if_true, if_false, ite_true, ite_false, Int.natCast_nonneg, not_true_eq_false, Bool.true_eq_false, Bool.false_eq_true, Int.reduceEq, Int.reduceLT, Int.reduceLE, Int.reduceToNat, and_self, inA, exists_eq, or_true, true_or, or_false, false_or, and_false, false_and, or_self, Nat.reduceLT, ak_37, e0, e1, CallR_iff c1, CallR_iff c2, opCmp_s]
  exact K _ R2
theorem lw_16 (R : REL S h) (hr : SC S) (hi : (i : Int) + 6 ≤ S 38 0) (K : ∀ h2, REL S h2 → At (CallR (d + 30)) ac_237 1510 [vR 18 37, vR 16 10, vR 17 27, vI i] [] h2 Q) : At (CallR (d + 30)) ac_237 779 [vR 18 37, vR 16 10, vR 17 27, vI i] [] h Q := by
  have hr1 := hr.1
  have e0 := R.1
  have k1 : wr ((i : Int) + 1) = ((i + 1 : Nat) : Int) := by rw [wr_id (by omega) (by omega)]; omega
  have g1 : ((i + 1 : Nat) : Int) < S 38 0 := by omega
  have k2 : wr ((i : Int) + 2) = ((i + 2 : Nat) : Int) := by rw [wr_id (by omega) (by omega)]; omega
  have g2 : ((i + 2 : Nat) : Int) < S 38 0 := by omega
  obtain ⟨x, h1, h2, c1, c2, e1, -, R2⟩ := OKI.y R (ok_thick (p := S 37 (i + 1)) (n := S 37 (i + 2)) (d := d) R) ⟨trivial, trivial, trivial⟩
  simp only [r237_779, r237_779n, r237_779s, r237_780, r237_780n, r237_780s, r237_781, r237_782, r237_783, r237_784, r237_785, r237_785n, r237_785s, r237_786, r237_787, r237_788, r237_789, r237_790, r237_793, r237_793n, r237_793s, r237_794, r237_794n, r237_794s, r237_795, r237_796, r237_797, r237_798, r237_799, r237_799n, r237_799s, r237_800, r237_801, r237_802, r237_803, r237_804, r237_807, r237_810, r237_811, reduceIte, Option.some.injEq, and_assoc, exists_and_left, exists_eq_left, exists_eq_left', true_and, and_true, List.length_cons, List.length_nil, Nat.reduceAdd, Nat.reduceLeDiff, Sum.inl.injEq, az_0, az_1, az_2, az_3, az_4, az_5, az_6, az_8, az_11, az_14, az_15, az_17, az_20, az_21, az_22, az_23, az_24, az_25, az_26, az_28, az_29, az_30, az_31, az_32, az_33, az_34, az_35, az_36, ak_0, ak_1, ak_2, ak_3, ak_4, ak_5, ak_6, ak_8, ak_11, ak_14, ak_15, ak_17, ak_20, ak_21, ak_22, ak_23, ak_24, ak_25, ak_26, ak_28, ak_29, ak_30, ak_31, ak_32, ak_33, ak_34, ak_35, ak_36, ak_37, eq_self, Int.toNat_natCast, Nat.zero_le, bI_0, b01_0, bI_or, b01_or, ne_eq, reduceCtorEq, not_false_eq_true, Nat.reduceEqDiff, if_true, if_false, ite_true, ite_false, Int.natCast_nonneg, not_true_eq_false, Bool.true_eq_false, Bool.false_eq_true, Int.reduceEq, Int.reduceLT, Int.reduceLE, Int.reduceToNat, and_self, inA, exists_eq, or_true, true_or, or_false, false_or, and_false, false_and, or_self, Nat.reduceLT, ak_37, k1, g1, k2, g2, e0, e1, CallR_iff c1, CallR_iff c2, opCmp_s]
  exact K _ R2
theorem lw_17 (R : REL S h) (hr : SC S) (hi : (i : Int) + 6 ≤ S 38 0) (K : ∀ h2, REL S h2 → At (CallR (d + 30)) ac_237 1510 [vR 18 37, vR 16 10, vR 17 27, vI i] [] h2 Q) : At (CallR (d + 30)) ac_237 812 [vR 18 37, vR 16 10, vR 17 27, vI i] [] h Q := by
  have hr1 := hr.1
  have e0 := R.1
  have k1 : wr ((i : Int) + 1) = ((i + 1 : Nat) : Int) := by rw [wr_id (by omega) (by omega)]; omega
  have g1 : ((i + 1 : Nat) : Int) < S 38 0 := by omega
  have k2 : wr ((i : Int) + 2) = ((i + 2 : Nat) : Int) := by rw [wr_id (by omega) (by omega)]; omega
  have g2 : ((i + 2 : Nat) : Int) < S 38 0 := by omega
  obtain ⟨x, h1, h2, c1, c2, e1, -, R2⟩ := OKI.y R (ok_strength (b := S 37 (i + 1)) (n := S 37 (i + 2)) (d := d) R) ⟨trivial, trivial, trivial⟩
  simp only [r237_812, r237_812n, r237_812s, r237_813, r237_813n, r237_813s, r237_814, r237_815, r237_816, r237_817, r237_818, r237_818n, r237_818s, r237_819, r237_820, r237_821, r237_822, r237_823, r237_826, r237_826n, r237_826s, r237_827, r237_827n, r237_827s, r237_828, r237_829, r237_830, r237_831, r237_832, r237_832n, r237_832s, r237_833, r237_834, r237_835, r237_836, r237_837, r237_840, r237_843, r237_844, reduceIte, Option.some.injEq, and_assoc, exists_and_left, exists_eq_left, exists_eq_left', true_and, and_true, List.length_cons, List.length_nil, Nat.reduceAdd, Nat.reduceLeDiff, Sum.inl.injEq, az_0, az_1, az_2, az_3, az_4, az_5, az_6, az_8, az_11, az_14, az_15, az_17, az_20, az_21, az_22, az_23, az_24, az_25, az_26, az_28, az_29, az_30, az_31, az_32, az_33, az_34, az_35, az_36, ak_0, ak_1, ak_2, ak_3, ak_4, ak_5, ak_6, ak_8, ak_11, ak_14, ak_15, ak_17, ak_20, ak_21, ak_22, ak_23, ak_24, ak_25, ak_26, ak_28, ak_29, ak_30, ak_31, ak_32, ak_33, ak_34, ak_35, ak_36, ak_37, eq_self, Int.toNat_natCast, Nat.zero_le, bI_0, b01_0, bI_or, b01_or, ne_eq, reduceCtorEq, not_false_eq_true, Nat.reduceEqDiff, if_true, if_false, ite_true, ite_false, Int.natCast_nonneg, not_true_eq_false, Bool.true_eq_false, Bool.false_eq_true, Int.reduceEq, Int.reduceLT, Int.reduceLE, Int.reduceToNat, and_self, inA, exists_eq, or_true, true_or, or_false, false_or, and_false, false_and, or_self, Nat.reduceLT, ak_37, k1, g1, k2, g2, e0, e1, CallR_iff c1, CallR_iff c2, opCmp_s]
  exact K _ R2
theorem lw_18 (R : REL S h) (hr : SC S) (hi : (i : Int) + 6 ≤ S 38 0) (K : ∀ h2, REL S h2 → At (CallR (d + 30)) ac_237 1510 [vR 18 37, vR 16 10, vR 17 27, vI i] [] h2 Q) : At (CallR (d + 30)) ac_237 845 [vR 18 37, vR 16 10, vR 17 27, vI i] [] h Q := by
  have hr1 := hr.1
  have e0 := R.1
  have k1 : wr ((i : Int) + 1) = ((i + 1 : Nat) : Int) := by rw [wr_id (by omega) (by omega)]; omega
  have g1 : ((i + 1 : Nat) : Int) < S 38 0 := by omega
  obtain ⟨x, h1, h2, c1, c2, e1, -, R2⟩ := OKI.y R (ok_worthIn (n := S 37 (i + 1)) (d := d) R) ⟨trivial, trivial⟩
  simp only [r237_845, r237_845n, r237_845s, r237_846, r237_846n, r237_846s, r237_847, r237_848, r237_849, r237_850, r237_851, r237_854, r237_854n, r237_854s, r237_855, r237_855n, r237_855s, r237_856, r237_857, r237_858, r237_859, r237_860, r237_863, r237_866, r237_867, reduceIte, Option.some.injEq, and_assoc, exists_and_left, exists_eq_left, exists_eq_left', true_and, and_true, List.length_cons, List.length_nil, Nat.reduceAdd, Nat.reduceLeDiff, Sum.inl.injEq, az_0, az_1, az_2, az_3, az_4, az_5, az_6, az_8, az_11, az_14, az_15, az_17, az_20, az_21, az_22, az_23, az_24, az_25, az_26, az_28, az_29, az_30, az_31, az_32, az_33, az_34, az_35, az_36, ak_0, ak_1, ak_2, ak_3, ak_4, ak_5, ak_6, ak_8, ak_11, ak_14, ak_15, ak_17, ak_20, ak_21, ak_22, ak_23, ak_24, ak_25, ak_26, ak_28, ak_29, ak_30, ak_31, ak_32, ak_33, ak_34, ak_35, ak_36, ak_37, eq_self, Int.toNat_natCast, Nat.zero_le, bI_0, b01_0, bI_or, b01_or, ne_eq, reduceCtorEq, not_false_eq_true, Nat.reduceEqDiff, if_true, if_false, ite_true, ite_false, Int.natCast_nonneg, not_true_eq_false, Bool.true_eq_false, Bool.false_eq_true, Int.reduceEq, Int.reduceLT, Int.reduceLE, Int.reduceToNat, and_self, inA, exists_eq, or_true, true_or, or_false, false_or, and_false, false_and, or_self, Nat.reduceLT, ak_37, k1, g1, e0, e1, CallR_iff c1, CallR_iff c2, opCmp_s]
  exact K _ R2
theorem lw_19 (R : REL S h) (hr : SC S) (hi : (i : Int) + 6 ≤ S 38 0) (K : ∀ h2, REL S h2 → At (CallR (d + 30)) ac_237 1510 [vR 18 37, vR 16 10, vR 17 27, vI i] [] h2 Q) : At (CallR (d + 30)) ac_237 868 [vR 18 37, vR 16 10, vR 17 27, vI i] [] h Q := by
  have hr1 := hr.1
  have e0 := R.1
  have k1 : wr ((i : Int) + 1) = ((i + 1 : Nat) : Int) := by rw [wr_id (by omega) (by omega)]; omega
  have g1 : ((i + 1 : Nat) : Int) < S 38 0 := by omega
  obtain ⟨x, h1, h2, c1, c2, e1, -, R2⟩ := OKI.y R (ok_thickest (p := S 37 (i + 1)) (d := d) R) ⟨trivial, trivial⟩
  simp only [r237_868, r237_868n, r237_868s, r237_869, r237_869n, r237_869s, r237_870, r237_871, r237_872, r237_873, r237_874, r237_877, r237_877n, r237_877s, r237_878, r237_878n, r237_878s, r237_879, r237_880, r237_881, r237_882, r237_883, r237_886, r237_889, r237_890, reduceIte, Option.some.injEq, and_assoc, exists_and_left, exists_eq_left, exists_eq_left', true_and, and_true, List.length_cons, List.length_nil, Nat.reduceAdd, Nat.reduceLeDiff, Sum.inl.injEq, az_0, az_1, az_2, az_3, az_4, az_5, az_6, az_8, az_11, az_14, az_15, az_17, az_20, az_21, az_22, az_23, az_24, az_25, az_26, az_28, az_29, az_30, az_31, az_32, az_33, az_34, az_35, az_36, ak_0, ak_1, ak_2, ak_3, ak_4, ak_5, ak_6, ak_8, ak_11, ak_14, ak_15, ak_17, ak_20, ak_21, ak_22, ak_23, ak_24, ak_25, ak_26, ak_28, ak_29, ak_30, ak_31, ak_32, ak_33, ak_34, ak_35, ak_36, ak_37, eq_self, Int.toNat_natCast, Nat.zero_le, bI_0, b01_0, bI_or, b01_or, ne_eq, reduceCtorEq, not_false_eq_true, Nat.reduceEqDiff, if_true, if_false, ite_true, ite_false, Int.natCast_nonneg, not_true_eq_false, Bool.true_eq_false, Bool.false_eq_true, Int.reduceEq, Int.reduceLT, Int.reduceLE, Int.reduceToNat, and_self, inA, exists_eq, or_true, true_or, or_false, false_or, and_false, false_and, or_self, Nat.reduceLT, ak_37, k1, g1, e0, e1, CallR_iff c1, CallR_iff c2, opCmp_s]
  exact K _ R2
theorem lw_20 (R : REL S h) (hr : SC S) (hi : (i : Int) + 6 ≤ S 38 0) (K : ∀ h2, REL S h2 → At (CallR (d + 30)) ac_237 1510 [vR 18 37, vR 16 10, vR 17 27, vI i] [] h2 Q) : At (CallR (d + 30)) ac_237 891 [vR 18 37, vR 16 10, vR 17 27, vI i] [] h Q := by
  have hr1 := hr.1
  have e0 := R.1
  have k1 : wr ((i : Int) + 1) = ((i + 1 : Nat) : Int) := by rw [wr_id (by omega) (by omega)]; omega
  have g1 : ((i + 1 : Nat) : Int) < S 38 0 := by omega
  obtain ⟨x, h1, h2, c1, c2, e1, -, R2⟩ := OKI.y R (ok_where (n := S 37 (i + 1)) (d := d) R) ⟨trivial, trivial⟩
  simp only [r237_891, r237_891n, r237_891s, r237_892, r237_892n, r237_892s, r237_893, r237_894, r237_895, r237_896, r237_897, r237_900, r237_900n, r237_900s, r237_901, r237_901n, r237_901s, r237_902, r237_903, r237_904, r237_905, r237_906, r237_909, r237_912, r237_913, reduceIte, Option.some.injEq, and_assoc, exists_and_left, exists_eq_left, exists_eq_left', true_and, and_true, List.length_cons, List.length_nil, Nat.reduceAdd, Nat.reduceLeDiff, Sum.inl.injEq, az_0, az_1, az_2, az_3, az_4, az_5, az_6, az_8, az_11, az_14, az_15, az_17, az_20, az_21, az_22, az_23, az_24, az_25, az_26, az_28, az_29, az_30, az_31, az_32, az_33, az_34, az_35, az_36, ak_0, ak_1, ak_2, ak_3, ak_4, ak_5, ak_6, ak_8, ak_11, ak_14, ak_15, ak_17, ak_20, ak_21, ak_22, ak_23, ak_24, ak_25, ak_26, ak_28, ak_29, ak_30, ak_31, ak_32, ak_33, ak_34, ak_35, ak_36, ak_37, eq_self, Int.toNat_natCast, Nat.zero_le, bI_0, b01_0, bI_or, b01_or, ne_eq, reduceCtorEq, not_false_eq_true, Nat.reduceEqDiff, if_true, if_false, ite_true, ite_false, Int.natCast_nonneg, not_true_eq_false, Bool.true_eq_false, Bool.false_eq_true, Int.reduceEq, Int.reduceLT, Int.reduceLE, Int.reduceToNat, and_self, inA, exists_eq, or_true, true_or, or_false, false_or, and_false, false_and, or_self, Nat.reduceLT, ak_37, k1, g1, e0, e1, CallR_iff c1, CallR_iff c2, opCmp_s]
  exact K _ R2
theorem lw_21 (R : REL S h) (hr : SC S) (hi : (i : Int) + 6 ≤ S 38 0) (K : ∀ h2, REL S h2 → At (CallR (d + 30)) ac_237 1510 [vR 18 37, vR 16 10, vR 17 27, vI i] [] h2 Q) : At (CallR (d + 30)) ac_237 914 [vR 18 37, vR 16 10, vR 17 27, vI i] [] h Q := by
  have hr1 := hr.1
  have e0 := R.1
  have k1 : wr ((i : Int) + 1) = ((i + 1 : Nat) : Int) := by rw [wr_id (by omega) (by omega)]; omega
  have g1 : ((i + 1 : Nat) : Int) < S 38 0 := by omega
  obtain ⟨x, h1, h2, c1, c2, e1, -, R2⟩ := OKI.y R (ok_lasts (b := S 37 (i + 1)) (d := d) R) ⟨trivial, trivial⟩
  simp only [r237_914, r237_914n, r237_914s, r237_915, r237_915n, r237_915s, r237_916, r237_917, r237_918, r237_919, r237_920, r237_923, r237_923n, r237_923s, r237_924, r237_924n, r237_924s, r237_925, r237_926, r237_927, r237_928, r237_929, r237_932, r237_935, r237_936, reduceIte, Option.some.injEq, and_assoc, exists_and_left, exists_eq_left, exists_eq_left', true_and, and_true, List.length_cons, List.length_nil, Nat.reduceAdd, Nat.reduceLeDiff, Sum.inl.injEq, az_0, az_1, az_2, az_3, az_4, az_5, az_6, az_8, az_11, az_14, az_15, az_17, az_20, az_21, az_22, az_23, az_24, az_25, az_26, az_28, az_29, az_30, az_31, az_32, az_33, az_34, az_35, az_36, ak_0, ak_1, ak_2, ak_3, ak_4, ak_5, ak_6, ak_8, ak_11, ak_14, ak_15, ak_17, ak_20, ak_21, ak_22, ak_23, ak_24, ak_25, ak_26, ak_28, ak_29, ak_30, ak_31, ak_32, ak_33, ak_34, ak_35, ak_36, ak_37, eq_self, Int.toNat_natCast, Nat.zero_le, bI_0, b01_0, bI_or, b01_or, ne_eq, reduceCtorEq, not_false_eq_true, Nat.reduceEqDiff, if_true, if_false, ite_true, ite_false, Int.natCast_nonneg, not_true_eq_false, Bool.true_eq_false, Bool.false_eq_true, Int.reduceEq, Int.reduceLT, Int.reduceLE, Int.reduceToNat, and_self, inA, exists_eq, or_true, true_or, or_false, false_or, and_false, false_and, or_self, Nat.reduceLT, ak_37, k1, g1, e0, e1, CallR_iff c1, CallR_iff c2, opCmp_s]
  exact K _ R2
theorem lw_22 (R : REL S h) (hr : SC S) (hi : (i : Int) + 6 ≤ S 38 0) (K : ∀ h2, REL S h2 → At (CallR (d + 30)) ac_237 1510 [vR 18 37, vR 16 10, vR 17 27, vI i] [] h2 Q) : At (CallR (d + 30)) ac_237 937 [vR 18 37, vR 16 10, vR 17 27, vI i] [] h Q := by
  have hr1 := hr.1
  have e0 := R.1
  have k1 : wr ((i : Int) + 1) = ((i + 1 : Nat) : Int) := by rw [wr_id (by omega) (by omega)]; omega
  have g1 : ((i + 1 : Nat) : Int) < S 38 0 := by omega
  have k2 : wr ((i : Int) + 2) = ((i + 2 : Nat) : Int) := by rw [wr_id (by omega) (by omega)]; omega
  have g2 : ((i + 2 : Nat) : Int) < S 38 0 := by omega
  obtain ⟨x, h1, h2, c1, c2, e1, -, R2⟩ := OKI.y R (ok_keep (b := S 37 (i + 1)) (n := S 37 (i + 2)) (d := d) R) ⟨trivial, trivial, trivial⟩
  simp only [r237_937, r237_937n, r237_937s, r237_938, r237_938n, r237_938s, r237_939, r237_940, r237_941, r237_942, r237_943, r237_943n, r237_943s, r237_944, r237_945, r237_946, r237_947, r237_948, r237_951, r237_951n, r237_951s, r237_952, r237_952n, r237_952s, r237_953, r237_954, r237_955, r237_956, r237_957, r237_957n, r237_957s, r237_958, r237_959, r237_960, r237_961, r237_962, r237_965, r237_968, r237_969, reduceIte, Option.some.injEq, and_assoc, exists_and_left, exists_eq_left, exists_eq_left', true_and, and_true, List.length_cons, List.length_nil, Nat.reduceAdd, Nat.reduceLeDiff, Sum.inl.injEq, az_0, az_1, az_2, az_3, az_4, az_5, az_6, az_8, az_11, az_14, az_15, az_17, az_20, az_21, az_22, az_23, az_24, az_25, az_26, az_28, az_29, az_30, az_31, az_32, az_33, az_34, az_35, az_36, ak_0, ak_1, ak_2, ak_3, ak_4, ak_5, ak_6, ak_8, ak_11, ak_14, ak_15, ak_17, ak_20, ak_21, ak_22, ak_23, ak_24, ak_25, ak_26, ak_28, ak_29, ak_30, ak_31, ak_32, ak_33, ak_34, ak_35, ak_36, ak_37, eq_self, Int.toNat_natCast, Nat.zero_le, bI_0, b01_0, bI_or, b01_or, ne_eq, reduceCtorEq, not_false_eq_true, Nat.reduceEqDiff, if_true, if_false, ite_true, ite_false, Int.natCast_nonneg, not_true_eq_false, Bool.true_eq_false, Bool.false_eq_true, Int.reduceEq, Int.reduceLT, Int.reduceLE, Int.reduceToNat, and_self, inA, exists_eq, or_true, true_or, or_false, false_or, and_false, false_and, or_self, Nat.reduceLT, ak_37, k1, g1, k2, g2, e0, e1, CallR_iff c1, CallR_iff c2, opCmp_s]
  exact K _ R2
theorem lw_23 (R : REL S h) (hr : SC S) (hi : (i : Int) + 6 ≤ S 38 0) (K : ∀ h2, REL S h2 → At (CallR (d + 30)) ac_237 1510 [vR 18 37, vR 16 10, vR 17 27, vI i] [] h2 Q) : At (CallR (d + 30)) ac_237 970 [vR 18 37, vR 16 10, vR 17 27, vI i] [] h Q := by
  have hr1 := hr.1
  have e0 := R.1
  have k1 : wr ((i : Int) + 1) = ((i + 1 : Nat) : Int) := by rw [wr_id (by omega) (by omega)]; omega
  have g1 : ((i + 1 : Nat) : Int) < S 38 0 := by omega
  have k2 : wr ((i : Int) + 2) = ((i + 2 : Nat) : Int) := by rw [wr_id (by omega) (by omega)]; omega
  have g2 : ((i + 2 : Nat) : Int) < S 38 0 := by omega
  obtain ⟨x, h1, h2, c1, c2, e1, -, R2⟩ := OKI.y R (ok_ahead (n := S 37 (i + 1)) (i := S 37 (i + 2)) (d := d) R) ⟨trivial, trivial, trivial⟩
  simp only [r237_970, r237_970n, r237_970s, r237_971, r237_971n, r237_971s, r237_972, r237_973, r237_974, r237_975, r237_976, r237_976n, r237_976s, r237_977, r237_978, r237_979, r237_980, r237_981, r237_984, r237_984n, r237_984s, r237_985, r237_985n, r237_985s, r237_986, r237_987, r237_988, r237_989, r237_990, r237_990n, r237_990s, r237_991, r237_992, r237_993, r237_994, r237_995, r237_998, r237_1001, r237_1002, reduceIte, Option.some.injEq, and_assoc, exists_and_left, exists_eq_left, exists_eq_left', true_and, and_true, List.length_cons, List.length_nil, Nat.reduceAdd, Nat.reduceLeDiff, Sum.inl.injEq, az_0, az_1, az_2, az_3, az_4, az_5, az_6, az_8, az_11, az_14, az_15, az_17, az_20, az_21, az_22, az_23, az_24, az_25, az_26, az_28, az_29, az_30, az_31, az_32, az_33, az_34, az_35, az_36, ak_0, ak_1, ak_2, ak_3, ak_4, ak_5, ak_6, ak_8, ak_11, ak_14, ak_15, ak_17, ak_20, ak_21, ak_22, ak_23, ak_24, ak_25, ak_26, ak_28, ak_29, ak_30, ak_31, ak_32, ak_33, ak_34, ak_35, ak_36, ak_37, eq_self, Int.toNat_natCast, Nat.zero_le, bI_0, b01_0, bI_or, b01_or, ne_eq, reduceCtorEq, not_false_eq_true, Nat.reduceEqDiff, if_true, if_false, ite_true, ite_false, Int.natCast_nonneg, not_true_eq_false, Bool.true_eq_false, Bool.false_eq_true, Int.reduceEq, Int.reduceLT, Int.reduceLE, Int.reduceToNat, and_self, inA, exists_eq, or_true, true_or, or_false, false_or, and_false, false_and, or_self, Nat.reduceLT, ak_37, k1, g1, k2, g2, e0, e1, CallR_iff c1, CallR_iff c2, opCmp_s]
  exact K _ R2
theorem lw_24 (R : REL S h) (hr : SC S) (hi : (i : Int) + 6 ≤ S 38 0) (K : ∀ h2, REL S h2 → At (CallR (d + 30)) ac_237 1510 [vR 18 37, vR 16 10, vR 17 27, vI i] [] h2 Q) : At (CallR (d + 30)) ac_237 1003 [vR 18 37, vR 16 10, vR 17 27, vI i] [] h Q := by
  have hr1 := hr.1
  have e0 := R.1
  have k1 : wr ((i : Int) + 1) = ((i + 1 : Nat) : Int) := by rw [wr_id (by omega) (by omega)]; omega
  have g1 : ((i + 1 : Nat) : Int) < S 38 0 := by omega
  have k2 : wr ((i : Int) + 2) = ((i + 2 : Nat) : Int) := by rw [wr_id (by omega) (by omega)]; omega
  have g2 : ((i + 2 : Nat) : Int) < S 38 0 := by omega
  have k3 : wr ((i : Int) + 3) = ((i + 3 : Nat) : Int) := by rw [wr_id (by omega) (by omega)]; omega
  have g3 : ((i + 3 : Nat) : Int) < S 38 0 := by omega
  obtain ⟨x, h1, h2, c1, c2, e1, -, R2⟩ := OKI.y R (ok_by (r := S 37 (i + 1)) (n := S 37 (i + 2)) (w := S 37 (i + 3)) (d := d) R) ⟨trivial, trivial, trivial, trivial⟩
  simp only [r237_1003, r237_1003n, r237_1003s, r237_1004, r237_1004n, r237_1004s, r237_1005, r237_1006, r237_1007, r237_1008, r237_1009, r237_1009n, r237_1009s, r237_1010, r237_1011, r237_1012, r237_1013, r237_1014, r237_1014n, r237_1014s, r237_1015, r237_1016, r237_1017, r237_1018, r237_1019, r237_1022, r237_1022n, r237_1022s, r237_1023, r237_1023n, r237_1023s, r237_1024, r237_1025, r237_1026, r237_1027, r237_1028, r237_1028n, r237_1028s, r237_1029, r237_1030, r237_1031, r237_1032, r237_1033, r237_1033n, r237_1033s, r237_1034, r237_1035, r237_1036, r237_1037, r237_1038, r237_1041, r237_1044, r237_1045, reduceIte, Option.some.injEq, and_assoc, exists_and_left, exists_eq_left, exists_eq_left', true_and, and_true, List.length_cons, List.length_nil, Nat.reduceAdd, Nat.reduceLeDiff, Sum.inl.injEq, az_0, az_1, az_2, az_3, az_4, az_5, az_6, az_8, az_11, az_14, az_15, az_17, az_20, az_21, az_22, az_23, az_24, az_25, az_26, az_28, az_29, az_30, az_31, az_32, az_33, az_34, az_35, az_36, ak_0, ak_1, ak_2, ak_3, ak_4, ak_5, ak_6, ak_8, ak_11, ak_14, ak_15, ak_17, ak_20, ak_21, ak_22, ak_23, ak_24, ak_25, ak_26, ak_28, ak_29, ak_30, ak_31, ak_32, ak_33, ak_34, ak_35, ak_36, ak_37, eq_self, Int.toNat_natCast, Nat.zero_le, bI_0, b01_0, bI_or, b01_or, ne_eq, reduceCtorEq, not_false_eq_true, Nat.reduceEqDiff, if_true, if_false, ite_true, ite_false, Int.natCast_nonneg, not_true_eq_false, Bool.true_eq_false, Bool.false_eq_true, Int.reduceEq, Int.reduceLT, Int.reduceLE, Int.reduceToNat, and_self, inA, exists_eq, or_true, true_or, or_false, false_or, and_false, false_and, or_self, Nat.reduceLT, ak_37, k1, g1, k2, g2, k3, g3, e0, e1, CallR_iff c1, CallR_iff c2, opCmp_s]
  exact K _ R2
theorem lw_25 (R : REL S h) (hr : SC S) (hi : (i : Int) + 6 ≤ S 38 0) (K : ∀ h2, REL S h2 → At (CallR (d + 30)) ac_237 1510 [vR 18 37, vR 16 10, vR 17 27, vI i] [] h2 Q) : At (CallR (d + 30)) ac_237 1046 [vR 18 37, vR 16 10, vR 17 27, vI i] [] h Q := by
  have hr1 := hr.1
  have e0 := R.1
  have k1 : wr ((i : Int) + 1) = ((i + 1 : Nat) : Int) := by rw [wr_id (by omega) (by omega)]; omega
  have g1 : ((i + 1 : Nat) : Int) < S 38 0 := by omega
  obtain ⟨x, h1, h2, c1, c2, e1, -, R2⟩ := OKI.y R (ok_best (n := S 37 (i + 1)) (d := d) R) ⟨trivial, trivial⟩
  simp only [r237_1046, r237_1046n, r237_1046s, r237_1047, r237_1047n, r237_1047s, r237_1048, r237_1049, r237_1050, r237_1051, r237_1052, r237_1055, r237_1055n, r237_1055s, r237_1056, r237_1056n, r237_1056s, r237_1057, r237_1058, r237_1059, r237_1060, r237_1061, r237_1064, r237_1067, r237_1068, reduceIte, Option.some.injEq, and_assoc, exists_and_left, exists_eq_left, exists_eq_left', true_and, and_true, List.length_cons, List.length_nil, Nat.reduceAdd, Nat.reduceLeDiff, Sum.inl.injEq, az_0, az_1, az_2, az_3, az_4, az_5, az_6, az_8, az_11, az_14, az_15, az_17, az_20, az_21, az_22, az_23, az_24, az_25, az_26, az_28, az_29, az_30, az_31, az_32, az_33, az_34, az_35, az_36, ak_0, ak_1, ak_2, ak_3, ak_4, ak_5, ak_6, ak_8, ak_11, ak_14, ak_15, ak_17, ak_20, ak_21, ak_22, ak_23, ak_24, ak_25, ak_26, ak_28, ak_29, ak_30, ak_31, ak_32, ak_33, ak_34, ak_35, ak_36, ak_37, eq_self, Int.toNat_natCast, Nat.zero_le, bI_0, b01_0, bI_or, b01_or, ne_eq, reduceCtorEq, not_false_eq_true, Nat.reduceEqDiff, if_true, if_false, ite_true, ite_false, Int.natCast_nonneg, not_true_eq_false, Bool.true_eq_false, Bool.false_eq_true, Int.reduceEq, Int.reduceLT, Int.reduceLE, Int.reduceToNat, and_self, inA, exists_eq, or_true, true_or, or_false, false_or, and_false, false_and, or_self, Nat.reduceLT, ak_37, k1, g1, e0, e1, CallR_iff c1, CallR_iff c2, opCmp_s]
  exact K _ R2
theorem lw_26 (R : REL S h) (hr : SC S) (hi : (i : Int) + 6 ≤ S 38 0) (K : ∀ h2, REL S h2 → At (CallR (d + 30)) ac_237 1510 [vR 18 37, vR 16 10, vR 17 27, vI i] [] h2 Q) : At (CallR (d + 30)) ac_237 1069 [vR 18 37, vR 16 10, vR 17 27, vI i] [] h Q := by
  have hr1 := hr.1
  have e0 := R.1
  have k1 : wr ((i : Int) + 1) = ((i + 1 : Nat) : Int) := by rw [wr_id (by omega) (by omega)]; omega
  have g1 : ((i + 1 : Nat) : Int) < S 38 0 := by omega
  have k2 : wr ((i : Int) + 2) = ((i + 2 : Nat) : Int) := by rw [wr_id (by omega) (by omega)]; omega
  have g2 : ((i + 2 : Nat) : Int) < S 38 0 := by omega
  have k3 : wr ((i : Int) + 3) = ((i + 3 : Nat) : Int) := by rw [wr_id (by omega) (by omega)]; omega
  have g3 : ((i + 3 : Nat) : Int) < S 38 0 := by omega
  obtain ⟨x, h1, h2, c1, c2, e1, -, R2⟩ := OKI.y R (ok_latest (r := S 37 (i + 1)) (n := S 37 (i + 2)) (v := S 37 (i + 3)) (d := d) R) ⟨trivial, trivial, trivial, trivial⟩
  simp only [r237_1069, r237_1069n, r237_1069s, r237_1070, r237_1070n, r237_1070s, r237_1071, r237_1072, r237_1073, r237_1074, r237_1075, r237_1075n, r237_1075s, r237_1076, r237_1077, r237_1078, r237_1079, r237_1080, r237_1080n, r237_1080s, r237_1081, r237_1082, r237_1083, r237_1084, r237_1085, r237_1088, r237_1088n, r237_1088s, r237_1089, r237_1089n, r237_1089s, r237_1090, r237_1091, r237_1092, r237_1093, r237_1094, r237_1094n, r237_1094s, r237_1095, r237_1096, r237_1097, r237_1098, r237_1099, r237_1099n, r237_1099s, r237_1100, r237_1101, r237_1102, r237_1103, r237_1104, r237_1107, r237_1110, r237_1111, reduceIte, Option.some.injEq, and_assoc, exists_and_left, exists_eq_left, exists_eq_left', true_and, and_true, List.length_cons, List.length_nil, Nat.reduceAdd, Nat.reduceLeDiff, Sum.inl.injEq, az_0, az_1, az_2, az_3, az_4, az_5, az_6, az_8, az_11, az_14, az_15, az_17, az_20, az_21, az_22, az_23, az_24, az_25, az_26, az_28, az_29, az_30, az_31, az_32, az_33, az_34, az_35, az_36, ak_0, ak_1, ak_2, ak_3, ak_4, ak_5, ak_6, ak_8, ak_11, ak_14, ak_15, ak_17, ak_20, ak_21, ak_22, ak_23, ak_24, ak_25, ak_26, ak_28, ak_29, ak_30, ak_31, ak_32, ak_33, ak_34, ak_35, ak_36, ak_37, eq_self, Int.toNat_natCast, Nat.zero_le, bI_0, b01_0, bI_or, b01_or, ne_eq, reduceCtorEq, not_false_eq_true, Nat.reduceEqDiff, if_true, if_false, ite_true, ite_false, Int.natCast_nonneg, not_true_eq_false, Bool.true_eq_false, Bool.false_eq_true, Int.reduceEq, Int.reduceLT, Int.reduceLE, Int.reduceToNat, and_self, inA, exists_eq, or_true, true_or, or_false, false_or, and_false, false_and, or_self, Nat.reduceLT, ak_37, k1, g1, k2, g2, k3, g3, e0, e1, CallR_iff c1, CallR_iff c2, opCmp_s]
  exact K _ R2
theorem lw_27 (R : REL S h) (hr : SC S) (hi : (i : Int) + 6 ≤ S 38 0) (K : ∀ h2, REL S h2 → At (CallR (d + 30)) ac_237 1510 [vR 18 37, vR 16 10, vR 17 27, vI i] [] h2 Q) : At (CallR (d + 30)) ac_237 1112 [vR 18 37, vR 16 10, vR 17 27, vI i] [] h Q := by
  have hr1 := hr.1
  have e0 := R.1
  have k1 : wr ((i : Int) + 1) = ((i + 1 : Nat) : Int) := by rw [wr_id (by omega) (by omega)]; omega
  have g1 : ((i + 1 : Nat) : Int) < S 38 0 := by omega
  obtain ⟨x, h1, h2, c1, c2, e1, -, R2⟩ := OKI.y R (ok_dear (n := S 37 (i + 1)) (d := d) R) ⟨trivial, trivial⟩
  simp only [r237_1112, r237_1112n, r237_1112s, r237_1113, r237_1113n, r237_1113s, r237_1114, r237_1115, r237_1116, r237_1117, r237_1118, r237_1121, r237_1121n, r237_1121s, r237_1122, r237_1122n, r237_1122s, r237_1123, r237_1124, r237_1125, r237_1126, r237_1127, r237_1130, r237_1133, r237_1134, reduceIte, Option.some.injEq, and_assoc, exists_and_left, exists_eq_left, exists_eq_left', true_and, and_true, List.length_cons, List.length_nil, Nat.reduceAdd, Nat.reduceLeDiff, Sum.inl.injEq, az_0, az_1, az_2, az_3, az_4, az_5, az_6, az_8, az_11, az_14, az_15, az_17, az_20, az_21, az_22, az_23, az_24, az_25, az_26, az_28, az_29, az_30, az_31, az_32, az_33, az_34, az_35, az_36, ak_0, ak_1, ak_2, ak_3, ak_4, ak_5, ak_6, ak_8, ak_11, ak_14, ak_15, ak_17, ak_20, ak_21, ak_22, ak_23, ak_24, ak_25, ak_26, ak_28, ak_29, ak_30, ak_31, ak_32, ak_33, ak_34, ak_35, ak_36, ak_37, eq_self, Int.toNat_natCast, Nat.zero_le, bI_0, b01_0, bI_or, b01_or, ne_eq, reduceCtorEq, not_false_eq_true, Nat.reduceEqDiff, if_true, if_false, ite_true, ite_false, Int.natCast_nonneg, not_true_eq_false, Bool.true_eq_false, Bool.false_eq_true, Int.reduceEq, Int.reduceLT, Int.reduceLE, Int.reduceToNat, and_self, inA, exists_eq, or_true, true_or, or_false, false_or, and_false, false_and, or_self, Nat.reduceLT, ak_37, k1, g1, e0, e1, CallR_iff c1, CallR_iff c2, opCmp_s]
  exact K _ R2
theorem lw_28 (R : REL S h) (hr : SC S) (hi : (i : Int) + 6 ≤ S 38 0) (K : ∀ h2, REL S h2 → At (CallR (d + 30)) ac_237 1510 [vR 18 37, vR 16 10, vR 17 27, vI i] [] h2 Q) : At (CallR (d + 30)) ac_237 1135 [vR 18 37, vR 16 10, vR 17 27, vI i] [] h Q := by
  have hr1 := hr.1
  have e0 := R.1
  have k1 : wr ((i : Int) + 1) = ((i + 1 : Nat) : Int) := by rw [wr_id (by omega) (by omega)]; omega
  have g1 : ((i + 1 : Nat) : Int) < S 38 0 := by omega
  have k2 : wr ((i : Int) + 2) = ((i + 2 : Nat) : Int) := by rw [wr_id (by omega) (by omega)]; omega
  have g2 : ((i + 2 : Nat) : Int) < S 38 0 := by omega
  obtain ⟨x, h1, h2, c1, c2, e1, -, R2⟩ := OKI.y R (ok_tells (s := S 37 (i + 1)) (n := S 37 (i + 2)) (d := d) R) ⟨trivial, trivial, trivial⟩
  simp only [r237_1135, r237_1135n, r237_1135s, r237_1136, r237_1136n, r237_1136s, r237_1137, r237_1138, r237_1139, r237_1140, r237_1141, r237_1141n, r237_1141s, r237_1142, r237_1143, r237_1144, r237_1145, r237_1146, r237_1149, r237_1149n, r237_1149s, r237_1150, r237_1150n, r237_1150s, r237_1151, r237_1152, r237_1153, r237_1154, r237_1155, r237_1155n, r237_1155s, r237_1156, r237_1157, r237_1158, r237_1159, r237_1160, r237_1163, r237_1166, r237_1167, reduceIte, Option.some.injEq, and_assoc, exists_and_left, exists_eq_left, exists_eq_left', true_and, and_true, List.length_cons, List.length_nil, Nat.reduceAdd, Nat.reduceLeDiff, Sum.inl.injEq, az_0, az_1, az_2, az_3, az_4, az_5, az_6, az_8, az_11, az_14, az_15, az_17, az_20, az_21, az_22, az_23, az_24, az_25, az_26, az_28, az_29, az_30, az_31, az_32, az_33, az_34, az_35, az_36, ak_0, ak_1, ak_2, ak_3, ak_4, ak_5, ak_6, ak_8, ak_11, ak_14, ak_15, ak_17, ak_20, ak_21, ak_22, ak_23, ak_24, ak_25, ak_26, ak_28, ak_29, ak_30, ak_31, ak_32, ak_33, ak_34, ak_35, ak_36, ak_37, eq_self, Int.toNat_natCast, Nat.zero_le, bI_0, b01_0, bI_or, b01_or, ne_eq, reduceCtorEq, not_false_eq_true, Nat.reduceEqDiff, if_true, if_false, ite_true, ite_false, Int.natCast_nonneg, not_true_eq_false, Bool.true_eq_false, Bool.false_eq_true, Int.reduceEq, Int.reduceLT, Int.reduceLE, Int.reduceToNat, and_self, inA, exists_eq, or_true, true_or, or_false, false_or, and_false, false_and, or_self, Nat.reduceLT, ak_37, k1, g1, k2, g2, e0, e1, CallR_iff c1, CallR_iff c2, opCmp_s]
  exact K _ R2
theorem lw_29 (R : REL S h) (hr : SC S) (hi : (i : Int) + 6 ≤ S 38 0) (K : ∀ h2, REL S h2 → At (CallR (d + 30)) ac_237 1510 [vR 18 37, vR 16 10, vR 17 27, vI i] [] h2 Q) : At (CallR (d + 30)) ac_237 1168 [vR 18 37, vR 16 10, vR 17 27, vI i] [] h Q := by
  have hr1 := hr.1
  have e0 := R.1
  have k1 : wr ((i : Int) + 1) = ((i + 1 : Nat) : Int) := by rw [wr_id (by omega) (by omega)]; omega
  have g1 : ((i + 1 : Nat) : Int) < S 38 0 := by omega
  have k2 : wr ((i : Int) + 2) = ((i + 2 : Nat) : Int) := by rw [wr_id (by omega) (by omega)]; omega
  have g2 : ((i + 2 : Nat) : Int) < S 38 0 := by omega
  obtain ⟨x, h1, h2, c1, c2, e1, -, R2⟩ := OKI.y R (ok_judge (s := S 37 (i + 1)) (n := S 37 (i + 2)) (d := d) R) ⟨trivial, trivial, trivial⟩
  simp only [r237_1168, r237_1168n, r237_1168s, r237_1169, r237_1169n, r237_1169s, r237_1170, r237_1171, r237_1172, r237_1173, r237_1174, r237_1174n, r237_1174s, r237_1175, r237_1176, r237_1177, r237_1178, r237_1179, r237_1182, r237_1182n, r237_1182s, r237_1183, r237_1183n, r237_1183s, r237_1184, r237_1185, r237_1186, r237_1187, r237_1188, r237_1188n, r237_1188s, r237_1189, r237_1190, r237_1191, r237_1192, r237_1193, r237_1196, r237_1199, r237_1200, reduceIte, Option.some.injEq, and_assoc, exists_and_left, exists_eq_left, exists_eq_left', true_and, and_true, List.length_cons, List.length_nil, Nat.reduceAdd, Nat.reduceLeDiff, Sum.inl.injEq, az_0, az_1, az_2, az_3, az_4, az_5, az_6, az_8, az_11, az_14, az_15, az_17, az_20, az_21, az_22, az_23, az_24, az_25, az_26, az_28, az_29, az_30, az_31, az_32, az_33, az_34, az_35, az_36, ak_0, ak_1, ak_2, ak_3, ak_4, ak_5, ak_6, ak_8, ak_11, ak_14, ak_15, ak_17, ak_20, ak_21, ak_22, ak_23, ak_24, ak_25, ak_26, ak_28, ak_29, ak_30, ak_31, ak_32, ak_33, ak_34, ak_35, ak_36, ak_37, eq_self, Int.toNat_natCast, Nat.zero_le, bI_0, b01_0, bI_or, b01_or, ne_eq, reduceCtorEq, not_false_eq_true, Nat.reduceEqDiff, if_true, if_false, ite_true, ite_false, Int.natCast_nonneg, not_true_eq_false, Bool.true_eq_false, Bool.false_eq_true, Int.reduceEq, Int.reduceLT, Int.reduceLE, Int.reduceToNat, and_self, inA, exists_eq, or_true, true_or, or_false, false_or, and_false, false_and, or_self, Nat.reduceLT, ak_37, k1, g1, k2, g2, e0, e1, CallR_iff c1, CallR_iff c2, opCmp_s]
  exact K _ R2
theorem lw_30 (R : REL S h) (hr : SC S) (hi : (i : Int) + 6 ≤ S 38 0) (K : ∀ h2, REL S h2 → At (CallR (d + 30)) ac_237 1510 [vR 18 37, vR 16 10, vR 17 27, vI i] [] h2 Q) : At (CallR (d + 30)) ac_237 1201 [vR 18 37, vR 16 10, vR 17 27, vI i] [] h Q := by
  have hr1 := hr.1
  have e0 := R.1
  have k1 : wr ((i : Int) + 1) = ((i + 1 : Nat) : Int) := by rw [wr_id (by omega) (by omega)]; omega
  have g1 : ((i + 1 : Nat) : Int) < S 38 0 := by omega
  have k2 : wr ((i : Int) + 2) = ((i + 2 : Nat) : Int) := by rw [wr_id (by omega) (by omega)]; omega
  have g2 : ((i + 2 : Nat) : Int) < S 38 0 := by omega
  have k3 : wr ((i : Int) + 3) = ((i + 3 : Nat) : Int) := by rw [wr_id (by omega) (by omega)]; omega
  have g3 : ((i + 3 : Nat) : Int) < S 38 0 := by omega
  obtain ⟨x, h1, h2, c1, c2, e1, -, R2⟩ := OKI.y R (ok_told (s := S 37 (i + 1)) (n := S 37 (i + 2)) (w := S 37 (i + 3)) (d := d) R) ⟨trivial, trivial, trivial, trivial⟩
  simp only [r237_1201, r237_1201n, r237_1201s, r237_1202, r237_1202n, r237_1202s, r237_1203, r237_1204, r237_1205, r237_1206, r237_1207, r237_1207n, r237_1207s, r237_1208, r237_1209, r237_1210, r237_1211, r237_1212, r237_1212n, r237_1212s, r237_1213, r237_1214, r237_1215, r237_1216, r237_1217, r237_1220, r237_1220n, r237_1220s, r237_1221, r237_1221n, r237_1221s, r237_1222, r237_1223, r237_1224, r237_1225, r237_1226, r237_1226n, r237_1226s, r237_1227, r237_1228, r237_1229, r237_1230, r237_1231, r237_1231n, r237_1231s, r237_1232, r237_1233, r237_1234, r237_1235, r237_1236, r237_1239, r237_1242, r237_1243, reduceIte, Option.some.injEq, and_assoc, exists_and_left, exists_eq_left, exists_eq_left', true_and, and_true, List.length_cons, List.length_nil, Nat.reduceAdd, Nat.reduceLeDiff, Sum.inl.injEq, az_0, az_1, az_2, az_3, az_4, az_5, az_6, az_8, az_11, az_14, az_15, az_17, az_20, az_21, az_22, az_23, az_24, az_25, az_26, az_28, az_29, az_30, az_31, az_32, az_33, az_34, az_35, az_36, ak_0, ak_1, ak_2, ak_3, ak_4, ak_5, ak_6, ak_8, ak_11, ak_14, ak_15, ak_17, ak_20, ak_21, ak_22, ak_23, ak_24, ak_25, ak_26, ak_28, ak_29, ak_30, ak_31, ak_32, ak_33, ak_34, ak_35, ak_36, ak_37, eq_self, Int.toNat_natCast, Nat.zero_le, bI_0, b01_0, bI_or, b01_or, ne_eq, reduceCtorEq, not_false_eq_true, Nat.reduceEqDiff, if_true, if_false, ite_true, ite_false, Int.natCast_nonneg, not_true_eq_false, Bool.true_eq_false, Bool.false_eq_true, Int.reduceEq, Int.reduceLT, Int.reduceLE, Int.reduceToNat, and_self, inA, exists_eq, or_true, true_or, or_false, false_or, and_false, false_and, or_self, Nat.reduceLT, ak_37, k1, g1, k2, g2, k3, g3, e0, e1, CallR_iff c1, CallR_iff c2, opCmp_s]
  exact K _ R2
theorem lw_31 (R : REL S h) (hr : SC S) (hi : (i : Int) + 6 ≤ S 38 0) (K : ∀ h2, REL S h2 → At (CallR (d + 30)) ac_237 1510 [vR 18 37, vR 16 10, vR 17 27, vI i] [] h2 Q) : At (CallR (d + 30)) ac_237 1244 [vR 18 37, vR 16 10, vR 17 27, vI i] [] h Q := by
  have hr1 := hr.1
  have e0 := R.1
  have k1 : wr ((i : Int) + 1) = ((i + 1 : Nat) : Int) := by rw [wr_id (by omega) (by omega)]; omega
  have g1 : ((i + 1 : Nat) : Int) < S 38 0 := by omega
  have k2 : wr ((i : Int) + 2) = ((i + 2 : Nat) : Int) := by rw [wr_id (by omega) (by omega)]; omega
  have g2 : ((i + 2 : Nat) : Int) < S 38 0 := by omega
  obtain ⟨x, h1, h2, c1, c2, e1, -, R2⟩ := OKI.y R (ok_done (s := S 37 (i + 1)) (n := S 37 (i + 2)) (d := d) R) ⟨trivial, trivial, trivial⟩
  simp only [r237_1244, r237_1244n, r237_1244s, r237_1245, r237_1245n, r237_1245s, r237_1246, r237_1247, r237_1248, r237_1249, r237_1250, r237_1250n, r237_1250s, r237_1251, r237_1252, r237_1253, r237_1254, r237_1255, r237_1258, r237_1258n, r237_1258s, r237_1259, r237_1259n, r237_1259s, r237_1260, r237_1261, r237_1262, r237_1263, r237_1264, r237_1264n, r237_1264s, r237_1265, r237_1266, r237_1267, r237_1268, r237_1269, r237_1272, r237_1275, r237_1276, reduceIte, Option.some.injEq, and_assoc, exists_and_left, exists_eq_left, exists_eq_left', true_and, and_true, List.length_cons, List.length_nil, Nat.reduceAdd, Nat.reduceLeDiff, Sum.inl.injEq, az_0, az_1, az_2, az_3, az_4, az_5, az_6, az_8, az_11, az_14, az_15, az_17, az_20, az_21, az_22, az_23, az_24, az_25, az_26, az_28, az_29, az_30, az_31, az_32, az_33, az_34, az_35, az_36, ak_0, ak_1, ak_2, ak_3, ak_4, ak_5, ak_6, ak_8, ak_11, ak_14, ak_15, ak_17, ak_20, ak_21, ak_22, ak_23, ak_24, ak_25, ak_26, ak_28, ak_29, ak_30, ak_31, ak_32, ak_33, ak_34, ak_35, ak_36, ak_37, eq_self, Int.toNat_natCast, Nat.zero_le, bI_0, b01_0, bI_or, b01_or, ne_eq, reduceCtorEq, not_false_eq_true, Nat.reduceEqDiff, if_true, if_false, ite_true, ite_false, Int.natCast_nonneg, not_true_eq_false, Bool.true_eq_false, Bool.false_eq_true, Int.reduceEq, Int.reduceLT, Int.reduceLE, Int.reduceToNat, and_self, inA, exists_eq, or_true, true_or, or_false, false_or, and_false, false_and, or_self, Nat.reduceLT, ak_37, k1, g1, k2, g2, e0, e1, CallR_iff c1, CallR_iff c2, opCmp_s]
  exact K _ R2
theorem lw_32 (R : REL S h) (hr : SC S) (hi : (i : Int) + 6 ≤ S 38 0) (K : ∀ h2, REL S h2 → At (CallR (d + 30)) ac_237 1510 [vR 18 37, vR 16 10, vR 17 27, vI i] [] h2 Q) : At (CallR (d + 30)) ac_237 1277 [vR 18 37, vR 16 10, vR 17 27, vI i] [] h Q := by
  have hr1 := hr.1
  have e0 := R.1

  obtain ⟨x, h1, h2, c1, c2, e1, -, R2⟩ := OKI.y R (ok_worth (d := d) R) trivial
  simp only [r237_1277, r237_1277n, r237_1277s, r237_1278, r237_1281, r237_1281n, r237_1281s, r237_1282, r237_1285, r237_1288, r237_1289, reduceIte, Option.some.injEq, and_assoc, exists_and_left, exists_eq_left, exists_eq_left', true_and, and_true, List.length_cons, List.length_nil, Nat.reduceAdd, Nat.reduceLeDiff, Sum.inl.injEq, az_0, az_1, az_2, az_3, az_4, az_5, az_6, az_8, az_11, az_14, az_15, az_17, az_20, az_21, az_22, az_23, az_24, az_25, az_26, az_28, az_29, az_30, az_31, az_32, az_33, az_34, az_35, az_36, ak_0, ak_1, ak_2, ak_3, ak_4, ak_5, ak_6, ak_8, ak_11, ak_14, ak_15, ak_17, ak_20, ak_21, ak_22, ak_23, ak_24, ak_25, ak_26, ak_28, ak_29, ak_30, ak_31, ak_32, ak_33, ak_34, ak_35, ak_36, ak_37, eq_self, Int.toNat_natCast, Nat.zero_le, bI_0, b01_0, bI_or, b01_or, ne_eq, reduceCtorEq, not_false_eq_true, Nat.reduceEqDiff, if_true, if_false, ite_true, ite_false, Int.natCast_nonneg, not_true_eq_false, Bool.true_eq_false, Bool.false_eq_true, Int.reduceEq, Int.reduceLT, Int.reduceLE, Int.reduceToNat, and_self, inA, exists_eq, or_true, true_or, or_false, false_or, and_false, false_and, or_self, Nat.reduceLT, ak_37, e0, e1, CallR_iff c1, CallR_iff c2, opCmp_s]
  exact K _ R2
theorem lw_33 (R : REL S h) (hr : SC S) (hi : (i : Int) + 6 ≤ S 38 0) (K : ∀ h2, REL S h2 → At (CallR (d + 30)) ac_237 1510 [vR 18 37, vR 16 10, vR 17 27, vI i] [] h2 Q) : At (CallR (d + 30)) ac_237 1290 [vR 18 37, vR 16 10, vR 17 27, vI i] [] h Q := by
  have hr1 := hr.1
  have e0 := R.1
  have k1 : wr ((i : Int) + 1) = ((i + 1 : Nat) : Int) := by rw [wr_id (by omega) (by omega)]; omega
  have g1 : ((i + 1 : Nat) : Int) < S 38 0 := by omega
  obtain ⟨x, h1, h2, c1, c2, e1, -, R2⟩ := OKI.y R (ok_each (w := S 37 (i + 1)) (d := d) R) ⟨trivial, trivial⟩
  simp only [r237_1290, r237_1290n, r237_1290s, r237_1291, r237_1291n, r237_1291s, r237_1292, r237_1293, r237_1294, r237_1295, r237_1296, r237_1299, r237_1299n, r237_1299s, r237_1300, r237_1300n, r237_1300s, r237_1301, r237_1302, r237_1303, r237_1304, r237_1305, r237_1308, r237_1311, r237_1312, reduceIte, Option.some.injEq, and_assoc, exists_and_left, exists_eq_left, exists_eq_left', true_and, and_true, List.length_cons, List.length_nil, Nat.reduceAdd, Nat.reduceLeDiff, Sum.inl.injEq, az_0, az_1, az_2, az_3, az_4, az_5, az_6, az_8, az_11, az_14, az_15, az_17, az_20, az_21, az_22, az_23, az_24, az_25, az_26, az_28, az_29, az_30, az_31, az_32, az_33, az_34, az_35, az_36, ak_0, ak_1, ak_2, ak_3, ak_4, ak_5, ak_6, ak_8, ak_11, ak_14, ak_15, ak_17, ak_20, ak_21, ak_22, ak_23, ak_24, ak_25, ak_26, ak_28, ak_29, ak_30, ak_31, ak_32, ak_33, ak_34, ak_35, ak_36, ak_37, eq_self, Int.toNat_natCast, Nat.zero_le, bI_0, b01_0, bI_or, b01_or, ne_eq, reduceCtorEq, not_false_eq_true, Nat.reduceEqDiff, if_true, if_false, ite_true, ite_false, Int.natCast_nonneg, not_true_eq_false, Bool.true_eq_false, Bool.false_eq_true, Int.reduceEq, Int.reduceLT, Int.reduceLE, Int.reduceToNat, and_self, inA, exists_eq, or_true, true_or, or_false, false_or, and_false, false_and, or_self, Nat.reduceLT, ak_37, k1, g1, e0, e1, CallR_iff c1, CallR_iff c2, opCmp_s]
  exact K _ R2
theorem lw_34 (R : REL S h) (hr : SC S) (hi : (i : Int) + 6 ≤ S 38 0) (K : ∀ h2, REL S h2 → At (CallR (d + 30)) ac_237 1510 [vR 18 37, vR 16 10, vR 17 27, vI i] [] h2 Q) : At (CallR (d + 30)) ac_237 1313 [vR 18 37, vR 16 10, vR 17 27, vI i] [] h Q := by
  have hr1 := hr.1
  have e0 := R.1

  obtain ⟨x, h1, h2, c1, c2, e1, -, R2⟩ := OKI.y R (ok_richest (d := d) R) trivial
  simp only [r237_1313, r237_1313n, r237_1313s, r237_1314, r237_1317, r237_1317n, r237_1317s, r237_1318, r237_1321, r237_1324, r237_1325, reduceIte, Option.some.injEq, and_assoc, exists_and_left, exists_eq_left, exists_eq_left', true_and, and_true, List.length_cons, List.length_nil, Nat.reduceAdd, Nat.reduceLeDiff, Sum.inl.injEq, az_0, az_1, az_2, az_3, az_4, az_5, az_6, az_8, az_11, az_14, az_15, az_17, az_20, az_21, az_22, az_23, az_24, az_25, az_26, az_28, az_29, az_30, az_31, az_32, az_33, az_34, az_35, az_36, ak_0, ak_1, ak_2, ak_3, ak_4, ak_5, ak_6, ak_8, ak_11, ak_14, ak_15, ak_17, ak_20, ak_21, ak_22, ak_23, ak_24, ak_25, ak_26, ak_28, ak_29, ak_30, ak_31, ak_32, ak_33, ak_34, ak_35, ak_36, ak_37, eq_self, Int.toNat_natCast, Nat.zero_le, bI_0, b01_0, bI_or, b01_or, ne_eq, reduceCtorEq, not_false_eq_true, Nat.reduceEqDiff, if_true, if_false, ite_true, ite_false, Int.natCast_nonneg, not_true_eq_false, Bool.true_eq_false, Bool.false_eq_true, Int.reduceEq, Int.reduceLT, Int.reduceLE, Int.reduceToNat, and_self, inA, exists_eq, or_true, true_or, or_false, false_or, and_false, false_and, or_self, Nat.reduceLT, ak_37, e0, e1, CallR_iff c1, CallR_iff c2, opCmp_s]
  exact K _ R2
theorem lw_35 (R : REL S h) (hr : SC S) (hi : (i : Int) + 6 ≤ S 38 0) (K : ∀ h2, REL S h2 → At (CallR (d + 30)) ac_237 1510 [vR 18 37, vR 16 10, vR 17 27, vI i] [] h2 Q) : At (CallR (d + 30)) ac_237 1326 [vR 18 37, vR 16 10, vR 17 27, vI i] [] h Q := by
  have hr1 := hr.1
  have e0 := R.1
  have k1 : wr ((i : Int) + 1) = ((i + 1 : Nat) : Int) := by rw [wr_id (by omega) (by omega)]; omega
  have g1 : ((i + 1 : Nat) : Int) < S 38 0 := by omega
  obtain ⟨x, h1, h2, c1, c2, e1, -, R2⟩ := OKI.y R (ok_does (a := S 37 (i + 1)) (d := d) R) ⟨trivial, trivial⟩
  simp only [r237_1326, r237_1326n, r237_1326s, r237_1327, r237_1327n, r237_1327s, r237_1328, r237_1329, r237_1330, r237_1331, r237_1332, r237_1335, r237_1335n, r237_1335s, r237_1336, r237_1336n, r237_1336s, r237_1337, r237_1338, r237_1339, r237_1340, r237_1341, r237_1344, r237_1347, r237_1348, reduceIte, Option.some.injEq, and_assoc, exists_and_left, exists_eq_left, exists_eq_left', true_and, and_true, List.length_cons, List.length_nil, Nat.reduceAdd, Nat.reduceLeDiff, Sum.inl.injEq, az_0, az_1, az_2, az_3, az_4, az_5, az_6, az_8, az_11, az_14, az_15, az_17, az_20, az_21, az_22, az_23, az_24, az_25, az_26, az_28, az_29, az_30, az_31, az_32, az_33, az_34, az_35, az_36, ak_0, ak_1, ak_2, ak_3, ak_4, ak_5, ak_6, ak_8, ak_11, ak_14, ak_15, ak_17, ak_20, ak_21, ak_22, ak_23, ak_24, ak_25, ak_26, ak_28, ak_29, ak_30, ak_31, ak_32, ak_33, ak_34, ak_35, ak_36, ak_37, eq_self, Int.toNat_natCast, Nat.zero_le, bI_0, b01_0, bI_or, b01_or, ne_eq, reduceCtorEq, not_false_eq_true, Nat.reduceEqDiff, if_true, if_false, ite_true, ite_false, Int.natCast_nonneg, not_true_eq_false, Bool.true_eq_false, Bool.false_eq_true, Int.reduceEq, Int.reduceLT, Int.reduceLE, Int.reduceToNat, and_self, inA, exists_eq, or_true, true_or, or_false, false_or, and_false, false_and, or_self, Nat.reduceLT, ak_37, k1, g1, e0, e1, CallR_iff c1, CallR_iff c2, opCmp_s]
  exact K _ R2
theorem lw_36 (R : REL S h) (hr : SC S) (hi : (i : Int) + 6 ≤ S 38 0) (K : ∀ h2, REL S h2 → At (CallR (d + 30)) ac_237 1510 [vR 18 37, vR 16 10, vR 17 27, vI i] [] h2 Q) : At (CallR (d + 30)) ac_237 1349 [vR 18 37, vR 16 10, vR 17 27, vI i] [] h Q := by
  have hr1 := hr.1
  have e0 := R.1
  have k1 : wr ((i : Int) + 1) = ((i + 1 : Nat) : Int) := by rw [wr_id (by omega) (by omega)]; omega
  have g1 : ((i + 1 : Nat) : Int) < S 38 0 := by omega
  obtain ⟨x, h1, h2, c1, c2, e1, -, R2⟩ := OKI.y R (ok_season (n := S 37 (i + 1)) (d := d) R) ⟨trivial, trivial⟩
  simp only [r237_1349, r237_1349n, r237_1349s, r237_1350, r237_1350n, r237_1350s, r237_1351, r237_1352, r237_1353, r237_1354, r237_1355, r237_1358, r237_1358n, r237_1358s, r237_1359, r237_1359n, r237_1359s, r237_1360, r237_1361, r237_1362, r237_1363, r237_1364, r237_1367, r237_1370, r237_1371, reduceIte, Option.some.injEq, and_assoc, exists_and_left, exists_eq_left, exists_eq_left', true_and, and_true, List.length_cons, List.length_nil, Nat.reduceAdd, Nat.reduceLeDiff, Sum.inl.injEq, az_0, az_1, az_2, az_3, az_4, az_5, az_6, az_8, az_11, az_14, az_15, az_17, az_20, az_21, az_22, az_23, az_24, az_25, az_26, az_28, az_29, az_30, az_31, az_32, az_33, az_34, az_35, az_36, ak_0, ak_1, ak_2, ak_3, ak_4, ak_5, ak_6, ak_8, ak_11, ak_14, ak_15, ak_17, ak_20, ak_21, ak_22, ak_23, ak_24, ak_25, ak_26, ak_28, ak_29, ak_30, ak_31, ak_32, ak_33, ak_34, ak_35, ak_36, ak_37, eq_self, Int.toNat_natCast, Nat.zero_le, bI_0, b01_0, bI_or, b01_or, ne_eq, reduceCtorEq, not_false_eq_true, Nat.reduceEqDiff, if_true, if_false, ite_true, ite_false, Int.natCast_nonneg, not_true_eq_false, Bool.true_eq_false, Bool.false_eq_true, Int.reduceEq, Int.reduceLT, Int.reduceLE, Int.reduceToNat, and_self, inA, exists_eq, or_true, true_or, or_false, false_or, and_false, false_and, or_self, Nat.reduceLT, ak_37, k1, g1, e0, e1, CallR_iff c1, CallR_iff c2, opCmp_s]
  exact K _ R2
theorem lw_37 (R : REL S h) (hr : SC S) (hi : (i : Int) + 6 ≤ S 38 0) (K : ∀ h2, REL S h2 → At (CallR (d + 30)) ac_237 1510 [vR 18 37, vR 16 10, vR 17 27, vI i] [] h2 Q) : At (CallR (d + 30)) ac_237 1372 [vR 18 37, vR 16 10, vR 17 27, vI i] [] h Q := by
  have hr1 := hr.1
  have e0 := R.1
  have k1 : wr ((i : Int) + 1) = ((i + 1 : Nat) : Int) := by rw [wr_id (by omega) (by omega)]; omega
  have g1 : ((i + 1 : Nat) : Int) < S 38 0 := by omega
  obtain ⟨x, h1, h2, c1, c2, e1, -, R2⟩ := OKI.y R (ok_seed (v := S 37 (i + 1)) (d := d) R) ⟨trivial, trivial⟩
  simp only [r237_1372, r237_1372n, r237_1372s, r237_1373, r237_1373n, r237_1373s, r237_1374, r237_1375, r237_1376, r237_1377, r237_1378, r237_1381, r237_1381n, r237_1381s, r237_1382, r237_1382n, r237_1382s, r237_1383, r237_1384, r237_1385, r237_1386, r237_1387, r237_1390, r237_1393, r237_1394, reduceIte, Option.some.injEq, and_assoc, exists_and_left, exists_eq_left, exists_eq_left', true_and, and_true, List.length_cons, List.length_nil, Nat.reduceAdd, Nat.reduceLeDiff, Sum.inl.injEq, az_0, az_1, az_2, az_3, az_4, az_5, az_6, az_8, az_11, az_14, az_15, az_17, az_20, az_21, az_22, az_23, az_24, az_25, az_26, az_28, az_29, az_30, az_31, az_32, az_33, az_34, az_35, az_36, ak_0, ak_1, ak_2, ak_3, ak_4, ak_5, ak_6, ak_8, ak_11, ak_14, ak_15, ak_17, ak_20, ak_21, ak_22, ak_23, ak_24, ak_25, ak_26, ak_28, ak_29, ak_30, ak_31, ak_32, ak_33, ak_34, ak_35, ak_36, ak_37, eq_self, Int.toNat_natCast, Nat.zero_le, bI_0, b01_0, bI_or, b01_or, ne_eq, reduceCtorEq, not_false_eq_true, Nat.reduceEqDiff, if_true, if_false, ite_true, ite_false, Int.natCast_nonneg, not_true_eq_false, Bool.true_eq_false, Bool.false_eq_true, Int.reduceEq, Int.reduceLT, Int.reduceLE, Int.reduceToNat, and_self, inA, exists_eq, or_true, true_or, or_false, false_or, and_false, false_and, or_self, Nat.reduceLT, ak_37, k1, g1, e0, e1, CallR_iff c1, CallR_iff c2, opCmp_s]
  exact K _ R2
theorem lw_38 (R : REL S h) (hr : SC S) (hi : (i : Int) + 6 ≤ S 38 0) (K : ∀ h2, REL S h2 → At (CallR (d + 30)) ac_237 1510 [vR 18 37, vR 16 10, vR 17 27, vI i] [] h2 Q) : At (CallR (d + 30)) ac_237 1395 [vR 18 37, vR 16 10, vR 17 27, vI i] [] h Q := by
  have hr1 := hr.1
  have e0 := R.1
  have k1 : wr ((i : Int) + 1) = ((i + 1 : Nat) : Int) := by rw [wr_id (by omega) (by omega)]; omega
  have g1 : ((i + 1 : Nat) : Int) < S 38 0 := by omega
  have k2 : wr ((i : Int) + 2) = ((i + 2 : Nat) : Int) := by rw [wr_id (by omega) (by omega)]; omega
  have g2 : ((i + 2 : Nat) : Int) < S 38 0 := by omega
  have k3 : wr ((i : Int) + 3) = ((i + 3 : Nat) : Int) := by rw [wr_id (by omega) (by omega)]; omega
  have g3 : ((i + 3 : Nat) : Int) < S 38 0 := by omega
  obtain ⟨x, h1, h2, c1, c2, e1, -, R2⟩ := OKI.y R (ok_act (p := S 37 (i + 1)) (mv := S 37 (i + 2)) (x := S 37 (i + 3)) (d := d) R) ⟨trivial, trivial, trivial, trivial⟩
  simp only [r237_1395, r237_1395n, r237_1395s, r237_1396, r237_1396n, r237_1396s, r237_1397, r237_1398, r237_1399, r237_1400, r237_1401, r237_1401n, r237_1401s, r237_1402, r237_1403, r237_1404, r237_1405, r237_1406, r237_1406n, r237_1406s, r237_1407, r237_1408, r237_1409, r237_1410, r237_1411, r237_1414, r237_1414n, r237_1414s, r237_1415, r237_1415n, r237_1415s, r237_1416, r237_1417, r237_1418, r237_1419, r237_1420, r237_1420n, r237_1420s, r237_1421, r237_1422, r237_1423, r237_1424, r237_1425, r237_1425n, r237_1425s, r237_1426, r237_1427, r237_1428, r237_1429, r237_1430, r237_1433, r237_1436, r237_1437, reduceIte, Option.some.injEq, and_assoc, exists_and_left, exists_eq_left, exists_eq_left', true_and, and_true, List.length_cons, List.length_nil, Nat.reduceAdd, Nat.reduceLeDiff, Sum.inl.injEq, az_0, az_1, az_2, az_3, az_4, az_5, az_6, az_8, az_11, az_14, az_15, az_17, az_20, az_21, az_22, az_23, az_24, az_25, az_26, az_28, az_29, az_30, az_31, az_32, az_33, az_34, az_35, az_36, ak_0, ak_1, ak_2, ak_3, ak_4, ak_5, ak_6, ak_8, ak_11, ak_14, ak_15, ak_17, ak_20, ak_21, ak_22, ak_23, ak_24, ak_25, ak_26, ak_28, ak_29, ak_30, ak_31, ak_32, ak_33, ak_34, ak_35, ak_36, ak_37, eq_self, Int.toNat_natCast, Nat.zero_le, bI_0, b01_0, bI_or, b01_or, ne_eq, reduceCtorEq, not_false_eq_true, Nat.reduceEqDiff, if_true, if_false, ite_true, ite_false, Int.natCast_nonneg, not_true_eq_false, Bool.true_eq_false, Bool.false_eq_true, Int.reduceEq, Int.reduceLT, Int.reduceLE, Int.reduceToNat, and_self, inA, exists_eq, or_true, true_or, or_false, false_or, and_false, false_and, or_self, Nat.reduceLT, ak_37, k1, g1, k2, g2, k3, g3, e0, e1, CallR_iff c1, CallR_iff c2, opCmp_s]
  exact K _ R2
theorem lw_39 (R : REL S h) (hr : SC S) (hi : (i : Int) + 6 ≤ S 38 0) (K : ∀ h2, REL S h2 → At (CallR (d + 30)) ac_237 1510 [vR 18 37, vR 16 10, vR 17 27, vI i] [] h2 Q) : At (CallR (d + 30)) ac_237 1438 [vR 18 37, vR 16 10, vR 17 27, vI i] [] h Q := by
  have hr1 := hr.1
  have e0 := R.1
  have k1 : wr ((i : Int) + 1) = ((i + 1 : Nat) : Int) := by rw [wr_id (by omega) (by omega)]; omega
  have g1 : ((i + 1 : Nat) : Int) < S 38 0 := by omega
  obtain ⟨x, h1, h2, c1, c2, e1, -, R2⟩ := OKI.y R (ok_trace (i := S 37 (i + 1)) (d := d) R) ⟨trivial, trivial⟩
  simp only [r237_1438, r237_1438n, r237_1438s, r237_1439, r237_1439n, r237_1439s, r237_1440, r237_1441, r237_1442, r237_1443, r237_1444, r237_1447, r237_1447n, r237_1447s, r237_1448, r237_1448n, r237_1448s, r237_1449, r237_1450, r237_1451, r237_1452, r237_1453, r237_1456, r237_1459, r237_1460, reduceIte, Option.some.injEq, and_assoc, exists_and_left, exists_eq_left, exists_eq_left', true_and, and_true, List.length_cons, List.length_nil, Nat.reduceAdd, Nat.reduceLeDiff, Sum.inl.injEq, az_0, az_1, az_2, az_3, az_4, az_5, az_6, az_8, az_11, az_14, az_15, az_17, az_20, az_21, az_22, az_23, az_24, az_25, az_26, az_28, az_29, az_30, az_31, az_32, az_33, az_34, az_35, az_36, ak_0, ak_1, ak_2, ak_3, ak_4, ak_5, ak_6, ak_8, ak_11, ak_14, ak_15, ak_17, ak_20, ak_21, ak_22, ak_23, ak_24, ak_25, ak_26, ak_28, ak_29, ak_30, ak_31, ak_32, ak_33, ak_34, ak_35, ak_36, ak_37, eq_self, Int.toNat_natCast, Nat.zero_le, bI_0, b01_0, bI_or, b01_or, ne_eq, reduceCtorEq, not_false_eq_true, Nat.reduceEqDiff, if_true, if_false, ite_true, ite_false, Int.natCast_nonneg, not_true_eq_false, Bool.true_eq_false, Bool.false_eq_true, Int.reduceEq, Int.reduceLT, Int.reduceLE, Int.reduceToNat, and_self, inA, exists_eq, or_true, true_or, or_false, false_or, and_false, false_and, or_self, Nat.reduceLT, ak_37, k1, g1, e0, e1, CallR_iff c1, CallR_iff c2, opCmp_s]
  exact K _ R2
theorem lw_40 (R : REL S h) (hr : SC S) (hi : (i : Int) + 6 ≤ S 38 0) (K : ∀ h2, REL S h2 → At (CallR (d + 30)) ac_237 1510 [vR 18 37, vR 16 10, vR 17 27, vI i] [] h2 Q) : At (CallR (d + 30)) ac_237 1461 [vR 18 37, vR 16 10, vR 17 27, vI i] [] h Q := by
  have hr1 := hr.1
  have e0 := R.1

  obtain ⟨x, h1, h2, c1, c2, e1, -, R2⟩ := OKI.y R (ok_image (d := d) R) trivial
  simp only [r237_1461, r237_1461n, r237_1461s, r237_1462, r237_1465, r237_1465n, r237_1465s, r237_1466, r237_1469, r237_1472, r237_1473, reduceIte, Option.some.injEq, and_assoc, exists_and_left, exists_eq_left, exists_eq_left', true_and, and_true, List.length_cons, List.length_nil, Nat.reduceAdd, Nat.reduceLeDiff, Sum.inl.injEq, az_0, az_1, az_2, az_3, az_4, az_5, az_6, az_8, az_11, az_14, az_15, az_17, az_20, az_21, az_22, az_23, az_24, az_25, az_26, az_28, az_29, az_30, az_31, az_32, az_33, az_34, az_35, az_36, ak_0, ak_1, ak_2, ak_3, ak_4, ak_5, ak_6, ak_8, ak_11, ak_14, ak_15, ak_17, ak_20, ak_21, ak_22, ak_23, ak_24, ak_25, ak_26, ak_28, ak_29, ak_30, ak_31, ak_32, ak_33, ak_34, ak_35, ak_36, ak_37, eq_self, Int.toNat_natCast, Nat.zero_le, bI_0, b01_0, bI_or, b01_or, ne_eq, reduceCtorEq, not_false_eq_true, Nat.reduceEqDiff, if_true, if_false, ite_true, ite_false, Int.natCast_nonneg, not_true_eq_false, Bool.true_eq_false, Bool.false_eq_true, Int.reduceEq, Int.reduceLT, Int.reduceLE, Int.reduceToNat, and_self, inA, exists_eq, or_true, true_or, or_false, false_or, and_false, false_and, or_self, Nat.reduceLT, ak_37, e0, e1, CallR_iff c1, CallR_iff c2, opCmp_s]
  exact K _ R2
theorem lw_41 (R : REL S h) (hr : SC S) (hi : (i : Int) + 6 ≤ S 38 0) (K : ∀ h2, REL S h2 → At (CallR (d + 30)) ac_237 1510 [vR 18 37, vR 16 10, vR 17 27, vI i] [] h2 Q) : At (CallR (d + 30)) ac_237 1474 [vR 18 37, vR 16 10, vR 17 27, vI i] [] h Q := by
  have hr1 := hr.1
  have e0 := R.1

  obtain ⟨x, h1, h2, c1, c2, e1, -, R2⟩ := OKI.y R (ok_restore (d := d) R) trivial
  simp only [r237_1474, r237_1474n, r237_1474s, r237_1475, r237_1478, r237_1478n, r237_1478s, r237_1479, r237_1482, r237_1485, r237_1486, reduceIte, Option.some.injEq, and_assoc, exists_and_left, exists_eq_left, exists_eq_left', true_and, and_true, List.length_cons, List.length_nil, Nat.reduceAdd, Nat.reduceLeDiff, Sum.inl.injEq, az_0, az_1, az_2, az_3, az_4, az_5, az_6, az_8, az_11, az_14, az_15, az_17, az_20, az_21, az_22, az_23, az_24, az_25, az_26, az_28, az_29, az_30, az_31, az_32, az_33, az_34, az_35, az_36, ak_0, ak_1, ak_2, ak_3, ak_4, ak_5, ak_6, ak_8, ak_11, ak_14, ak_15, ak_17, ak_20, ak_21, ak_22, ak_23, ak_24, ak_25, ak_26, ak_28, ak_29, ak_30, ak_31, ak_32, ak_33, ak_34, ak_35, ak_36, ak_37, eq_self, Int.toNat_natCast, Nat.zero_le, bI_0, b01_0, bI_or, b01_or, ne_eq, reduceCtorEq, not_false_eq_true, Nat.reduceEqDiff, if_true, if_false, ite_true, ite_false, Int.natCast_nonneg, not_true_eq_false, Bool.true_eq_false, Bool.false_eq_true, Int.reduceEq, Int.reduceLT, Int.reduceLE, Int.reduceToNat, and_self, inA, exists_eq, or_true, true_or, or_false, false_or, and_false, false_and, or_self, Nat.reduceLT, ak_37, e0, e1, CallR_iff c1, CallR_iff c2, opCmp_s]
  exact K _ R2
theorem lw_42 (R : REL S h) (hr : SC S) (hi : (i : Int) + 6 ≤ S 38 0) (K : ∀ h2, REL S h2 → At (CallR (d + 30)) ac_237 1510 [vR 18 37, vR 16 10, vR 17 27, vI i] [] h2 Q) : At (CallR (d + 30)) ac_237 1487 [vR 18 37, vR 16 10, vR 17 27, vI i] [] h Q := by
  have hr1 := hr.1
  have e0 := R.1
  have k1 : wr ((i : Int) + 1) = ((i + 1 : Nat) : Int) := by rw [wr_id (by omega) (by omega)]; omega
  have g1 : ((i + 1 : Nat) : Int) < S 38 0 := by omega
  obtain ⟨x, h1, h2, c1, c2, e1, -, R2⟩ := OKI.y R (ok_status (w := S 37 (i + 1)) (d := d) R) ⟨trivial, trivial⟩
  simp only [r237_1487, r237_1487n, r237_1487s, r237_1488, r237_1488n, r237_1488s, r237_1489, r237_1490, r237_1491, r237_1492, r237_1493, r237_1496, r237_1496n, r237_1496s, r237_1497, r237_1497n, r237_1497s, r237_1498, r237_1499, r237_1500, r237_1501, r237_1502, r237_1505, r237_1508, r237_1509, reduceIte, Option.some.injEq, and_assoc, exists_and_left, exists_eq_left, exists_eq_left', true_and, and_true, List.length_cons, List.length_nil, Nat.reduceAdd, Nat.reduceLeDiff, Sum.inl.injEq, az_0, az_1, az_2, az_3, az_4, az_5, az_6, az_8, az_11, az_14, az_15, az_17, az_20, az_21, az_22, az_23, az_24, az_25, az_26, az_28, az_29, az_30, az_31, az_32, az_33, az_34, az_35, az_36, ak_0, ak_1, ak_2, ak_3, ak_4, ak_5, ak_6, ak_8, ak_11, ak_14, ak_15, ak_17, ak_20, ak_21, ak_22, ak_23, ak_24, ak_25, ak_26, ak_28, ak_29, ak_30, ak_31, ak_32, ak_33, ak_34, ak_35, ak_36, ak_37, eq_self, Int.toNat_natCast, Nat.zero_le, bI_0, b01_0, bI_or, b01_or, ne_eq, reduceCtorEq, not_false_eq_true, Nat.reduceEqDiff, if_true, if_false, ite_true, ite_false, Int.natCast_nonneg, not_true_eq_false, Bool.true_eq_false, Bool.false_eq_true, Int.reduceEq, Int.reduceLT, Int.reduceLE, Int.reduceToNat, and_self, inA, exists_eq, or_true, true_or, or_false, false_or, and_false, false_and, or_self, Nat.reduceLT, ak_37, k1, g1, e0, e1, CallR_iff c1, CallR_iff c2, opCmp_s]
  exact K _ R2
theorem lw_33 (x : Int) (R : REL S h) (hr : SC S) (hi : (i : Int) + 6 ≤ S 38 0) (K : ∀ h2, REL S h2 → At (CallR (d + 30)) ac_237 1510 [vR 18 37, vR 16 10, vR 17 27, vI i] [] h2 Q) : At (CallR (d + 30)) ac_237 33 [vR 18 37, vR 16 10, vR 17 27, vI i] [vI x] h Q := by
  rw [r237_33]
  split
  · exact lw_0 R hr hi K
  split
  · exact lw_1 R hr hi K
  split
  · exact lw_2 R hr hi K
  split
  · exact lw_3 R hr hi K
  split
  · exact lw_4 R hr hi K
  split
  · exact lw_5 R hr hi K
  split
  · exact lw_6 R hr hi K
  split
  · exact lw_7 R hr hi K
  split
  · exact lw_8 R hr hi K
  split
  · exact lw_9 R hr hi K
  split
  · exact lw_10 R hr hi K
  split
  · exact lw_11 R hr hi K
  split
  · exact lw_12 R hr hi K
  split
  · exact lw_13 R hr hi K
  split
  · exact lw_14 R hr hi K
  split
  · exact lw_15 R hr hi K
  split
  · exact lw_16 R hr hi K
  split
  · exact lw_17 R hr hi K
  split
  · exact lw_18 R hr hi K
  split
  · exact lw_19 R hr hi K
  split
  · exact lw_20 R hr hi K
  split
  · exact lw_21 R hr hi K
  split
  · exact lw_22 R hr hi K
  split
  · exact lw_23 R hr hi K
  split
  · exact lw_24 R hr hi K
  split
  · exact lw_25 R hr hi K
  split
  · exact lw_26 R hr hi K
  split
  · exact lw_27 R hr hi K
  split
  · exact lw_28 R hr hi K
  split
  · exact lw_29 R hr hi K
  split
  · exact lw_30 R hr hi K
  split
  · exact lw_31 R hr hi K
  split
  · exact lw_32 R hr hi K
  split
  · exact lw_33 R hr hi K
  split
  · exact lw_34 R hr hi K
  split
  · exact lw_35 R hr hi K
  split
  · exact lw_36 R hr hi K
  split
  · exact lw_37 R hr hi K
  split
  · exact lw_38 R hr hi K
  split
  · exact lw_39 R hr hi K
  split
  · exact lw_40 R hr hi K
  split
  · exact lw_41 R hr hi K
  split
  · exact lw_42 R hr hi K
  exact K h R
end LP
theorem lw_loop {S : VS} {d : Nat} (hr : SC S) : ∀ (m i : Nat) (h : AH), S 38 0 < (i : Int) + m → (i : Int) ≤ 2147483000 → REL S h → At (CallR (d + 30)) ac_237 18 [vR 18 37, vR 16 10, vR 17 27, vI i] [] h (fun v _ => v = some (vI 1)) := by
  have hr1 := hr.1
  have ew : wr (S 38 0 - 6) = S 38 0 - 6 := wr_id (by omega) (by omega)
  intro m
  induction m with
  | zero =>
    intro i h hm hi R
    have e0 := R.1
    have c1 : S 38 0 - 6 < (i : Int) := by omega
    rw [r237_18]
    simp only [r237_19, r237_19n, r237_19s, r237_20, r237_21, r237_23, r237_24, r237_27, r237_27n, r237_27s, r237_28, r237_29, r237_30, r237_32, r237_1516, r237_1517, reduceIte, Option.some.injEq, and_assoc, exists_and_left, exists_eq_left, exists_eq_left', true_and, and_true, List.length_cons, List.length_nil, Nat.reduceAdd, Nat.reduceLeDiff, Sum.inl.injEq, az_0, az_1, az_2, az_3, az_4, az_5, az_6, az_8, az_11, az_14, az_15, az_17, az_20, az_21, az_22, az_23, az_24, az_25, az_26, az_28, az_29, az_30, az_31, az_32, az_33, az_34, az_35, az_36, ak_0, ak_1, ak_2, ak_3, ak_4, ak_5, ak_6, ak_8, ak_11, ak_14, ak_15, ak_17, ak_20, ak_21, ak_22, ak_23, ak_24, ak_25, ak_26, ak_28, ak_29, ak_30, ak_31, ak_32, ak_33, ak_34, ak_35, ak_36, ak_37, eq_self, Int.toNat_natCast, Nat.zero_le, bI_0, b01_0, bI_or, b01_or, ne_eq, reduceCtorEq, not_false_eq_true, Nat.reduceEqDiff, if_true, if_false, ite_true, ite_false, Int.natCast_nonneg, not_true_eq_false, Bool.true_eq_false, Bool.false_eq_true, Int.reduceEq, Int.reduceLT, Int.reduceLE, Int.reduceToNat, and_self, inA, exists_eq, or_true, true_or, or_false, false_or, and_false, false_and, or_self, Nat.reduceLT, e0, ew, c1]
  | succ m ih =>
    intro i h hm hi R
    have e0 := R.1
    by_cases c1 : S 38 0 - 6 < (i : Int)
    · rw [r237_18]
      simp only [r237_19, r237_19n, r237_19s, r237_20, r237_21, r237_23, r237_24, r237_27, r237_27n, r237_27s, r237_28, r237_29, r237_30, r237_32, r237_1516, r237_1517, reduceIte, Option.some.injEq, and_assoc, exists_and_left, exists_eq_left, exists_eq_left', true_and, and_true, List.length_cons, List.length_nil, Nat.reduceAdd, Nat.reduceLeDiff, Sum.inl.injEq, az_0, az_1, az_2, az_3, az_4, az_5, az_6, az_8, az_11, az_14, az_15, az_17, az_20, az_21, az_22, az_23, az_24, az_25, az_26, az_28, az_29, az_30, az_31, az_32, az_33, az_34, az_35, az_36, ak_0, ak_1, ak_2, ak_3, ak_4, ak_5, ak_6, ak_8, ak_11, ak_14, ak_15, ak_17, ak_20, ak_21, ak_22, ak_23, ak_24, ak_25, ak_26, ak_28, ak_29, ak_30, ak_31, ak_32, ak_33, ak_34, ak_35, ak_36, ak_37, eq_self, Int.toNat_natCast, Nat.zero_le, bI_0, b01_0, bI_or, b01_or, ne_eq, reduceCtorEq, not_false_eq_true, Nat.reduceEqDiff, if_true, if_false, ite_true, ite_false, Int.natCast_nonneg, not_true_eq_false, Bool.true_eq_false, Bool.false_eq_true, Int.reduceEq, Int.reduceLT, Int.reduceLE, Int.reduceToNat, and_self, inA, exists_eq, or_true, true_or, or_false, false_or, and_false, false_and, or_self, Nat.reduceLT, e0, ew, c1]
    · have gi : (i : Int) < S 38 0 := by omega
      have hk : wr ((i : Int) + 6) = ((i + 6 : Nat) : Int) := by rw [wr_id (by omega) (by omega)]; omega
      have ih6 := fun h2 R2 => ih (i + 6) h2 (by omega) (by omega) R2
      rw [r237_18]
      simp only [r237_19, r237_19n, r237_19s, r237_20, r237_21, r237_23, r237_24, r237_27, r237_27n, r237_27s, r237_28, r237_29, r237_30, r237_32, reduceIte, Option.some.injEq, and_assoc, exists_and_left, exists_eq_left, exists_eq_left', true_and, and_true, List.length_cons, List.length_nil, Nat.reduceAdd, Nat.reduceLeDiff, Sum.inl.injEq, az_0, az_1, az_2, az_3, az_4, az_5, az_6, az_8, az_11, az_14, az_15, az_17, az_20, az_21, az_22, az_23, az_24, az_25, az_26, az_28, az_29, az_30, az_31, az_32, az_33, az_34, az_35, az_36, ak_0, ak_1, ak_2, ak_3, ak_4, ak_5, ak_6, ak_8, ak_11, ak_14, ak_15, ak_17, ak_20, ak_21, ak_22, ak_23, ak_24, ak_25, ak_26, ak_28, ak_29, ak_30, ak_31, ak_32, ak_33, ak_34, ak_35, ak_36, ak_37, eq_self, Int.toNat_natCast, Nat.zero_le, bI_0, b01_0, bI_or, b01_or, ne_eq, reduceCtorEq, not_false_eq_true, Nat.reduceEqDiff, if_true, if_false, ite_true, ite_false, Int.natCast_nonneg, not_true_eq_false, Bool.true_eq_false, Bool.false_eq_true, Int.reduceEq, Int.reduceLT, Int.reduceLE, Int.reduceToNat, and_self, inA, exists_eq, or_true, true_or, or_false, false_or, and_false, false_and, or_self, Nat.reduceLT, ak_37, e0, ew, c1, gi]
      refine lw_33 _ R hr (by omega) (fun h2 R2 => ?_)
      simp only [r237_1510, r237_1513, hk]
      exact ih6 h2 R2
