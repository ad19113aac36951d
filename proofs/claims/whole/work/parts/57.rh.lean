/-! PURE: the reference's item, whole; what a law leaves -/
section MK
variable {h : AH} {U : VS} {s : Nat} {g : Nat → Int} {r : Nat → Int} {i : Nat}
theorem mi_203 {d : Nat} (O : MDO U s g) (hi : i ≤ 160) (hc : g i = 112) (hr : ¬ g (i + 1) = 114) {Q : Option AV → AH → Prop} (hQ : At (CallR (d + 8)) ac_180 203 [vR 17 27, vU] [] (MH h U (i : Int) r) Q) : At (CallR (d + 8)) ac_180 0 [vR 17 27, vU] [] (MH h U (i : Int) r) Q := by
  have sg := (sg_c O (i := i) (c := 112) (by decide)).mpr hc
  have hsg := sm_sign (d := d + 7) (h := h) (r := r) (i := i) O
  rw [sg] at hsg
  have o1 := O.1
  have k23 : ∀ (x : Int) (r : Nat → Int), MH h U x r 17 27 23 = (s : Int) := fun x r => (mh_k (by decide)).trans O.2.1
  have h8 : (s : Int) < 8 := by omega
  have hL := O.2.2.2.1
  have ks := wr_s (show i < 2147483647 by omega)
  by_cases hin : ((i + 1 : Nat) : Int) < U 9 s
  · have c3 : ((160 * s + i + 1 : Nat) : Int) < 1280 := by omega
    have hval : ¬ wr (U 10 (160 * s + i + 1)) = 114 := by
      have := O.2.2.2.2 (i + 1)
      rw [if_pos hin] at this
      rw [← show g (i + 1) = wr (U 10 (160 * s + i + 1)) from this]
      exact hr
    have i1 : i + 1 ≤ 160 := by omega
    have w3 := wr_3 (q := s) (j := i) (k := 1) o1 i1
    have w31 := w3.1
    have w32 := w3.2.1
    have w33 : wr (((160 * s + i : Nat) : Int) + 1) = ((160 * s + i + 1 : Nat) : Int) := w3.2.2
    simp only [r180_0, r180_1, r180_4, r180_108, r180_109, r180_112, r180_113, r180_114, r180_115, r180_118, r180_119, r180_122, r180_123, r180_126, r180_127, r180_130, r180_133, r180_134, r180_137, r180_138, r180_139, r180_142, r180_143, r180_144, r180_145, r180_146, r180_147, r180_149, r180_152, r180_153, r180_155, r180_158, r180_161, r180_162, r180_163, r180_164, r180_165, r180_168, r180_171, r180_172, r180_173, r180_174, r180_176, r180_179, r180_182, r180_183, r180_184, r180_185, r180_188, r180_189, r180_192, r180_193, r180_194, r180_195, r180_198, r180_199, r180_200, r180_201, r180_202, r180_286, r180_287, r180_289, r180_292, r180_295, r180_296, r180_297, r180_298, r180_299, r180_302, r180_303, r180_304, r180_305, r180_307, r180_310, r180_313, r180_314, r180_315, r180_316, r180_317, r180_320, r180_321, r180_322, r180_323, r180_325, r180_328, r180_331, r180_332, r180_333, r180_334, r180_335, r180_338, r180_339, r180_340, r180_341, r180_343, r180_346, r180_349, r180_350, r180_351, r180_352, r180_354, r180_357, r180_360, r180_361, r180_362, r180_363, r180_364, r180_367, r180_368, r180_369, r180_372, r180_373, r180_374, r180_375, r180_377, r180_380, r180_383, r180_384, r180_385, r180_386, r180_388, r180_391, r180_394, r180_395, r180_396, r180_397, r180_398, r180_401, r180_402, r180_403, r180_406, r180_407, r180_408, r180_409, r180_411, r180_414, r180_417, r180_418, r180_419, r180_420, r180_421, r180_424, r180_425, r180_426, r180_429, r180_432, r180_433, r180_434, r180_435, r180_437, r180_440, r180_443, r180_444, r180_445, r180_446, r180_449, r180_450, r180_453, r180_454, r180_455, r180_456, r180_459, r180_460, r180_461, r180_462, r180_463, r180_464, r180_465, r180_467, r180_468, r180_471, r180_472, r180_475, r180_476, r180_479, r180_480, r180_483, r180_486, r180_487, r180_488, r180_489, r180_490, r180_493, r180_494, r180_495, r180_498, r180_501, r180_502, r180_503, r180_504, r180_506, r180_509, r180_512, r180_513, r180_514, r180_515, r180_516, r180_519, r180_520, r180_521, r180_522, r180_525, r180_526, r180_527, r180_530, r180_531, r180_532, r180_533, r180_534, r180_536, r180_539, r180_542, r180_543, r180_544, r180_545, r180_548, r180_549, r180_550, r180_551, r180_552, r180_553, r180_554, r180_556, r180_559, r180_562, r180_563, r180_564, r180_565, r180_566, r180_569, r180_570, r180_571, r180_574, r180_577, r180_580, r180_581, r180_582, r180_583, r180_584, r180_587, r180_588, r180_589, r180_592, r180_593, r180_594, r180_595, CallR_iff hsg, mh_24, k23, mh_9, mh_10, h8, ks, hin, w31, w32, w33, c3, hval, reduceIte, Option.some.injEq, and_assoc, exists_and_left, exists_eq_left, exists_eq_left', true_and, and_true, List.length_cons, List.length_nil, Nat.reduceAdd, Nat.reduceLeDiff, Sum.inl.injEq, az_0, az_1, az_2, az_3, az_4, az_5, az_6, az_8, az_11, az_14, az_15, az_17, az_20, az_21, az_22, az_23, az_24, az_25, az_26, az_28, az_29, az_30, az_31, az_32, az_33, az_34, az_35, az_36, ak_0, ak_1, ak_2, ak_3, ak_4, ak_5, ak_6, ak_8, ak_11, ak_14, ak_15, ak_17, ak_20, ak_21, ak_22, ak_23, ak_24, ak_25, ak_26, ak_28, ak_29, ak_30, ak_31, ak_32, ak_33, ak_34, ak_35, ak_36, ak_37, eq_self, Int.toNat_natCast, Nat.zero_le, bI_0, b01_0, bI_or, b01_or, ne_eq, reduceCtorEq, not_false_eq_true, Nat.reduceEqDiff, if_true, if_false, ite_true, ite_false, Int.natCast_nonneg, not_true_eq_false, Bool.true_eq_false, Bool.false_eq_true, Int.reduceEq, Int.reduceLT, Int.reduceLE, Int.reduceToNat, and_self, inA, exists_eq, or_true, true_or, or_false, false_or, and_false, false_and, or_self, Nat.reduceLT]
    exact hQ
  · simp only [r180_0, r180_1, r180_4, r180_108, r180_109, r180_112, r180_113, r180_114, r180_115, r180_118, r180_119, r180_122, r180_123, r180_126, r180_127, r180_130, r180_133, r180_134, r180_137, r180_138, r180_139, r180_142, r180_143, r180_144, r180_145, r180_146, r180_147, r180_149, r180_152, r180_153, r180_155, r180_158, r180_161, r180_162, r180_163, r180_164, r180_165, r180_168, r180_171, r180_172, r180_173, r180_174, r180_176, r180_179, r180_182, r180_183, r180_184, r180_185, r180_188, r180_189, r180_192, r180_193, r180_194, r180_195, r180_198, r180_199, r180_200, r180_201, r180_202, r180_286, r180_287, r180_289, r180_292, r180_295, r180_296, r180_297, r180_298, r180_299, r180_302, r180_303, r180_304, r180_305, r180_307, r180_310, r180_313, r180_314, r180_315, r180_316, r180_317, r180_320, r180_321, r180_322, r180_323, r180_325, r180_328, r180_331, r180_332, r180_333, r180_334, r180_335, r180_338, r180_339, r180_340, r180_341, r180_343, r180_346, r180_349, r180_350, r180_351, r180_352, r180_354, r180_357, r180_360, r180_361, r180_362, r180_363, r180_364, r180_367, r180_368, r180_369, r180_372, r180_373, r180_374, r180_375, r180_377, r180_380, r180_383, r180_384, r180_385, r180_386, r180_388, r180_391, r180_394, r180_395, r180_396, r180_397, r180_398, r180_401, r180_402, r180_403, r180_406, r180_407, r180_408, r180_409, r180_411, r180_414, r180_417, r180_418, r180_419, r180_420, r180_421, r180_424, r180_425, r180_426, r180_429, r180_432, r180_433, r180_434, r180_435, r180_437, r180_440, r180_443, r180_444, r180_445, r180_446, r180_449, r180_450, r180_453, r180_454, r180_455, r180_456, r180_459, r180_460, r180_461, r180_462, r180_463, r180_464, r180_465, r180_467, r180_468, r180_471, r180_472, r180_475, r180_476, r180_479, r180_480, r180_483, r180_486, r180_487, r180_488, r180_489, r180_490, r180_493, r180_494, r180_495, r180_498, r180_501, r180_502, r180_503, r180_504, r180_506, r180_509, r180_512, r180_513, r180_514, r180_515, r180_516, r180_519, r180_520, r180_521, r180_522, r180_525, r180_526, r180_527, r180_530, r180_531, r180_532, r180_533, r180_534, r180_536, r180_539, r180_542, r180_543, r180_544, r180_545, r180_548, r180_549, r180_550, r180_551, r180_552, r180_553, r180_554, r180_556, r180_559, r180_562, r180_563, r180_564, r180_565, r180_566, r180_569, r180_570, r180_571, r180_574, r180_577, r180_580, r180_581, r180_582, r180_583, r180_584, r180_587, r180_588, r180_589, r180_592, r180_593, r180_594, r180_595, CallR_iff hsg, mh_24, k23, mh_9, mh_10, h8, ks, hin, reduceIte, Option.some.injEq, and_assoc, exists_and_left, exists_eq_left, exists_eq_left', true_and, and_true, List.length_cons, List.length_nil, Nat.reduceAdd, Nat.reduceLeDiff, Sum.inl.injEq, az_0, az_1, az_2, az_3, az_4, az_5, az_6, az_8, az_11, az_14, az_15, az_17, az_20, az_21, az_22, az_23, az_24, az_25, az_26, az_28, az_29, az_30, az_31, az_32, az_33, az_34, az_35, az_36, ak_0, ak_1, ak_2, ak_3, ak_4, ak_5, ak_6, ak_8, ak_11, ak_14, ak_15, ak_17, ak_20, ak_21, ak_22, ak_23, ak_24, ak_25, ak_26, ak_28, ak_29, ak_30, ak_31, ak_32, ak_33, ak_34, ak_35, ak_36, ak_37, eq_self, Int.toNat_natCast, Nat.zero_le, bI_0, b01_0, bI_or, b01_or, ne_eq, reduceCtorEq, not_false_eq_true, Nat.reduceEqDiff, if_true, if_false, ite_true, ite_false, Int.natCast_nonneg, not_true_eq_false, Bool.true_eq_false, Bool.false_eq_true, Int.reduceEq, Int.reduceLT, Int.reduceLE, Int.reduceToNat, and_self, inA, exists_eq, or_true, true_or, or_false, false_or, and_false, false_and, or_self, Nat.reduceLT]
    exact hQ
theorem mi_0 {d : Nat} (O : MDO U s g) (hi : i ≤ 160) (hw : WF U) (hc : g i = 112) (hr : ¬ g (i + 1) = 114) : ∃ h', CallR (d + 9) 180 [vR 17 27] (MH h U (i : Int) r) (some (vI (b01 (itS g U i).1))) h' ∧ IRES h U (itS g U i) h' := by
  have es : selF g i = 0 := by unfold selF; rw [if_pos hc, if_neg hr]
  have k7 : ∀ (x : Int) (r : Nat → Int), MH h U x r 17 27 7 = U 7 7 := fun x r => mh_k (by decide)
  have hbd := hw.bd
  by_cases hlt : mtF g (wdL 0) i < (wdL 0).length
  · have hw0 := sm_wordR (d := d + 4) (h := h) (r := r) (i := i) (k := 0) (rm := 0) O (by decide) (by omega) (Or.inl rfl)
    have hw1 := sm_wordR (d := d + 4) (h := h) (r := r) (i := i) (k := 0) (rm := 1) O (by decide) (by omega) (Or.inr rfl)
    rw [if_pos hlt, if_pos hlt] at hw0 hw1
    refine ⟨_, ?_, by rw [it_part U es (by decide) hlt]; exact it_bad (r := r)⟩
    rw [it_part U es (by decide) hlt, cr_180]
    refine mi_203 O hi hc hr ?_
    by_cases q : U 7 7 < 8
    · simp only [r180_203, r180_204, r180_206, r180_207, r180_210, r180_212, r180_215, r180_216, r180_219, r180_220, r180_223, r180_226, r180_227, r180_228, r180_229, r180_231, r180_234, r180_237, r180_238, r180_239, r180_240, r180_242, r180_245, r180_248, r180_249, r180_250, r180_251, r180_253, r180_256, r180_259, r180_260, r180_261, r180_262, r180_263, r180_266, r180_267, r180_268, r180_269, r180_272, r180_273, r180_274, r180_275, r180_278, r180_279, r180_280, r180_283, r180_284, r180_285, k7, q, CallR_iff hw1, reduceIte, Option.some.injEq, and_assoc, exists_and_left, exists_eq_left, exists_eq_left', true_and, and_true, List.length_cons, List.length_nil, Nat.reduceAdd, Nat.reduceLeDiff, Sum.inl.injEq, az_0, az_1, az_2, az_3, az_4, az_5, az_6, az_8, az_11, az_14, az_15, az_17, az_20, az_21, az_22, az_23, az_24, az_25, az_26, az_28, az_29, az_30, az_31, az_32, az_33, az_34, az_35, az_36, ak_0, ak_1, ak_2, ak_3, ak_4, ak_5, ak_6, ak_8, ak_11, ak_14, ak_15, ak_17, ak_20, ak_21, ak_22, ak_23, ak_24, ak_25, ak_26, ak_28, ak_29, ak_30, ak_31, ak_32, ak_33, ak_34, ak_35, ak_36, ak_37, eq_self, Int.toNat_natCast, Nat.zero_le, bI_0, b01_0, bI_or, b01_or, ne_eq, reduceCtorEq, not_false_eq_true, Nat.reduceEqDiff, if_true, if_false, ite_true, ite_false, Int.natCast_nonneg, not_true_eq_false, Bool.true_eq_false, Bool.false_eq_true, Int.reduceEq, Int.reduceLT, Int.reduceLE, Int.reduceToNat, and_self, inA, exists_eq, or_true, true_or, or_false, false_or, and_false, false_and, or_self, Nat.reduceLT]
      try rfl
    · simp only [r180_203, r180_204, r180_206, r180_207, r180_210, r180_212, r180_215, r180_216, r180_219, r180_220, r180_223, r180_226, r180_227, r180_228, r180_229, r180_231, r180_234, r180_237, r180_238, r180_239, r180_240, r180_242, r180_245, r180_248, r180_249, r180_250, r180_251, r180_253, r180_256, r180_259, r180_260, r180_261, r180_262, r180_263, r180_266, r180_267, r180_268, r180_269, r180_272, r180_273, r180_274, r180_275, r180_278, r180_279, r180_280, r180_283, r180_284, r180_285, k7, q, CallR_iff hw0, reduceIte, Option.some.injEq, and_assoc, exists_and_left, exists_eq_left, exists_eq_left', true_and, and_true, List.length_cons, List.length_nil, Nat.reduceAdd, Nat.reduceLeDiff, Sum.inl.injEq, az_0, az_1, az_2, az_3, az_4, az_5, az_6, az_8, az_11, az_14, az_15, az_17, az_20, az_21, az_22, az_23, az_24, az_25, az_26, az_28, az_29, az_30, az_31, az_32, az_33, az_34, az_35, az_36, ak_0, ak_1, ak_2, ak_3, ak_4, ak_5, ak_6, ak_8, ak_11, ak_14, ak_15, ak_17, ak_20, ak_21, ak_22, ak_23, ak_24, ak_25, ak_26, ak_28, ak_29, ak_30, ak_31, ak_32, ak_33, ak_34, ak_35, ak_36, ak_37, eq_self, Int.toNat_natCast, Nat.zero_le, bI_0, b01_0, bI_or, b01_or, ne_eq, reduceCtorEq, not_false_eq_true, Nat.reduceEqDiff, if_true, if_false, ite_true, ite_false, Int.natCast_nonneg, not_true_eq_false, Bool.true_eq_false, Bool.false_eq_true, Int.reduceEq, Int.reduceLT, Int.reduceLE, Int.reduceToNat, and_self, inA, exists_eq, or_true, true_or, or_false, false_or, and_false, false_and, or_self, Nat.reduceLT]
      try rfl
  · obtain ⟨j, ej⟩ : ∃ j, i + (wdL 0).length = j := ⟨_, rfl⟩
    have hf : mtF g (wdL 0) i = (wdL 0).length := by have := mt_le g (wdL 0) i; omega
    have hl0 : (wdL 0).length = 5 := rfl
    have hjn := mt_in' O (wdL 0) i (wd_nz 0 (by decide)) (by omega)
    have hL := O.2.2.2.1
    have un := it_un U es (by decide) hlt ej 0 rfl
    simp only [Nat.reduceEqDiff, if_true, if_false, reduceCtorEq] at un
    by_cases q : U 7 7 < 8
    · have hw1 := sm_wordR (d := d + 4) (h := h) (r := r) (i := i) (k := 0) (rm := 1) O (by decide) (by omega) (Or.inr rfl)
      rw [if_neg hlt, if_neg hlt, if_neg (by decide), hf, ej] at hw1
      rw [hf, ej] at hjn
      rw [if_pos q] at un
      rcases mm_num (d := d + 5) (h := h) (U := U) (r := r) (i := j) (t := 0) (lo := 0) (hi := 6) O (by decide) (by omega) with ⟨e1, c1⟩ | ⟨e1, r1, c1⟩
      · have b1 := nr_in' O e1
        rcases mm_num (d := d + 5) (h := h) (U := U) (r := fup r 0 (nrS g j 0 6).2.2) (i := (nrS g j 0 6).2.1) (t := 1) (lo := 0) (hi := 9) O (by decide) (by omega) with ⟨e2, c2⟩ | ⟨e2, r2, c2⟩
        · have b2 := nr_in' O e2
          rcases mm_num (d := d + 5) (h := h) (U := U) (r := fup (fup r 0 (nrS g j 0 6).2.2) 1 (nrS g (nrS g j 0 6).2.1 0 9).2.2) (i := (nrS g (nrS g j 0 6).2.1 0 9).2.1) (t := 2) (lo := 0) (hi := 99) O (by decide) (by omega) with ⟨e3, c3⟩ | ⟨e3, r3, c3⟩
          · rw [e1, e2, e3] at un
            simp only [if_true] at un
            change CallR _ _ [vR 17 27, vI 0, vI 0, vI 6] _ _ _ at c1
            change CallR _ _ [vR 17 27, vI 1, vI 0, vI 9] _ _ _ at c2
            change CallR _ _ [vR 17 27, vI 2, vI 0, vI 99] _ _ _ at c3
            generalize nrS g j 0 6 = A at *
            generalize nrS g A.2.1 0 9 = B at *
            generalize nrS g B.2.1 0 99 = C at *
            have q1 : ∀ (x : Int) (r : Nat → Int), 0 ≤ RV (MH h U x r 17) 7 7 := fun x r => by rw [mh_RV]; exact hbd.1
            have q2 : ∀ (x : Int) (r : Nat → Int), RV (MH h U x r 17) 7 7 < 8 := fun x r => by rw [mh_RV]; exact q
            have sf := sm_newPlace (d := d + 7) (h := MH h U (C.2.1 : Int) (fup (fup (fup r 0 A.2.2) 1 B.2.2) 2 C.2.2)) (k := A.2.2) (a := B.2.2) (f := C.2.2) (q1 _ _) (q2 _ _)
            rw [mh_RV, mh_set] at sf
            refine ⟨fup h 17 (setRV (h 17) (addPlV (stU U (C.2.1 : Int) (fup (fup (fup r 0 A.2.2) 1 B.2.2) 2 C.2.2)) A.2.2 B.2.2 C.2.2)), ?_, by rw [un]; exact it_fin (FRM.addPl (FRM.rf _) _ _ _) ((stU_EV U _ _).c_addPlV _ _ _) rfl⟩
            rw [un, cr_180]
            refine mi_203 O hi hc hr ?_
            simp only [r180_203, r180_204, r180_206, r180_207, r180_210, r180_212, r180_215, r180_216, r180_219, r180_220, r180_223, r180_226, r180_227, r180_228, r180_229, r180_231, r180_234, r180_237, r180_238, r180_239, r180_240, r180_242, r180_245, r180_248, r180_249, r180_250, r180_251, r180_253, r180_256, r180_259, r180_260, r180_261, r180_262, r180_263, r180_266, r180_267, r180_268, r180_269, r180_272, r180_273, r180_274, r180_275, r180_278, r180_279, r180_280, r180_283, r180_284, r180_285, k7, q, CallR_iff hw1, CallR_iff c1, CallR_iff c2, CallR_iff c3, mh_16, fr2, fr3, fup_same, CallR_iff sf, reduceIte, Option.some.injEq, and_assoc, exists_and_left, exists_eq_left, exists_eq_left', true_and, and_true, List.length_cons, List.length_nil, Nat.reduceAdd, Nat.reduceLeDiff, Sum.inl.injEq, az_0, az_1, az_2, az_3, az_4, az_5, az_6, az_8, az_11, az_14, az_15, az_17, az_20, az_21, az_22, az_23, az_24, az_25, az_26, az_28, az_29, az_30, az_31, az_32, az_33, az_34, az_35, az_36, ak_0, ak_1, ak_2, ak_3, ak_4, ak_5, ak_6, ak_8, ak_11, ak_14, ak_15, ak_17, ak_20, ak_21, ak_22, ak_23, ak_24, ak_25, ak_26, ak_28, ak_29, ak_30, ak_31, ak_32, ak_33, ak_34, ak_35, ak_36, ak_37, eq_self, Int.toNat_natCast, Nat.zero_le, bI_0, b01_0, bI_or, b01_or, ne_eq, reduceCtorEq, not_false_eq_true, Nat.reduceEqDiff, if_true, if_false, ite_true, ite_false, Int.natCast_nonneg, not_true_eq_false, Bool.true_eq_false, Bool.false_eq_true, Int.reduceEq, Int.reduceLT, Int.reduceLE, Int.reduceToNat, and_self, inA, exists_eq, or_true, true_or, or_false, false_or, and_false, false_and, or_self, Nat.reduceLT]
            first | rfl | exact ⟨rfl, rfl⟩
          · rw [e1, e2, e3] at un
            simp only [if_true, if_false, Bool.false_eq_true] at un
            change CallR _ _ [vR 17 27, vI 0, vI 0, vI 6] _ _ _ at c1
            change CallR _ _ [vR 17 27, vI 1, vI 0, vI 9] _ _ _ at c2
            change CallR _ _ [vR 17 27, vI 2, vI 0, vI 99] _ _ _ at c3
            refine ⟨_, ?_, by rw [un]; exact it_bad (r := r3)⟩
            rw [un, cr_180]
            refine mi_203 O hi hc hr ?_
            simp only [r180_203, r180_204, r180_206, r180_207, r180_210, r180_212, r180_215, r180_216, r180_219, r180_220, r180_223, r180_226, r180_227, r180_228, r180_229, r180_231, r180_234, r180_237, r180_238, r180_239, r180_240, r180_242, r180_245, r180_248, r180_249, r180_250, r180_251, r180_253, r180_256, r180_259, r180_260, r180_261, r180_262, r180_263, r180_266, r180_267, r180_268, r180_269, r180_272, r180_273, r180_274, r180_275, r180_278, r180_279, r180_280, r180_283, r180_284, r180_285, k7, q, CallR_iff hw1, CallR_iff c1, CallR_iff c2, CallR_iff c3, reduceIte, Option.some.injEq, and_assoc, exists_and_left, exists_eq_left, exists_eq_left', true_and, and_true, List.length_cons, List.length_nil, Nat.reduceAdd, Nat.reduceLeDiff, Sum.inl.injEq, az_0, az_1, az_2, az_3, az_4, az_5, az_6, az_8, az_11, az_14, az_15, az_17, az_20, az_21, az_22, az_23, az_24, az_25, az_26, az_28, az_29, az_30, az_31, az_32, az_33, az_34, az_35, az_36, ak_0, ak_1, ak_2, ak_3, ak_4, ak_5, ak_6, ak_8, ak_11, ak_14, ak_15, ak_17, ak_20, ak_21, ak_22, ak_23, ak_24, ak_25, ak_26, ak_28, ak_29, ak_30, ak_31, ak_32, ak_33, ak_34, ak_35, ak_36, ak_37, eq_self, Int.toNat_natCast, Nat.zero_le, bI_0, b01_0, bI_or, b01_or, ne_eq, reduceCtorEq, not_false_eq_true, Nat.reduceEqDiff, if_true, if_false, ite_true, ite_false, Int.natCast_nonneg, not_true_eq_false, Bool.true_eq_false, Bool.false_eq_true, Int.reduceEq, Int.reduceLT, Int.reduceLE, Int.reduceToNat, and_self, inA, exists_eq, or_true, true_or, or_false, false_or, and_false, false_and, or_self, Nat.reduceLT]
            try rfl
        · rw [e1, e2] at un
          simp only [if_true, if_false, Bool.false_eq_true] at un
          change CallR _ _ [vR 17 27, vI 0, vI 0, vI 6] _ _ _ at c1
          change CallR _ _ [vR 17 27, vI 1, vI 0, vI 9] _ _ _ at c2
          refine ⟨_, ?_, by rw [un]; exact it_bad (r := r2)⟩
          rw [un, cr_180]
          refine mi_203 O hi hc hr ?_
          simp only [r180_203, r180_204, r180_206, r180_207, r180_210, r180_212, r180_215, r180_216, r180_219, r180_220, r180_223, r180_226, r180_227, r180_228, r180_229, r180_231, r180_234, r180_237, r180_238, r180_239, r180_240, r180_242, r180_245, r180_248, r180_249, r180_250, r180_251, r180_253, r180_256, r180_259, r180_260, r180_261, r180_262, r180_263, r180_266, r180_267, r180_268, r180_269, r180_272, r180_273, r180_274, r180_275, r180_278, r180_279, r180_280, r180_283, r180_284, r180_285, k7, q, CallR_iff hw1, CallR_iff c1, CallR_iff c2, reduceIte, Option.some.injEq, and_assoc, exists_and_left, exists_eq_left, exists_eq_left', true_and, and_true, List.length_cons, List.length_nil, Nat.reduceAdd, Nat.reduceLeDiff, Sum.inl.injEq, az_0, az_1, az_2, az_3, az_4, az_5, az_6, az_8, az_11, az_14, az_15, az_17, az_20, az_21, az_22, az_23, az_24, az_25, az_26, az_28, az_29, az_30, az_31, az_32, az_33, az_34, az_35, az_36, ak_0, ak_1, ak_2, ak_3, ak_4, ak_5, ak_6, ak_8, ak_11, ak_14, ak_15, ak_17, ak_20, ak_21, ak_22, ak_23, ak_24, ak_25, ak_26, ak_28, ak_29, ak_30, ak_31, ak_32, ak_33, ak_34, ak_35, ak_36, ak_37, eq_self, Int.toNat_natCast, Nat.zero_le, bI_0, b01_0, bI_or, b01_or, ne_eq, reduceCtorEq, not_false_eq_true, Nat.reduceEqDiff, if_true, if_false, ite_true, ite_false, Int.natCast_nonneg, not_true_eq_false, Bool.true_eq_false, Bool.false_eq_true, Int.reduceEq, Int.reduceLT, Int.reduceLE, Int.reduceToNat, and_self, inA, exists_eq, or_true, true_or, or_false, false_or, and_false, false_and, or_self, Nat.reduceLT]
          try rfl
      · rw [e1] at un
        simp only [if_false, Bool.false_eq_true] at un
        change CallR _ _ [vR 17 27, vI 0, vI 0, vI 6] _ _ _ at c1
        refine ⟨_, ?_, by rw [un]; exact it_bad (r := r1)⟩
        rw [un, cr_180]
        refine mi_203 O hi hc hr ?_
        simp only [r180_203, r180_204, r180_206, r180_207, r180_210, r180_212, r180_215, r180_216, r180_219, r180_220, r180_223, r180_226, r180_227, r180_228, r180_229, r180_231, r180_234, r180_237, r180_238, r180_239, r180_240, r180_242, r180_245, r180_248, r180_249, r180_250, r180_251, r180_253, r180_256, r180_259, r180_260, r180_261, r180_262, r180_263, r180_266, r180_267, r180_268, r180_269, r180_272, r180_273, r180_274, r180_275, r180_278, r180_279, r180_280, r180_283, r180_284, r180_285, k7, q, CallR_iff hw1, CallR_iff c1, reduceIte, Option.some.injEq, and_assoc, exists_and_left, exists_eq_left, exists_eq_left', true_and, and_true, List.length_cons, List.length_nil, Nat.reduceAdd, Nat.reduceLeDiff, Sum.inl.injEq, az_0, az_1, az_2, az_3, az_4, az_5, az_6, az_8, az_11, az_14, az_15, az_17, az_20, az_21, az_22, az_23, az_24, az_25, az_26, az_28, az_29, az_30, az_31, az_32, az_33, az_34, az_35, az_36, ak_0, ak_1, ak_2, ak_3, ak_4, ak_5, ak_6, ak_8, ak_11, ak_14, ak_15, ak_17, ak_20, ak_21, ak_22, ak_23, ak_24, ak_25, ak_26, ak_28, ak_29, ak_30, ak_31, ak_32, ak_33, ak_34, ak_35, ak_36, ak_37, eq_self, Int.toNat_natCast, Nat.zero_le, bI_0, b01_0, bI_or, b01_or, ne_eq, reduceCtorEq, not_false_eq_true, Nat.reduceEqDiff, if_true, if_false, ite_true, ite_false, Int.natCast_nonneg, not_true_eq_false, Bool.true_eq_false, Bool.false_eq_true, Int.reduceEq, Int.reduceLT, Int.reduceLE, Int.reduceToNat, and_self, inA, exists_eq, or_true, true_or, or_false, false_or, and_false, false_and, or_self, Nat.reduceLT]
        try rfl
    · have hw0 := sm_wordR (d := d + 4) (h := h) (r := r) (i := i) (k := 0) (rm := 0) O (by decide) (by omega) (Or.inl rfl)
      rw [if_neg hlt, if_neg hlt, if_pos rfl] at hw0
      rw [if_neg q] at un
      refine ⟨_, ?_, by rw [un]; exact it_bad (r := r)⟩
      rw [un, cr_180]
      refine mi_203 O hi hc hr ?_
      simp only [r180_203, r180_204, r180_206, r180_207, r180_210, r180_212, r180_215, r180_216, r180_219, r180_220, r180_223, r180_226, r180_227, r180_228, r180_229, r180_231, r180_234, r180_237, r180_238, r180_239, r180_240, r180_242, r180_245, r180_248, r180_249, r180_250, r180_251, r180_253, r180_256, r180_259, r180_260, r180_261, r180_262, r180_263, r180_266, r180_267, r180_268, r180_269, r180_272, r180_273, r180_274, r180_275, r180_278, r180_279, r180_280, r180_283, r180_284, r180_285, k7, q, CallR_iff hw0, reduceIte, Option.some.injEq, and_assoc, exists_and_left, exists_eq_left, exists_eq_left', true_and, and_true, List.length_cons, List.length_nil, Nat.reduceAdd, Nat.reduceLeDiff, Sum.inl.injEq, az_0, az_1, az_2, az_3, az_4, az_5, az_6, az_8, az_11, az_14, az_15, az_17, az_20, az_21, az_22, az_23, az_24, az_25, az_26, az_28, az_29, az_30, az_31, az_32, az_33, az_34, az_35, az_36, ak_0, ak_1, ak_2, ak_3, ak_4, ak_5, ak_6, ak_8, ak_11, ak_14, ak_15, ak_17, ak_20, ak_21, ak_22, ak_23, ak_24, ak_25, ak_26, ak_28, ak_29, ak_30, ak_31, ak_32, ak_33, ak_34, ak_35, ak_36, ak_37, eq_self, Int.toNat_natCast, Nat.zero_le, bI_0, b01_0, bI_or, b01_or, ne_eq, reduceCtorEq, not_false_eq_true, Nat.reduceEqDiff, if_true, if_false, ite_true, ite_false, Int.natCast_nonneg, not_true_eq_false, Bool.true_eq_false, Bool.false_eq_true, Int.reduceEq, Int.reduceLT, Int.reduceLE, Int.reduceToNat, and_self, inA, exists_eq, or_true, true_or, or_false, false_or, and_false, false_and, or_self, Nat.reduceLT]
      try rfl
theorem mi_10 {d : Nat} (O : MDO U s g) (es : selF g i = 10) : ∃ h', CallR (d + 9) 180 [vR 17 27] (MH h U (i : Int) r) (some (vI (b01 (itS g U i).1))) h' ∧ IRES h U (itS g U i) h' := by
  have hsg := sm_sign (d := d + 7) (h := h) (r := r) (i := i) O
  have ne : ∀ c : Int, 0 < c → g i ≠ c → ¬ sgF (U 9 s) g i = c := fun c h0 hn a => hn ((sg_c O h0).mp a)
  have nz : g i ≠ 112 ∧ g i ≠ 119 ∧ g i ≠ 99 ∧ g i ≠ 101 ∧ g i ≠ 115 ∧ g i ≠ 116 ∧ g i ≠ 102 ∧ g i ≠ 98 ∧ g i ≠ 104 := by
    unfold selF at es
    refine ⟨?_, ?_, ?_, ?_, ?_, ?_, ?_, ?_, ?_⟩ <;> (intro q; simp only [q, Int.reduceEq, if_true, if_false, reduceIte] at es; first | omega | (split at es <;> omega))
  obtain ⟨n1, n2, n3, n4, n5, n6, n7, n8, n9⟩ := nz
  refine ⟨_, ?_, by rw [it_10 U es]; exact it_bad (r := r)⟩
  rw [it_10 U es, cr_180]
  simp only [r180_0, r180_1, r180_4, r180_108, r180_109, r180_112, r180_113, r180_114, r180_115, r180_118, r180_119, r180_122, r180_123, r180_126, r180_127, r180_130, r180_133, r180_134, r180_137, r180_138, r180_139, r180_142, r180_143, r180_144, r180_145, r180_146, r180_147, r180_149, r180_152, r180_153, r180_155, r180_158, r180_161, r180_162, r180_163, r180_164, r180_165, r180_168, r180_171, r180_172, r180_173, r180_174, r180_176, r180_179, r180_182, r180_183, r180_184, r180_185, r180_188, r180_189, r180_192, r180_193, r180_194, r180_195, r180_198, r180_199, r180_200, r180_201, r180_202, r180_203, r180_204, r180_206, r180_207, r180_210, r180_212, r180_215, r180_216, r180_219, r180_220, r180_223, r180_226, r180_227, r180_228, r180_229, r180_231, r180_234, r180_237, r180_238, r180_239, r180_240, r180_242, r180_245, r180_248, r180_249, r180_250, r180_251, r180_253, r180_256, r180_259, r180_260, r180_261, r180_262, r180_263, r180_266, r180_267, r180_268, r180_269, r180_272, r180_273, r180_274, r180_275, r180_278, r180_279, r180_280, r180_283, r180_284, r180_285, r180_286, r180_287, r180_289, r180_292, r180_295, r180_296, r180_297, r180_298, r180_299, r180_302, r180_303, r180_304, r180_305, r180_307, r180_310, r180_313, r180_314, r180_315, r180_316, r180_317, r180_320, r180_321, r180_322, r180_323, r180_325, r180_328, r180_331, r180_332, r180_333, r180_334, r180_335, r180_338, r180_339, r180_340, r180_341, r180_343, r180_346, r180_349, r180_350, r180_351, r180_352, r180_354, r180_357, r180_360, r180_361, r180_362, r180_363, r180_364, r180_367, r180_368, r180_369, r180_372, r180_373, r180_374, r180_375, r180_377, r180_380, r180_383, r180_384, r180_385, r180_386, r180_388, r180_391, r180_394, r180_395, r180_396, r180_397, r180_398, r180_401, r180_402, r180_403, r180_406, r180_407, r180_408, r180_409, r180_411, r180_414, r180_417, r180_418, r180_419, r180_420, r180_421, r180_424, r180_425, r180_426, r180_429, r180_432, r180_433, r180_434, r180_435, r180_437, r180_440, r180_443, r180_444, r180_445, r180_446, r180_449, r180_450, r180_453, r180_454, r180_455, r180_456, r180_459, r180_460, r180_461, r180_462, r180_463, r180_464, r180_465, r180_467, r180_468, r180_471, r180_472, r180_475, r180_476, r180_479, r180_480, r180_483, r180_486, r180_487, r180_488, r180_489, r180_490, r180_493, r180_494, r180_495, r180_498, r180_501, r180_502, r180_503, r180_504, r180_506, r180_509, r180_512, r180_513, r180_514, r180_515, r180_516, r180_519, r180_520, r180_521, r180_522, r180_525, r180_526, r180_527, r180_530, r180_531, r180_532, r180_533, r180_534, r180_536, r180_539, r180_542, r180_543, r180_544, r180_545, r180_548, r180_549, r180_550, r180_551, r180_552, r180_553, r180_554, r180_556, r180_559, r180_562, r180_563, r180_564, r180_565, r180_566, r180_569, r180_570, r180_571, r180_574, r180_577, r180_580, r180_581, r180_582, r180_583, r180_584, r180_587, r180_588, r180_589, r180_592, r180_593, r180_594, r180_595, CallR_iff hsg, ne 112 (by decide) n1, ne 119 (by decide) n2, ne 99 (by decide) n3, ne 101 (by decide) n4, ne 115 (by decide) n5, ne 116 (by decide) n6, ne 102 (by decide) n7, ne 98 (by decide) n8, ne 104 (by decide) n9, reduceIte, Option.some.injEq, and_assoc, exists_and_left, exists_eq_left, exists_eq_left', true_and, and_true, List.length_cons, List.length_nil, Nat.reduceAdd, Nat.reduceLeDiff, Sum.inl.injEq, az_0, az_1, az_2, az_3, az_4, az_5, az_6, az_8, az_11, az_14, az_15, az_17, az_20, az_21, az_22, az_23, az_24, az_25, az_26, az_28, az_29, az_30, az_31, az_32, az_33, az_34, az_35, az_36, ak_0, ak_1, ak_2, ak_3, ak_4, ak_5, ak_6, ak_8, ak_11, ak_14, ak_15, ak_17, ak_20, ak_21, ak_22, ak_23, ak_24, ak_25, ak_26, ak_28, ak_29, ak_30, ak_31, ak_32, ak_33, ak_34, ak_35, ak_36, ak_37, eq_self, Int.toNat_natCast, Nat.zero_le, bI_0, b01_0, bI_or, b01_or, ne_eq, reduceCtorEq, not_false_eq_true, Nat.reduceEqDiff, if_true, if_false, ite_true, ite_false, Int.natCast_nonneg, not_true_eq_false, Bool.true_eq_false, Bool.false_eq_true, Int.reduceEq, Int.reduceLT, Int.reduceLE, Int.reduceToNat, and_self, inA, exists_eq, or_true, true_or, or_false, false_or, and_false, false_and, or_self, Nat.reduceLT]
  simp only [ite_self]
  try rfl
theorem sm_item {d : Nat} (O : MDO U s g) (hi : i ≤ 160) (hw : WF U) : ∃ h', CallR (d + 9) 180 [vR 17 27] (MH h U (i : Int) r) (some (vI (b01 (itS g U i).1))) h' ∧ IRES h U (itS g U i) h' := by
  by_cases p : g i = 112
  · by_cases q : g (i + 1) = 114
    · exact mi_6 O hi hw p q
    · exact mi_0 O hi hw p q
  by_cases c1 : g i = 119
  · exact mi_1 O hi hw c1
  by_cases c2 : g i = 99
  · exact mi_2 O hi hw c2
  by_cases c3 : g i = 101
  · exact mi_3 O hi hw c3
  by_cases c4 : g i = 115
  · exact mi_4 O hi hw c4
  by_cases c5 : g i = 116
  · exact mi_5 O hi hw c5
  by_cases c7 : g i = 102
  · exact mi_7 O hi hw c7
  by_cases c8 : g i = 98
  · exact mi_8 O hi hw c8
  by_cases c9 : g i = 104
  · exact mi_9 O hi hw c9
  · exact mi_10 O (by unfold selF; rw [if_neg p, if_neg c1, if_neg c2, if_neg c3, if_neg c4, if_neg c5, if_neg c7, if_neg c8, if_neg c9])
end MK
/-! the items' answers -/
theorem it_ok {g : Nat → Int} {V : VS} {i : Nat} (hw : WF V) : WF (itS g V i).2.2 := by
  by_cases h10 : selF g i = 10
  · rw [it_10 V h10]; exact hw
  have hs : selF g i < 10 := by have := sel_le g i; omega
  by_cases hlt : mtF g (wdL (selF g i)) i < (wdL (selF g i)).length
  · rw [it_part V rfl hs hlt]; exact hw
  have un := it_un V (g := g) (i := i) rfl hs hlt rfl (selF g i) rfl
  rw [un]
  have nb := fun (a : Nat) (lo hi : Int) (e : (nrS g a lo hi).1 = true) => nr_bd e
  split
  · split
    · next h8 =>
      dsimp only
      split
      · next a1 =>
        split
        · next a2 =>
          split
          · next a3 =>
            have v1 := nb _ _ _ a1
            have v2 := nb _ _ _ a2
            have v3 := nb _ _ _ a3
            exact addPl_wf hw h8 ⟨v1.1, v1.2.1⟩ ⟨v2.1, v2.2.1⟩ ⟨v3.1, v3.2.1⟩
          · exact hw
        · exact hw
      · exact hw
    · exact hw
  split
  · dsimp only
    split
    · next a1 =>
      have v1 := nb _ _ _ a1
      exact hw.nums rfl rfl rfl rfl rfl rfl rfl rfl hw.you hw.coins hw.hour hw.wind ⟨v1.1, v1.2.1⟩ hw.tender
    · exact hw
  split
  · dsimp only
    split
    · next a1 =>
      have v1 := nb _ _ _ a1
      exact td_wf hw ⟨v1.1, v1.2.1⟩
    · exact hw
  split
  · dsimp only
    split
    · next a1 =>
      split
      · next a2 =>
        have v2 := nb _ _ _ a2
        exact setPrice_wf hw ⟨v2.1, v2.2.1⟩
      · exact hw
    · exact hw
  split
  · dsimp only
    split
    · next a1 =>
      split
      · next a2 =>
        have v2 := nb _ _ _ a2
        exact setFog_wf hw ⟨v2.1, v2.2.1⟩
      · exact hw
    · exact hw
  split
  · split
    · exact hw
    · next hf =>
      dsimp only
      split
      · next a1 =>
        split
        · next a2 =>
          have v1 := nb _ _ _ a1
          have v2 := nb _ _ _ a2
          exact fill_wf hw (Or.inr ⟨v1.1, by omega⟩) ⟨v2.1, v2.2.1⟩ (by omega) hf
        · exact hw
      · exact hw
  split
  · dsimp only
    split
    · split
      · next q => exact pass_wf hw q
      · exact hw
    · exact hw
  · refine wd_wf hw ?_
    omega
theorem EV.c_it {V V' : VS} (E : EV V V') (g : Nat → Int) (i : Nat) : (itS g V i).1 = (itS g V' i).1 ∧ (itS g V i).2.1 = (itS g V' i).2.1 ∧ EV (itS g V i).2.2 (itS g V' i).2.2 := by
  have e7 : V 7 7 = V' 7 7 := E.at7 (by omega) (by omega)
  by_cases h10 : selF g i = 10
  · rw [it_10 V h10, it_10 V' h10]; exact ⟨rfl, rfl, E⟩
  have hs : selF g i < 10 := by have := sel_le g i; omega
  by_cases hlt : mtF g (wdL (selF g i)) i < (wdL (selF g i)).length
  · rw [it_part V rfl hs hlt, it_part V' rfl hs hlt]; exact ⟨rfl, rfl, E⟩
  have u1 := it_un V (g := g) (i := i) rfl hs hlt rfl
  have u2 := it_un V' (g := g) (i := i) rfl hs hlt rfl
  generalize i + (wdL (selF g i)).length = j at *
  generalize selF g i = k at *
  have hk : k = 0 ∨ k = 1 ∨ k = 2 ∨ k = 3 ∨ k = 4 ∨ k = 5 ∨ k = 6 ∨ k = 7 ∨ k = 8 ∨ k = 9 := by omega
  clear hlt
  rcases hk with rfl | rfl | rfl | rfl | rfl | rfl | rfl | rfl | rfl | rfl
  · replace u1 := u1 0 rfl
    simp only [Nat.reduceEqDiff, if_true, if_false, reduceCtorEq] at u1
    replace u2 := u2 0 rfl
    simp only [Nat.reduceEqDiff, if_true, if_false, reduceCtorEq] at u2
    rw [u1, u2]
    rw [e7]
    by_cases q : V' 7 7 < 8
    · rw [if_pos q, if_pos q]
      by_cases a0 : (nrS g j 0 6).1 = true
      · rw [if_pos a0, if_pos a0]
        by_cases a1 : (nrS g (nrS g j 0 6).2.1 0 9).1 = true
        · rw [if_pos a1, if_pos a1]
          by_cases a2 : (nrS g (nrS g (nrS g j 0 6).2.1 0 9).2.1 0 99).1 = true
          · rw [if_pos a2, if_pos a2]
            exact ⟨rfl, rfl, E.c_addPlV _ _ _⟩
          · rw [if_neg a2, if_neg a2]; exact ⟨rfl, rfl, E⟩
        · rw [if_neg a1, if_neg a1]; exact ⟨rfl, rfl, E⟩
      · rw [if_neg a0, if_neg a0]; exact ⟨rfl, rfl, E⟩
    · rw [if_neg q, if_neg q]; exact ⟨rfl, rfl, E⟩
  · replace u1 := u1 1 rfl
    simp only [Nat.reduceEqDiff, if_true, if_false, reduceCtorEq] at u1
    replace u2 := u2 1 rfl
    simp only [Nat.reduceEqDiff, if_true, if_false, reduceCtorEq] at u2
    rw [u1, u2]
    exact ⟨rfl, rfl, E.c_wd _⟩
  · replace u1 := u1 2 rfl
    simp only [Nat.reduceEqDiff, if_true, if_false, reduceCtorEq] at u1
    replace u2 := u2 2 rfl
    simp only [Nat.reduceEqDiff, if_true, if_false, reduceCtorEq] at u2
    rw [u1, u2]
    exact ⟨rfl, rfl, E.c_wd _⟩
  · replace u1 := u1 3 rfl
    simp only [Nat.reduceEqDiff, if_true, if_false, reduceCtorEq] at u1
    replace u2 := u2 3 rfl
    simp only [Nat.reduceEqDiff, if_true, if_false, reduceCtorEq] at u2
    rw [u1, u2]
    exact ⟨rfl, rfl, E.c_wd _⟩
  · replace u1 := u1 4 rfl
    simp only [Nat.reduceEqDiff, if_true, if_false, reduceCtorEq] at u1
    replace u2 := u2 4 rfl
    simp only [Nat.reduceEqDiff, if_true, if_false, reduceCtorEq] at u2
    rw [u1, u2]
    by_cases a0 : (nrS g j 0 18).1 = true
    · rw [if_pos a0, if_pos a0]
      exact ⟨rfl, rfl, E.n1 rfl⟩
    · rw [if_neg a0, if_neg a0]; exact ⟨rfl, rfl, E⟩
  · replace u1 := u1 5 rfl
    simp only [Nat.reduceEqDiff, if_true, if_false, reduceCtorEq] at u1
    replace u2 := u2 5 rfl
    simp only [Nat.reduceEqDiff, if_true, if_false, reduceCtorEq] at u2
    rw [u1, u2]
    by_cases a0 : (nrS g j 0 23).1 = true
    · rw [if_pos a0, if_pos a0]
      exact ⟨rfl, rfl, E.c_td _⟩
    · rw [if_neg a0, if_neg a0]; exact ⟨rfl, rfl, E⟩
  · replace u1 := u1 6 rfl
    simp only [Nat.reduceEqDiff, if_true, if_false, reduceCtorEq] at u1
    replace u2 := u2 6 rfl
    simp only [Nat.reduceEqDiff, if_true, if_false, reduceCtorEq] at u2
    rw [u1, u2]
    by_cases a0 : (nrS g j 1 3).1 = true
    · rw [if_pos a0, if_pos a0]
      by_cases a1 : (nrS g (nrS g j 1 3).2.1 0 99).1 = true
      · rw [if_pos a1, if_pos a1]
        exact ⟨rfl, rfl, E.c_setPriceV _ _⟩
      · rw [if_neg a1, if_neg a1]; exact ⟨rfl, rfl, E⟩
    · rw [if_neg a0, if_neg a0]; exact ⟨rfl, rfl, E⟩
  · replace u1 := u1 7 rfl
    simp only [Nat.reduceEqDiff, if_true, if_false, reduceCtorEq] at u1
    replace u2 := u2 7 rfl
    simp only [Nat.reduceEqDiff, if_true, if_false, reduceCtorEq] at u2
    rw [u1, u2]
    rw [e7]
    by_cases a0 : (nrS g j 0 (V' 7 7 - 1)).1 = true
    · rw [if_pos a0, if_pos a0]
      by_cases a1 : (nrS g (nrS g j 0 (V' 7 7 - 1)).2.1 0 99).1 = true
      · rw [if_pos a1, if_pos a1]
        exact ⟨rfl, rfl, E.c_setFogV _ _⟩
      · rw [if_neg a1, if_neg a1]; exact ⟨rfl, rfl, E⟩
    · rw [if_neg a0, if_neg a0]; exact ⟨rfl, rfl, E⟩
  · replace u1 := u1 8 rfl
    simp only [Nat.reduceEqDiff, if_true, if_false, reduceCtorEq] at u1
    replace u2 := u2 8 rfl
    simp only [Nat.reduceEqDiff, if_true, if_false, reduceCtorEq] at u2
    rw [u1, u2]
    rw [e7]
    rw [E.c_freeV]
    by_cases q : freeV V' = -1
    · rw [if_pos q, if_pos q]; exact ⟨rfl, rfl, E⟩
    · rw [if_neg q, if_neg q]
      by_cases a0 : (nrS g j 0 (V' 7 7 - 1)).1 = true
      · rw [if_pos a0, if_pos a0]
        by_cases a1 : (nrS g (nrS g j 0 (V' 7 7 - 1)).2.1 1 99).1 = true
        · rw [if_pos a1, if_pos a1]
          exact ⟨rfl, rfl, E.c_fillV _ _⟩
        · rw [if_neg a1, if_neg a1]; exact ⟨rfl, rfl, E⟩
      · rw [if_neg a0, if_neg a0]; exact ⟨rfl, rfl, E⟩
  · replace u1 := u1 9 rfl
    simp only [Nat.reduceEqDiff, if_true, if_false, reduceCtorEq] at u1
    replace u2 := u2 9 rfl
    simp only [Nat.reduceEqDiff, if_true, if_false, reduceCtorEq] at u2
    rw [u1, u2]
    by_cases a0 : (nrS g j 0 6).1 = true
    · rw [if_pos a0, if_pos a0]
      rw [E.c_mayV]
      by_cases b : mayV V' (nrS g j 0 6).2.2 = true
      · rw [if_pos b, if_pos b]; exact ⟨rfl, rfl, E.c_passV _⟩
      · rw [if_neg b, if_neg b]; exact ⟨rfl, rfl, E⟩
    · rw [if_neg a0, if_neg a0]; exact ⟨rfl, rfl, E⟩
theorem sp_77 (V : VS) (p f : Int) : setPriceV V p f 7 7 = V 7 7 := by unfold setPriceV; split <;> rfl
/-- an item takes letters, within the text; places never go -/
theorem it_pos {U : VS} {s : Nat} {g : Nat → Int} (O : MDO U s g) {V : VS} {i : Nat} (h : (itS g V i).1 = true) : i < (itS g V i).2.1 ∧ ((itS g V i).2.1 : Int) ≤ U 9 s ∧ V 7 7 ≤ (itS g V i).2.2 7 7 := by
  by_cases h10 : selF g i = 10
  · rw [it_10 V h10] at h; exact Bool.noConfusion h
  have hs : selF g i < 10 := by have := sel_le g i; omega
  by_cases hlt : mtF g (wdL (selF g i)) i < (wdL (selF g i)).length
  · rw [it_part V rfl hs hlt] at h; exact Bool.noConfusion h
  have hl := wd_len (selF g i) hs
  have hf : mtF g (wdL (selF g i)) i = (wdL (selF g i)).length := by have := mt_le g (wdL (selF g i)) i; omega
  have hjn := mt_in' O (wdL (selF g i)) i (wd_nz _ hs) (by omega)
  rw [hf] at hjn
  have u1 := it_un V (g := g) (i := i) rfl hs hlt rfl
  have nb := fun (a : Nat) (lo hi : Int) (e : (nrS g a lo hi).1 = true) => nr_bd e
  have ni := fun (a : Nat) (lo hi : Int) (e : (nrS g a lo hi).1 = true) => nr_in' O e
  have hij : i < i + (wdL (selF g i)).length := by omega
  generalize i + (wdL (selF g i)).length = j at *
  generalize selF g i = k at *
  have hk : k = 0 ∨ k = 1 ∨ k = 2 ∨ k = 3 ∨ k = 4 ∨ k = 5 ∨ k = 6 ∨ k = 7 ∨ k = 8 ∨ k = 9 := by omega
  clear hlt hf hl
  rcases hk with rfl | rfl | rfl | rfl | rfl | rfl | rfl | rfl | rfl | rfl
  · replace u1 := u1 0 rfl
    simp only [Nat.reduceEqDiff, if_true, if_false, reduceCtorEq] at u1
    rw [u1] at h ⊢
    by_cases q : V 7 7 < 8
    · rw [if_pos q] at h ⊢
      by_cases a0 : (nrS g j 0 6).1 = true
      · rw [if_pos a0] at h ⊢
        have v0 := (nb _ _ _ a0).2.2
        have w0 := ni _ _ _ a0
        by_cases a1 : (nrS g (nrS g j 0 6).2.1 0 9).1 = true
        · rw [if_pos a1] at h ⊢
          have v1 := (nb _ _ _ a1).2.2
          have w1 := ni _ _ _ a1
          by_cases a2 : (nrS g (nrS g (nrS g j 0 6).2.1 0 9).2.1 0 99).1 = true
          · rw [if_pos a2] at h ⊢
            have v2 := (nb _ _ _ a2).2.2
            have w2 := ni _ _ _ a2
            refine ⟨?_, w2, by show V 7 7 ≤ V 7 7 + 1; omega⟩
            show i < (nrS g (nrS g (nrS g j 0 6).2.1 0 9).2.1 0 99).2.1
            omega
          · rw [if_neg a2] at h; exact Bool.noConfusion h
        · rw [if_neg a1] at h; exact Bool.noConfusion h
      · rw [if_neg a0] at h; exact Bool.noConfusion h
    · rw [if_neg q] at h; exact Bool.noConfusion h
  · replace u1 := u1 1 rfl
    simp only [Nat.reduceEqDiff, if_true, if_false, reduceCtorEq] at u1
    rw [u1] at h ⊢
    exact ⟨hij, hjn, Int.le_refl _⟩
  · replace u1 := u1 2 rfl
    simp only [Nat.reduceEqDiff, if_true, if_false, reduceCtorEq] at u1
    rw [u1] at h ⊢
    exact ⟨hij, hjn, Int.le_refl _⟩
  · replace u1 := u1 3 rfl
    simp only [Nat.reduceEqDiff, if_true, if_false, reduceCtorEq] at u1
    rw [u1] at h ⊢
    exact ⟨hij, hjn, Int.le_refl _⟩
  · replace u1 := u1 4 rfl
    simp only [Nat.reduceEqDiff, if_true, if_false, reduceCtorEq] at u1
    rw [u1] at h ⊢
    by_cases a0 : (nrS g j 0 18).1 = true
    · rw [if_pos a0] at h ⊢
      have v0 := (nb _ _ _ a0).2.2
      have w0 := ni _ _ _ a0
      refine ⟨?_, w0, Int.le_refl _⟩
      show i < (nrS g j 0 18).2.1
      omega
    · rw [if_neg a0] at h; exact Bool.noConfusion h
  · replace u1 := u1 5 rfl
    simp only [Nat.reduceEqDiff, if_true, if_false, reduceCtorEq] at u1
    rw [u1] at h ⊢
    by_cases a0 : (nrS g j 0 23).1 = true
    · rw [if_pos a0] at h ⊢
      have v0 := (nb _ _ _ a0).2.2
      have w0 := ni _ _ _ a0
      refine ⟨?_, w0, Int.le_refl _⟩
      show i < (nrS g j 0 23).2.1
      omega
    · rw [if_neg a0] at h; exact Bool.noConfusion h
  · replace u1 := u1 6 rfl
    simp only [Nat.reduceEqDiff, if_true, if_false, reduceCtorEq] at u1
    rw [u1] at h ⊢
    by_cases a0 : (nrS g j 1 3).1 = true
    · rw [if_pos a0] at h ⊢
      have v0 := (nb _ _ _ a0).2.2
      have w0 := ni _ _ _ a0
      by_cases a1 : (nrS g (nrS g j 1 3).2.1 0 99).1 = true
      · rw [if_pos a1] at h ⊢
        have v1 := (nb _ _ _ a1).2.2
        have w1 := ni _ _ _ a1
        refine ⟨?_, w1, Int.le_of_eq (sp_77 V _ _).symm⟩
        show i < (nrS g (nrS g j 1 3).2.1 0 99).2.1
        omega
      · rw [if_neg a1] at h; exact Bool.noConfusion h
    · rw [if_neg a0] at h; exact Bool.noConfusion h
  · replace u1 := u1 7 rfl
    simp only [Nat.reduceEqDiff, if_true, if_false, reduceCtorEq] at u1
    rw [u1] at h ⊢
    by_cases a0 : (nrS g j 0 (V 7 7 - 1)).1 = true
    · rw [if_pos a0] at h ⊢
      have v0 := (nb _ _ _ a0).2.2
      have w0 := ni _ _ _ a0
      by_cases a1 : (nrS g (nrS g j 0 (V 7 7 - 1)).2.1 0 99).1 = true
      · rw [if_pos a1] at h ⊢
        have v1 := (nb _ _ _ a1).2.2
        have w1 := ni _ _ _ a1
        refine ⟨?_, w1, Int.le_of_eq (FIX.setFog V _ _).2.2.2.1.symm⟩
        show i < (nrS g (nrS g j 0 (V 7 7 - 1)).2.1 0 99).2.1
        omega
      · rw [if_neg a1] at h; exact Bool.noConfusion h
    · rw [if_neg a0] at h; exact Bool.noConfusion h
  · replace u1 := u1 8 rfl
    simp only [Nat.reduceEqDiff, if_true, if_false, reduceCtorEq] at u1
    rw [u1] at h ⊢
    by_cases q : freeV V = -1
    · rw [if_pos q] at h; exact Bool.noConfusion h
    · rw [if_neg q] at h ⊢
      by_cases a0 : (nrS g j 0 (V 7 7 - 1)).1 = true
      · rw [if_pos a0] at h ⊢
        have v0 := (nb _ _ _ a0).2.2
        have w0 := ni _ _ _ a0
        by_cases a1 : (nrS g (nrS g j 0 (V 7 7 - 1)).2.1 1 99).1 = true
        · rw [if_pos a1] at h ⊢
          have v1 := (nb _ _ _ a1).2.2
          have w1 := ni _ _ _ a1
          refine ⟨?_, w1, Int.le_of_eq (FIX.fill V _ _).2.2.2.1.symm⟩
          show i < (nrS g (nrS g j 0 (V 7 7 - 1)).2.1 1 99).2.1
          omega
        · rw [if_neg a1] at h; exact Bool.noConfusion h
      · rw [if_neg a0] at h; exact Bool.noConfusion h
  · replace u1 := u1 9 rfl
    simp only [Nat.reduceEqDiff, if_true, if_false, reduceCtorEq] at u1
    rw [u1] at h ⊢
    by_cases a0 : (nrS g j 0 6).1 = true
    · rw [if_pos a0] at h ⊢
      have v0 := (nb _ _ _ a0).2.2
      have w0 := ni _ _ _ a0
      by_cases b : mayV V (nrS g j 0 6).2.2 = true
      · rw [if_pos b]
        refine ⟨?_, w0, Int.le_of_eq (FIX.pass V _).2.2.2.1.symm⟩
        show i < (nrS g j 0 6).2.1
        omega
      · rw [if_neg b] at h; exact Bool.noConfusion h
    · rw [if_neg a0] at h; exact Bool.noConfusion h
