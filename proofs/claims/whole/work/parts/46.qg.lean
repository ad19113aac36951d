/-! PURE: image, restore -/
theorem EV.c_keepF {V V' : VS} (E : EV V V') {j : Nat} (h : j < 61) : keepF V j = keepF V' j := by
  unfold keepF
  rw [E.1, E.2.1, E.2.2.1, E.2.2.2.1, E.2.2.2.2.1, E.2.2.2.2.2.1]
  by_cases q : j < 51
  · (repeat' split) <;> first | rfl | omega
  · rw [E.at7 (k := j - 44) (by omega) (by omega)]
theorem ok_image {S : VS} {d : Nat} {h : AH} (R : REL S h) : OKI S d 131 233 [] h := by
  have E := R.ev
  have hw := R.w
  have hw0 := R.w0
  have e77 : h 0 7 7 = h 17 27 7 := E.at7 (by omega) (by omega)
  have sb : CallR (d + 29) 40 [vR 1 7, vR 0 7] h none (fup h 1 (becV (h 1) (h 0))) := sp_become (d := d + 28) (g := 1) (g' := 0) (by decide)
  let R1 : VS := fup (RV (h 17)) 7 (fup (RV (h 17) 7) 22 1)
  let R' : VS := fup R1 13 (rowN (keepF R1) (RV (h 17) 13) 61)
  have sk := sm_keep_ (d := d + 28) (k := 13) (h := fup (fup (fup h 1 (becV (h 1) (h 0))) 16 (fup (h 16) 10 (fup (h 16 10) 8 1))) 17 (setRV (h 17) R1)) (by omega) (by omega) rfl rfl
  rw [fup_same, RV_set, set_set, fup_fup] at sk
  refine ⟨h 17 27 7, fup (fup h 1 (becV (h 1) (h 0))) 16 (fup (h 16) 10 (fup (h 16 10) 8 1)), fup (fup (fup h 1 (becV (h 1) (h 0))) 16 (fup (h 16) 10 (fup (h 16 10) 8 1))) 17 (setRV (h 17) R'), ?_, ?_, ?_⟩
  · (rw [cr_131]; simp only [r131_0, r131_1, r131_4, r131_5, r131_8, r131_11, r131_12, r131_13, r131_16, r131_17, r131_20, r131_23, CallR_iff sb, up3, fup_same, fup_fup, fup_ne, e77, reduceIte, Option.some.injEq, and_assoc, exists_and_left, exists_eq_left, exists_eq_left', true_and, and_true, List.length_cons, List.length_nil, Nat.reduceAdd, Nat.reduceLeDiff, Sum.inl.injEq, az_0, az_1, az_2, az_3, az_4, az_5, az_6, az_8, az_11, az_14, az_15, az_17, az_20, az_21, az_22, az_23, az_24, az_25, az_26, az_28, az_29, az_30, az_31, az_32, az_33, az_34, az_35, az_36, ak_0, ak_1, ak_2, ak_3, ak_4, ak_5, ak_6, ak_8, ak_11, ak_14, ak_15, ak_17, ak_20, ak_21, ak_22, ak_23, ak_24, ak_25, ak_26, ak_28, ak_29, ak_30, ak_31, ak_32, ak_33, ak_34, ak_35, ak_36, ak_37, eq_self, Int.toNat_natCast, Nat.zero_le, bI_0, b01_0, bI_or, b01_or, ne_eq, reduceCtorEq, not_false_eq_true, Nat.reduceEqDiff, if_true, if_false, ite_true, ite_false, Int.natCast_nonneg, not_true_eq_false, Bool.true_eq_false, Bool.false_eq_true, Int.reduceEq, Int.reduceLT, Int.reduceLE, Int.reduceToNat, and_self, inA, exists_eq, or_true, true_or, or_false, false_or, and_false, false_and, or_self])
  · (rw [cr_233]; simp only [r233_0, r233_1, r233_2, r233_5, r233_6, r233_7, r233_10, r233_13, r233_14, r233_17, up3, fup_same, fup_fup, fup_ne, fR_7, RV_7, reduceIte, Option.some.injEq, and_assoc, exists_and_left, exists_eq_left, exists_eq_left', true_and, and_true, List.length_cons, List.length_nil, Nat.reduceAdd, Nat.reduceLeDiff, Sum.inl.injEq, az_0, az_1, az_2, az_3, az_4, az_5, az_6, az_8, az_11, az_14, az_15, az_17, az_20, az_21, az_22, az_23, az_24, az_25, az_26, az_28, az_29, az_30, az_31, az_32, az_33, az_34, az_35, az_36, ak_0, ak_1, ak_2, ak_3, ak_4, ak_5, ak_6, ak_8, ak_11, ak_14, ak_15, ak_17, ak_20, ak_21, ak_22, ak_23, ak_24, ak_25, ak_26, ak_28, ak_29, ak_30, ak_31, ak_32, ak_33, ak_34, ak_35, ak_36, ak_37, eq_self, Int.toNat_natCast, Nat.zero_le, bI_0, b01_0, bI_or, b01_or, ne_eq, reduceCtorEq, not_false_eq_true, Nat.reduceEqDiff, if_true, if_false, ite_true, ite_false, Int.natCast_nonneg, not_true_eq_false, Bool.true_eq_false, Bool.false_eq_true, Int.reduceEq, Int.reduceLT, Int.reduceLE, Int.reduceToNat, and_self, inA, exists_eq, or_true, true_or, or_false, false_or, and_false, false_and, or_self])
    have sk2 : CallR (d + 28 + 1) 231 [vR 17 27, vR 17 33] (fup (fup (fup h 1 (becV (h 1) (h 0))) 16 (fup (h 16) 10 (fup (h 16 10) 8 1))) 17 (setRV (h 17) (fup (RV (h 17)) 7 (fup (h 17 27) 22 1)))) none (fup (fup (fup h 1 (becV (h 1) (h 0))) 16 (fup (h 16) 10 (fup (h 16 10) 8 1))) 17 (setRV (h 17) R')) := sk
    simp only [CallR_iff sk2, reduceIte, Option.some.injEq, and_assoc, exists_and_left, exists_eq_left, exists_eq_left', true_and, and_true, List.length_cons, List.length_nil, Nat.reduceAdd, Nat.reduceLeDiff, Sum.inl.injEq, az_0, az_1, az_2, az_3, az_4, az_5, az_6, az_8, az_11, az_14, az_15, az_17, az_20, az_21, az_22, az_23, az_24, az_25, az_26, az_28, az_29, az_30, az_31, az_32, az_33, az_34, az_35, az_36, ak_0, ak_1, ak_2, ak_3, ak_4, ak_5, ak_6, ak_8, ak_11, ak_14, ak_15, ak_17, ak_20, ak_21, ak_22, ak_23, ak_24, ak_25, ak_26, ak_28, ak_29, ak_30, ak_31, ak_32, ak_33, ak_34, ak_35, ak_36, ak_37, eq_self, Int.toNat_natCast, Nat.zero_le, bI_0, b01_0, bI_or, b01_or, ne_eq, reduceCtorEq, not_false_eq_true, Nat.reduceEqDiff, if_true, if_false, ite_true, ite_false, Int.natCast_nonneg, not_true_eq_false, Bool.true_eq_false, Bool.false_eq_true, Int.reduceEq, Int.reduceLT, Int.reduceLE, Int.reduceToNat, and_self, inA, exists_eq, or_true, true_or, or_false, false_or, and_false, false_and, or_self, r233_13, r233_14, r233_17, fup_same, sV_7]
    rfl
  · obtain ⟨r1, r2, r3, r4, r5⟩ := R
    refine ⟨r1, ?_⟩
    have ER : EV (RV (h 17)) R' := ⟨rfl, rfl, rfl, rfl, rfl, rfl, rfl, rfl, rfl, rfl, rfl, rfl, rfl, rfl, rfl, rfl⟩
    have ER1 : EV (RV (h 17)) R1 := ⟨rfl, rfl, rfl, rfl, rfl, rfl, rfl, rfl, rfl, rfl, rfl, rfl, rfl, rfl, rfl, rfl⟩
    rw [fup_same, RV_set]
    refine ⟨ER.wf r2, r3.tr ER, fun s hs => ?_, ?_⟩
    · dsimp only
      rw [fup_ne _ _ (by omega), fup_ne _ _ (by omega), fup_ne _ _ (by omega)]
      exact r4 s hs
    · obtain ⟨x1, x2, x3, x4, x5, x6⟩ := r5
      refine ⟨x1, x2, x3, rfl, Or.inr rfl, fun _ => ⟨(EV.bec _ _).sy.wf hw0, fun j hj => ?_⟩⟩
      show rowN (keepF R1) (RV (h 17) 13) 61 j = keepF (becV (h 1) (h 0)) j
      unfold rowN
      rw [if_pos hj, ← ER1.c_keepF hj, ← r3.c_keepF hj]
      exact ((EV.bec (h 1) (h 0)).c_keepF hj).symm
def badF (R : VS) (P : Int) (s : Nat) : Bool := decide (0 ≤ R 8 s ∧ R 8 s < 100 ∧ P ≤ R 8 s)
theorem bad_iff {R : VS} {P : Int} {s : Nat} : badF R P s = true ↔ 0 ≤ R 8 s ∧ R 8 s < 100 ∧ P ≤ R 8 s := by unfold badF; exact decide_eq_true_iff
def rsH (H0 : AH) (R : VS) (P : Int) (i : Nat) : AH := fun g => if 8 ≤ g ∧ g < 8 + i ∧ badF R P (g - 8) = true then holdS (H0 g) (-1) else H0 g
theorem rs_0 (H0 : AH) (R : VS) (P : Int) : rsH H0 R P 0 = H0 := by funext g; unfold rsH; rw [if_neg (by omega)]
theorem rs_out (H0 : AH) (R : VS) (P : Int) (i g : Nat) (h : g < 8 ∨ 8 + i ≤ g) : rsH H0 R P i g = H0 g := by unfold rsH; rw [if_neg (by omega)]
theorem rs_s1 (H0 : AH) (R : VS) (P : Int) (i : Nat) (h : badF R P i = true) : fup (rsH H0 R P i) (8 + i) (holdS (H0 (8 + i)) (-1)) = rsH H0 R P (i + 1) := by
  funext g
  rw [fup_at]
  by_cases q : g = 8 + i
  · subst q
    rw [if_pos rfl]
    unfold rsH
    rw [if_pos ⟨by omega, by omega, by rw [show 8 + i - 8 = i by omega]; exact h⟩]
  · rw [if_neg q]
    unfold rsH
    by_cases c : 8 ≤ g ∧ g < 8 + i ∧ badF R P (g - 8) = true
    · rw [if_pos c, if_pos ⟨c.1, by omega, c.2.2⟩]
    · rw [if_neg c, if_neg (fun e => c ⟨e.1, by omega, e.2.2⟩)]
theorem rs_s2 (H0 : AH) (R : VS) (P : Int) (i : Nat) (h : badF R P i = false) : rsH H0 R P (i + 1) = rsH H0 R P i := by
  funext g
  unfold rsH
  by_cases q : g = 8 + i
  · subst q
    rw [if_neg (fun e => by rw [show 8 + i - 8 = i by omega, h] at e; exact Bool.noConfusion e.2.2), if_neg (by omega)]
  · by_cases c : 8 ≤ g ∧ g < 8 + i ∧ badF R P (g - 8) = true
    · rw [if_pos c, if_pos ⟨c.1, by omega, c.2.2⟩]
    · rw [if_neg c, if_neg (fun e => c ⟨e.1, by omega, e.2.2⟩)]
theorem sm_restore {d : Nat} {h : AH} {V' : VS} (hi : RV (h 17) 7 22 = 1) (hV : V' = agV (RV (h 17)) (RV (h 17) 13)) (hwV : WF V') (hc : ∀ s : Nat, s < 8 → -1 ≤ RV (h 17) 8 s) : CallR (d + 8) 234 [vR 17 27] h (some (vI (V' 7 7))) (fup h 17 (setRV (h 17) (fup V' 8 (rowN (fun s => if badF (RV (h 17)) (V' 7 7) s = true then -1 else RV (h 17) 8 s) (RV (h 17) 8) 8)))) := by
  have e8 : V' 8 = RV (h 17) 8 := by rw [hV]; exact agV_k _ _ (by omega)
  have hi7 : ¬ h 17 27 22 = 0 := by rw [RV_7] at hi; omega
  have sa := sm_again (d := d + 6) (k := 13) (h := h) (by omega) (by omega) rfl rfl
  rw [← hV] at sa
  obtain ⟨b1, b2, b3, b4⟩ := hwV.bd
  generalize hf : (fun s => if badF (RV (h 17)) (V' 7 7) s = true then (-1 : Int) else RV (h 17) 8 s) = f at *
  have L := lo_up (P := fun i => At (CallR (d + 7)) ac_234 24 [vR 17 27, vI (i : Int)] [] (fup h 17 (setRV (h 17) (fup V' 8 (rowN f (RV (h 17) 8) i)))) (fun v' h2 => v' = some (vI (V' 7 7)) ∧ h2 = fup h 17 (setRV (h 17) (fup V' 8 (rowN f (RV (h 17) 8) 8))))) 8 (fun i hi => by
    have h1 : (i : Int) < 8 := by omega
    have hb := hc i hi
    have er : rowN f (RV (h 17) 8) i i = RV (h 17) 8 i := rowN_at _ _ _
    have hR : CallR (d + 7) 147 [vR 17 27, vI i] (fup h 17 (setRV (h 17) (fup V' 8 (rowN f (RV (h 17) 8) i)))) (some (vI (bI (100 ≤ RV (h 17) 8 i)))) (fup h 17 (setRV (h 17) (fup V' 8 (rowN f (RV (h 17) 8) i)))) := by
      have := sm_isRow (d := d + 6) (s := i) (h := fup h 17 (setRV (h 17) (fup V' 8 (rowN f (RV (h 17) 8) i)))) hi
      rw [fup_same, RV_set, fup_same, er] at this
      exact this
    rw [r234_24]
    simp only [r234_25, r234_27, r234_30, r234_31, r234_32, r234_35, r234_38, r234_39, r234_42, r234_43, r234_44, r234_45, r234_48, r234_51, r234_52, r234_55, r234_56, r234_57, r234_58, r234_61, r234_64, r234_65, r234_68, reduceIte, Option.some.injEq, and_assoc, exists_and_left, exists_eq_left, exists_eq_left', true_and, and_true, List.length_cons, List.length_nil, Nat.reduceAdd, Nat.reduceLeDiff, Sum.inl.injEq, az_0, az_1, az_2, az_3, az_4, az_5, az_6, az_8, az_11, az_14, az_15, az_17, az_20, az_21, az_22, az_23, az_24, az_25, az_26, az_28, az_29, az_30, az_31, az_32, az_33, az_34, az_35, az_36, ak_0, ak_1, ak_2, ak_3, ak_4, ak_5, ak_6, ak_8, ak_11, ak_14, ak_15, ak_17, ak_20, ak_21, ak_22, ak_23, ak_24, ak_25, ak_26, ak_28, ak_29, ak_30, ak_31, ak_32, ak_33, ak_34, ak_35, ak_36, ak_37, eq_self, Int.toNat_natCast, Nat.zero_le, bI_0, b01_0, bI_or, b01_or, ne_eq, reduceCtorEq, not_false_eq_true, Nat.reduceEqDiff, if_true, if_false, ite_true, ite_false, Int.natCast_nonneg, not_true_eq_false, Bool.true_eq_false, Bool.false_eq_true, Int.reduceEq, Int.reduceLT, Int.reduceLE, Int.reduceToNat, and_self, inA, exists_eq, or_true, true_or, or_false, false_or, and_false, false_and, or_self, h1, CallR_iff hR, up3, fup_same, fup_fup, fup_ne, sV_7, sV_8, fS_8, er, wr_s (show i < 2147483647 by omega)]
    by_cases q1 : 100 ≤ RV (h 17) 8 i
    · have ek : f i = RV (h 17) 8 i := by
        rw [← hf]
        dsimp only
        rw [if_neg (fun e => by have := bad_iff.mp e; omega)]
      simp only [q1, if_true, if_false, not_true_eq_false, rowN_k _ _ _ ek]
    · by_cases q2 : RV (h 17) 8 i < V' 7 7
      · have ek : f i = RV (h 17) 8 i := by
          rw [← hf]
          dsimp only
          rw [if_neg (fun e => by have := bad_iff.mp e; omega)]
        simp only [q1, q2, if_true, if_false, not_false_eq_true, rowN_k _ _ _ ek]
      · have ek : f i = -1 := by
          rw [← hf]
          dsimp only
          rw [if_pos (bad_iff.mpr (by omega))]
        simp only [q1, q2, if_true, if_false, not_false_eq_true, ← rowN_s, ek])
  have e0 : fup V' 8 (rowN f (RV (h 17) 8) 0) = V' := by rw [rowN_0, ← e8, fup_id]
  rw [e0] at L
  (rw [cr_234]; simp only [r234_0, r234_1, r234_4, r234_7, r234_8, r234_10, r234_13, r234_14, r234_15, r234_16, r234_19, r234_22, r234_23, hi7, CallR_iff sa, reduceIte, Option.some.injEq, and_assoc, exists_and_left, exists_eq_left, exists_eq_left', true_and, and_true, List.length_cons, List.length_nil, Nat.reduceAdd, Nat.reduceLeDiff, Sum.inl.injEq, az_0, az_1, az_2, az_3, az_4, az_5, az_6, az_8, az_11, az_14, az_15, az_17, az_20, az_21, az_22, az_23, az_24, az_25, az_26, az_28, az_29, az_30, az_31, az_32, az_33, az_34, az_35, az_36, ak_0, ak_1, ak_2, ak_3, ak_4, ak_5, ak_6, ak_8, ak_11, ak_14, ak_15, ak_17, ak_20, ak_21, ak_22, ak_23, ak_24, ak_25, ak_26, ak_28, ak_29, ak_30, ak_31, ak_32, ak_33, ak_34, ak_35, ak_36, ak_37, eq_self, Int.toNat_natCast, Nat.zero_le, bI_0, b01_0, bI_or, b01_or, ne_eq, reduceCtorEq, not_false_eq_true, Nat.reduceEqDiff, if_true, if_false, ite_true, ite_false, Int.natCast_nonneg, not_true_eq_false, Bool.true_eq_false, Bool.false_eq_true, Int.reduceEq, Int.reduceLT, Int.reduceLE, Int.reduceToNat, and_self, inA, exists_eq, or_true, true_or, or_false, false_or, and_false, false_and, or_self])
  refine L.mpr ?_
  rw [r234_24]
  simp only [r234_25, r234_27, r234_30, r234_31, r234_32, r234_35, r234_38, r234_39, r234_42, r234_43, r234_44, r234_45, r234_48, r234_51, r234_52, r234_55, r234_56, r234_57, r234_58, r234_61, r234_64, r234_65, r234_68, reduceIte, Option.some.injEq, and_assoc, exists_and_left, exists_eq_left, exists_eq_left', true_and, and_true, List.length_cons, List.length_nil, Nat.reduceAdd, Nat.reduceLeDiff, Sum.inl.injEq, az_0, az_1, az_2, az_3, az_4, az_5, az_6, az_8, az_11, az_14, az_15, az_17, az_20, az_21, az_22, az_23, az_24, az_25, az_26, az_28, az_29, az_30, az_31, az_32, az_33, az_34, az_35, az_36, ak_0, ak_1, ak_2, ak_3, ak_4, ak_5, ak_6, ak_8, ak_11, ak_14, ak_15, ak_17, ak_20, ak_21, ak_22, ak_23, ak_24, ak_25, ak_26, ak_28, ak_29, ak_30, ak_31, ak_32, ak_33, ak_34, ak_35, ak_36, ak_37, eq_self, Int.toNat_natCast, Nat.zero_le, bI_0, b01_0, bI_or, b01_or, ne_eq, reduceCtorEq, not_false_eq_true, Nat.reduceEqDiff, if_true, if_false, ite_true, ite_false, Int.natCast_nonneg, not_true_eq_false, Bool.true_eq_false, Bool.false_eq_true, Int.reduceEq, Int.reduceLT, Int.reduceLE, Int.reduceToNat, and_self, inA, exists_eq, or_true, true_or, or_false, false_or, and_false, false_and, or_self, show ¬ ((8 : Nat) : Int) < 8 by decide, fup_same, fup_ne, sV_7]
theorem ok_restore {S : VS} {d : Nat} {h : AH} (R : REL S h) : OKI S d 132 234 [] h := by
  have E := R.ev
  have hw := R.w
  have hw0 := R.w0
  obtain ⟨x1, x2, x3, x4, x5, x6⟩ := R.2.2.2.2
  by_cases hi : RV (h 17) 7 22 = 1
  · obtain ⟨w1, k1⟩ := x6 hi
    have hx : ¬ h 16 10 8 = 0 := by rw [x4, hi]; omega
    obtain ⟨V', hV⟩ : ∃ V', V' = agV (RV (h 17)) (RV (h 17) 13) := ⟨_, rfl⟩
    have EV1 : EV V' (h 1) := by rw [hV]; exact ag_EV hw w1 k1
    have hwV := EV1.sy.wf w1
    have hSc := fun s (hs : s < 8) => (R.sh hs).2.1
    have hP8 := hwV.bd.2.1
    have EB : EV (becV (h 0) (h 1)) V' := (EV.bec _ _).tr EV1.sy
    have hB77 : becV (h 0) (h 1) 7 7 = V' 7 7 := EB.at7 (by omega) (by omega)
    have sm := sm_restore (d := d + 22) (h := rsH (fup h 0 (becV (h 0) (h 1))) (RV (h 17)) (V' 7 7) 8) (V' := V') (by rw [rs_out _ _ _ _ _ (by omega)]; exact hi) (by rw [rs_out _ _ _ _ _ (by omega)]; exact hV) hwV (fun s hs => by rw [rs_out _ _ _ _ _ (by omega)]; have := hSc s hs; show -1 ≤ RV (h 17) 8 s; omega)
    rw [rs_out _ _ _ _ 17 (by omega), fup_ne h _ (show (17 : Nat) ≠ 0 by decide)] at sm
    refine ⟨V' 7 7, rsH (fup h 0 (becV (h 0) (h 1))) (RV (h 17)) (V' 7 7) 8, _, ?_, sm, ?_⟩
    · have sb : CallR (d + 29) 40 [vR 0 7, vR 1 7] h none (fup h 0 (becV (h 0) (h 1))) := sp_become (d := d + 28) (g := 0) (g' := 1) (by decide)
      have L := lo_upj (n := 8) (P := fun i (a : AV) => At (CallR (d + 29)) ac_132 27 [vR 16 10, vI (i : Int), a] [] (rsH (fup h 0 (becV (h 0) (h 1))) (RV (h 17)) (V' 7 7) i) (fun v' h2 => v' = some (vI (V' 7 7)) ∧ h2 = rsH (fup h 0 (becV (h 0) (h 1))) (RV (h 17)) (V' 7 7) 8)) (G := True) (fun a => by
          rw [r132_27]
          simp only [r132_28, r132_30, r132_33, r132_34, r132_35, r132_38, r132_39, r132_39n, r132_39s, r132_40, r132_40n, r132_43, r132_43n, r132_43s, r132_44, r132_47, r132_50, r132_51, r132_54, r132_54n, r132_54s, r132_55, r132_58, r132_61, r132_64, r132_64n, r132_64s, r132_65, r132_66, r132_69, r132_72, r132_75, r132_76, r132_79, r132_82, reduceIte, Option.some.injEq, and_assoc, exists_and_left, exists_eq_left, exists_eq_left', true_and, and_true, List.length_cons, List.length_nil, Nat.reduceAdd, Nat.reduceLeDiff, Sum.inl.injEq, az_0, az_1, az_2, az_3, az_4, az_5, az_6, az_8, az_11, az_14, az_15, az_17, az_20, az_21, az_22, az_23, az_24, az_25, az_26, az_28, az_29, az_30, az_31, az_32, az_33, az_34, az_35, az_36, ak_0, ak_1, ak_2, ak_3, ak_4, ak_5, ak_6, ak_8, ak_11, ak_14, ak_15, ak_17, ak_20, ak_21, ak_22, ak_23, ak_24, ak_25, ak_26, ak_28, ak_29, ak_30, ak_31, ak_32, ak_33, ak_34, ak_35, ak_36, ak_37, eq_self, Int.toNat_natCast, Nat.zero_le, bI_0, b01_0, bI_or, b01_or, ne_eq, reduceCtorEq, not_false_eq_true, Nat.reduceEqDiff, if_true, if_false, ite_true, ite_false, Int.natCast_nonneg, not_true_eq_false, Bool.true_eq_false, Bool.false_eq_true, Int.reduceEq, Int.reduceLT, Int.reduceLE, Int.reduceToNat, and_self, inA, exists_eq, or_true, true_or, or_false, false_or, and_false, false_and, or_self, show ¬ ((8 : Nat) : Int) < 8 by decide, rs_out _ _ _ _ 0 (Or.inl (show 0 < 8 by decide)), fup_same, hB77]) (fun i hi a => by
          refine ⟨vR (8 + i) 9, ?_⟩
          have h1 : (i : Int) < 8 := by omega
          have hc := hSc i hi
          have e1 : rsH (fup h 0 (becV (h 0) (h 1))) (RV (h 17)) (V' 7 7) i (8 + i) = h (8 + i) := by
            rw [rs_out _ _ _ _ _ (by omega), fup_ne _ _ (by omega)]
          have e2 : h (8 + i) 9 1 = RV (h 17) 8 i := (R.sh hi).1
          have e0 : rsH (fup h 0 (becV (h 0) (h 1))) (RV (h 17)) (V' 7 7) i 0 = becV (h 0) (h 1) := by rw [rs_out _ _ _ _ _ (by omega), fup_same]
          have ee : (fup h 0 (becV (h 0) (h 1))) (8 + i) = h (8 + i) := fup_ne _ _ (by omega)
          rw [r132_27]
          simp only [r132_28, r132_30, r132_33, r132_34, r132_35, r132_38, r132_39, r132_39n, r132_39s, r132_40, r132_40n, r132_43, r132_43n, r132_43s, r132_44, r132_47, r132_50, r132_51, r132_54, r132_54n, r132_54s, r132_55, r132_58, r132_61, r132_64, r132_64n, r132_64s, r132_65, r132_66, r132_69, r132_72, r132_75, r132_76, r132_79, r132_82, reduceIte, Option.some.injEq, and_assoc, exists_and_left, exists_eq_left, exists_eq_left', true_and, and_true, List.length_cons, List.length_nil, Nat.reduceAdd, Nat.reduceLeDiff, Sum.inl.injEq, az_0, az_1, az_2, az_3, az_4, az_5, az_6, az_8, az_11, az_14, az_15, az_17, az_20, az_21, az_22, az_23, az_24, az_25, az_26, az_28, az_29, az_30, az_31, az_32, az_33, az_34, az_35, az_36, ak_0, ak_1, ak_2, ak_3, ak_4, ak_5, ak_6, ak_8, ak_11, ak_14, ak_15, ak_17, ak_20, ak_21, ak_22, ak_23, ak_24, ak_25, ak_26, ak_28, ak_29, ak_30, ak_31, ak_32, ak_33, ak_34, ak_35, ak_36, ak_37, eq_self, Int.toNat_natCast, Nat.zero_le, bI_0, b01_0, bI_or, b01_or, ne_eq, reduceCtorEq, not_false_eq_true, Nat.reduceEqDiff, if_true, if_false, ite_true, ite_false, Int.natCast_nonneg, not_true_eq_false, Bool.true_eq_false, Bool.false_eq_true, Int.reduceEq, Int.reduceLT, Int.reduceLE, Int.reduceToNat, and_self, inA, exists_eq, or_true, true_or, or_false, false_or, and_false, false_and, or_self, h1, CallR_iff (sx_shelf (Int.natCast_nonneg i) h1), CallR_iff ss_isPlace, CallR_iff sp_hasPlace, CallR_iff ss_hold, e1, e2, e0, wr_s (show i < 2147483647 by omega)]
          by_cases q1 : 0 ≤ RV (h 17) 8 i ∧ RV (h 17) 8 i < 100
          · by_cases q2 : RV (h 17) 8 i < V' 7 7
            · have hp : hpB (becV (h 0) (h 1)) (RV (h 17) 8 i) = true := hpB_iff.mpr ⟨q1.1, by rw [hB77]; exact q2, by omega⟩
              have hb : badF (RV (h 17)) (V' 7 7) i = false := by
                cases e : badF (RV (h 17)) (V' 7 7) i
                · rfl
                · have := bad_iff.mp e; omega
              simp only [q1, hp, and_self, not_true_eq_false, if_true, if_false, Bool.true_eq_false, rs_s2 _ _ _ _ hb]
            · have hp : hpB (becV (h 0) (h 1)) (RV (h 17) 8 i) = false := hpB_f (by rw [hB77]; omega)
              have hb : badF (RV (h 17)) (V' 7 7) i = true := bad_iff.mpr (by omega)
              have es := rs_s1 (fup h 0 (becV (h 0) (h 1))) (RV (h 17)) (V' 7 7) i hb
              rw [ee] at es
              simp only [q1, hp, and_self, not_true_eq_false, if_true, if_false, es]
          · have hb : badF (RV (h 17)) (V' 7 7) i = false := by
              cases e : badF (RV (h 17)) (V' 7 7) i
              · rfl
              · have := bad_iff.mp e; omega
            simp only [q1, not_false_eq_true, if_true, if_false, rs_s2 _ _ _ _ hb]) 8 0 (by omega)
      (rw [cr_132]; simp only [r132_0, r132_1, r132_4, r132_7, r132_8, r132_10, r132_13, r132_14, r132_15, r132_18, r132_19, r132_22, r132_25, r132_26, hx, CallR_iff sb, reduceIte, Option.some.injEq, and_assoc, exists_and_left, exists_eq_left, exists_eq_left', true_and, and_true, List.length_cons, List.length_nil, Nat.reduceAdd, Nat.reduceLeDiff, Sum.inl.injEq, az_0, az_1, az_2, az_3, az_4, az_5, az_6, az_8, az_11, az_14, az_15, az_17, az_20, az_21, az_22, az_23, az_24, az_25, az_26, az_28, az_29, az_30, az_31, az_32, az_33, az_34, az_35, az_36, ak_0, ak_1, ak_2, ak_3, ak_4, ak_5, ak_6, ak_8, ak_11, ak_14, ak_15, ak_17, ak_20, ak_21, ak_22, ak_23, ak_24, ak_25, ak_26, ak_28, ak_29, ak_30, ak_31, ak_32, ak_33, ak_34, ak_35, ak_36, ak_37, eq_self, Int.toNat_natCast, Nat.zero_le, bI_0, b01_0, bI_or, b01_or, ne_eq, reduceCtorEq, not_false_eq_true, Nat.reduceEqDiff, if_true, if_false, ite_true, ite_false, Int.natCast_nonneg, not_true_eq_false, Bool.true_eq_false, Bool.false_eq_true, Int.reduceEq, Int.reduceLT, Int.reduceLE, Int.reduceToNat, and_self, inA, exists_eq, or_true, true_or, or_false, false_or, and_false, false_and, or_self])
      have L0 := (L vU).mpr trivial
      rw [rs_0] at L0
      exact L0
    · obtain ⟨r1, r2, r3, r4, r5⟩ := R
      refine ⟨?_, ?_⟩
      · rw [fup_ne _ _ (by omega), rs_out _ _ _ _ _ (by omega)]; exact r1
      · rw [fup_same, RV_set, fup_ne _ _ (by omega), fup_ne _ _ (by omega), fup_ne _ _ (by omega), rs_out _ _ _ _ 0 (by omega), rs_out _ _ _ _ 1 (by omega), rs_out _ _ _ _ 16 (by omega)]
        generalize hf : (fun s => if badF (RV (h 17)) (V' 7 7) s = true then (-1 : Int) else RV (h 17) 8 s) = f at *
        have ER : EV V' (fup V' 8 (rowN f (RV (h 17) 8) 8)) := EV.rf V'
        have k := fun m (hm : 8 ≤ m) => show V' m = RV (h 17) m by rw [hV]; exact agV_k _ _ hm
        have k7 := fun m (hm : 17 ≤ m) => show V' 7 m = RV (h 17) 7 m by rw [hV]; exact agV_7 _ _ hm
        refine ⟨ER.wf hwV, ?_, fun s hs => ?_, ?_⟩
        · show EV (becV (h 0) (h 1)) _
          exact EB.tr ER
        · dsimp only
          rw [fup_ne _ _ (by omega)]
          have old := r4 s hs
          have e8 : fup V' 8 (rowN f (RV (h 17) 8) 8) 8 s = f s := by rw [fup_same]; unfold rowN; rw [if_pos hs]
          have e9 : fup V' 8 (rowN f (RV (h 17) 8) 8) 9 = RV (h 17) 9 := k 9 (by omega)
          have e10 : fup V' 8 (rowN f (RV (h 17) 8) 8) 10 = RV (h 17) 10 := k 10 (by omega)
          have e77 : fup V' 8 (rowN f (RV (h 17) 8) 8) 7 7 = V' 7 7 := rfl
          unfold SHR at old ⊢
          rw [e8, e9, e10, e77]
          cases hb : badF (RV (h 17)) (V' 7 7) s
          · have ef : f s = RV (h 17) 8 s := by rw [← hf]; simp [hb]
            have er : rsH (fup h 0 (becV (h 0) (h 1))) (RV (h 17)) (V' 7 7) 8 (8 + s) = h (8 + s) := by
              unfold rsH
              rw [if_neg (fun e => by rw [show 8 + s - 8 = s by omega, hb] at e; exact Bool.noConfusion e.2.2), fup_ne _ _ (by omega)]
            rw [er, ef]
            refine ⟨old.1, ?_, old.2.2.1, old.2.2.2⟩
            have hnb : ¬ (0 ≤ RV (h 17) 8 s ∧ RV (h 17) 8 s < 100 ∧ V' 7 7 ≤ RV (h 17) 8 s) := fun e => by rw [bad_iff.mpr e] at hb; exact Bool.noConfusion hb
            have o := old.2.1
            have b8 := hw.bd.2.1
            omega
          · have ef : f s = -1 := by rw [← hf]; simp [hb]
            have er : rsH (fup h 0 (becV (h 0) (h 1))) (RV (h 17)) (V' 7 7) 8 (8 + s) = holdS (h (8 + s)) (-1) := by
              unfold rsH
              rw [if_pos ⟨by omega, by omega, by rw [show 8 + s - 8 = s by omega]; exact hb⟩, fup_ne _ _ (by omega)]
            rw [er, ef]
            exact ⟨rfl, Or.inl rfl, fun _ => rfl, fun q => absurd q (by decide)⟩
        · unfold XR at r5 ⊢
          have q11 : fup V' 8 (rowN f (RV (h 17) 8) 8) 11 = RV (h 17) 11 := k 11 (by omega)
          have q12 : fup V' 8 (rowN f (RV (h 17) 8) 8) 12 = RV (h 17) 12 := k 12 (by omega)
          have q13 : fup V' 8 (rowN f (RV (h 17) 8) 8) 13 = RV (h 17) 13 := k 13 (by omega)
          have q20 : fup V' 8 (rowN f (RV (h 17) 8) 8) 7 20 = RV (h 17) 7 20 := k7 20 (by omega)
          have q21 : fup V' 8 (rowN f (RV (h 17) 8) 8) 7 21 = RV (h 17) 7 21 := k7 21 (by omega)
          have q22 : fup V' 8 (rowN f (RV (h 17) 8) 8) 7 22 = RV (h 17) 7 22 := k7 22 (by omega)
          rw [q11, q12, q13, q20, q21, q22]
          exact r5
  · have hi0 : RV (h 17) 7 22 = 0 := by omega
    have hx : h 16 10 8 = 0 := by rw [x4, hi0]
    refine R.refused (c := -6) (x := -6) ?_ (fun h1 e => ?_)
    · (rw [cr_132]; simp only [r132_0, r132_1, r132_4, r132_7, r132_8, r132_10, r132_13, r132_14, r132_15, r132_18, r132_19, r132_22, r132_25, r132_26, hx, CallR_iff (sx_refuse (c := -6) (by decide) (by decide)), reduceIte, Option.some.injEq, and_assoc, exists_and_left, exists_eq_left, exists_eq_left', true_and, and_true, List.length_cons, List.length_nil, Nat.reduceAdd, Nat.reduceLeDiff, Sum.inl.injEq, az_0, az_1, az_2, az_3, az_4, az_5, az_6, az_8, az_11, az_14, az_15, az_17, az_20, az_21, az_22, az_23, az_24, az_25, az_26, az_28, az_29, az_30, az_31, az_32, az_33, az_34, az_35, az_36, ak_0, ak_1, ak_2, ak_3, ak_4, ak_5, ak_6, ak_8, ak_11, ak_14, ak_15, ak_17, ak_20, ak_21, ak_22, ak_23, ak_24, ak_25, ak_26, ak_28, ak_29, ak_30, ak_31, ak_32, ak_33, ak_34, ak_35, ak_36, ak_37, eq_self, Int.toNat_natCast, Nat.zero_le, bI_0, b01_0, bI_or, b01_or, ne_eq, reduceCtorEq, not_false_eq_true, Nat.reduceEqDiff, if_true, if_false, ite_true, ite_false, Int.natCast_nonneg, not_true_eq_false, Bool.true_eq_false, Bool.false_eq_true, Int.reduceEq, Int.reduceLT, Int.reduceLE, Int.reduceToNat, and_self, inA, exists_eq, or_true, true_or, or_false, false_or, and_false, false_and, or_self])
    · rw [← e] at hi0
      rw [RV_7] at hi0
      (rw [cr_234]; simp only [r234_0, r234_1, r234_4, r234_7, r234_8, r234_10, r234_13, r234_14, r234_15, r234_16, r234_19, r234_22, r234_23, hi0, CallR_iff (sm_no (c := -6) (by decide) (by decide)), reduceIte, Option.some.injEq, and_assoc, exists_and_left, exists_eq_left, exists_eq_left', true_and, and_true, List.length_cons, List.length_nil, Nat.reduceAdd, Nat.reduceLeDiff, Sum.inl.injEq, az_0, az_1, az_2, az_3, az_4, az_5, az_6, az_8, az_11, az_14, az_15, az_17, az_20, az_21, az_22, az_23, az_24, az_25, az_26, az_28, az_29, az_30, az_31, az_32, az_33, az_34, az_35, az_36, ak_0, ak_1, ak_2, ak_3, ak_4, ak_5, ak_6, ak_8, ak_11, ak_14, ak_15, ak_17, ak_20, ak_21, ak_22, ak_23, ak_24, ak_25, ak_26, ak_28, ak_29, ak_30, ak_31, ak_32, ak_33, ak_34, ak_35, ak_36, ak_37, eq_self, Int.toNat_natCast, Nat.zero_le, bI_0, b01_0, bI_or, b01_or, ne_eq, reduceCtorEq, not_false_eq_true, Nat.reduceEqDiff, if_true, if_false, ite_true, ite_false, Int.natCast_nonneg, not_true_eq_false, Bool.true_eq_false, Bool.false_eq_true, Int.reduceEq, Int.reduceLT, Int.reduceLE, Int.reduceToNat, and_self, inA, exists_eq, or_true, true_or, or_false, false_or, and_false, false_and, or_self])
