/-! PURE: the class's words -/
section RW
variable {h : AH} {m : Nat} {g : Nat → Int} {W : VS} {ns it ft : Int} {i : Nat}
theorem RDO.end {h : AH} {m : Nat} {g : Nat → Int} (O : RDO h m g) {i : Nat} (hi : h (8 + m) 9 2 ≤ (i : Int)) : g i = 0 := by
  rw [O.2.2.2.2.2 i, if_neg (by omega)]
/-- letters stand within the text -/
theorem mt_in (O : RDO h m g) : ∀ (w : List Int) (i : Nat), (∀ c ∈ w, c ≠ 0) → 0 < mtF g w i → ((i + mtF g w i : Nat) : Int) ≤ h (8 + m) 9 2
  | [], _, _, q => absurd q (by unfold mtF; omega)
  | c :: w, i, hc, q => by
    unfold mtF at q ⊢
    split at q
    · next e =>
      rw [if_pos e]
      have hin : (i : Int) < h (8 + m) 9 2 := by
        by_cases p : (i : Int) < h (8 + m) 9 2
        · exact p
        · have := O.end (i := i) (by omega)
          rw [this] at e
          exact absurd e.symm (hc c (by simp))
      by_cases z : mtF g w (i + 1) = 0
      · rw [z]; omega
      · have := mt_in O w (i + 1) (fun c' h' => hc c' (by simp [h'])) (by omega)
        omega
    · omega
theorem wd_nz : ∀ k, k < 10 → ∀ c ∈ wdL k, c ≠ 0 := by decide +kernel
theorem wd_len : ∀ k, k < 10 → 3 ≤ (wdL k).length ∧ (wdL k).length ≤ 6 := by decide +kernel
theorem sr_letters {d : Nat} {k : Nat} (O : RDO h m g) (hk : k < 10) (hi : i < 190) : CallR (d + 4) 8 [vR 16 12, vS k] (rdH h W (i : Int) ns it ft) (some (vI (mtF g (wdL k) i : Nat))) (rdH h W (i : Int) ns it ft) := by
  have hl := wd_len k hk
  have hle := mt_le g (wdL k) i
  have hat := mt_at g (wdL k) i
  have hst := mt_stop g (wdL k) i
  have hsl : slen k = ((wdL k).length : Int) := rfl
  have hsc : ∀ t : Nat, sch k (t : Int) = (wdL k).getD t 0 := fun t => rfl
  generalize hM : mtF g (wdL k) i = M at *
  have L := lo_up (P := fun t => At (CallR (d + 3)) ac_8 7 [vR 16 12, vS k, vI (i : Int), vI (t : Int)] [] (rdH h W ((i + t : Nat) : Int) ns it ft) (fun v' h2 => v' = some (vI (M : Int)) ∧ h2 = rdH h W (i : Int) ns it ft)) M (fun t ht => by
    have h1 : (t : Int) < ((wdL k).length : Int) := by omega
    have ks := wr_s (show t < 2147483647 by omega)
    have ks2 := wr_s (show i + t < 2147483647 by omega)
    have e1 := hat t ht
    have e3 : i + (t + 1) = i + t + 1 := rfl
    rw [e3, r8_7]
    simp only [r8_8, r8_8n, r8_8s, r8_9, r8_12, r8_15, r8_16, r8_19, r8_19n, r8_19s, r8_20, r8_21, r8_24, r8_27, r8_30, r8_31, r8_31r, r8_32, r8_35, r8_36, r8_37, r8_40, r8_43, r8_44, r8_45, r8_48, r8_49, reduceIte, Option.some.injEq, and_assoc, exists_and_left, exists_eq_left, exists_eq_left', true_and, and_true, List.length_cons, List.length_nil, Nat.reduceAdd, Nat.reduceLeDiff, Sum.inl.injEq, az_0, az_1, az_2, az_3, az_4, az_5, az_6, az_8, az_11, az_14, az_15, az_17, az_20, az_21, az_22, az_23, az_24, az_25, az_26, az_28, az_29, az_30, az_31, az_32, az_33, az_34, az_35, az_36, ak_0, ak_1, ak_2, ak_3, ak_4, ak_5, ak_6, ak_8, ak_11, ak_14, ak_15, ak_17, ak_20, ak_21, ak_22, ak_23, ak_24, ak_25, ak_26, ak_28, ak_29, ak_30, ak_31, ak_32, ak_33, ak_34, ak_35, ak_36, ak_37, eq_self, Int.toNat_natCast, Nat.zero_le, bI_0, b01_0, bI_or, b01_or, ne_eq, reduceCtorEq, not_false_eq_true, Nat.reduceEqDiff, if_true, if_false, ite_true, ite_false, Int.natCast_nonneg, not_true_eq_false, Bool.true_eq_false, Bool.false_eq_true, Int.reduceEq, Int.reduceLT, Int.reduceLE, Int.reduceToNat, and_self, inA, exists_eq, or_true, true_or, or_false, false_or, and_false, false_and, or_self, Nat.reduceLT, hsl, hsc, h1, CallR_iff (sr_letter O), e1, rq_2, rd_a, ks, ks2])
  rw [cr_8]
  simp only [r8_0, r8_1, r8_4, r8_5, r8_6, rq_2]
  refine L.mpr ?_
  by_cases q : M < (wdL k).length
  · have h1 : (M : Int) < ((wdL k).length : Int) := by omega
    have e1 := hst q
    rw [r8_7]
    simp only [r8_8, r8_8n, r8_8s, r8_9, r8_12, r8_15, r8_16, r8_19, r8_19n, r8_19s, r8_20, r8_21, r8_24, r8_27, r8_30, r8_31, r8_31r, r8_32, r8_35, r8_36, r8_37, r8_40, r8_43, r8_44, r8_45, r8_48, r8_49, reduceIte, Option.some.injEq, and_assoc, exists_and_left, exists_eq_left, exists_eq_left', true_and, and_true, List.length_cons, List.length_nil, Nat.reduceAdd, Nat.reduceLeDiff, Sum.inl.injEq, az_0, az_1, az_2, az_3, az_4, az_5, az_6, az_8, az_11, az_14, az_15, az_17, az_20, az_21, az_22, az_23, az_24, az_25, az_26, az_28, az_29, az_30, az_31, az_32, az_33, az_34, az_35, az_36, ak_0, ak_1, ak_2, ak_3, ak_4, ak_5, ak_6, ak_8, ak_11, ak_14, ak_15, ak_17, ak_20, ak_21, ak_22, ak_23, ak_24, ak_25, ak_26, ak_28, ak_29, ak_30, ak_31, ak_32, ak_33, ak_34, ak_35, ak_36, ak_37, eq_self, Int.toNat_natCast, Nat.zero_le, bI_0, b01_0, bI_or, b01_or, ne_eq, reduceCtorEq, not_false_eq_true, Nat.reduceEqDiff, if_true, if_false, ite_true, ite_false, Int.natCast_nonneg, not_true_eq_false, Bool.true_eq_false, Bool.false_eq_true, Int.reduceEq, Int.reduceLT, Int.reduceLE, Int.reduceToNat, and_self, inA, exists_eq, or_true, true_or, or_false, false_or, and_false, false_and, or_self, Nat.reduceLT, hsl, hsc, h1, CallR_iff (sr_letter O), e1, rd_a]
  · have h1 : ¬ (M : Int) < ((wdL k).length : Int) := by omega
    rw [r8_7]
    simp only [r8_8, r8_8n, r8_8s, r8_9, r8_12, r8_15, r8_16, r8_19, r8_19n, r8_19s, r8_20, r8_21, r8_24, r8_27, r8_30, r8_31, r8_31r, r8_32, r8_35, r8_36, r8_37, r8_40, r8_43, r8_44, r8_45, r8_48, r8_49, reduceIte, Option.some.injEq, and_assoc, exists_and_left, exists_eq_left, exists_eq_left', true_and, and_true, List.length_cons, List.length_nil, Nat.reduceAdd, Nat.reduceLeDiff, Sum.inl.injEq, az_0, az_1, az_2, az_3, az_4, az_5, az_6, az_8, az_11, az_14, az_15, az_17, az_20, az_21, az_22, az_23, az_24, az_25, az_26, az_28, az_29, az_30, az_31, az_32, az_33, az_34, az_35, az_36, ak_0, ak_1, ak_2, ak_3, ak_4, ak_5, ak_6, ak_8, ak_11, ak_14, ak_15, ak_17, ak_20, ak_21, ak_22, ak_23, ak_24, ak_25, ak_26, ak_28, ak_29, ak_30, ak_31, ak_32, ak_33, ak_34, ak_35, ak_36, ak_37, eq_self, Int.toNat_natCast, Nat.zero_le, bI_0, b01_0, bI_or, b01_or, ne_eq, reduceCtorEq, not_false_eq_true, Nat.reduceEqDiff, if_true, if_false, ite_true, ite_false, Int.natCast_nonneg, not_true_eq_false, Bool.true_eq_false, Bool.false_eq_true, Int.reduceEq, Int.reduceLT, Int.reduceLE, Int.reduceToNat, and_self, inA, exists_eq, or_true, true_or, or_false, false_or, and_false, false_and, or_self, Nat.reduceLT, hsl, h1, rd_a]
def mxF (g : Nat → Int) (i : Nat) : Nat → Nat
  | 0 => 0
  | w + 1 => if mxF g i w < mtF g (wdL w) i then mtF g (wdL w) i else mxF g i w
def fuC (g : Nat → Int) (i : Nat) (w : Nat) : Bool := decide (mtF g (wdL w) i = (wdL w).length)
theorem mx_le (g : Nat → Int) (i : Nat) : ∀ w, w ≤ 10 → mxF g i w ≤ 6
  | 0, _ => by simp [mxF]
  | w + 1, hw => by
    have h1 := mx_le g i w (by omega)
    have h2 := mt_le g (wdL w) i
    have h3 := wd_len w (by omega)
    unfold mxF
    split <;> omega
theorem sr_word {d : Nat} (O : RDO h m g) (hi : i < 180) : CallR (d + 5) 7 [vR 16 12] (rdH h W (i : Int) ns it (-1)) (some (vI (if fstN (fuC g i) 10 < 10 then ((fstN (fuC g i) 10 : Nat) : Int) else -1))) (if fstN (fuC g i) 10 < 10 then rdH h W ((i + (wdL (fstN (fuC g i) 10)).length : Nat) : Int) ns it (-1) else rdH h W (i : Int) ns it ((i + mxF g i 10 : Nat) : Int)) := by
  have hle := fst_le 10 (fuC g i)
  have hlt := fst_lt 10 (fuC g i)
  have hno := fst_no 10 (fuC g i)
  generalize hM : fstN (fuC g i) 10 = M at *
  have wat : ∀ {d : Nat} {h : AH} (w : Nat), w < 10 → CallR (d + 1) 6 [vI (w : Int)] h (some (vS w)) h := by
    intro d h w hw
    have : w = 0 ∨ w = 1 ∨ w = 2 ∨ w = 3 ∨ w = 4 ∨ w = 5 ∨ w = 6 ∨ w = 7 ∨ w = 8 ∨ w = 9 := by omega
    rcases this with rfl | rfl | rfl | rfl | rfl | rfl | rfl | rfl | rfl | rfl <;> (rw [cr_6]; simp only [r6_0, r6_1, r6_52, r6_54, r6_55, r6_57, r6_58, r6_60, r6_61, r6_63, r6_64, r6_66, r6_67, r6_69, r6_70, r6_72, r6_73, r6_75, r6_76, r6_78, r6_79, r6_81, reduceIte, Option.some.injEq, and_assoc, exists_and_left, exists_eq_left, exists_eq_left', true_and, and_true, List.length_cons, List.length_nil, Nat.reduceAdd, Nat.reduceLeDiff, Sum.inl.injEq, az_0, az_1, az_2, az_3, az_4, az_5, az_6, az_8, az_11, az_14, az_15, az_17, az_20, az_21, az_22, az_23, az_24, az_25, az_26, az_28, az_29, az_30, az_31, az_32, az_33, az_34, az_35, az_36, ak_0, ak_1, ak_2, ak_3, ak_4, ak_5, ak_6, ak_8, ak_11, ak_14, ak_15, ak_17, ak_20, ak_21, ak_22, ak_23, ak_24, ak_25, ak_26, ak_28, ak_29, ak_30, ak_31, ak_32, ak_33, ak_34, ak_35, ak_36, ak_37, eq_self, Int.toNat_natCast, Nat.zero_le, bI_0, b01_0, bI_or, b01_or, ne_eq, reduceCtorEq, not_false_eq_true, Nat.reduceEqDiff, if_true, if_false, ite_true, ite_false, Int.natCast_nonneg, not_true_eq_false, Bool.true_eq_false, Bool.false_eq_true, Int.reduceEq, Int.reduceLT, Int.reduceLE, Int.reduceToNat, and_self, inA, exists_eq, or_true, true_or, or_false, false_or, and_false, false_and, or_self, Nat.reduceLT]; first | trivial | rfl | simp)
  have hsl : ∀ k, slen k = ((wdL k).length : Int) := fun k => rfl
  have L := lo_upj (n := M) (P := fun w (a : AV × AV) => At (CallR (d + 4)) ac_7 14 [vR 16 12, vI (mxF g i w : Nat), vI (w : Int), a.1, a.2] [] (rdH h W (i : Int) ns it (-1)) (fun v' h2 => v' = some (vI (if M < 10 then (M : Int) else -1)) ∧ h2 = (if M < 10 then rdH h W ((i + (wdL M).length : Nat) : Int) ns it (-1) else rdH h W (i : Int) ns it ((i + mxF g i 10 : Nat) : Int)))) (G := True) (fun a => by
      by_cases q : M < 10
      · have h1 : (M : Int) < 10 := by omega
        have hc := hlt q
        unfold fuC at hc
        rw [decide_eq_true_iff] at hc
        have hl := wd_len M q
        have ew : wr ((i : Int) + ((wdL M).length : Int)) = ((i + (wdL M).length : Nat) : Int) := by rw [wr_id (by omega) (by omega)]; omega
        rw [r7_14]
        simp only [r7_15, r7_17, r7_20, r7_21, r7_24, r7_25, r7_26, r7_26n, r7_26s, r7_27, r7_30, r7_32, r7_34, r7_34n, r7_34s, r7_35, r7_38, r7_41, r7_42, r7_42r, r7_43, r7_46, r7_48, r7_49, r7_52, r7_53, r7_54, r7_55, r7_57, r7_60, r7_61, r7_64, r7_67, r7_68, r7_69, r7_72, r7_73, r7_74, r7_77, r7_78, reduceIte, Option.some.injEq, and_assoc, exists_and_left, exists_eq_left, exists_eq_left', true_and, and_true, List.length_cons, List.length_nil, Nat.reduceAdd, Nat.reduceLeDiff, Sum.inl.injEq, az_0, az_1, az_2, az_3, az_4, az_5, az_6, az_8, az_11, az_14, az_15, az_17, az_20, az_21, az_22, az_23, az_24, az_25, az_26, az_28, az_29, az_30, az_31, az_32, az_33, az_34, az_35, az_36, ak_0, ak_1, ak_2, ak_3, ak_4, ak_5, ak_6, ak_8, ak_11, ak_14, ak_15, ak_17, ak_20, ak_21, ak_22, ak_23, ak_24, ak_25, ak_26, ak_28, ak_29, ak_30, ak_31, ak_32, ak_33, ak_34, ak_35, ak_36, ak_37, eq_self, Int.toNat_natCast, Nat.zero_le, bI_0, b01_0, bI_or, b01_or, ne_eq, reduceCtorEq, not_false_eq_true, Nat.reduceEqDiff, if_true, if_false, ite_true, ite_false, Int.natCast_nonneg, not_true_eq_false, Bool.true_eq_false, Bool.false_eq_true, Int.reduceEq, Int.reduceLT, Int.reduceLE, Int.reduceToNat, and_self, inA, exists_eq, or_true, true_or, or_false, false_or, and_false, false_and, or_self, Nat.reduceLT, h1, q, CallR_iff (wat M q), CallR_iff (sr_letters O q (show i < 190 by omega)), hsl, hc, rq_2, rd_a, ew]
      · have h1 : ¬ (M : Int) < 10 := by omega
        have e10 : M = 10 := by omega
        have hx := mx_le g i 10 (Nat.le_refl _)
        have ew : wr ((i : Int) + ((mxF g i 10 : Nat) : Int)) = ((i + mxF g i 10 : Nat) : Int) := by rw [wr_id (by omega) (by omega)]; omega
        rw [r7_14]
        simp only [r7_15, r7_17, r7_20, r7_21, r7_24, r7_25, r7_26, r7_26n, r7_26s, r7_27, r7_30, r7_32, r7_34, r7_34n, r7_34s, r7_35, r7_38, r7_41, r7_42, r7_42r, r7_43, r7_46, r7_48, r7_49, r7_52, r7_53, r7_54, r7_55, r7_57, r7_60, r7_61, r7_64, r7_67, r7_68, r7_69, r7_72, r7_73, r7_74, r7_77, r7_78, reduceIte, Option.some.injEq, and_assoc, exists_and_left, exists_eq_left, exists_eq_left', true_and, and_true, List.length_cons, List.length_nil, Nat.reduceAdd, Nat.reduceLeDiff, Sum.inl.injEq, az_0, az_1, az_2, az_3, az_4, az_5, az_6, az_8, az_11, az_14, az_15, az_17, az_20, az_21, az_22, az_23, az_24, az_25, az_26, az_28, az_29, az_30, az_31, az_32, az_33, az_34, az_35, az_36, ak_0, ak_1, ak_2, ak_3, ak_4, ak_5, ak_6, ak_8, ak_11, ak_14, ak_15, ak_17, ak_20, ak_21, ak_22, ak_23, ak_24, ak_25, ak_26, ak_28, ak_29, ak_30, ak_31, ak_32, ak_33, ak_34, ak_35, ak_36, ak_37, eq_self, Int.toNat_natCast, Nat.zero_le, bI_0, b01_0, bI_or, b01_or, ne_eq, reduceCtorEq, not_false_eq_true, Nat.reduceEqDiff, if_true, if_false, ite_true, ite_false, Int.natCast_nonneg, not_true_eq_false, Bool.true_eq_false, Bool.false_eq_true, Int.reduceEq, Int.reduceLT, Int.reduceLE, Int.reduceToNat, and_self, inA, exists_eq, or_true, true_or, or_false, false_or, and_false, false_and, or_self, Nat.reduceLT, h1, q, e10, show ¬ ((10 : Nat) : Int) < 10 by decide, rq_2, ew, CallR_iff sr_fail]) (fun w hw a => by
      have w10 : w < 10 := by omega
      have h1 : (w : Int) < 10 := by omega
      have hn := hno w hw
      unfold fuC at hn
      rw [decide_eq_false_iff_not] at hn
      have hn2 : ¬ ((mtF g (wdL w) i : Nat) : Int) = ((wdL w).length : Int) := by omega
      have ks := wr_s (show w < 2147483647 by omega)
      have em : amax ((mxF g i w : Nat) : Int) ((mtF g (wdL w) i : Nat) : Int) = ((mxF g i (w + 1) : Nat) : Int) := by
        show (if ((mxF g i w : Nat) : Int) < ((mtF g (wdL w) i : Nat) : Int) then ((mtF g (wdL w) i : Nat) : Int) else ((mxF g i w : Nat) : Int)) = (((if mxF g i w < mtF g (wdL w) i then mtF g (wdL w) i else mxF g i w) : Nat) : Int)
        by_cases c : mxF g i w < mtF g (wdL w) i
        · rw [if_pos c, if_pos (by omega)]
        · rw [if_neg c, if_neg (by omega)]
      refine ⟨(vS w, vI (mtF g (wdL w) i : Nat)), ?_⟩
      rw [r7_14]
      simp only [r7_15, r7_17, r7_20, r7_21, r7_24, r7_25, r7_26, r7_26n, r7_26s, r7_27, r7_30, r7_32, r7_34, r7_34n, r7_34s, r7_35, r7_38, r7_41, r7_42, r7_42r, r7_43, r7_46, r7_48, r7_49, r7_52, r7_53, r7_54, r7_55, r7_57, r7_60, r7_61, r7_64, r7_67, r7_68, r7_69, r7_72, r7_73, r7_74, r7_77, r7_78, reduceIte, Option.some.injEq, and_assoc, exists_and_left, exists_eq_left, exists_eq_left', true_and, and_true, List.length_cons, List.length_nil, Nat.reduceAdd, Nat.reduceLeDiff, Sum.inl.injEq, az_0, az_1, az_2, az_3, az_4, az_5, az_6, az_8, az_11, az_14, az_15, az_17, az_20, az_21, az_22, az_23, az_24, az_25, az_26, az_28, az_29, az_30, az_31, az_32, az_33, az_34, az_35, az_36, ak_0, ak_1, ak_2, ak_3, ak_4, ak_5, ak_6, ak_8, ak_11, ak_14, ak_15, ak_17, ak_20, ak_21, ak_22, ak_23, ak_24, ak_25, ak_26, ak_28, ak_29, ak_30, ak_31, ak_32, ak_33, ak_34, ak_35, ak_36, ak_37, eq_self, Int.toNat_natCast, Nat.zero_le, bI_0, b01_0, bI_or, b01_or, ne_eq, reduceCtorEq, not_false_eq_true, Nat.reduceEqDiff, if_true, if_false, ite_true, ite_false, Int.natCast_nonneg, not_true_eq_false, Bool.true_eq_false, Bool.false_eq_true, Int.reduceEq, Int.reduceLT, Int.reduceLE, Int.reduceToNat, and_self, inA, exists_eq, or_true, true_or, or_false, false_or, and_false, false_and, or_self, Nat.reduceLT, h1, CallR_iff (wat w w10), CallR_iff (sr_letters O w10 (show i < 190 by omega)), hsl, hn2, em, ks]) M 0 (by omega)
  rw [cr_7]
  simp only [r7_0, r7_1, r7_4, r7_5, r7_8, r7_9, r7_10, r7_11, r7_12, r7_13, rq_5, reduceIte, Option.some.injEq, and_assoc, exists_and_left, exists_eq_left, exists_eq_left', true_and, and_true, List.length_cons, List.length_nil, Nat.reduceAdd, Nat.reduceLeDiff, Sum.inl.injEq, az_0, az_1, az_2, az_3, az_4, az_5, az_6, az_8, az_11, az_14, az_15, az_17, az_20, az_21, az_22, az_23, az_24, az_25, az_26, az_28, az_29, az_30, az_31, az_32, az_33, az_34, az_35, az_36, ak_0, ak_1, ak_2, ak_3, ak_4, ak_5, ak_6, ak_8, ak_11, ak_14, ak_15, ak_17, ak_20, ak_21, ak_22, ak_23, ak_24, ak_25, ak_26, ak_28, ak_29, ak_30, ak_31, ak_32, ak_33, ak_34, ak_35, ak_36, ak_37, eq_self, Int.toNat_natCast, Nat.zero_le, bI_0, b01_0, bI_or, b01_or, ne_eq, reduceCtorEq, not_false_eq_true, Nat.reduceEqDiff, if_true, if_false, ite_true, ite_false, Int.natCast_nonneg, not_true_eq_false, Bool.true_eq_false, Bool.false_eq_true, Int.reduceEq, Int.reduceLT, Int.reduceLE, Int.reduceToNat, and_self, inA, exists_eq, or_true, true_or, or_false, false_or, and_false, false_and, or_self, Nat.reduceLT]
  exact (L (vU, vU)).mpr trivial
/-- which word it is -/
theorem mt_z {w : Nat} {c : Int} {l : List Int} (e : wdL w = c :: l) {i : Nat} (h : g i ≠ c) : mtF g (wdL w) i = 0 := by rw [e]; unfold mtF; rw [if_neg h]
theorem wd_0 : wdL 0 = 112 :: [108, 97, 99, 101] := rfl
theorem wd_1 : wdL 1 = 119 :: [101, 115, 116] := rfl
theorem wd_2 : wdL 2 = 99 :: [97, 108, 109] := rfl
theorem wd_3 : wdL 3 = 101 :: [97, 115, 116] := rfl
theorem wd_4 : wdL 4 = 115 :: [117, 110] := rfl
theorem wd_5 : wdL 5 = 116 :: [101, 110, 100, 101, 114] := rfl
theorem wd_6 : wdL 6 = 112 :: [114, 105, 99, 101] := rfl
theorem wd_7 : wdL 7 = 102 :: [111, 103] := rfl
theorem wd_8 : wdL 8 = 98 :: [111, 116, 116, 108, 101] := rfl
theorem wd_9 : wdL 9 = 104 :: [111, 117, 114] := rfl
theorem sel_mt (g : Nat → Int) (i : Nat) : ∀ w, w < 10 → w ≠ selF g i → mtF g (wdL w) i = 0 ∨ (mtF g (wdL w) i = 1 ∧ selF g i < 10 ∧ 1 ≤ mtF g (wdL (selF g i)) i) := by
  intro w hw hne
  by_cases p : g i = 112
  · by_cases r : g (i + 1) = 114
    · have es : selF g i = 6 := by unfold selF; rw [if_pos p, if_pos r]
      rw [es] at hne ⊢
      have hc : w = 0 ∨ w = 1 ∨ w = 2 ∨ w = 3 ∨ w = 4 ∨ w = 5 ∨ w = 7 ∨ w = 8 ∨ w = 9 := by omega
      rcases hc with rfl | rfl | rfl | rfl | rfl | rfl | rfl | rfl | rfl
      · refine Or.inr ⟨?_, by omega, ?_⟩
        · rw [wd_0]; unfold mtF; rw [if_pos p]; unfold mtF; rw [if_neg (by omega)]
        · rw [wd_6]; unfold mtF; rw [if_pos p]; omega
      · exact Or.inl (mt_z wd_1 (by omega))
      · exact Or.inl (mt_z wd_2 (by omega))
      · exact Or.inl (mt_z wd_3 (by omega))
      · exact Or.inl (mt_z wd_4 (by omega))
      · exact Or.inl (mt_z wd_5 (by omega))
      · exact Or.inl (mt_z wd_7 (by omega))
      · exact Or.inl (mt_z wd_8 (by omega))
      · exact Or.inl (mt_z wd_9 (by omega))
    · have es : selF g i = 0 := by unfold selF; rw [if_pos p, if_neg r]
      rw [es] at hne ⊢
      have hc : w = 6 ∨ w = 1 ∨ w = 2 ∨ w = 3 ∨ w = 4 ∨ w = 5 ∨ w = 7 ∨ w = 8 ∨ w = 9 := by omega
      rcases hc with rfl | rfl | rfl | rfl | rfl | rfl | rfl | rfl | rfl
      · refine Or.inr ⟨?_, by omega, ?_⟩
        · rw [wd_6]; unfold mtF; rw [if_pos p]; unfold mtF; rw [if_neg r]
        · rw [wd_0]; unfold mtF; rw [if_pos p]; omega
      · exact Or.inl (mt_z wd_1 (by omega))
      · exact Or.inl (mt_z wd_2 (by omega))
      · exact Or.inl (mt_z wd_3 (by omega))
      · exact Or.inl (mt_z wd_4 (by omega))
      · exact Or.inl (mt_z wd_5 (by omega))
      · exact Or.inl (mt_z wd_7 (by omega))
      · exact Or.inl (mt_z wd_8 (by omega))
      · exact Or.inl (mt_z wd_9 (by omega))
  · left
    unfold selF at hne
    rw [if_neg p] at hne
    have hc : w = 0 ∨ w = 6 ∨ w = 1 ∨ w = 2 ∨ w = 3 ∨ w = 4 ∨ w = 5 ∨ w = 7 ∨ w = 8 ∨ w = 9 := by omega
    rcases hc with rfl | rfl | rfl | rfl | rfl | rfl | rfl | rfl | rfl | rfl
    · exact mt_z wd_0 p
    · exact mt_z wd_6 p
    · exact mt_z wd_1 (fun q => hne (by rw [if_pos q]))
    · exact mt_z wd_2 (fun q => hne (by rw [if_neg (by omega), if_pos q]))
    · exact mt_z wd_3 (fun q => hne (by rw [if_neg (by omega), if_neg (by omega), if_pos q]))
    · exact mt_z wd_4 (fun q => hne (by rw [if_neg (by omega), if_neg (by omega), if_neg (by omega), if_pos q]))
    · exact mt_z wd_5 (fun q => hne (by rw [if_neg (by omega), if_neg (by omega), if_neg (by omega), if_neg (by omega), if_pos q]))
    · exact mt_z wd_7 (fun q => hne (by rw [if_neg (by omega), if_neg (by omega), if_neg (by omega), if_neg (by omega), if_neg (by omega), if_pos q]))
    · exact mt_z wd_8 (fun q => hne (by rw [if_neg (by omega), if_neg (by omega), if_neg (by omega), if_neg (by omega), if_neg (by omega), if_neg (by omega), if_pos q]))
    · exact mt_z wd_9 (fun q => hne (by rw [if_neg (by omega), if_neg (by omega), if_neg (by omega), if_neg (by omega), if_neg (by omega), if_neg (by omega), if_neg (by omega), if_pos q]))
theorem sel_le (g : Nat → Int) (i : Nat) : selF g i ≤ 10 := by unfold selF; (repeat' split) <;> omega
theorem sel_full (g : Nat → Int) (i : Nat) (h : selF g i < 10) (hf : mtF g (wdL (selF g i)) i = (wdL (selF g i)).length) : fstN (fuC g i) 10 = selF g i := by
  have hlt := fst_lt 10 (fuC g i)
  have hno := fst_no 10 (fuC g i)
  have hle := fst_le 10 (fuC g i)
  have hc : fuC g i (selF g i) = true := by unfold fuC; rw [decide_eq_true_iff]; exact hf
  have h1 : ¬ selF g i < fstN (fuC g i) 10 := fun q => by rw [hno _ q] at hc; exact Bool.noConfusion hc
  have h2 := hlt (by omega)
  by_cases e : fstN (fuC g i) 10 = selF g i
  · exact e
  · have := sel_mt g i (fstN (fuC g i) 10) (by omega) e
    have hl := wd_len (fstN (fuC g i) 10) (by omega)
    unfold fuC at h2
    rw [decide_eq_true_iff] at h2
    change mtF g (wdL (fstN (fuC g i) 10)) i = (wdL (fstN (fuC g i) 10)).length at h2
    omega
theorem sel_none (g : Nat → Int) (i : Nat) (h : selF g i = 10 ∨ mtF g (wdL (selF g i)) i < (wdL (selF g i)).length) : fstN (fuC g i) 10 = 10 ∧ mxF g i 10 = (if selF g i = 10 then 0 else mtF g (wdL (selF g i)) i) := by
  have hlt := fst_lt 10 (fuC g i)
  have hle := fst_le 10 (fuC g i)
  have hs := sel_mt g i
  have hsl := sel_le g i
  constructor
  · by_cases q : fstN (fuC g i) 10 < 10
    · have h2 := hlt q
      unfold fuC at h2
      rw [decide_eq_true_iff] at h2
      change mtF g (wdL (fstN (fuC g i) 10)) i = (wdL (fstN (fuC g i) 10)).length at h2
      have hl := wd_len (fstN (fuC g i) 10) q
      by_cases e : fstN (fuC g i) 10 = selF g i
      · rw [e] at h2 hl
        omega
      · have := hs _ q e
        omega
    · omega
  · have key : ∀ w, w ≤ 10 → (mxF g i w ≤ (if selF g i = 10 then 0 else mtF g (wdL (selF g i)) i)) ∧ (selF g i < w → mtF g (wdL (selF g i)) i ≤ mxF g i w) := by
      intro w
      induction w with
      | zero => intro _; exact ⟨by unfold mxF; omega, fun q => absurd q (by omega)⟩
      | succ w ih =>
        intro hw
        obtain ⟨i1, i2⟩ := ih (by omega)
        unfold mxF
        by_cases e : w = selF g i
        · subst e
          rw [if_neg (show ¬ selF g i = 10 by omega)] at i1 ⊢
          constructor
          · split <;> omega
          · intro _; split <;> omega
        · have hz := hs w (by omega) e
          constructor
          · by_cases t : selF g i = 10
            · rw [if_pos t] at i1 ⊢
              split <;> omega
            · rw [if_neg t] at i1 ⊢
              split <;> omega
          · intro q
            have := i2 (by omega)
            split <;> omega
    have k10 := key 10 (Nat.le_refl _)
    by_cases t : selF g i = 10
    · rw [if_pos t] at k10 ⊢; omega
    · rw [if_neg t] at k10 ⊢
      have := k10.2 (by omega)
      omega
end RW
