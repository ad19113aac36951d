/-! PURE: told days -/
theorem REL.qryno {S : VS} {h h1 : AH} (R : REL S h) (X : SX h h1) {R' : VS} {c : Int} (M : MEQ (RV (h1 17)) R') : REL S (fup (fup h1 16 (noV (h1 16) c)) 17 (setRV (h1 17) (noV R' c))) := by
  have Q := R.sx X
  refine ⟨Q.1, ?_⟩
  rw [fup_same, RV_set]
  exact ((Q.2.meq M).no (c := c)).sh (fun s hs => by rw [fup_ne _ _ (by omega), fup_ne _ _ (by omega)])
theorem REL.rowNo {S : VS} {h : AH} (R : REL S h) {m : Nat} (hm : m < 8) : noRowC (RV (h 17) 8 m) = 0 ∨ noRowC (RV (h 17) 8 m) = -2 ∨ noRowC (RV (h 17) 8 m) = -3 := by
  have := noRowC_bd R.w.bd (R.sh hm)
  omega
theorem REL.rowOk {S : VS} {h : AH} (R : REL S h) {m : Nat} (hm : m < 8) (h0 : noRowC (RV (h 17) 8 m) = 0) : h (8 + m) 9 2 = RV (h 17) 9 m ∧ 0 ≤ RV (h 17) 9 m ∧ RV (h 17) 9 m ≤ 160 ∧ ∀ j : Nat, j < 160 → h (8 + m) 8 j = RV (h 17) 10 (160 * m + j) := by
  have := noRowC_bd R.w.bd (R.sh hm)
  exact (R.sh hm).2.2.2 (by omega)
theorem REL.rowC {S : VS} {h : AH} (R : REL S h) {m : Nat} (hm : m < 8) : h (8 + m) 9 1 = RV (h 17) 8 m := (R.sh hm).1
def livW (V : VS) (f : Nat → Int) : Nat → VS
  | 0 => V
  | i + 1 => passV (livW V f i) (f i)
def livC (V : VS) (f : Nat → Int) (i : Nat) : Bool := !mayV (livW V f i) (f i)
def livM (V : VS) (f : Nat → Int) (n : Nat) : Nat := fstN (livC V f) n
def livA (V : VS) (f : Nat → Int) (n : Nat) : Int := if livM V f n < n then ((livM V f n : Nat) : Int) else -1
theorem EV.c_livW {V V' : VS} (E : EV V V') (f : Nat → Int) : ∀ i, EV (livW V f i) (livW V' f i)
  | 0 => E
  | i + 1 => (EV.c_livW E f i).c_passV (f i)
theorem EV.c_livC {V V' : VS} (E : EV V V') (f : Nat → Int) : livC V f = livC V' f := by funext i; unfold livC; rw [(E.c_livW f i).c_mayV]
theorem EV.c_livM {V V' : VS} (E : EV V V') (f : Nat → Int) (n : Nat) : livM V f n = livM V' f n := by unfold livM; rw [E.c_livC]
theorem EV.c_livA {V V' : VS} (E : EV V V') (f : Nat → Int) (n : Nat) : livA V f n = livA V' f n := by unfold livA; rw [E.c_livM]
theorem liv_F (V : VS) (f : Nat → Int) : ∀ i, FRM V (livW V f i)
  | 0 => FRM.rf V
  | i + 1 => FRM.pass (liv_F V f i) _
theorem liv_X (V : VS) (f : Nat → Int) : ∀ i, FIX V (livW V f i)
  | 0 => FIX.rf V
  | i + 1 => (liv_X V f i).tr (FIX.pass _ _)
theorem liv_may {V : VS} {f : Nat → Int} {n i : Nat} (h : i < livM V f n) : mayV (livW V f i) (f i) = true := by
  have := fst_no n (livC V f) i h
  unfold livC at this
  cases e : mayV (livW V f i) (f i)
  · rw [e] at this; exact Bool.noConfusion this
  · rfl
theorem liv_stop {V : VS} {f : Nat → Int} {n : Nat} (h : livM V f n < n) : mayV (livW V f (livM V f n)) (f (livM V f n)) = false := by
  have := fst_lt n (livC V f) h
  unfold livC at this
  change (!mayV (livW V f (livM V f n)) (f (livM V f n))) = true at this
  cases e : mayV (livW V f (livM V f n)) (f (livM V f n))
  · rfl
  · rw [e] at this; exact Bool.noConfusion this
theorem liv_wf {V : VS} (hw : WF V) {f : Nat → Int} {n : Nat} : ∀ i, i ≤ livM V f n → WF (livW V f i)
  | 0, _ => hw
  | i + 1, h => pass_wf (liv_wf hw (n := n) i (by omega)) (liv_may (n := n) (by omega))
theorem sx_tryDay {d : Nat} {h : AH} {m n : Nat} {f : Nat → Int} (hw0 : WF (h 0)) (hm : m < 8) (hn : (n : Int) ≤ h (8 + m) 9 2) (hn2 : n ≤ 160) (hf : ∀ j, j < 160 → wr (h (8 + m) 8 j) = f j) : CallR (d + 8) 122 [vR 16 10, vI m, vI n] h (some (vI (livA (becV (h 2) (h 0)) f n))) (fup h 2 (livW (becV (h 2) (h 0)) f (livM (becV (h 2) (h 0)) f n))) := by
  have hwT := wfT hw0
  unfold livA
  generalize hT : becV (h 2) (h 0) = T at *
  have hle : livM T f n ≤ n := fst_le n (livC T f)
  have hmay := fun i (hi : i < livM T f n) => liv_may hi
  have hstop := fun (q : livM T f n < n) => liv_stop q
  have hwf := fun i (hi : i ≤ livM T f n) => liv_wf hwT i hi
  generalize hM : livM T f n = M at *
  have h8 : (m : Int) < 8 := by omega
  have L := lo_upj (n := M) (P := fun i (a : AV) => At (CallR (d + 7)) ac_122 20 [vR 16 10, vI m, vI n, vR (8 + m) 9, vI (i : Int), a] [] (fup h 2 (livW T f i)) (fun v' h2 => v' = some (vI (if M < n then (M : Int) else -1)) ∧ h2 = fup h 2 (livW T f M))) (G := True) (fun a => by
      by_cases q : M < n
      · have q1 : (M : Int) < (n : Int) := by omega
        have q2 : 0 ≤ (M : Int) ∧ (M : Int) < h (8 + m) 9 2 ∧ (M : Int) < 160 := by omega
        have hb := wf2 (h := h) (hwf M (Nat.le_refl _))
        have hs := hstop q
        have ef := hf M (by omega)
        have ne2 : (8 + m : Nat) ≠ 2 := by omega
        rw [r122_20]
        simp only [r122_22, r122_23, r122_26, r122_26n, r122_26s, r122_27, r122_27n, r122_30, r122_30n, r122_30s, r122_31, r122_33, r122_36, r122_38, r122_39, r122_42, r122_44, r122_47, r122_50, r122_52, r122_53, r122_54, r122_57, r122_59, r122_62, r122_65, r122_68, r122_69, reduceIte, Option.some.injEq, and_assoc, exists_and_left, exists_eq_left, exists_eq_left', true_and, and_true, List.length_cons, List.length_nil, Nat.reduceAdd, Nat.reduceLeDiff, Sum.inl.injEq, az_0, az_1, az_2, az_3, az_4, az_5, az_6, az_8, az_11, az_14, az_15, az_17, az_20, az_21, az_22, az_23, az_24, az_25, az_26, az_28, az_29, az_30, az_31, az_32, az_33, az_34, az_35, az_36, ak_0, ak_1, ak_2, ak_3, ak_4, ak_5, ak_6, ak_8, ak_11, ak_14, ak_15, ak_17, ak_20, ak_21, ak_22, ak_23, ak_24, ak_25, ak_26, ak_28, ak_29, ak_30, ak_31, ak_32, ak_33, ak_34, ak_35, ak_36, ak_37, eq_self, Int.toNat_natCast, Nat.zero_le, bI_0, b01_0, bI_or, b01_or, ne_eq, reduceCtorEq, not_false_eq_true, Nat.reduceEqDiff, if_true, if_false, ite_true, ite_false, Int.natCast_nonneg, not_true_eq_false, Bool.true_eq_false, Bool.false_eq_true, Int.reduceEq, Int.reduceLT, Int.reduceLE, Int.reduceToNat, and_self, inA, exists_eq, or_true, true_or, or_false, false_or, and_false, false_and, or_self, q, q1, CallR_iff ss_number, CallR_iff (sp_allows hb), fup_same, fup_ne _ _ ne2, q2, ef, hs]
      · have q1 : ¬ (M : Int) < (n : Int) := by omega
        rw [r122_20]
        simp only [r122_22, r122_23, r122_26, r122_26n, r122_26s, r122_27, r122_27n, r122_30, r122_30n, r122_30s, r122_31, r122_33, r122_36, r122_38, r122_39, r122_42, r122_44, r122_47, r122_50, r122_52, r122_53, r122_54, r122_57, r122_59, r122_62, r122_65, r122_68, r122_69, reduceIte, Option.some.injEq, and_assoc, exists_and_left, exists_eq_left, exists_eq_left', true_and, and_true, List.length_cons, List.length_nil, Nat.reduceAdd, Nat.reduceLeDiff, Sum.inl.injEq, az_0, az_1, az_2, az_3, az_4, az_5, az_6, az_8, az_11, az_14, az_15, az_17, az_20, az_21, az_22, az_23, az_24, az_25, az_26, az_28, az_29, az_30, az_31, az_32, az_33, az_34, az_35, az_36, ak_0, ak_1, ak_2, ak_3, ak_4, ak_5, ak_6, ak_8, ak_11, ak_14, ak_15, ak_17, ak_20, ak_21, ak_22, ak_23, ak_24, ak_25, ak_26, ak_28, ak_29, ak_30, ak_31, ak_32, ak_33, ak_34, ak_35, ak_36, ak_37, eq_self, Int.toNat_natCast, Nat.zero_le, bI_0, b01_0, bI_or, b01_or, ne_eq, reduceCtorEq, not_false_eq_true, Nat.reduceEqDiff, if_true, if_false, ite_true, ite_false, Int.natCast_nonneg, not_true_eq_false, Bool.true_eq_false, Bool.false_eq_true, Int.reduceEq, Int.reduceLT, Int.reduceLE, Int.reduceToNat, and_self, inA, exists_eq, or_true, true_or, or_false, false_or, and_false, false_and, or_self, q, q1]) (fun i hi a => by
      refine ⟨vI (f i), ?_⟩
      have q1 : (i : Int) < (n : Int) := by omega
      have q2 : 0 ≤ (i : Int) ∧ (i : Int) < h (8 + m) 9 2 ∧ (i : Int) < 160 := by omega
      have hb := wf2 (h := h) (hwf i (by omega))
      have hs := hmay i hi
      have hs2 : mayV ((fup h 2 (livW T f i)) 2) (f i) = true := by rw [fup_same]; exact hs
      have ef := hf i (by omega)
      have ne2 : (8 + m : Nat) ≠ 2 := by omega
      have eP : passV (livW T f i) (f i) = livW T f (i + 1) := rfl
      rw [r122_20]
      simp only [r122_22, r122_23, r122_26, r122_26n, r122_26s, r122_27, r122_27n, r122_30, r122_30n, r122_30s, r122_31, r122_33, r122_36, r122_38, r122_39, r122_42, r122_44, r122_47, r122_50, r122_52, r122_53, r122_54, r122_57, r122_59, r122_62, r122_65, r122_68, r122_69, reduceIte, Option.some.injEq, and_assoc, exists_and_left, exists_eq_left, exists_eq_left', true_and, and_true, List.length_cons, List.length_nil, Nat.reduceAdd, Nat.reduceLeDiff, Sum.inl.injEq, az_0, az_1, az_2, az_3, az_4, az_5, az_6, az_8, az_11, az_14, az_15, az_17, az_20, az_21, az_22, az_23, az_24, az_25, az_26, az_28, az_29, az_30, az_31, az_32, az_33, az_34, az_35, az_36, ak_0, ak_1, ak_2, ak_3, ak_4, ak_5, ak_6, ak_8, ak_11, ak_14, ak_15, ak_17, ak_20, ak_21, ak_22, ak_23, ak_24, ak_25, ak_26, ak_28, ak_29, ak_30, ak_31, ak_32, ak_33, ak_34, ak_35, ak_36, ak_37, eq_self, Int.toNat_natCast, Nat.zero_le, bI_0, b01_0, bI_or, b01_or, ne_eq, reduceCtorEq, not_false_eq_true, Nat.reduceEqDiff, if_true, if_false, ite_true, ite_false, Int.natCast_nonneg, not_true_eq_false, Bool.true_eq_false, Bool.false_eq_true, Int.reduceEq, Int.reduceLT, Int.reduceLE, Int.reduceToNat, and_self, inA, exists_eq, or_true, true_or, or_false, false_or, and_false, false_and, or_self, q1, CallR_iff ss_number, CallR_iff (sp_allows hb), CallR_iff (sp_pass hb hs2), fup_same, fup_fup, fup_ne _ _ ne2, q2, ef, hs, eP, wr_s (show i < 2147483647 by omega)]) M 0 (by omega)
  (rw [cr_122]; simp only [r122_0, r122_1, r122_2, r122_5, r122_6, r122_7, r122_10, r122_11, r122_14, r122_17, r122_18, CallR_iff (sx_shelf (Int.natCast_nonneg m) h8), CallR_iff sx_bec, hT, reduceIte, Option.some.injEq, and_assoc, exists_and_left, exists_eq_left, exists_eq_left', true_and, and_true, List.length_cons, List.length_nil, Nat.reduceAdd, Nat.reduceLeDiff, Sum.inl.injEq, az_0, az_1, az_2, az_3, az_4, az_5, az_6, az_8, az_11, az_14, az_15, az_17, az_20, az_21, az_22, az_23, az_24, az_25, az_26, az_28, az_29, az_30, az_31, az_32, az_33, az_34, az_35, az_36, ak_0, ak_1, ak_2, ak_3, ak_4, ak_5, ak_6, ak_8, ak_11, ak_14, ak_15, ak_17, ak_20, ak_21, ak_22, ak_23, ak_24, ak_25, ak_26, ak_28, ak_29, ak_30, ak_31, ak_32, ak_33, ak_34, ak_35, ak_36, ak_37, eq_self, Int.toNat_natCast, Nat.zero_le, bI_0, b01_0, bI_or, b01_or, ne_eq, reduceCtorEq, not_false_eq_true, Nat.reduceEqDiff, if_true, if_false, ite_true, ite_false, Int.natCast_nonneg, not_true_eq_false, Bool.true_eq_false, Bool.false_eq_true, Int.reduceEq, Int.reduceLT, Int.reduceLE, Int.reduceToNat, and_self, inA, exists_eq, or_true, true_or, or_false, false_or, and_false, false_and, or_self])
  exact (L vU).mpr trivial
theorem sm_lived {d : Nat} {h : AH} {m n : Nat} {f : Nat → Int} (hw : WF (RV (h 17))) (hm : m < 8) (hn2 : n ≤ 160) (hf : ∀ j, j < 160 → wr (RV (h 17) 10 (160 * m + j)) = f j) : CallR (d + 8) 214 [vR 17 27, vI m, vI n] h (some (vI (livA (RV (h 17)) f n))) (fup h 17 (setRV (h 17) (livW (RV (h 17)) f (livM (RV (h 17)) f n)))) := by
  unfold livA
  have hV0 : RV (h 17) = RV (h 17) := rfl
  generalize hT : RV (h 17) = T at *
  have hle : livM T f n ≤ n := fst_le n (livC T f)
  have hmay := fun i (hi : i < livM T f n) => liv_may hi
  have hstop := fun (q : livM T f n < n) => liv_stop q
  have hwf := fun i (hi : i ≤ livM T f n) => liv_wf hw i hi
  generalize hM : livM T f n = M at *
  have ef2 : ∀ i, i < 160 → wr (livW T f i 10 (160 * m + i)) = f i := fun i hi => by
    rw [(liv_F T f i).1 10 (by omega)]
    exact hf i hi
  have L := lo_up (P := fun i => At (CallR (d + 7)) ac_214 2 [vR 17 27, vI m, vI n, vI (i : Int)] [] (fup h 17 (setRV (h 17) (livW T f i))) (fun v' h2 => v' = some (vI (if M < n then (M : Int) else -1)) ∧ h2 = fup h 17 (setRV (h 17) (livW T f M)))) M (fun i hi => by
      have q1 : (i : Int) < (n : Int) := by omega
      have hb := wf17 (h := h) (hwf i (by omega))
      have hs := hmay i hi
      have hs2 : mayV (RV ((fup h 17 (setRV (h 17) (livW T f i))) 17)) (f i) = true := by rw [fup_same, RV_set]; exact hs
      have e1 := ef2 i (by omega)
      have eP : passV (livW T f i) (f i) = livW T f (i + 1) := rfl
      rw [r214_2]
      simp only [r214_3, r214_4, r214_7, r214_8, r214_9, r214_10, r214_11, r214_14, r214_17, r214_20, r214_21, r214_22, r214_23, r214_24, r214_25, r214_26, r214_29, r214_32, r214_35, r214_38, r214_39, reduceIte, Option.some.injEq, and_assoc, exists_and_left, exists_eq_left, exists_eq_left', true_and, and_true, List.length_cons, List.length_nil, Nat.reduceAdd, Nat.reduceLeDiff, Sum.inl.injEq, az_0, az_1, az_2, az_3, az_4, az_5, az_6, az_8, az_11, az_14, az_15, az_17, az_20, az_21, az_22, az_23, az_24, az_25, az_26, az_28, az_29, az_30, az_31, az_32, az_33, az_34, az_35, az_36, ak_0, ak_1, ak_2, ak_3, ak_4, ak_5, ak_6, ak_8, ak_11, ak_14, ak_15, ak_17, ak_20, ak_21, ak_22, ak_23, ak_24, ak_25, ak_26, ak_28, ak_29, ak_30, ak_31, ak_32, ak_33, ak_34, ak_35, ak_36, ak_37, eq_self, Int.toNat_natCast, Nat.zero_le, bI_0, b01_0, bI_or, b01_or, ne_eq, reduceCtorEq, not_false_eq_true, Nat.reduceEqDiff, if_true, if_false, ite_true, ite_false, Int.natCast_nonneg, not_true_eq_false, Bool.true_eq_false, Bool.false_eq_true, Int.reduceEq, Int.reduceLT, Int.reduceLE, Int.reduceToNat, and_self, inA, exists_eq, or_true, true_or, or_false, false_or, and_false, false_and, or_self, q1, CallR_iff (sm_told hm (show i < 160 by omega)), e1, CallR_iff (sm_may hb), CallR_iff (sm_goOn hb hs2), fup_same, fup_fup, RV_set, set_set, hs, eP, wr_s (show i < 2147483647 by omega)])
  rw [show livW T f 0 = T from rfl, ← hT, set_RV, fup_id, hT] at L
  rw [cr_214]
  simp only [r214_0, r214_1]
  refine L.mpr ?_
  by_cases q : M < n
  · have q1 : (M : Int) < (n : Int) := by omega
    have hb := wf17 (h := h) (hwf M (Nat.le_refl _))
    have hs := hstop q
    have e1 := ef2 M (by omega)
    rw [r214_2]
    simp only [r214_3, r214_4, r214_7, r214_8, r214_9, r214_10, r214_11, r214_14, r214_17, r214_20, r214_21, r214_22, r214_23, r214_24, r214_25, r214_26, r214_29, r214_32, r214_35, r214_38, r214_39, reduceIte, Option.some.injEq, and_assoc, exists_and_left, exists_eq_left, exists_eq_left', true_and, and_true, List.length_cons, List.length_nil, Nat.reduceAdd, Nat.reduceLeDiff, Sum.inl.injEq, az_0, az_1, az_2, az_3, az_4, az_5, az_6, az_8, az_11, az_14, az_15, az_17, az_20, az_21, az_22, az_23, az_24, az_25, az_26, az_28, az_29, az_30, az_31, az_32, az_33, az_34, az_35, az_36, ak_0, ak_1, ak_2, ak_3, ak_4, ak_5, ak_6, ak_8, ak_11, ak_14, ak_15, ak_17, ak_20, ak_21, ak_22, ak_23, ak_24, ak_25, ak_26, ak_28, ak_29, ak_30, ak_31, ak_32, ak_33, ak_34, ak_35, ak_36, ak_37, eq_self, Int.toNat_natCast, Nat.zero_le, bI_0, b01_0, bI_or, b01_or, ne_eq, reduceCtorEq, not_false_eq_true, Nat.reduceEqDiff, if_true, if_false, ite_true, ite_false, Int.natCast_nonneg, not_true_eq_false, Bool.true_eq_false, Bool.false_eq_true, Int.reduceEq, Int.reduceLT, Int.reduceLE, Int.reduceToNat, and_self, inA, exists_eq, or_true, true_or, or_false, false_or, and_false, false_and, or_self, q, q1, CallR_iff (sm_told hm (show M < 160 by omega)), e1, CallR_iff (sm_may hb), fup_same, RV_set, hs]
  · have q1 : ¬ (M : Int) < (n : Int) := by omega
    rw [r214_2]
    simp only [r214_3, r214_4, r214_7, r214_8, r214_9, r214_10, r214_11, r214_14, r214_17, r214_20, r214_21, r214_22, r214_23, r214_24, r214_25, r214_26, r214_29, r214_32, r214_35, r214_38, r214_39, reduceIte, Option.some.injEq, and_assoc, exists_and_left, exists_eq_left, exists_eq_left', true_and, and_true, List.length_cons, List.length_nil, Nat.reduceAdd, Nat.reduceLeDiff, Sum.inl.injEq, az_0, az_1, az_2, az_3, az_4, az_5, az_6, az_8, az_11, az_14, az_15, az_17, az_20, az_21, az_22, az_23, az_24, az_25, az_26, az_28, az_29, az_30, az_31, az_32, az_33, az_34, az_35, az_36, ak_0, ak_1, ak_2, ak_3, ak_4, ak_5, ak_6, ak_8, ak_11, ak_14, ak_15, ak_17, ak_20, ak_21, ak_22, ak_23, ak_24, ak_25, ak_26, ak_28, ak_29, ak_30, ak_31, ak_32, ak_33, ak_34, ak_35, ak_36, ak_37, eq_self, Int.toNat_natCast, Nat.zero_le, bI_0, b01_0, bI_or, b01_or, ne_eq, reduceCtorEq, not_false_eq_true, Nat.reduceEqDiff, if_true, if_false, ite_true, ite_false, Int.natCast_nonneg, not_true_eq_false, Bool.true_eq_false, Bool.false_eq_true, Int.reduceEq, Int.reduceLT, Int.reduceLE, Int.reduceToNat, and_self, inA, exists_eq, or_true, true_or, or_false, false_or, and_false, false_and, or_self, q, q1]
def dayC (c L n : Int) (b : Bool) : Int := if c ≠ 0 then c else if n < 0 then -4 else if L < n ∨ b = false then -5 else if 60 < n then -6 else 0
theorem sx_noDay {S : VS} {d : Nat} {h : AH} {m : Nat} {n : Int} {b : Bool} (R : REL S h) (hm : m < 8) : CallR (d + 3) 121 [vR 16 10, vI m, vI n, vI (b01 b)] h (some (vI (dayC (noRowC (RV (h 17) 8 m)) (RV (h 17) 9 m) n b))) h := by
  have h8 : (m : Int) < 8 := by omega
  have ec := R.rowC hm
  unfold dayC
  by_cases h0 : noRowC (RV (h 17) 8 m) = 0
  · obtain ⟨e9, l0, l1, -⟩ := R.rowOk hm h0
    (rw [cr_121]; simp only [r121_0, r121_1, r121_2, r121_5, r121_7, r121_8, r121_9, r121_12, r121_14, r121_16, r121_19, r121_19n, r121_19s, r121_21, r121_21n, r121_24, r121_26, r121_27, r121_28, r121_31, r121_33, r121_34, r121_34n, r121_34s, r121_36, r121_39, r121_40, r121_43, r121_44, r121_47, r121_49, r121_50, r121_51, r121_53, r121_56, r121_58, r121_61, r121_62, CallR_iff (sx_noRow (Int.natCast_nonneg m) h8), CallR_iff (sx_shelf (Int.natCast_nonneg m) h8), ec, h0, e9, reduceIte, Option.some.injEq, and_assoc, exists_and_left, exists_eq_left, exists_eq_left', true_and, and_true, List.length_cons, List.length_nil, Nat.reduceAdd, Nat.reduceLeDiff, Sum.inl.injEq, az_0, az_1, az_2, az_3, az_4, az_5, az_6, az_8, az_11, az_14, az_15, az_17, az_20, az_21, az_22, az_23, az_24, az_25, az_26, az_28, az_29, az_30, az_31, az_32, az_33, az_34, az_35, az_36, ak_0, ak_1, ak_2, ak_3, ak_4, ak_5, ak_6, ak_8, ak_11, ak_14, ak_15, ak_17, ak_20, ak_21, ak_22, ak_23, ak_24, ak_25, ak_26, ak_28, ak_29, ak_30, ak_31, ak_32, ak_33, ak_34, ak_35, ak_36, ak_37, eq_self, Int.toNat_natCast, Nat.zero_le, bI_0, b01_0, bI_or, b01_or, ne_eq, reduceCtorEq, not_false_eq_true, Nat.reduceEqDiff, if_true, if_false, ite_true, ite_false, Int.natCast_nonneg, not_true_eq_false, Bool.true_eq_false, Bool.false_eq_true, Int.reduceEq, Int.reduceLT, Int.reduceLE, Int.reduceToNat, and_self, inA, exists_eq, or_true, true_or, or_false, false_or, and_false, false_and, or_self])
    by_cases a : n < 0
    · simp [a]
    · by_cases c : RV (h 17) 9 m < n
      · simp [a, c]
      · by_cases e : 60 < n
        · cases b <;> simp [a, c, e]
        · cases b <;> simp [a, c, e]
  · (rw [cr_121]; simp only [r121_0, r121_1, r121_2, r121_5, r121_7, r121_8, r121_9, r121_12, r121_14, r121_16, r121_19, r121_19n, r121_19s, r121_21, r121_21n, r121_24, r121_26, r121_27, r121_28, r121_31, r121_33, r121_34, r121_34n, r121_34s, r121_36, r121_39, r121_40, r121_43, r121_44, r121_47, r121_49, r121_50, r121_51, r121_53, r121_56, r121_58, r121_61, r121_62, CallR_iff (sx_noRow (Int.natCast_nonneg m) h8), CallR_iff (sx_shelf (Int.natCast_nonneg m) h8), ec, h0, reduceIte, Option.some.injEq, and_assoc, exists_and_left, exists_eq_left, exists_eq_left', true_and, and_true, List.length_cons, List.length_nil, Nat.reduceAdd, Nat.reduceLeDiff, Sum.inl.injEq, az_0, az_1, az_2, az_3, az_4, az_5, az_6, az_8, az_11, az_14, az_15, az_17, az_20, az_21, az_22, az_23, az_24, az_25, az_26, az_28, az_29, az_30, az_31, az_32, az_33, az_34, az_35, az_36, ak_0, ak_1, ak_2, ak_3, ak_4, ak_5, ak_6, ak_8, ak_11, ak_14, ak_15, ak_17, ak_20, ak_21, ak_22, ak_23, ak_24, ak_25, ak_26, ak_28, ak_29, ak_30, ak_31, ak_32, ak_33, ak_34, ak_35, ak_36, ak_37, eq_self, Int.toNat_natCast, Nat.zero_le, bI_0, b01_0, bI_or, b01_or, ne_eq, reduceCtorEq, not_false_eq_true, Nat.reduceEqDiff, if_true, if_false, ite_true, ite_false, Int.natCast_nonneg, not_true_eq_false, Bool.true_eq_false, Bool.false_eq_true, Int.reduceEq, Int.reduceLT, Int.reduceLE, Int.reduceToNat, and_self, inA, exists_eq, or_true, true_or, or_false, false_or, and_false, false_and, or_self])
theorem sx_noDayN {d : Nat} {h : AH} {s n x : Int} (hs : ¬ (0 ≤ s ∧ s < 8)) : CallR (d + 3) 121 [vR 16 10, vI s, vI n, vI x] h (some (vI (-1))) h := by
  (rw [cr_121]; simp only [r121_0, r121_1, r121_2, r121_5, r121_7, r121_8, r121_9, r121_12, r121_14, r121_16, r121_19, r121_19n, r121_19s, r121_21, r121_21n, r121_24, r121_26, r121_27, r121_28, r121_31, r121_33, r121_34, r121_34n, r121_34s, r121_36, r121_39, r121_40, r121_43, r121_44, r121_47, r121_49, r121_50, r121_51, r121_53, r121_56, r121_58, r121_61, r121_62, CallR_iff (sx_noRowN hs), CallR_iff (sx_shelfN hs), reduceIte, Option.some.injEq, and_assoc, exists_and_left, exists_eq_left, exists_eq_left', true_and, and_true, List.length_cons, List.length_nil, Nat.reduceAdd, Nat.reduceLeDiff, Sum.inl.injEq, az_0, az_1, az_2, az_3, az_4, az_5, az_6, az_8, az_11, az_14, az_15, az_17, az_20, az_21, az_22, az_23, az_24, az_25, az_26, az_28, az_29, az_30, az_31, az_32, az_33, az_34, az_35, az_36, ak_0, ak_1, ak_2, ak_3, ak_4, ak_5, ak_6, ak_8, ak_11, ak_14, ak_15, ak_17, ak_20, ak_21, ak_22, ak_23, ak_24, ak_25, ak_26, ak_28, ak_29, ak_30, ak_31, ak_32, ak_33, ak_34, ak_35, ak_36, ak_37, eq_self, Int.toNat_natCast, Nat.zero_le, bI_0, b01_0, bI_or, b01_or, ne_eq, reduceCtorEq, not_false_eq_true, Nat.reduceEqDiff, if_true, if_false, ite_true, ite_false, Int.natCast_nonneg, not_true_eq_false, Bool.true_eq_false, Bool.false_eq_true, Int.reduceEq, Int.reduceLT, Int.reduceLE, Int.reduceToNat, and_self, inA, exists_eq, or_true, true_or, or_false, false_or, and_false, false_and, or_self])
theorem sm_noDay {d : Nat} {h : AH} {m : Nat} {n : Int} (hm : m < 8) (hc : noRowC (RV (h 17) 8 m) ≤ 0) : CallR (d + 3) 213 [vR 17 27, vI m, vI n] h (some (vI (dayC (noRowC (RV (h 17) 8 m)) (RV (h 17) 9 m) n true))) h := by
  have h8 : (m : Int) < 8 := by omega
  unfold dayC
  by_cases h0 : noRowC (RV (h 17) 8 m) = 0
  · (rw [cr_213]; simp only [r213_0, r213_1, r213_2, r213_5, r213_6, r213_7, r213_10, r213_11, r213_12, r213_13, r213_16, r213_18, r213_19, r213_20, r213_21, r213_24, r213_25, r213_26, r213_29, r213_31, r213_32, r213_33, r213_35, r213_38, r213_40, r213_43, r213_44, CallR_iff (sm_noRow (Int.natCast_nonneg m) h8), h0, h8, reduceIte, Option.some.injEq, and_assoc, exists_and_left, exists_eq_left, exists_eq_left', true_and, and_true, List.length_cons, List.length_nil, Nat.reduceAdd, Nat.reduceLeDiff, Sum.inl.injEq, az_0, az_1, az_2, az_3, az_4, az_5, az_6, az_8, az_11, az_14, az_15, az_17, az_20, az_21, az_22, az_23, az_24, az_25, az_26, az_28, az_29, az_30, az_31, az_32, az_33, az_34, az_35, az_36, ak_0, ak_1, ak_2, ak_3, ak_4, ak_5, ak_6, ak_8, ak_11, ak_14, ak_15, ak_17, ak_20, ak_21, ak_22, ak_23, ak_24, ak_25, ak_26, ak_28, ak_29, ak_30, ak_31, ak_32, ak_33, ak_34, ak_35, ak_36, ak_37, eq_self, Int.toNat_natCast, Nat.zero_le, bI_0, b01_0, bI_or, b01_or, ne_eq, reduceCtorEq, not_false_eq_true, Nat.reduceEqDiff, if_true, if_false, ite_true, ite_false, Int.natCast_nonneg, not_true_eq_false, Bool.true_eq_false, Bool.false_eq_true, Int.reduceEq, Int.reduceLT, Int.reduceLE, Int.reduceToNat, and_self, inA, exists_eq, or_true, true_or, or_false, false_or, and_false, false_and, or_self])
    rw [RV_9]
    by_cases a : n < 0
    · simp [a]
    · by_cases c : h 17 29 m < n
      · simp [a, c, show ¬ n ≤ h 17 29 m by omega]
      · by_cases e : 60 < n
        · simp [a, c, e, show n ≤ h 17 29 m by omega]
        · simp [a, c, e, show n ≤ h 17 29 m by omega]
  · have hneg : noRowC (RV (h 17) 8 m) < 0 := by omega
    (rw [cr_213]; simp only [r213_0, r213_1, r213_2, r213_5, r213_6, r213_7, r213_10, r213_11, r213_12, r213_13, r213_16, r213_18, r213_19, r213_20, r213_21, r213_24, r213_25, r213_26, r213_29, r213_31, r213_32, r213_33, r213_35, r213_38, r213_40, r213_43, r213_44, CallR_iff (sm_noRow (Int.natCast_nonneg m) h8), h0, hneg, reduceIte, Option.some.injEq, and_assoc, exists_and_left, exists_eq_left, exists_eq_left', true_and, and_true, List.length_cons, List.length_nil, Nat.reduceAdd, Nat.reduceLeDiff, Sum.inl.injEq, az_0, az_1, az_2, az_3, az_4, az_5, az_6, az_8, az_11, az_14, az_15, az_17, az_20, az_21, az_22, az_23, az_24, az_25, az_26, az_28, az_29, az_30, az_31, az_32, az_33, az_34, az_35, az_36, ak_0, ak_1, ak_2, ak_3, ak_4, ak_5, ak_6, ak_8, ak_11, ak_14, ak_15, ak_17, ak_20, ak_21, ak_22, ak_23, ak_24, ak_25, ak_26, ak_28, ak_29, ak_30, ak_31, ak_32, ak_33, ak_34, ak_35, ak_36, ak_37, eq_self, Int.toNat_natCast, Nat.zero_le, bI_0, b01_0, bI_or, b01_or, ne_eq, reduceCtorEq, not_false_eq_true, Nat.reduceEqDiff, if_true, if_false, ite_true, ite_false, Int.natCast_nonneg, not_true_eq_false, Bool.true_eq_false, Bool.false_eq_true, Int.reduceEq, Int.reduceLT, Int.reduceLE, Int.reduceToNat, and_self, inA, exists_eq, or_true, true_or, or_false, false_or, and_false, false_and, or_self])
theorem sm_noDayN {d : Nat} {h : AH} {s n : Int} (hs : ¬ (0 ≤ s ∧ s < 8)) : CallR (d + 3) 213 [vR 17 27, vI s, vI n] h (some (vI (-1))) h := by
  (rw [cr_213]; simp only [r213_0, r213_1, r213_2, r213_5, r213_6, r213_7, r213_10, r213_11, r213_12, r213_13, r213_16, r213_18, r213_19, r213_20, r213_21, r213_24, r213_25, r213_26, r213_29, r213_31, r213_32, r213_33, r213_35, r213_38, r213_40, r213_43, r213_44, CallR_iff (sm_noRowN hs), reduceIte, Option.some.injEq, and_assoc, exists_and_left, exists_eq_left, exists_eq_left', true_and, and_true, List.length_cons, List.length_nil, Nat.reduceAdd, Nat.reduceLeDiff, Sum.inl.injEq, az_0, az_1, az_2, az_3, az_4, az_5, az_6, az_8, az_11, az_14, az_15, az_17, az_20, az_21, az_22, az_23, az_24, az_25, az_26, az_28, az_29, az_30, az_31, az_32, az_33, az_34, az_35, az_36, ak_0, ak_1, ak_2, ak_3, ak_4, ak_5, ak_6, ak_8, ak_11, ak_14, ak_15, ak_17, ak_20, ak_21, ak_22, ak_23, ak_24, ak_25, ak_26, ak_28, ak_29, ak_30, ak_31, ak_32, ak_33, ak_34, ak_35, ak_36, ak_37, eq_self, Int.toNat_natCast, Nat.zero_le, bI_0, b01_0, bI_or, b01_or, ne_eq, reduceCtorEq, not_false_eq_true, Nat.reduceEqDiff, if_true, if_false, ite_true, ite_false, Int.natCast_nonneg, not_true_eq_false, Bool.true_eq_false, Bool.false_eq_true, Int.reduceEq, Int.reduceLT, Int.reduceLE, Int.reduceToNat, and_self, inA, exists_eq, or_true, true_or, or_false, false_or, and_false, false_and, or_self])
theorem day_cases {S : VS} {h : AH} (R : REL S h) {m : Nat} (hm : m < 8) (n : Int) (b : Bool) : (dayC (noRowC (RV (h 17) 8 m)) (RV (h 17) 9 m) n b = 0 ∧ noRowC (RV (h 17) 8 m) = 0 ∧ 0 ≤ n ∧ n ≤ 60 ∧ n ≤ RV (h 17) 9 m ∧ b = true) ∨ (-6 ≤ dayC (noRowC (RV (h 17) 8 m)) (RV (h 17) 9 m) n b ∧ dayC (noRowC (RV (h 17) 8 m)) (RV (h 17) 9 m) n b ≤ -2) := by
  have hc := R.rowNo hm
  unfold dayC
  (repeat' split) <;> simp_all <;> omega
theorem ok_judge {S : VS} {d : Nat} {h : AH} {s n : Int} (R : REL S h) : OKI S d 118 215 [vI s, vI n] h := by
  have E := R.ev
  have hw := R.w
  have hw0 := R.w0
  by_cases hs : 0 ≤ s ∧ s < 8
  · obtain ⟨m, rfl⟩ : ∃ m : Nat, s = (m : Int) := ⟨s.toNat, by omega⟩
    have hm : m < 8 := by omega
    have hc0 : noRowC (RV (h 17) 8 m) ≤ 0 := by have := R.rowNo hm; omega
    rcases day_cases R hm n true with ⟨e0, n0, n1, n2, n3, -⟩ | ⟨l1, l2⟩
    · obtain ⟨n, rfl⟩ : ∃ q : Nat, n = (q : Int) := ⟨n.toNat, by omega⟩
      obtain ⟨e9, l0, l1, hel⟩ := R.rowOk hm n0
      have hf1 : ∀ j, j < 160 → wr (h (8 + m) 8 j) = (fun j => wr (RV (h 17) 10 (160 * m + j))) j := fun j hj => by rw [hel j hj]
      have sx := sx_tryDay (d := d + 21) hw0 hm (by rw [e9]; exact n3) (show n ≤ 160 by omega) hf1
      have EW := evT R
      rw [EW.c_livA] at sx
      have sm := sm_lived (d := d + 21) (h := fup (fup h 2 (livW (becV (h 2) (h 0)) (fun j => wr (RV (h 17) 10 (160 * m + j))) (livM (becV (h 2) (h 0)) (fun j => wr (RV (h 17) 10 (160 * m + j))) n))) 17 (setRV (h 17) (kpV (RV (h 17))))) (m := m) (n := n) (f := fun j => wr (RV (h 17) 10 (160 * m + j))) (by rw [fup_same, RV_set]; exact kp_wf hw) hm (by omega) (fun j hj => by rw [fup_same, RV_set]; rfl)
      rw [fup_same, RV_set, (kp_EV (RV (h 17))).c_livA, set_set, fup_fup] at sm
      have sd := sx_noDay (d := d + 26) (n := (n : Int)) (b := true) R hm
      rw [e0, show b01 true = 1 from rfl] at sd
      have hmd := sm_noDay (d := d + 26) (h := (fup h 2 (livW (becV (h 2) (h 0)) (fun j => wr (RV (h 17) 10 (160 * m + j))) (livM (becV (h 2) (h 0)) (fun j => wr (RV (h 17) 10 (160 * m + j))) n)))) (m := m) (n := (n : Int)) hm hc0
      change CallR _ _ _ _ (some (vI (dayC (noRowC (RV (h 17) 8 m)) (RV (h 17) 9 m) n true))) _ at hmd
      rw [e0] at hmd
      generalize hWX : livW (becV (h 2) (h 0)) (fun j => wr (RV (h 17) 10 (160 * m + j))) (livM (becV (h 2) (h 0)) (fun j => wr (RV (h 17) 10 (160 * m + j))) n) = WX at *
      refine ⟨livA (RV (h 17)) (fun j => wr (RV (h 17) 10 (160 * m + j))) n, fup h 2 WX, fup (fup h 2 WX) 17 (setRV (h 17) (qrV (livW (kpV (RV (h 17))) (fun j => wr (RV (h 17) 10 (160 * m + j))) (livM (kpV (RV (h 17))) (fun j => wr (RV (h 17) 10 (160 * m + j))) n)))), ?_, ?_, R.qry ((SX.rf h).t (by omega) (by omega) _) (qr_MEQ hw (liv_wf (kp_wf hw) _ (Nat.le_refl _)) (liv_F _ _ _))⟩
      · (rw [cr_118]; simp only [r118_0, r118_1, r118_2, r118_3, r118_4, r118_7, r118_8, r118_9, r118_12, r118_13, r118_14, r118_17, r118_19, r118_20, r118_23, r118_24, r118_25, r118_26, r118_29, CallR_iff sd, CallR_iff sx, reduceIte, Option.some.injEq, and_assoc, exists_and_left, exists_eq_left, exists_eq_left', true_and, and_true, List.length_cons, List.length_nil, Nat.reduceAdd, Nat.reduceLeDiff, Sum.inl.injEq, az_0, az_1, az_2, az_3, az_4, az_5, az_6, az_8, az_11, az_14, az_15, az_17, az_20, az_21, az_22, az_23, az_24, az_25, az_26, az_28, az_29, az_30, az_31, az_32, az_33, az_34, az_35, az_36, ak_0, ak_1, ak_2, ak_3, ak_4, ak_5, ak_6, ak_8, ak_11, ak_14, ak_15, ak_17, ak_20, ak_21, ak_22, ak_23, ak_24, ak_25, ak_26, ak_28, ak_29, ak_30, ak_31, ak_32, ak_33, ak_34, ak_35, ak_36, ak_37, eq_self, Int.toNat_natCast, Nat.zero_le, bI_0, b01_0, bI_or, b01_or, ne_eq, reduceCtorEq, not_false_eq_true, Nat.reduceEqDiff, if_true, if_false, ite_true, ite_false, Int.natCast_nonneg, not_true_eq_false, Bool.true_eq_false, Bool.false_eq_true, Int.reduceEq, Int.reduceLT, Int.reduceLE, Int.reduceToNat, and_self, inA, exists_eq, or_true, true_or, or_false, false_or, and_false, false_and, or_self])
      · (rw [cr_215]; simp only [r215_0, r215_1, r215_2, r215_3, r215_6, r215_7, r215_8, r215_11, r215_12, r215_13, r215_16, r215_17, r215_18, r215_19, r215_22, r215_25, r215_26, r215_27, r215_28, r215_31, r215_33, r215_34, r215_35, r215_38, r215_41, r215_43, CallR_iff hmd, CallR_iff sm_keepNow, fup_ne, CallR_iff sm, CallR_iff sm_againNow, fup_same, fup_fup, RV_set, set_set, reduceIte, Option.some.injEq, and_assoc, exists_and_left, exists_eq_left, exists_eq_left', true_and, and_true, List.length_cons, List.length_nil, Nat.reduceAdd, Nat.reduceLeDiff, Sum.inl.injEq, az_0, az_1, az_2, az_3, az_4, az_5, az_6, az_8, az_11, az_14, az_15, az_17, az_20, az_21, az_22, az_23, az_24, az_25, az_26, az_28, az_29, az_30, az_31, az_32, az_33, az_34, az_35, az_36, ak_0, ak_1, ak_2, ak_3, ak_4, ak_5, ak_6, ak_8, ak_11, ak_14, ak_15, ak_17, ak_20, ak_21, ak_22, ak_23, ak_24, ak_25, ak_26, ak_28, ak_29, ak_30, ak_31, ak_32, ak_33, ak_34, ak_35, ak_36, ak_37, eq_self, Int.toNat_natCast, Nat.zero_le, bI_0, b01_0, bI_or, b01_or, ne_eq, reduceCtorEq, not_false_eq_true, Nat.reduceEqDiff, if_true, if_false, ite_true, ite_false, Int.natCast_nonneg, not_true_eq_false, Bool.true_eq_false, Bool.false_eq_true, Int.reduceEq, Int.reduceLT, Int.reduceLE, Int.reduceToNat, and_self, inA, exists_eq, or_true, true_or, or_false, false_or, and_false, false_and, or_self])
    · generalize hq : dayC (noRowC (RV (h 17) 8 m)) (RV (h 17) 9 m) n true = q at *
      have q0 : ¬ q = 0 := by omega
      have q1 : q < 0 := by omega
      have sd := sx_noDay (d := d + 26) (n := n) (b := true) R hm
      rw [hq, show b01 true = 1 from rfl] at sd
      have ewq : wr (q + -10) = q - 10 := by
        rw [wr_id (by omega) (by omega)]
        omega
      refine R.refused (c := q) (x := q - 10) ?_ (fun h1 e => ?_)
      · (rw [cr_118]; simp only [r118_0, r118_1, r118_2, r118_3, r118_4, r118_7, r118_8, r118_9, r118_12, r118_13, r118_14, r118_17, r118_19, r118_20, r118_23, r118_24, r118_25, r118_26, r118_29, CallR_iff sd, CallR_iff (sx_refuse (c := q) (by omega) (by omega)), q0, ewq, reduceIte, Option.some.injEq, and_assoc, exists_and_left, exists_eq_left, exists_eq_left', true_and, and_true, List.length_cons, List.length_nil, Nat.reduceAdd, Nat.reduceLeDiff, Sum.inl.injEq, az_0, az_1, az_2, az_3, az_4, az_5, az_6, az_8, az_11, az_14, az_15, az_17, az_20, az_21, az_22, az_23, az_24, az_25, az_26, az_28, az_29, az_30, az_31, az_32, az_33, az_34, az_35, az_36, ak_0, ak_1, ak_2, ak_3, ak_4, ak_5, ak_6, ak_8, ak_11, ak_14, ak_15, ak_17, ak_20, ak_21, ak_22, ak_23, ak_24, ak_25, ak_26, ak_28, ak_29, ak_30, ak_31, ak_32, ak_33, ak_34, ak_35, ak_36, ak_37, eq_self, Int.toNat_natCast, Nat.zero_le, bI_0, b01_0, bI_or, b01_or, ne_eq, reduceCtorEq, not_false_eq_true, Nat.reduceEqDiff, if_true, if_false, ite_true, ite_false, Int.natCast_nonneg, not_true_eq_false, Bool.true_eq_false, Bool.false_eq_true, Int.reduceEq, Int.reduceLT, Int.reduceLE, Int.reduceToNat, and_self, inA, exists_eq, or_true, true_or, or_false, false_or, and_false, false_and, or_self])
      · have hmd := sm_noDay (d := d + 26) (h := h1) (m := m) (n := n) hm (by rw [e]; exact hc0)
        rw [e, hq] at hmd
        (rw [cr_215]; simp only [r215_0, r215_1, r215_2, r215_3, r215_6, r215_7, r215_8, r215_11, r215_12, r215_13, r215_16, r215_17, r215_18, r215_19, r215_22, r215_25, r215_26, r215_27, r215_28, r215_31, r215_33, r215_34, r215_35, r215_38, r215_41, r215_43, CallR_iff hmd, CallR_iff (sm_no10 (c := q) (by omega) (by omega)), q1, reduceIte, Option.some.injEq, and_assoc, exists_and_left, exists_eq_left, exists_eq_left', true_and, and_true, List.length_cons, List.length_nil, Nat.reduceAdd, Nat.reduceLeDiff, Sum.inl.injEq, az_0, az_1, az_2, az_3, az_4, az_5, az_6, az_8, az_11, az_14, az_15, az_17, az_20, az_21, az_22, az_23, az_24, az_25, az_26, az_28, az_29, az_30, az_31, az_32, az_33, az_34, az_35, az_36, ak_0, ak_1, ak_2, ak_3, ak_4, ak_5, ak_6, ak_8, ak_11, ak_14, ak_15, ak_17, ak_20, ak_21, ak_22, ak_23, ak_24, ak_25, ak_26, ak_28, ak_29, ak_30, ak_31, ak_32, ak_33, ak_34, ak_35, ak_36, ak_37, eq_self, Int.toNat_natCast, Nat.zero_le, bI_0, b01_0, bI_or, b01_or, ne_eq, reduceCtorEq, not_false_eq_true, Nat.reduceEqDiff, if_true, if_false, ite_true, ite_false, Int.natCast_nonneg, not_true_eq_false, Bool.true_eq_false, Bool.false_eq_true, Int.reduceEq, Int.reduceLT, Int.reduceLE, Int.reduceToNat, and_self, inA, exists_eq, or_true, true_or, or_false, false_or, and_false, false_and, or_self])
  · refine R.refused (c := -1) (x := -11) ?_ (fun h1 e => ?_)
    · (rw [cr_118]; simp only [r118_0, r118_1, r118_2, r118_3, r118_4, r118_7, r118_8, r118_9, r118_12, r118_13, r118_14, r118_17, r118_19, r118_20, r118_23, r118_24, r118_25, r118_26, r118_29, CallR_iff (sx_noDayN hs), CallR_iff (sx_refuse (c := -1) (by decide) (by decide)), show wr (-1 + -10) = -11 by decide, reduceIte, Option.some.injEq, and_assoc, exists_and_left, exists_eq_left, exists_eq_left', true_and, and_true, List.length_cons, List.length_nil, Nat.reduceAdd, Nat.reduceLeDiff, Sum.inl.injEq, az_0, az_1, az_2, az_3, az_4, az_5, az_6, az_8, az_11, az_14, az_15, az_17, az_20, az_21, az_22, az_23, az_24, az_25, az_26, az_28, az_29, az_30, az_31, az_32, az_33, az_34, az_35, az_36, ak_0, ak_1, ak_2, ak_3, ak_4, ak_5, ak_6, ak_8, ak_11, ak_14, ak_15, ak_17, ak_20, ak_21, ak_22, ak_23, ak_24, ak_25, ak_26, ak_28, ak_29, ak_30, ak_31, ak_32, ak_33, ak_34, ak_35, ak_36, ak_37, eq_self, Int.toNat_natCast, Nat.zero_le, bI_0, b01_0, bI_or, b01_or, ne_eq, reduceCtorEq, not_false_eq_true, Nat.reduceEqDiff, if_true, if_false, ite_true, ite_false, Int.natCast_nonneg, not_true_eq_false, Bool.true_eq_false, Bool.false_eq_true, Int.reduceEq, Int.reduceLT, Int.reduceLE, Int.reduceToNat, and_self, inA, exists_eq, or_true, true_or, or_false, false_or, and_false, false_and, or_self])
    · (rw [cr_215]; simp only [r215_0, r215_1, r215_2, r215_3, r215_6, r215_7, r215_8, r215_11, r215_12, r215_13, r215_16, r215_17, r215_18, r215_19, r215_22, r215_25, r215_26, r215_27, r215_28, r215_31, r215_33, r215_34, r215_35, r215_38, r215_41, r215_43, CallR_iff (sm_noDayN hs), CallR_iff (sm_no10 (c := -1) (by decide) (by decide)), show (-1 - 10 : Int) = -11 by decide, reduceIte, Option.some.injEq, and_assoc, exists_and_left, exists_eq_left, exists_eq_left', true_and, and_true, List.length_cons, List.length_nil, Nat.reduceAdd, Nat.reduceLeDiff, Sum.inl.injEq, az_0, az_1, az_2, az_3, az_4, az_5, az_6, az_8, az_11, az_14, az_15, az_17, az_20, az_21, az_22, az_23, az_24, az_25, az_26, az_28, az_29, az_30, az_31, az_32, az_33, az_34, az_35, az_36, ak_0, ak_1, ak_2, ak_3, ak_4, ak_5, ak_6, ak_8, ak_11, ak_14, ak_15, ak_17, ak_20, ak_21, ak_22, ak_23, ak_24, ak_25, ak_26, ak_28, ak_29, ak_30, ak_31, ak_32, ak_33, ak_34, ak_35, ak_36, ak_37, eq_self, Int.toNat_natCast, Nat.zero_le, bI_0, b01_0, bI_or, b01_or, ne_eq, reduceCtorEq, not_false_eq_true, Nat.reduceEqDiff, if_true, if_false, ite_true, ite_false, Int.natCast_nonneg, not_true_eq_false, Bool.true_eq_false, Bool.false_eq_true, Int.reduceEq, Int.reduceLT, Int.reduceLE, Int.reduceToNat, and_self, inA, exists_eq, or_true, true_or, or_false, false_or, and_false, false_and, or_self])
