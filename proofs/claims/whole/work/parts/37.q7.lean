/-! PURE: lasts, keep -/
def fstN (c : Nat → Bool) : Nat → Nat
  | 0 => 0
  | n + 1 => if c 0 = true then 0 else fstN (fun i => c (i + 1)) n + 1
theorem fst_le : ∀ (n : Nat) (c : Nat → Bool), fstN c n ≤ n
  | 0, _ => Nat.le_refl _
  | n + 1, c => by
    unfold fstN
    have := fst_le n (fun i => c (i + 1))
    split <;> omega
theorem fst_lt : ∀ (n : Nat) (c : Nat → Bool), fstN c n < n → c (fstN c n) = true
  | 0, _, h => absurd h (by omega)
  | n + 1, c, h => by
    unfold fstN at h ⊢
    split
    · next q => exact q
    · next q =>
      rw [if_neg q] at h
      exact fst_lt n (fun i => c (i + 1)) (by omega)
theorem fst_no : ∀ (n : Nat) (c : Nat → Bool) (i : Nat), i < fstN c n → c i = false
  | 0, _, i, h => absurd h (by unfold fstN; omega)
  | n + 1, c, i, h => by
    unfold fstN at h
    split at h
    · omega
    · next q =>
      match i with
      | 0 => cases e : c 0; rfl; exact absurd e q
      | i + 1 => exact fst_no n (fun i => c (i + 1)) i (by omega)
theorem clsF_0 (x : Int) : clsF x = 0 ↔ x < 10 := by unfold clsF; (repeat' split) <;> omega
theorem MEQ_of {V W : VS} (E : EV W V) (G : FRM (kpV V) W) : MEQ V W := ⟨E.sy, ⟨(G.1 8 (by omega)).symm, (G.1 9 (by omega)).symm, (G.1 10 (by omega)).symm, (G.1 11 (by omega)).symm, (G.1 12 (by omega)).symm, (G.1 13 (by omega)).symm⟩, (G.2 20 (by omega)).symm, (G.2 21 (by omega)).symm, (G.2 22 (by omega)).symm⟩
theorem MEQ.rf (V : VS) : MEQ V V := ⟨EV.rf V, ⟨rfl, rfl, rfl, rfl, rfl, rfl⟩, rfl, rfl, rfl⟩
theorem MEQ.tr {V V' W : VS} (a : MEQ V V') (b : MEQ V' W) : MEQ V W := by
  obtain ⟨a1, ⟨a2, a3, a4, a5, a6, a7⟩, a8, a9, a10⟩ := a
  obtain ⟨b1, ⟨b2, b3, b4, b5, b6, b7⟩, b8, b9, b10⟩ := b
  exact ⟨a1.tr b1, ⟨a2.trans b2, a3.trans b3, a4.trans b4, a5.trans b5, a6.trans b6, a7.trans b7⟩, a8.trans b8, a9.trans b9, a10.trans b10⟩
def laC (V : VS) (b : Nat) (i : Nat) : Bool := decide (waitV V i 4 b < 10)
theorem EV.c_la {V V' : VS} (E : EV V V') (b : Nat) : laC V b = laC V' b := by funext i; unfold laC; rw [(E.c_waitV i).2.2.2.1]
def lastsV (V : VS) (b : Nat) : Int := if fstN (laC V b) 100 < 100 then ((fstN (laC V b) 100 : Nat) : Int) else -1
theorem sm_lasts {d : Nat} {h : AH} {b : Nat} (hw : WF (RV (h 17))) (hb : (b : Int) < RV (h 17) 7 8) : CallR (d + 8) 199 [vR 17 27, vI b] h (some (vI (lastsV (RV (h 17)) b))) (fup h 17 (setRV (h 17) (qrV (waitV (kpV (RV (h 17))) (fstN (laC (RV (h 17)) b) 100))))) := by
  have hb8 := hw.bd.2.2.2
  rw [RV_7] at hb hb8
  have h12 : (b : Int) < 12 := by omega
  have EK := kp_EV (RV (h 17))
  unfold lastsV
  rw [← EK.c_la]
  have hwK : ∀ i, WF (RV ((fup h 17 (setRV (h 17) (waitV (kpV (RV (h 17))) i))) 17)) := fun i => wf17 (wait_wf (kp_wf hw) i)
  have eS : ∀ i, waitV (waitV (kpV (RV (h 17))) i) 1 = waitV (kpV (RV (h 17))) (i + 1) := fun i => rfl
  have eK : waitV (kpV (RV (h 17))) 0 = kpV (RV (h 17)) := rfl
  generalize hK : kpV (RV (h 17)) = K at *
  have hle := fst_le 100 (laC K b)
  have hlt := fst_lt 100 (laC K b)
  have hno := fst_no 100 (laC K b)
  generalize hm : fstN (laC K b) 100 = m at *
  have L := lo_up (P := fun i => At (CallR (d + 7)) ac_199 24 [vR 17 27, vI b, vI (i : Int)] [] (fup h 17 (setRV (h 17) (waitV K i))) (fun v' h2 => v' = some (vI (if m < 100 then (m : Int) else -1)) ∧ h2 = fup h 17 (setRV (h 17) (qrV (waitV K m))))) m (fun i hi => by
    have h1 : (i : Int) < 100 := by omega
    have hn := hno i hi
    unfold laC at hn
    rw [decide_eq_false_iff_not] at hn
    have hq := hwK i
    have eSi := eS i
    rw [r199_24]
    simp only [r199_25, r199_27, r199_30, r199_31, r199_34, r199_35, r199_36, r199_38, r199_41, r199_42, r199_43, r199_46, r199_49, r199_52, r199_53, r199_54, r199_57, r199_60, r199_61, r199_63, r199_66, r199_67, r199_70, r199_71, reduceIte, Option.some.injEq, and_assoc, exists_and_left, exists_eq_left, exists_eq_left', true_and, and_true, List.length_cons, List.length_nil, Nat.reduceAdd, Nat.reduceLeDiff, Sum.inl.injEq, az_0, az_1, az_2, az_3, az_4, az_5, az_6, az_8, az_11, az_14, az_15, az_17, az_20, az_21, az_22, az_23, az_24, az_25, az_26, az_28, az_29, az_30, az_31, az_32, az_33, az_34, az_35, az_36, ak_0, ak_1, ak_2, ak_3, ak_4, ak_5, ak_6, ak_8, ak_11, ak_14, ak_15, ak_17, ak_20, ak_21, ak_22, ak_23, ak_24, ak_25, ak_26, ak_28, ak_29, ak_30, ak_31, ak_32, ak_33, ak_34, ak_35, ak_36, ak_37, eq_self, Int.toNat_natCast, Nat.zero_le, bI_0, b01_0, bI_or, b01_or, ne_eq, reduceCtorEq, not_false_eq_true, Nat.reduceEqDiff, if_true, if_false, ite_true, ite_false, Int.natCast_nonneg, not_true_eq_false, Bool.true_eq_false, Bool.false_eq_true, Int.reduceEq, Int.reduceLT, Int.reduceLE, Int.reduceToNat, and_self, inA, exists_eq, or_true, true_or, or_false, false_or, and_false, false_and, or_self, fup_same, sV_4, h1, h12, hn, CallR_iff (sm_waits hq (show (0 : Int) ≤ 1 by decide) (by decide)), RV_set, set_set, fup_fup, wr_s (show i < 2147483647 by omega), eSi])
  rw [eK] at L
  (rw [cr_199]; simp only [r199_0, r199_1, r199_2, r199_5, r199_8, r199_9, r199_10, r199_13, r199_14, r199_15, r199_16, r199_19, r199_22, r199_23, CallR_iff (sm_isBottle hw.bd), CallR_iff sm_keepNow, RV_7, hb, h12, hK, reduceIte, Option.some.injEq, and_assoc, exists_and_left, exists_eq_left, exists_eq_left', true_and, and_true, List.length_cons, List.length_nil, Nat.reduceAdd, Nat.reduceLeDiff, Sum.inl.injEq, az_0, az_1, az_2, az_3, az_4, az_5, az_6, az_8, az_11, az_14, az_15, az_17, az_20, az_21, az_22, az_23, az_24, az_25, az_26, az_28, az_29, az_30, az_31, az_32, az_33, az_34, az_35, az_36, ak_0, ak_1, ak_2, ak_3, ak_4, ak_5, ak_6, ak_8, ak_11, ak_14, ak_15, ak_17, ak_20, ak_21, ak_22, ak_23, ak_24, ak_25, ak_26, ak_28, ak_29, ak_30, ak_31, ak_32, ak_33, ak_34, ak_35, ak_36, ak_37, eq_self, Int.toNat_natCast, Nat.zero_le, bI_0, b01_0, bI_or, b01_or, ne_eq, reduceCtorEq, not_false_eq_true, Nat.reduceEqDiff, if_true, if_false, ite_true, ite_false, Int.natCast_nonneg, not_true_eq_false, Bool.true_eq_false, Bool.false_eq_true, Int.reduceEq, Int.reduceLT, Int.reduceLE, Int.reduceToNat, and_self, inA, exists_eq, or_true, true_or, or_false, false_or, and_false, false_and, or_self])
  refine L.mpr ?_
  by_cases q : m < 100
  · have q1 : (m : Int) < 100 := by omega
    have hc := hlt q
    unfold laC at hc
    rw [decide_eq_true_iff] at hc
    rw [r199_24]
    simp only [r199_25, r199_27, r199_30, r199_31, r199_34, r199_35, r199_36, r199_38, r199_41, r199_42, r199_43, r199_46, r199_49, r199_52, r199_53, r199_54, r199_57, r199_60, r199_61, r199_63, r199_66, r199_67, r199_70, r199_71, reduceIte, Option.some.injEq, and_assoc, exists_and_left, exists_eq_left, exists_eq_left', true_and, and_true, List.length_cons, List.length_nil, Nat.reduceAdd, Nat.reduceLeDiff, Sum.inl.injEq, az_0, az_1, az_2, az_3, az_4, az_5, az_6, az_8, az_11, az_14, az_15, az_17, az_20, az_21, az_22, az_23, az_24, az_25, az_26, az_28, az_29, az_30, az_31, az_32, az_33, az_34, az_35, az_36, ak_0, ak_1, ak_2, ak_3, ak_4, ak_5, ak_6, ak_8, ak_11, ak_14, ak_15, ak_17, ak_20, ak_21, ak_22, ak_23, ak_24, ak_25, ak_26, ak_28, ak_29, ak_30, ak_31, ak_32, ak_33, ak_34, ak_35, ak_36, ak_37, eq_self, Int.toNat_natCast, Nat.zero_le, bI_0, b01_0, bI_or, b01_or, ne_eq, reduceCtorEq, not_false_eq_true, Nat.reduceEqDiff, if_true, if_false, ite_true, ite_false, Int.natCast_nonneg, not_true_eq_false, Bool.true_eq_false, Bool.false_eq_true, Int.reduceEq, Int.reduceLT, Int.reduceLE, Int.reduceToNat, and_self, inA, exists_eq, or_true, true_or, or_false, false_or, and_false, false_and, or_self, fup_same, sV_4, q, q1, h12, hc, CallR_iff sm_againNow, RV_set, set_set, fup_fup]
  · have q1 : ¬ (m : Int) < 100 := by omega
    rw [r199_24]
    simp only [r199_25, r199_27, r199_30, r199_31, r199_34, r199_35, r199_36, r199_38, r199_41, r199_42, r199_43, r199_46, r199_49, r199_52, r199_53, r199_54, r199_57, r199_60, r199_61, r199_63, r199_66, r199_67, r199_70, r199_71, reduceIte, Option.some.injEq, and_assoc, exists_and_left, exists_eq_left, exists_eq_left', true_and, and_true, List.length_cons, List.length_nil, Nat.reduceAdd, Nat.reduceLeDiff, Sum.inl.injEq, az_0, az_1, az_2, az_3, az_4, az_5, az_6, az_8, az_11, az_14, az_15, az_17, az_20, az_21, az_22, az_23, az_24, az_25, az_26, az_28, az_29, az_30, az_31, az_32, az_33, az_34, az_35, az_36, ak_0, ak_1, ak_2, ak_3, ak_4, ak_5, ak_6, ak_8, ak_11, ak_14, ak_15, ak_17, ak_20, ak_21, ak_22, ak_23, ak_24, ak_25, ak_26, ak_28, ak_29, ak_30, ak_31, ak_32, ak_33, ak_34, ak_35, ak_36, ak_37, eq_self, Int.toNat_natCast, Nat.zero_le, bI_0, b01_0, bI_or, b01_or, ne_eq, reduceCtorEq, not_false_eq_true, Nat.reduceEqDiff, if_true, if_false, ite_true, ite_false, Int.natCast_nonneg, not_true_eq_false, Bool.true_eq_false, Bool.false_eq_true, Int.reduceEq, Int.reduceLT, Int.reduceLE, Int.reduceToNat, and_self, inA, exists_eq, or_true, true_or, or_false, false_or, and_false, false_and, or_self, fup_same, sV_4, q, q1, CallR_iff sm_againNow, RV_set, set_set, fup_fup]
theorem ok_lasts {S : VS} {d : Nat} {h : AH} {b : Int} (R : REL S h) : OKI S d 107 199 [vI b] h := by
  have E := R.ev
  have hw := R.w
  have hw0 := R.w0
  have hb8 := hw.bd.2.2.2
  have e78 : h 0 7 8 = h 17 27 8 := E.at7 (k := 8) (by omega) (by omega)
  by_cases hb : 0 ≤ b ∧ b < h 17 27 8 ∧ b < 12
  · obtain ⟨b, rfl⟩ : ∃ q : Nat, b = (q : Int) := ⟨b.toNat, by omega⟩
    have h12 : (b : Int) < 12 := by omega
    refine ⟨lastsV (RV (h 17)) b, fup h 2 (waitV (becV (h 2) (h 0)) (fstN (laC (RV (h 17)) b) 100)), _, ?_, sm_lasts hw hb.2.1, R.qry ((SX.rf h).t (by omega) (by omega) _) (qr_MEQ hw (wait_wf (kp_wf hw) _) (FRM.wait (FRM.rf _) _))⟩
    have EW := evT R
    have hwT := wfT hw0
    unfold lastsV
    rw [← EW.c_la]
    generalize hT : becV (h 2) (h 0) = T at *
    have hle := fst_le 100 (laC T b)
    have hlt := fst_lt 100 (laC T b)
    have hno := fst_no 100 (laC T b)
    generalize hm : fstN (laC T b) 100 = m at *
    have L := lo_up (P := fun i => At (CallR (d + 29)) ac_107 33 [vR 16 10, vI b, vI (i : Int)] [] (fup h 2 (waitV T i)) (fun v' h2 => v' = some (vI (if m < 100 then (m : Int) else -1)) ∧ h2 = fup h 2 (waitV T m))) m (fun i hi => by
      have h1 : ¬ 99 < (i : Int) := by omega
      have hn := hno i hi
      unfold laC at hn
      rw [decide_eq_false_iff_not] at hn
      have hq := wf2 (h := h) (wait_wf hwT i)
      have eS : passV (waitV T i) 0 = waitV T (i + 1) := rfl
      rw [r107_33]
      simp only [r107_34, r107_36, r107_39, r107_40, r107_43, r107_44, r107_47, r107_50, r107_51, r107_52, r107_53, r107_56, r107_57, r107_60, r107_63, r107_66, r107_67, reduceIte, Option.some.injEq, and_assoc, exists_and_left, exists_eq_left, exists_eq_left', true_and, and_true, List.length_cons, List.length_nil, Nat.reduceAdd, Nat.reduceLeDiff, Sum.inl.injEq, az_0, az_1, az_2, az_3, az_4, az_5, az_6, az_8, az_11, az_14, az_15, az_17, az_20, az_21, az_22, az_23, az_24, az_25, az_26, az_28, az_29, az_30, az_31, az_32, az_33, az_34, az_35, az_36, ak_0, ak_1, ak_2, ak_3, ak_4, ak_5, ak_6, ak_8, ak_11, ak_14, ak_15, ak_17, ak_20, ak_21, ak_22, ak_23, ak_24, ak_25, ak_26, ak_28, ak_29, ak_30, ak_31, ak_32, ak_33, ak_34, ak_35, ak_36, ak_37, eq_self, Int.toNat_natCast, Nat.zero_le, bI_0, b01_0, bI_or, b01_or, ne_eq, reduceCtorEq, not_false_eq_true, Nat.reduceEqDiff, if_true, if_false, ite_true, ite_false, Int.natCast_nonneg, not_true_eq_false, Bool.true_eq_false, Bool.false_eq_true, Int.reduceEq, Int.reduceLT, Int.reduceLE, Int.reduceToNat, and_self, inA, exists_eq, or_true, true_or, or_false, false_or, and_false, false_and, or_self, fup_same, h1, CallR_iff sp_classOf, h12, clsF_0, hn, CallR_iff (sp_pass hq (may_0 _)), fup_fup, wr_s (show i < 2147483647 by omega), eS])
    (rw [cr_107]; simp only [r107_0, r107_1, r107_4, r107_5, r107_8, r107_11, r107_12, r107_13, r107_16, r107_18, r107_19, r107_20, r107_21, r107_24, r107_25, r107_28, r107_31, r107_32, CallR_iff sp_hasBottle, CallR_iff sx_bec, hT, e78, hb, reduceIte, Option.some.injEq, and_assoc, exists_and_left, exists_eq_left, exists_eq_left', true_and, and_true, List.length_cons, List.length_nil, Nat.reduceAdd, Nat.reduceLeDiff, Sum.inl.injEq, az_0, az_1, az_2, az_3, az_4, az_5, az_6, az_8, az_11, az_14, az_15, az_17, az_20, az_21, az_22, az_23, az_24, az_25, az_26, az_28, az_29, az_30, az_31, az_32, az_33, az_34, az_35, az_36, ak_0, ak_1, ak_2, ak_3, ak_4, ak_5, ak_6, ak_8, ak_11, ak_14, ak_15, ak_17, ak_20, ak_21, ak_22, ak_23, ak_24, ak_25, ak_26, ak_28, ak_29, ak_30, ak_31, ak_32, ak_33, ak_34, ak_35, ak_36, ak_37, eq_self, Int.toNat_natCast, Nat.zero_le, bI_0, b01_0, bI_or, b01_or, ne_eq, reduceCtorEq, not_false_eq_true, Nat.reduceEqDiff, if_true, if_false, ite_true, ite_false, Int.natCast_nonneg, not_true_eq_false, Bool.true_eq_false, Bool.false_eq_true, Int.reduceEq, Int.reduceLT, Int.reduceLE, Int.reduceToNat, and_self, inA, exists_eq, or_true, true_or, or_false, false_or, and_false, false_and, or_self])
    refine L.mpr ?_
    by_cases q : m < 100
    · have q1 : ¬ 99 < (m : Int) := by omega
      have hc := hlt q
      unfold laC at hc
      rw [decide_eq_true_iff] at hc
      rw [r107_33]
      simp only [r107_34, r107_36, r107_39, r107_40, r107_43, r107_44, r107_47, r107_50, r107_51, r107_52, r107_53, r107_56, r107_57, r107_60, r107_63, r107_66, r107_67, reduceIte, Option.some.injEq, and_assoc, exists_and_left, exists_eq_left, exists_eq_left', true_and, and_true, List.length_cons, List.length_nil, Nat.reduceAdd, Nat.reduceLeDiff, Sum.inl.injEq, az_0, az_1, az_2, az_3, az_4, az_5, az_6, az_8, az_11, az_14, az_15, az_17, az_20, az_21, az_22, az_23, az_24, az_25, az_26, az_28, az_29, az_30, az_31, az_32, az_33, az_34, az_35, az_36, ak_0, ak_1, ak_2, ak_3, ak_4, ak_5, ak_6, ak_8, ak_11, ak_14, ak_15, ak_17, ak_20, ak_21, ak_22, ak_23, ak_24, ak_25, ak_26, ak_28, ak_29, ak_30, ak_31, ak_32, ak_33, ak_34, ak_35, ak_36, ak_37, eq_self, Int.toNat_natCast, Nat.zero_le, bI_0, b01_0, bI_or, b01_or, ne_eq, reduceCtorEq, not_false_eq_true, Nat.reduceEqDiff, if_true, if_false, ite_true, ite_false, Int.natCast_nonneg, not_true_eq_false, Bool.true_eq_false, Bool.false_eq_true, Int.reduceEq, Int.reduceLT, Int.reduceLE, Int.reduceToNat, and_self, inA, exists_eq, or_true, true_or, or_false, false_or, and_false, false_and, or_self, fup_same, q, q1, h12, CallR_iff sp_classOf, clsF_0, hc]
    · have q1 : 99 < (m : Int) := by omega
      rw [r107_33]
      simp only [r107_34, r107_36, r107_39, r107_40, r107_43, r107_44, r107_47, r107_50, r107_51, r107_52, r107_53, r107_56, r107_57, r107_60, r107_63, r107_66, r107_67, reduceIte, Option.some.injEq, and_assoc, exists_and_left, exists_eq_left, exists_eq_left', true_and, and_true, List.length_cons, List.length_nil, Nat.reduceAdd, Nat.reduceLeDiff, Sum.inl.injEq, az_0, az_1, az_2, az_3, az_4, az_5, az_6, az_8, az_11, az_14, az_15, az_17, az_20, az_21, az_22, az_23, az_24, az_25, az_26, az_28, az_29, az_30, az_31, az_32, az_33, az_34, az_35, az_36, ak_0, ak_1, ak_2, ak_3, ak_4, ak_5, ak_6, ak_8, ak_11, ak_14, ak_15, ak_17, ak_20, ak_21, ak_22, ak_23, ak_24, ak_25, ak_26, ak_28, ak_29, ak_30, ak_31, ak_32, ak_33, ak_34, ak_35, ak_36, ak_37, eq_self, Int.toNat_natCast, Nat.zero_le, bI_0, b01_0, bI_or, b01_or, ne_eq, reduceCtorEq, not_false_eq_true, Nat.reduceEqDiff, if_true, if_false, ite_true, ite_false, Int.natCast_nonneg, not_true_eq_false, Bool.true_eq_false, Bool.false_eq_true, Int.reduceEq, Int.reduceLT, Int.reduceLE, Int.reduceToNat, and_self, inA, exists_eq, or_true, true_or, or_false, false_or, and_false, false_and, or_self, fup_same, q, q1]
  · refine R.refused (c := -1) (x := -11) ?_ (fun h1 e => ?_)
    · (rw [cr_107]; simp only [r107_0, r107_1, r107_4, r107_5, r107_8, r107_11, r107_12, r107_13, r107_16, r107_18, r107_19, r107_20, r107_21, r107_24, r107_25, r107_28, r107_31, r107_32, CallR_iff sp_hasBottle, CallR_iff (sx_refuse (c := -1) (by decide) (by decide)), e78, hb, show wr (-1 + -10) = -11 by decide, reduceIte, Option.some.injEq, and_assoc, exists_and_left, exists_eq_left, exists_eq_left', true_and, and_true, List.length_cons, List.length_nil, Nat.reduceAdd, Nat.reduceLeDiff, Sum.inl.injEq, az_0, az_1, az_2, az_3, az_4, az_5, az_6, az_8, az_11, az_14, az_15, az_17, az_20, az_21, az_22, az_23, az_24, az_25, az_26, az_28, az_29, az_30, az_31, az_32, az_33, az_34, az_35, az_36, ak_0, ak_1, ak_2, ak_3, ak_4, ak_5, ak_6, ak_8, ak_11, ak_14, ak_15, ak_17, ak_20, ak_21, ak_22, ak_23, ak_24, ak_25, ak_26, ak_28, ak_29, ak_30, ak_31, ak_32, ak_33, ak_34, ak_35, ak_36, ak_37, eq_self, Int.toNat_natCast, Nat.zero_le, bI_0, b01_0, bI_or, b01_or, ne_eq, reduceCtorEq, not_false_eq_true, Nat.reduceEqDiff, if_true, if_false, ite_true, ite_false, Int.natCast_nonneg, not_true_eq_false, Bool.true_eq_false, Bool.false_eq_true, Int.reduceEq, Int.reduceLT, Int.reduceLE, Int.reduceToNat, and_self, inA, exists_eq, or_true, true_or, or_false, false_or, and_false, false_and, or_self])
    · rw [← e] at hb hw
      (rw [cr_199]; simp only [r199_0, r199_1, r199_2, r199_5, r199_8, r199_9, r199_10, r199_13, r199_14, r199_15, r199_16, r199_19, r199_22, r199_23, CallR_iff (sm_isBottle hw.bd), CallR_iff (sm_no10 (c := -1) (by decide) (by decide)), RV_7, hb, show (-1 - 10 : Int) = -11 by decide, reduceIte, Option.some.injEq, and_assoc, exists_and_left, exists_eq_left, exists_eq_left', true_and, and_true, List.length_cons, List.length_nil, Nat.reduceAdd, Nat.reduceLeDiff, Sum.inl.injEq, az_0, az_1, az_2, az_3, az_4, az_5, az_6, az_8, az_11, az_14, az_15, az_17, az_20, az_21, az_22, az_23, az_24, az_25, az_26, az_28, az_29, az_30, az_31, az_32, az_33, az_34, az_35, az_36, ak_0, ak_1, ak_2, ak_3, ak_4, ak_5, ak_6, ak_8, ak_11, ak_14, ak_15, ak_17, ak_20, ak_21, ak_22, ak_23, ak_24, ak_25, ak_26, ak_28, ak_29, ak_30, ak_31, ak_32, ak_33, ak_34, ak_35, ak_36, ak_37, eq_self, Int.toNat_natCast, Nat.zero_le, bI_0, b01_0, bI_or, b01_or, ne_eq, reduceCtorEq, not_false_eq_true, Nat.reduceEqDiff, if_true, if_false, ite_true, ite_false, Int.natCast_nonneg, not_true_eq_false, Bool.true_eq_false, Bool.false_eq_true, Int.reduceEq, Int.reduceLT, Int.reduceLE, Int.reduceToNat, and_self, inA, exists_eq, or_true, true_or, or_false, false_or, and_false, false_and, or_self])
def kepV (V : VS) (b n : Nat) : Nat → Int × Int
  | 0 => (0, -1)
  | i + 1 => if (kepV V b n i).2 < waitV (layV V (b : Int) (i : Int)) n 4 b then ((i : Int), waitV (layV V (b : Int) (i : Int)) n 4 b) else kepV V b n i
theorem EV.c_kep {V V' : VS} (E : EV V V') (b n : Nat) : ∀ i, kepV V b n i = kepV V' b n i
  | 0 => rfl
  | i + 1 => by unfold kepV; rw [((E.c_layV b i).c_waitV n).2.2.2.1, EV.c_kep E b n i]
def kpK (V : VS) (b n : Nat) : Nat → VS
  | 0 => kpV V
  | i + 1 => qrV (waitV (layV (kpK V b n i) (b : Int) (i : Int)) n)
theorem kpK_ok {V : VS} (hw : WF V) {b n : Nat} (hb : (b : Int) < V 7 8) (hne : V 5 b ≠ 200) : ∀ i : Nat, (i : Int) ≤ V 7 7 → EV (kpK V b n i) V ∧ FRM (kpV V) (kpK V b n i)
  | 0, _ => ⟨EV.rf _, FRM.rf _⟩
  | i + 1, hi => by
    obtain ⟨E, F⟩ := kpK_ok hw (n := n) hb hne i (by omega)
    have hwi := E.sy.wf hw
    have hwl : WF (layV (kpK V b n i) (b : Int) (i : Int)) := lay_wf hwi (by rw [E.at7 (k := 8) (by omega) (by omega)]; exact hb) (by rw [E.2.2.2.2.1]; exact hne) (Or.inr ⟨by omega, by rw [E.at7 (k := 7) (by omega) (by omega)]; omega⟩)
    have F2 : FRM (kpV V) (waitV (layV (kpK V b n i) (b : Int) (i : Int)) n) := FRM.wait (FRM.lay F _ _) n
    exact ⟨qr_EV hw (wait_wf hwl n) F2, qr_F F2⟩
theorem sm_keepB {d : Nat} {h : AH} {b n : Nat} (hw : WF (RV (h 17))) (hb : (b : Int) < RV (h 17) 7 8) (hne : RV (h 17) 5 b ≠ 200) (h99 : n ≤ 99) : CallR (d + 8) 200 [vR 17 27, vI b, vI n] h (some (vI (kepV (RV (h 17)) b n (nP (RV (h 17)))).1)) (fup h 17 (setRV (h 17) (kpK (RV (h 17)) b n (nP (RV (h 17)))))) := by
  have hb8 := hw.bd.2.2.2
  have b1 := hw.bd.1
  have b2 := hw.bd.2.1
  have hK := fun i hi => kpK_ok hw (n := n) hb hne i hi
  have hP : ((nP (RV (h 17)) : Nat) : Int) = RV (h 17) 7 7 := by unfold nP; omega
  have h12 : (b : Int) < 12 := by omega
  have h99' : (n : Int) ≤ 99 := by omega
  generalize hV : RV (h 17) = V at *
  have L := lo_upj (n := nP V) (P := fun i (a : AV) => At (CallR (d + 7)) ac_200 56 [vR 17 27, vI b, vI n, vI (kepV V b n i).1, vI (kepV V b n i).2, vI (i : Int), a] [] (fup h 17 (setRV (h 17) (kpK V b n i))) (fun v' h2 => v' = some (vI (kepV V b n (nP V)).1) ∧ h2 = fup h 17 (setRV (h 17) (kpK V b n (nP V))))) (G := True) (fun a => by
      have e7 : kpK V b n (nP V) 7 7 = V 7 7 := (hK (nP V) (by omega)).1.at7 (k := 7) (by omega) (by omega)
      have hn : ¬ ((nP V : Nat) : Int) < V 7 7 := by omega
      rw [r200_56]
      simp only [r200_58, r200_59, r200_62, r200_65, r200_66, r200_69, r200_70, r200_72, r200_73, r200_74, r200_75, r200_78, r200_79, r200_82, r200_83, r200_84, r200_86, r200_87, r200_88, r200_91, r200_94, r200_96, r200_98, r200_101, r200_104, r200_106, r200_108, r200_110, r200_111, r200_114, r200_117, r200_118, reduceIte, Option.some.injEq, and_assoc, exists_and_left, exists_eq_left, exists_eq_left', true_and, and_true, List.length_cons, List.length_nil, Nat.reduceAdd, Nat.reduceLeDiff, Sum.inl.injEq, az_0, az_1, az_2, az_3, az_4, az_5, az_6, az_8, az_11, az_14, az_15, az_17, az_20, az_21, az_22, az_23, az_24, az_25, az_26, az_28, az_29, az_30, az_31, az_32, az_33, az_34, az_35, az_36, ak_0, ak_1, ak_2, ak_3, ak_4, ak_5, ak_6, ak_8, ak_11, ak_14, ak_15, ak_17, ak_20, ak_21, ak_22, ak_23, ak_24, ak_25, ak_26, ak_28, ak_29, ak_30, ak_31, ak_32, ak_33, ak_34, ak_35, ak_36, ak_37, eq_self, Int.toNat_natCast, Nat.zero_le, bI_0, b01_0, bI_or, b01_or, ne_eq, reduceCtorEq, not_false_eq_true, Nat.reduceEqDiff, if_true, if_false, ite_true, ite_false, Int.natCast_nonneg, not_true_eq_false, Bool.true_eq_false, Bool.false_eq_true, Int.reduceEq, Int.reduceLT, Int.reduceLE, Int.reduceToNat, and_self, inA, exists_eq, or_true, true_or, or_false, false_or, and_false, false_and, or_self, fup_same, sV_7, e7, hn]) (fun i hi a => by
      have e7 : kpK V b n i 7 7 = V 7 7 := (hK i (by omega)).1.at7 (k := 7) (by omega) (by omega)
      have E := (hK i (by omega)).1
      have hwi := E.sy.wf hw
      have h1 : (i : Int) < V 7 7 := by omega
      have hb' : (b : Int) < kpK V b n i 7 8 := by rw [E.at7 (k := 8) (by omega) (by omega)]; exact hb
      have hwl : WF (layV (kpK V b n i) (b : Int) (i : Int)) := lay_wf hwi hb' (by rw [E.2.2.2.2.1]; exact hne) (Or.inr ⟨by omega, by rw [e7]; omega⟩)
      have el : fup (kpK V b n i) 5 (fup (kpK V b n i 5) b (i : Int)) = layV (kpK V b n i) (b : Int) (i : Int) := by
        unfold layV
        rw [if_pos ⟨by omega, hb', h12⟩, Int.toNat_natCast]
      have eL : waitV (layV (kpK V b n i) (b : Int) (i : Int)) n 4 b = waitV (layV V (b : Int) (i : Int)) n 4 b := by rw [((E.c_layV b i).c_waitV n).2.2.2.1]
      have eq : qrV (waitV (layV (kpK V b n i) (b : Int) (i : Int)) n) = kpK V b n (i + 1) := rfl
      have e2 : kepV V b n (i + 1) = if (kepV V b n i).2 < waitV (layV V (b : Int) (i : Int)) n 4 b then ((i : Int), waitV (layV V (b : Int) (i : Int)) n 4 b) else kepV V b n i := rfl
      have hq := wf17 (h := h) hwl
      refine ⟨vI (waitV (layV V (b : Int) (i : Int)) n 4 b), ?_⟩
      rw [r200_56]
      simp only [r200_58, r200_59, r200_62, r200_65, r200_66, r200_69, r200_70, r200_72, r200_73, r200_74, r200_75, r200_78, r200_79, r200_82, r200_83, r200_84, r200_86, r200_87, r200_88, r200_91, r200_94, r200_96, r200_98, r200_101, r200_104, r200_106, r200_108, r200_110, r200_111, r200_114, r200_117, r200_118, reduceIte, Option.some.injEq, and_assoc, exists_and_left, exists_eq_left, exists_eq_left', true_and, and_true, List.length_cons, List.length_nil, Nat.reduceAdd, Nat.reduceLeDiff, Sum.inl.injEq, az_0, az_1, az_2, az_3, az_4, az_5, az_6, az_8, az_11, az_14, az_15, az_17, az_20, az_21, az_22, az_23, az_24, az_25, az_26, az_28, az_29, az_30, az_31, az_32, az_33, az_34, az_35, az_36, ak_0, ak_1, ak_2, ak_3, ak_4, ak_5, ak_6, ak_8, ak_11, ak_14, ak_15, ak_17, ak_20, ak_21, ak_22, ak_23, ak_24, ak_25, ak_26, ak_28, ak_29, ak_30, ak_31, ak_32, ak_33, ak_34, ak_35, ak_36, ak_37, eq_self, Int.toNat_natCast, Nat.zero_le, bI_0, b01_0, bI_or, b01_or, ne_eq, reduceCtorEq, not_false_eq_true, Nat.reduceEqDiff, if_true, if_false, ite_true, ite_false, Int.natCast_nonneg, not_true_eq_false, Bool.true_eq_false, Bool.false_eq_true, Int.reduceEq, Int.reduceLT, Int.reduceLE, Int.reduceToNat, and_self, inA, exists_eq, or_true, true_or, or_false, false_or, and_false, false_and, or_self, up3, fup_same, sV_5, sV_7, fS_5, e7, h1, h12, el, CallR_iff (sm_waits hq (Int.natCast_nonneg n) (show (n : Int) < 2147483647 by omega)), CallR_iff sm_againNow, RV_set, set_set, fup_fup, sV_4, eL, eq, e2, wr_s (show i < 2147483647 by omega)]
      by_cases q : (kepV V b n i).2 < waitV (layV V (b : Int) (i : Int)) n 4 b
      · simp only [q, if_true]
      · simp only [q, if_false]) (nP V) 0 (by omega)
  have hbd : BD (RV (h 17)) := by rw [hV]; exact hw.bd
  have hb7 : (b : Int) < h 17 27 8 := by rw [← hV] at hb; exact hb
  have hne7 : ¬ h 17 25 b = 200 := by rw [← hV] at hne; exact hne
  (rw [cr_200]; simp only [r200_0, r200_1, r200_2, r200_5, r200_8, r200_9, r200_12, r200_13, r200_14, r200_17, r200_20, r200_21, r200_22, r200_25, r200_26, r200_27, r200_30, r200_33, r200_34, r200_36, r200_39, r200_40, r200_41, r200_42, r200_45, r200_48, r200_49, r200_50, r200_51, r200_53, r200_54, CallR_iff (sm_isBottle hbd), CallR_iff sm_isHours, CallR_iff sm_keepNow, RV_7, hb7, h12, hne7, h99', hV, reduceIte, Option.some.injEq, and_assoc, exists_and_left, exists_eq_left, exists_eq_left', true_and, and_true, List.length_cons, List.length_nil, Nat.reduceAdd, Nat.reduceLeDiff, Sum.inl.injEq, az_0, az_1, az_2, az_3, az_4, az_5, az_6, az_8, az_11, az_14, az_15, az_17, az_20, az_21, az_22, az_23, az_24, az_25, az_26, az_28, az_29, az_30, az_31, az_32, az_33, az_34, az_35, az_36, ak_0, ak_1, ak_2, ak_3, ak_4, ak_5, ak_6, ak_8, ak_11, ak_14, ak_15, ak_17, ak_20, ak_21, ak_22, ak_23, ak_24, ak_25, ak_26, ak_28, ak_29, ak_30, ak_31, ak_32, ak_33, ak_34, ak_35, ak_36, ak_37, eq_self, Int.toNat_natCast, Nat.zero_le, bI_0, b01_0, bI_or, b01_or, ne_eq, reduceCtorEq, not_false_eq_true, Nat.reduceEqDiff, if_true, if_false, ite_true, ite_false, Int.natCast_nonneg, not_true_eq_false, Bool.true_eq_false, Bool.false_eq_true, Int.reduceEq, Int.reduceLT, Int.reduceLE, Int.reduceToNat, and_self, inA, exists_eq, or_true, true_or, or_false, false_or, and_false, false_and, or_self])
  exact (L vU).mpr trivial
theorem ok_keep {S : VS} {d : Nat} {h : AH} {b n : Int} (R : REL S h) : OKI S d 108 200 [vI b, vI n] h := by
  have E := R.ev
  have hw := R.w
  have hw0 := R.w0
  obtain ⟨b1, b2, b3, b4⟩ := hw.bd
  have e78 : h 0 7 8 = h 17 27 8 := E.at7 (k := 8) (by omega) (by omega)
  have e77 : h 0 7 7 = h 17 27 7 := E.at7 (k := 7) (by omega) (by omega)
  have e5 : h 0 5 = h 17 25 := E.2.2.2.2.1
  rw [RV_7] at b1 b2 b3 b4
  by_cases hb : 0 ≤ b ∧ b < h 17 27 8 ∧ b < 12
  · obtain ⟨b, rfl⟩ : ∃ q : Nat, b = (q : Int) := ⟨b.toNat, by omega⟩
    have h12 : (b : Int) < 12 := by omega
    by_cases hne : h 17 25 b = 200
    · refine R.refused (c := -1) (x := -1) ?_ (fun h1 e => ?_)
      · (rw [cr_108]; simp only [r108_0, r108_1, r108_4, r108_5, r108_8, r108_11, r108_12, r108_15, r108_16, r108_19, r108_22, r108_25, r108_26, r108_27, r108_30, r108_31, r108_32, r108_33, r108_35, r108_38, r108_41, r108_42, r108_44, r108_47, r108_48, r108_49, r108_50, r108_51, r108_53, r108_54, CallR_iff sp_hasBottle, CallR_iff sp_spotOf, CallR_iff (sx_refuse (c := -1) (by decide) (by decide)), e78, e5, hb, hne, reduceIte, Option.some.injEq, and_assoc, exists_and_left, exists_eq_left, exists_eq_left', true_and, and_true, List.length_cons, List.length_nil, Nat.reduceAdd, Nat.reduceLeDiff, Sum.inl.injEq, az_0, az_1, az_2, az_3, az_4, az_5, az_6, az_8, az_11, az_14, az_15, az_17, az_20, az_21, az_22, az_23, az_24, az_25, az_26, az_28, az_29, az_30, az_31, az_32, az_33, az_34, az_35, az_36, ak_0, ak_1, ak_2, ak_3, ak_4, ak_5, ak_6, ak_8, ak_11, ak_14, ak_15, ak_17, ak_20, ak_21, ak_22, ak_23, ak_24, ak_25, ak_26, ak_28, ak_29, ak_30, ak_31, ak_32, ak_33, ak_34, ak_35, ak_36, ak_37, eq_self, Int.toNat_natCast, Nat.zero_le, bI_0, b01_0, bI_or, b01_or, ne_eq, reduceCtorEq, not_false_eq_true, Nat.reduceEqDiff, if_true, if_false, ite_true, ite_false, Int.natCast_nonneg, not_true_eq_false, Bool.true_eq_false, Bool.false_eq_true, Int.reduceEq, Int.reduceLT, Int.reduceLE, Int.reduceToNat, and_self, inA, exists_eq, or_true, true_or, or_false, false_or, and_false, false_and, or_self])
      · rw [← e] at hb hw hne
        (rw [cr_200]; simp only [r200_0, r200_1, r200_2, r200_5, r200_8, r200_9, r200_12, r200_13, r200_14, r200_17, r200_20, r200_21, r200_22, r200_25, r200_26, r200_27, r200_30, r200_33, r200_34, r200_36, r200_39, r200_40, r200_41, r200_42, r200_45, r200_48, r200_49, r200_50, r200_51, r200_53, r200_54, CallR_iff (sm_isBottle hw.bd), CallR_iff (sm_no (c := -1) (by decide) (by decide)), RV_7, hb, h12, hne, reduceIte, Option.some.injEq, and_assoc, exists_and_left, exists_eq_left, exists_eq_left', true_and, and_true, List.length_cons, List.length_nil, Nat.reduceAdd, Nat.reduceLeDiff, Sum.inl.injEq, az_0, az_1, az_2, az_3, az_4, az_5, az_6, az_8, az_11, az_14, az_15, az_17, az_20, az_21, az_22, az_23, az_24, az_25, az_26, az_28, az_29, az_30, az_31, az_32, az_33, az_34, az_35, az_36, ak_0, ak_1, ak_2, ak_3, ak_4, ak_5, ak_6, ak_8, ak_11, ak_14, ak_15, ak_17, ak_20, ak_21, ak_22, ak_23, ak_24, ak_25, ak_26, ak_28, ak_29, ak_30, ak_31, ak_32, ak_33, ak_34, ak_35, ak_36, ak_37, eq_self, Int.toNat_natCast, Nat.zero_le, bI_0, b01_0, bI_or, b01_or, ne_eq, reduceCtorEq, not_false_eq_true, Nat.reduceEqDiff, if_true, if_false, ite_true, ite_false, Int.natCast_nonneg, not_true_eq_false, Bool.true_eq_false, Bool.false_eq_true, Int.reduceEq, Int.reduceLT, Int.reduceLE, Int.reduceToNat, and_self, inA, exists_eq, or_true, true_or, or_false, false_or, and_false, false_and, or_self])
    · by_cases hn : 0 ≤ n ∧ n ≤ 99
      · obtain ⟨n, rfl⟩ : ∃ q : Nat, n = (q : Int) := ⟨n.toNat, by omega⟩
        have hP : ((nP (RV (h 17)) : Nat) : Int) = h 17 27 7 := by unfold nP; rw [RV_7]; omega
        have hK := kpK_ok hw (n := n) hb.2.1 hne (nP (RV (h 17))) (by rw [hP, RV_7]; omega)
        let T : Nat → VS := fun i => Nat.rec (h 2) (fun i W => waitV (layV (becV W (h 0)) (b : Int) (i : Int)) n) i
        have T1 : ∀ i, T (i + 1) = waitV (layV (becV (T i) (h 0)) (b : Int) (i : Int)) n := fun _ => rfl
        have T0 : T 0 = h 2 := rfl
        refine ⟨(kepV (RV (h 17)) b n (nP (RV (h 17)))).1, fup h 2 (T (nP (RV (h 17)))), _, ?_, sm_keepB hw hb.2.1 hne (by omega), R.qry ((SX.rf h).t (by omega) (by omega) _) (MEQ_of hK.1 hK.2)⟩
        generalize T = T at *
        have L := lo_up (P := fun i => At (CallR (d + 29)) ac_108 56 [vR 16 10, vI b, vI n, vI (kepV (RV (h 17)) b n i).1, vI (kepV (RV (h 17)) b n i).2, vI (i : Int)] [] (fup h 2 (T i)) (fun v' h2 => v' = some (vI (kepV (RV (h 17)) b n (nP (RV (h 17)))).1) ∧ h2 = fup h 2 (T (nP (RV (h 17)))))) (nP (RV (h 17))) (fun i hi => by
          have h1 : (i : Int) < h 17 27 7 := by omega
          have EB : EV (becV (T i) (h 0)) (RV (h 17)) := (EV.bec _ _).tr E
          have hwi := EB.sy.wf hw
          have hwl : WF (layV (becV (T i) (h 0)) (b : Int) (i : Int)) := lay_wf hwi (by rw [EB.at7 (k := 8) (by omega) (by omega)]; exact hb.2.1) (by rw [EB.2.2.2.2.1]; exact hne) (Or.inr ⟨by omega, by rw [EB.at7 (k := 7) (by omega) (by omega)]; exact h1⟩)
          have EL := (EB.c_layV b i).c_waitV n
          have e8 : T (i + 1) 7 8 = h 17 27 8 := by
            rw [T1, EL.at7 (k := 8) (by omega) (by omega), wait_78]
            unfold layV
            split <;> rfl
          have e4 : T (i + 1) 4 b = waitV (layV (RV (h 17)) (b : Int) (i : Int)) n 4 b := by rw [T1, EL.2.2.2.1]
          have e2 : kepV (RV (h 17)) b n (i + 1) = if (kepV (RV (h 17)) b n i).2 < waitV (layV (RV (h 17)) (b : Int) (i : Int)) n 4 b then ((i : Int), waitV (layV (RV (h 17)) (b : Int) (i : Int)) n 4 b) else kepV (RV (h 17)) b n i := rfl
          have hq := wf2 (h := h) hwl
          rw [r108_56]
          simp only [r108_58, r108_59, r108_62, r108_65, r108_68, r108_69, r108_72, r108_73, r108_76, r108_79, r108_80, r108_83, r108_84, r108_86, r108_89, r108_90, r108_93, r108_94, r108_97, r108_98, r108_101, r108_102, r108_105, r108_107, r108_110, r108_111, r108_114, r108_115, r108_118, r108_120, r108_122, r108_123, r108_126, r108_129, r108_130, reduceIte, Option.some.injEq, and_assoc, exists_and_left, exists_eq_left, exists_eq_left', true_and, and_true, List.length_cons, List.length_nil, Nat.reduceAdd, Nat.reduceLeDiff, Sum.inl.injEq, az_0, az_1, az_2, az_3, az_4, az_5, az_6, az_8, az_11, az_14, az_15, az_17, az_20, az_21, az_22, az_23, az_24, az_25, az_26, az_28, az_29, az_30, az_31, az_32, az_33, az_34, az_35, az_36, ak_0, ak_1, ak_2, ak_3, ak_4, ak_5, ak_6, ak_8, ak_11, ak_14, ak_15, ak_17, ak_20, ak_21, ak_22, ak_23, ak_24, ak_25, ak_26, ak_28, ak_29, ak_30, ak_31, ak_32, ak_33, ak_34, ak_35, ak_36, ak_37, eq_self, Int.toNat_natCast, Nat.zero_le, bI_0, b01_0, bI_or, b01_or, ne_eq, reduceCtorEq, not_false_eq_true, Nat.reduceEqDiff, if_true, if_false, ite_true, ite_false, Int.natCast_nonneg, not_true_eq_false, Bool.true_eq_false, Bool.false_eq_true, Int.reduceEq, Int.reduceLT, Int.reduceLE, Int.reduceToNat, and_self, inA, exists_eq, or_true, true_or, or_false, false_or, and_false, false_and, or_self, CallR_iff sx_bec, CallR_iff sp_lay, CallR_iff sp_strengthOf, fup_same, fup_fup, fup_ne, e77, h1, CallR_iff (sp_wait hq (Int.natCast_nonneg n) (show (n : Int) < 2147483647 by omega)), ← T1, e8, e4, hb, wr_s (show i < 2147483647 by omega), e2]
          by_cases q : (kepV (RV (h 17)) b n i).2 < waitV (layV (RV (h 17)) (b : Int) (i : Int)) n 4 b
          · simp only [q, if_true]
          · simp only [q, if_false])
        rw [T0, fup_id] at L
        have hnn : ¬ ((nP (RV (h 17)) : Nat) : Int) < h 17 27 7 := by omega
        (rw [cr_108]; simp only [r108_0, r108_1, r108_4, r108_5, r108_8, r108_11, r108_12, r108_15, r108_16, r108_19, r108_22, r108_25, r108_26, r108_27, r108_30, r108_31, r108_32, r108_33, r108_35, r108_38, r108_41, r108_42, r108_44, r108_47, r108_48, r108_49, r108_50, r108_51, r108_53, r108_54, CallR_iff sp_hasBottle, CallR_iff sp_spotOf, CallR_iff sx_within, e78, e5, hb, hne, hn, reduceIte, Option.some.injEq, and_assoc, exists_and_left, exists_eq_left, exists_eq_left', true_and, and_true, List.length_cons, List.length_nil, Nat.reduceAdd, Nat.reduceLeDiff, Sum.inl.injEq, az_0, az_1, az_2, az_3, az_4, az_5, az_6, az_8, az_11, az_14, az_15, az_17, az_20, az_21, az_22, az_23, az_24, az_25, az_26, az_28, az_29, az_30, az_31, az_32, az_33, az_34, az_35, az_36, ak_0, ak_1, ak_2, ak_3, ak_4, ak_5, ak_6, ak_8, ak_11, ak_14, ak_15, ak_17, ak_20, ak_21, ak_22, ak_23, ak_24, ak_25, ak_26, ak_28, ak_29, ak_30, ak_31, ak_32, ak_33, ak_34, ak_35, ak_36, ak_37, eq_self, Int.toNat_natCast, Nat.zero_le, bI_0, b01_0, bI_or, b01_or, ne_eq, reduceCtorEq, not_false_eq_true, Nat.reduceEqDiff, if_true, if_false, ite_true, ite_false, Int.natCast_nonneg, not_true_eq_false, Bool.true_eq_false, Bool.false_eq_true, Int.reduceEq, Int.reduceLT, Int.reduceLE, Int.reduceToNat, and_self, inA, exists_eq, or_true, true_or, or_false, false_or, and_false, false_and, or_self])
        refine L.mpr ?_
        rw [r108_56]
        simp only [r108_58, r108_59, r108_62, r108_65, r108_68, r108_69, r108_72, r108_73, r108_76, r108_79, r108_80, r108_83, r108_84, r108_86, r108_89, r108_90, r108_93, r108_94, r108_97, r108_98, r108_101, r108_102, r108_105, r108_107, r108_110, r108_111, r108_114, r108_115, r108_118, r108_120, r108_122, r108_123, r108_126, r108_129, r108_130, reduceIte, Option.some.injEq, and_assoc, exists_and_left, exists_eq_left, exists_eq_left', true_and, and_true, List.length_cons, List.length_nil, Nat.reduceAdd, Nat.reduceLeDiff, Sum.inl.injEq, az_0, az_1, az_2, az_3, az_4, az_5, az_6, az_8, az_11, az_14, az_15, az_17, az_20, az_21, az_22, az_23, az_24, az_25, az_26, az_28, az_29, az_30, az_31, az_32, az_33, az_34, az_35, az_36, ak_0, ak_1, ak_2, ak_3, ak_4, ak_5, ak_6, ak_8, ak_11, ak_14, ak_15, ak_17, ak_20, ak_21, ak_22, ak_23, ak_24, ak_25, ak_26, ak_28, ak_29, ak_30, ak_31, ak_32, ak_33, ak_34, ak_35, ak_36, ak_37, eq_self, Int.toNat_natCast, Nat.zero_le, bI_0, b01_0, bI_or, b01_or, ne_eq, reduceCtorEq, not_false_eq_true, Nat.reduceEqDiff, if_true, if_false, ite_true, ite_false, Int.natCast_nonneg, not_true_eq_false, Bool.true_eq_false, Bool.false_eq_true, Int.reduceEq, Int.reduceLT, Int.reduceLE, Int.reduceToNat, and_self, inA, exists_eq, or_true, true_or, or_false, false_or, and_false, false_and, or_self, fup_ne, e77, hnn]
      · refine R.refused (c := -6) (x := -6) ?_ (fun h1 e => ?_)
        · (rw [cr_108]; simp only [r108_0, r108_1, r108_4, r108_5, r108_8, r108_11, r108_12, r108_15, r108_16, r108_19, r108_22, r108_25, r108_26, r108_27, r108_30, r108_31, r108_32, r108_33, r108_35, r108_38, r108_41, r108_42, r108_44, r108_47, r108_48, r108_49, r108_50, r108_51, r108_53, r108_54, CallR_iff sp_hasBottle, CallR_iff sp_spotOf, CallR_iff sx_within, CallR_iff (sx_refuse (c := -6) (by decide) (by decide)), e78, e5, hb, hne, hn, reduceIte, Option.some.injEq, and_assoc, exists_and_left, exists_eq_left, exists_eq_left', true_and, and_true, List.length_cons, List.length_nil, Nat.reduceAdd, Nat.reduceLeDiff, Sum.inl.injEq, az_0, az_1, az_2, az_3, az_4, az_5, az_6, az_8, az_11, az_14, az_15, az_17, az_20, az_21, az_22, az_23, az_24, az_25, az_26, az_28, az_29, az_30, az_31, az_32, az_33, az_34, az_35, az_36, ak_0, ak_1, ak_2, ak_3, ak_4, ak_5, ak_6, ak_8, ak_11, ak_14, ak_15, ak_17, ak_20, ak_21, ak_22, ak_23, ak_24, ak_25, ak_26, ak_28, ak_29, ak_30, ak_31, ak_32, ak_33, ak_34, ak_35, ak_36, ak_37, eq_self, Int.toNat_natCast, Nat.zero_le, bI_0, b01_0, bI_or, b01_or, ne_eq, reduceCtorEq, not_false_eq_true, Nat.reduceEqDiff, if_true, if_false, ite_true, ite_false, Int.natCast_nonneg, not_true_eq_false, Bool.true_eq_false, Bool.false_eq_true, Int.reduceEq, Int.reduceLT, Int.reduceLE, Int.reduceToNat, and_self, inA, exists_eq, or_true, true_or, or_false, false_or, and_false, false_and, or_self])
        · rw [← e] at hb hw hne
          (rw [cr_200]; simp only [r200_0, r200_1, r200_2, r200_5, r200_8, r200_9, r200_12, r200_13, r200_14, r200_17, r200_20, r200_21, r200_22, r200_25, r200_26, r200_27, r200_30, r200_33, r200_34, r200_36, r200_39, r200_40, r200_41, r200_42, r200_45, r200_48, r200_49, r200_50, r200_51, r200_53, r200_54, CallR_iff (sm_isBottle hw.bd), CallR_iff sm_isHours, CallR_iff (sm_no (c := -6) (by decide) (by decide)), RV_7, hb, h12, hne, hn, reduceIte, Option.some.injEq, and_assoc, exists_and_left, exists_eq_left, exists_eq_left', true_and, and_true, List.length_cons, List.length_nil, Nat.reduceAdd, Nat.reduceLeDiff, Sum.inl.injEq, az_0, az_1, az_2, az_3, az_4, az_5, az_6, az_8, az_11, az_14, az_15, az_17, az_20, az_21, az_22, az_23, az_24, az_25, az_26, az_28, az_29, az_30, az_31, az_32, az_33, az_34, az_35, az_36, ak_0, ak_1, ak_2, ak_3, ak_4, ak_5, ak_6, ak_8, ak_11, ak_14, ak_15, ak_17, ak_20, ak_21, ak_22, ak_23, ak_24, ak_25, ak_26, ak_28, ak_29, ak_30, ak_31, ak_32, ak_33, ak_34, ak_35, ak_36, ak_37, eq_self, Int.toNat_natCast, Nat.zero_le, bI_0, b01_0, bI_or, b01_or, ne_eq, reduceCtorEq, not_false_eq_true, Nat.reduceEqDiff, if_true, if_false, ite_true, ite_false, Int.natCast_nonneg, not_true_eq_false, Bool.true_eq_false, Bool.false_eq_true, Int.reduceEq, Int.reduceLT, Int.reduceLE, Int.reduceToNat, and_self, inA, exists_eq, or_true, true_or, or_false, false_or, and_false, false_and, or_self])
  · refine R.refused (c := -1) (x := -1) ?_ (fun h1 e => ?_)
    · (rw [cr_108]; simp only [r108_0, r108_1, r108_4, r108_5, r108_8, r108_11, r108_12, r108_15, r108_16, r108_19, r108_22, r108_25, r108_26, r108_27, r108_30, r108_31, r108_32, r108_33, r108_35, r108_38, r108_41, r108_42, r108_44, r108_47, r108_48, r108_49, r108_50, r108_51, r108_53, r108_54, CallR_iff sp_hasBottle, CallR_iff sp_spotOf, CallR_iff (sx_refuse (c := -1) (by decide) (by decide)), e78, e5, hb, reduceIte, Option.some.injEq, and_assoc, exists_and_left, exists_eq_left, exists_eq_left', true_and, and_true, List.length_cons, List.length_nil, Nat.reduceAdd, Nat.reduceLeDiff, Sum.inl.injEq, az_0, az_1, az_2, az_3, az_4, az_5, az_6, az_8, az_11, az_14, az_15, az_17, az_20, az_21, az_22, az_23, az_24, az_25, az_26, az_28, az_29, az_30, az_31, az_32, az_33, az_34, az_35, az_36, ak_0, ak_1, ak_2, ak_3, ak_4, ak_5, ak_6, ak_8, ak_11, ak_14, ak_15, ak_17, ak_20, ak_21, ak_22, ak_23, ak_24, ak_25, ak_26, ak_28, ak_29, ak_30, ak_31, ak_32, ak_33, ak_34, ak_35, ak_36, ak_37, eq_self, Int.toNat_natCast, Nat.zero_le, bI_0, b01_0, bI_or, b01_or, ne_eq, reduceCtorEq, not_false_eq_true, Nat.reduceEqDiff, if_true, if_false, ite_true, ite_false, Int.natCast_nonneg, not_true_eq_false, Bool.true_eq_false, Bool.false_eq_true, Int.reduceEq, Int.reduceLT, Int.reduceLE, Int.reduceToNat, and_self, inA, exists_eq, or_true, true_or, or_false, false_or, and_false, false_and, or_self])
    · rw [← e] at hb hw
      (rw [cr_200]; simp only [r200_0, r200_1, r200_2, r200_5, r200_8, r200_9, r200_12, r200_13, r200_14, r200_17, r200_20, r200_21, r200_22, r200_25, r200_26, r200_27, r200_30, r200_33, r200_34, r200_36, r200_39, r200_40, r200_41, r200_42, r200_45, r200_48, r200_49, r200_50, r200_51, r200_53, r200_54, CallR_iff (sm_isBottle hw.bd), CallR_iff (sm_no (c := -1) (by decide) (by decide)), RV_7, hb, reduceIte, Option.some.injEq, and_assoc, exists_and_left, exists_eq_left, exists_eq_left', true_and, and_true, List.length_cons, List.length_nil, Nat.reduceAdd, Nat.reduceLeDiff, Sum.inl.injEq, az_0, az_1, az_2, az_3, az_4, az_5, az_6, az_8, az_11, az_14, az_15, az_17, az_20, az_21, az_22, az_23, az_24, az_25, az_26, az_28, az_29, az_30, az_31, az_32, az_33, az_34, az_35, az_36, ak_0, ak_1, ak_2, ak_3, ak_4, ak_5, ak_6, ak_8, ak_11, ak_14, ak_15, ak_17, ak_20, ak_21, ak_22, ak_23, ak_24, ak_25, ak_26, ak_28, ak_29, ak_30, ak_31, ak_32, ak_33, ak_34, ak_35, ak_36, ak_37, eq_self, Int.toNat_natCast, Nat.zero_le, bI_0, b01_0, bI_or, b01_or, ne_eq, reduceCtorEq, not_false_eq_true, Nat.reduceEqDiff, if_true, if_false, ite_true, ite_false, Int.natCast_nonneg, not_true_eq_false, Bool.true_eq_false, Bool.false_eq_true, Int.reduceEq, Int.reduceLT, Int.reduceLE, Int.reduceToNat, and_self, inA, exists_eq, or_true, true_or, or_false, false_or, and_false, false_and, or_self])
