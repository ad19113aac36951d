/-! PURE: latest -/
theorem FRW.rf (V : VS) : FRW V V := ⟨⟨rfl, rfl, rfl, rfl, rfl, rfl⟩, rfl, rfl, rfl⟩
theorem FRW.tr {V V' W : VS} (a : FRW V V') (b : FRW V' W) : FRW V W := by
  obtain ⟨⟨a2, a3, a4, a5, a6, a7⟩, a8, a9, a10⟩ := a
  obtain ⟨⟨b2, b3, b4, b5, b6, b7⟩, b8, b9, b10⟩ := b
  exact ⟨⟨a2.trans b2, a3.trans b3, a4.trans b4, a5.trans b5, a6.trans b6, a7.trans b7⟩, a8.trans b8, a9.trans b9, a10.trans b10⟩
/-- the first of k from t on -/
def upF (c : Nat → Bool) : Nat → Nat → Int
  | _, 0 => -1
  | t, k + 1 => if c t = true then (t : Int) else upF c (t + 1) k
theorem upF_fst : ∀ (k t : Nat) (c : Nat → Bool), upF c t k = if fstN (fun i => c (t + i)) k < k then ((t + fstN (fun i => c (t + i)) k : Nat) : Int) else -1
  | 0, t, c => by unfold upF fstN; rw [if_neg (by omega)]
  | k + 1, t, c => by
    unfold upF fstN
    have e : (fun i => c (t + (i + 1))) = fun i => c (t + 1 + i) := by funext i; rw [show t + (i + 1) = t + 1 + i by omega]
    rw [e, upF_fst k (t + 1) c]
    simp only [Nat.add_zero]
    by_cases q : c t = true
    · rw [if_pos q, if_pos q, if_pos (by omega), Nat.add_zero]
    · rw [if_neg q, if_neg q]
      by_cases p : fstN (fun i => c (t + 1 + i)) k < k
      · rw [if_pos p, if_pos (by omega), show t + 1 + fstN (fun i => c (t + 1 + i)) k = t + (fstN (fun i => c (t + 1 + i)) k + 1) by omega]
      · rw [if_neg p, if_neg (by omega)]
theorem upF_0 (c : Nat → Bool) (k : Nat) : upF c 0 k = if fstN c k < k then ((fstN c k : Nat) : Int) else -1 := by
  have := upF_fst k 0 c
  simp only [Nat.zero_add] at this
  exact this
def tdV (V : VS) (t : Int) : VS := fup V 7 (fup (V 7) 15 t)
theorem td_wf {V : VS} (hw : WF V) {t : Int} (h : 0 ≤ t ∧ t ≤ 23) : WF (tdV V t) := hw.nums rfl rfl rfl rfl rfl rfl rfl rfl hw.you hw.coins hw.hour hw.wind hw.sun h
theorem EV.c_td {V V' : VS} (E : EV V V') (t : Int) : EV (tdV V t) (tdV V' t) := E.n1 rfl
theorem td_td (V : VS) (t t' : Int) : tdV (tdV V t) t' = tdV V t' := by unfold tdV; rw [fup_same, fup_fup, fup_fup]
theorem td_15 (V : VS) (t : Int) : tdV V t 7 15 = t := by unfold tdV; rw [fup_same, fup_same]
theorem td_id (V : VS) : tdV V (V 7 15) = V := by unfold tdV; rw [fup_id, fup_id]
theorem FRW.td {V V' : VS} (F : FRW V V') (t : Int) : FRW V (tdV V' t) := F.tr (FRM.w (FRM.n1 (FRM.rf _) (by omega) _))
def ltC (V : VS) (r : Int) (n : Nat) (v : Int) (t : Nat) : Bool := decide (v ≤ coF (tdV V (t : Int)) r n)
theorem ltC_iff {V : VS} {r : Int} {n : Nat} {v : Int} {t : Nat} : ltC V r n v t = true ↔ v ≤ coF (tdV V (t : Int)) r n := by unfold ltC; exact decide_eq_true_iff
theorem EV.c_ltC {V V' : VS} (E : EV V V') (r : Int) (n : Nat) (v : Int) : ltC V r n v = ltC V' r n v := by funext t; unfold ltC; rw [(E.c_td t).c_co]
def ltK (V : VS) (r : Int) (n : Nat) : Nat → VS
  | 0 => tdV V 23
  | j + 1 => tdV (cbV (ltK V r n j) r n) (23 - ((j + 1 : Nat) : Int))
theorem ltK_ok {V : VS} (hw : WF V) (r : Int) (n : Nat) : ∀ j : Nat, j ≤ 24 → EV (ltK V r n j) (tdV V (23 - (j : Int))) ∧ FRW V (ltK V r n j)
  | 0, _ => ⟨EV.rf _, (FRW.rf V).td _⟩
  | j + 1, hj => by
    obtain ⟨E, F⟩ := ltK_ok hw r n j (by omega)
    have hwj := E.sy.wf (td_wf hw (t := 23 - (j : Int)) (by omega))
    have M := cb_MEQ hwj r n
    refine ⟨?_, (F.tr M.2).td _⟩
    have := (M.1.sy.tr E).c_td (23 - ((j + 1 : Nat) : Int))
    rw [td_td] at this
    exact this
theorem sm_latest {d : Nat} {h : AH} {r v : Int} {n : Nat} (hw : WF (RV (h 17))) (r0 : 0 ≤ r) (r4 : r < 4) (hn : n ≤ 48) (hv : 0 ≤ v ∧ v ≤ 99999) : CallR (d + 9) 209 [vR 17 27, vI r, vI n, vI v] h (some (vI (upF (ltC (RV (h 17)) r n v) 0 24))) (fup h 17 (setRV (h 17) (tdV (ltK (RV (h 17)) r n 24) (RV (h 17) 7 15)))) := by
  have hr : 0 ≤ r ∧ r ≤ 3 := by omega
  have hn' : (n : Int) ≤ 48 := by omega
  have hK := ltK_ok hw r n
  have hV0 := hw
  generalize hV : RV (h 17) = V at *
  have L := lo_up (P := fun j => At (CallR (d + 8)) ac_209 40 [vR 17 27, vI r, vI n, vI v, vI (V 7 15), vI (upF (ltC V r n v) (24 - j) j)] [] (fup h 17 (setRV (h 17) (ltK V r n j))) (fun v' h2 => v' = some (vI (upF (ltC V r n v) 0 24)) ∧ h2 = fup h 17 (setRV (h 17) (tdV (ltK V r n 24) (V 7 15))))) 24 (fun j hj => by
    obtain ⟨E, F⟩ := hK j (by omega)
    have w1 := E.sy.wf (td_wf hw (t := 23 - (j : Int)) (by omega))
    have M := cb_MEQ w1 r n
    have q1 := wf17 (h := h) w1
    have t1 : ltK V r n j 7 15 = 23 - (j : Int) := (E.at7 (k := 15) (by omega) (by omega)).trans (td_15 _ _)
    have t2 : cbV (ltK V r n j) r n 7 15 = 23 - (j : Int) := (M.1.sy.at7 (k := 15) (by omega) (by omega)).trans t1
    have h1 : ¬ (23 - (j : Int)) < 0 := by omega
    have ew : wr (23 - (j : Int) - 1) = 23 - ((j + 1 : Nat) : Int) := by rw [wr_id (by omega) (by omega)]; omega
    have eK : fup (cbV (ltK V r n j) r n) 7 (fup (cbV (ltK V r n j) r n 7) 15 (23 - ((j + 1 : Nat) : Int))) = ltK V r n (j + 1) := rfl
    have ec : coF (ltK V r n j) r n = coF (tdV V ((23 - j : Nat) : Int)) r n := by
      rw [E.c_co, show (23 - (j : Int)) = ((23 - j : Nat) : Int) by omega]
    have eu : upF (ltC V r n v) (24 - (j + 1)) (j + 1) = if coF (ltK V r n j) r n < v then upF (ltC V r n v) (24 - j) j else 23 - (j : Int) := by
      show (if ltC V r n v (24 - (j + 1)) = true then ((24 - (j + 1) : Nat) : Int) else upF (ltC V r n v) (24 - (j + 1) + 1) j) = _
      rw [show 24 - (j + 1) + 1 = 24 - j by omega, show 24 - (j + 1) = 23 - j by omega, ec]
      by_cases q : coF (tdV V ((23 - j : Nat) : Int)) r n < v
      · rw [if_neg (fun a => by have := ltC_iff.mp a; omega), if_pos q]
      · rw [if_pos (ltC_iff.mpr (by omega)), if_neg q]; omega
    rw [eu, r209_40]
    simp only [r209_41, r209_44, r209_47, r209_48, r209_49, r209_50, r209_53, r209_54, r209_57, r209_58, r209_61, r209_63, r209_64, r209_64r, r209_65, r209_68, r209_69, r209_70, r209_73, r209_76, r209_77, r209_79, r209_82, r209_84, reduceIte, Option.some.injEq, and_assoc, exists_and_left, exists_eq_left, exists_eq_left', true_and, and_true, List.length_cons, List.length_nil, Nat.reduceAdd, Nat.reduceLeDiff, Sum.inl.injEq, az_0, az_1, az_2, az_3, az_4, az_5, az_6, az_8, az_11, az_14, az_15, az_17, az_20, az_21, az_22, az_23, az_24, az_25, az_26, az_28, az_29, az_30, az_31, az_32, az_33, az_34, az_35, az_36, ak_0, ak_1, ak_2, ak_3, ak_4, ak_5, ak_6, ak_8, ak_11, ak_14, ak_15, ak_17, ak_20, ak_21, ak_22, ak_23, ak_24, ak_25, ak_26, ak_28, ak_29, ak_30, ak_31, ak_32, ak_33, ak_34, ak_35, ak_36, ak_37, eq_self, Int.toNat_natCast, Nat.zero_le, bI_0, b01_0, bI_or, b01_or, ne_eq, reduceCtorEq, not_false_eq_true, Nat.reduceEqDiff, if_true, if_false, ite_true, ite_false, Int.natCast_nonneg, not_true_eq_false, Bool.true_eq_false, Bool.false_eq_true, Int.reduceEq, Int.reduceLT, Int.reduceLE, Int.reduceToNat, and_self, inA, exists_eq, or_true, true_or, or_false, false_or, and_false, false_and, or_self, up3, fup_same, fup_fup, sV_7, fS_7, t1, h1, CallR_iff (sm_coinsBy q1 r0 r4 hn), RV_set, set_set, t2, ew, eK]
    by_cases q : coF (ltK V r n j) r n < v
    · simp only [q, if_true]
    · simp only [q, if_false])
  have t1 : ltK V r n 24 7 15 = -1 := ((hK 24 (by omega)).1.at7 (k := 15) (by omega) (by omega)).trans (td_15 _ _)
  have e0 : fup V 7 (fup (V 7) 15 23) = ltK V r n 0 := rfl
  rw [show upF (ltC V r n v) (24 - 0) 0 = -1 from rfl] at L
  have e7 : h 17 27 = V 7 := by rw [← hV]; rfl
  (rw [cr_209]; simp only [r209_0, r209_1, r209_2, r209_5, r209_8, r209_9, r209_10, r209_12, r209_15, r209_18, r209_19, r209_21, r209_24, r209_25, r209_26, r209_29, r209_31, r209_32, r209_34, r209_35, r209_37, CallR_iff sm_isRule, CallR_iff sm_within, hr, hn', hv, up3, fup_same, fup_fup, fR_7, hV, e7, e0, reduceIte, Option.some.injEq, and_assoc, exists_and_left, exists_eq_left, exists_eq_left', true_and, and_true, List.length_cons, List.length_nil, Nat.reduceAdd, Nat.reduceLeDiff, Sum.inl.injEq, az_0, az_1, az_2, az_3, az_4, az_5, az_6, az_8, az_11, az_14, az_15, az_17, az_20, az_21, az_22, az_23, az_24, az_25, az_26, az_28, az_29, az_30, az_31, az_32, az_33, az_34, az_35, az_36, ak_0, ak_1, ak_2, ak_3, ak_4, ak_5, ak_6, ak_8, ak_11, ak_14, ak_15, ak_17, ak_20, ak_21, ak_22, ak_23, ak_24, ak_25, ak_26, ak_28, ak_29, ak_30, ak_31, ak_32, ak_33, ak_34, ak_35, ak_36, ak_37, eq_self, Int.toNat_natCast, Nat.zero_le, bI_0, b01_0, bI_or, b01_or, ne_eq, reduceCtorEq, not_false_eq_true, Nat.reduceEqDiff, if_true, if_false, ite_true, ite_false, Int.natCast_nonneg, not_true_eq_false, Bool.true_eq_false, Bool.false_eq_true, Int.reduceEq, Int.reduceLT, Int.reduceLE, Int.reduceToNat, and_self, inA, exists_eq, or_true, true_or, or_false, false_or, and_false, false_and, or_self])
  refine L.mpr ?_
  rw [r209_40]
  simp only [r209_41, r209_44, r209_47, r209_48, r209_49, r209_50, r209_53, r209_54, r209_57, r209_58, r209_61, r209_63, r209_64, r209_64r, r209_65, r209_68, r209_69, r209_70, r209_73, r209_76, r209_77, r209_79, r209_82, r209_84, reduceIte, Option.some.injEq, and_assoc, exists_and_left, exists_eq_left, exists_eq_left', true_and, and_true, List.length_cons, List.length_nil, Nat.reduceAdd, Nat.reduceLeDiff, Sum.inl.injEq, az_0, az_1, az_2, az_3, az_4, az_5, az_6, az_8, az_11, az_14, az_15, az_17, az_20, az_21, az_22, az_23, az_24, az_25, az_26, az_28, az_29, az_30, az_31, az_32, az_33, az_34, az_35, az_36, ak_0, ak_1, ak_2, ak_3, ak_4, ak_5, ak_6, ak_8, ak_11, ak_14, ak_15, ak_17, ak_20, ak_21, ak_22, ak_23, ak_24, ak_25, ak_26, ak_28, ak_29, ak_30, ak_31, ak_32, ak_33, ak_34, ak_35, ak_36, ak_37, eq_self, Int.toNat_natCast, Nat.zero_le, bI_0, b01_0, bI_or, b01_or, ne_eq, reduceCtorEq, not_false_eq_true, Nat.reduceEqDiff, if_true, if_false, ite_true, ite_false, Int.natCast_nonneg, not_true_eq_false, Bool.true_eq_false, Bool.false_eq_true, Int.reduceEq, Int.reduceLT, Int.reduceLE, Int.reduceToNat, and_self, inA, exists_eq, or_true, true_or, or_false, false_or, and_false, false_and, or_self, up3, fup_same, fup_fup, sV_7, fS_7, t1]
  rfl
theorem ok_latest {S : VS} {d : Nat} {h : AH} {r n v : Int} (R : REL S h) : OKI S d 112 209 [vI r, vI n, vI v] h := by
  have E := R.ev
  have hw := R.w
  have hw0 := R.w0
  by_cases hr : (0 ≤ r ∧ r ≤ 3) ∧ 0 ≤ n ∧ n ≤ 48
  · by_cases hv : 0 ≤ v ∧ v ≤ 99999
    · obtain ⟨n, rfl⟩ : ∃ q : Nat, n = (q : Int) := ⟨n.toNat, by omega⟩
      let T : Nat → VS := fun i => Nat.rec (h 2) (fun i W => followV (tdV (becV W (h 0)) (i : Int)) r n) i
      have T1 : ∀ i, T (i + 1) = followV (tdV (becV (T i) (h 0)) (i : Int)) r n := fun _ => rfl
      have T0 : T 0 = h 2 := rfl
      generalize T = T at *
      have hM : MEQ (RV (h 17)) (tdV (ltK (RV (h 17)) r n 24) (RV (h 17) 7 15)) := by
        obtain ⟨E', F'⟩ := ltK_ok hw r n 24 (by omega)
        refine ⟨?_, F'.td _⟩
        have := E'.c_td (RV (h 17) 7 15)
        rw [td_td, td_id] at this
        exact this.sy
      have hle := fst_le 24 (ltC (RV (h 17)) r n v)
      have hlt := fst_lt 24 (ltC (RV (h 17)) r n v)
      have hno := fst_no 24 (ltC (RV (h 17)) r n v)
      refine ⟨upF (ltC (RV (h 17)) r n v) 0 24, fup h 2 (T (if fstN (ltC (RV (h 17)) r n v) 24 < 24 then fstN (ltC (RV (h 17)) r n v) 24 + 1 else 24)), _, ?_, sm_latest hw hr.1.1 (by omega) (by omega) hv, R.qry ((SX.rf h).t (by omega) (by omega) _) hM⟩
      rw [upF_0]
      generalize hm : fstN (ltC (RV (h 17)) r n v) 24 = m at *
      have eT : ∀ i, T (i + 1) 7 10 = coF (tdV (RV (h 17)) (i : Int)) r n := fun i => by rw [T1]; exact (((EV.bec (T i) (h 0)).tr E).c_td i).c_co _ n
      have hq : ∀ i : Nat, i < 24 → WF ((fup h 2 (fup (becV (T i) (h 0)) 7 (fup (becV (T i) (h 0) 7) 15 (i : Int)))) 2) := fun i hi => wf2 (td_wf ((EV.bec (T i) (h 0)).sy.wf hw0) (by omega))
      have L := lo_up (P := fun i => At (CallR (d + 29)) ac_112 32 [vR 16 10, vI r, vI n, vI v, vI (i : Int)] [] (fup h 2 (T i)) (fun v' h2 => v' = some (vI (if m < 24 then (m : Int) else -1)) ∧ h2 = fup h 2 (T (if m < 24 then m + 1 else 24)))) m (fun i hi => by
        have h1 : ¬ 23 < (i : Int) := by omega
        have hn := hno i hi
        unfold ltC at hn
        rw [decide_eq_false_iff_not] at hn
        have hn' : coF (tdV (RV (h 17)) (i : Int)) r n < v := by omega
        have hqi := hq i (by omega)
        have eTi := eT i
        have T1i : followV (fup (becV (T i) (h 0)) 7 (fup (becV (T i) (h 0) 7) 15 (i : Int))) r n = T (i + 1) := (T1 i).symm
        rw [r112_32]
        simp only [r112_34, r112_36, r112_39, r112_40, r112_43, r112_44, r112_47, r112_50, r112_51, r112_54, r112_56, r112_59, r112_60, r112_63, r112_64, r112_65, r112_68, r112_69, r112_72, r112_75, r112_76, r112_79, r112_81, r112_82, r112_85, r112_88, r112_89, reduceIte, Option.some.injEq, and_assoc, exists_and_left, exists_eq_left, exists_eq_left', true_and, and_true, List.length_cons, List.length_nil, Nat.reduceAdd, Nat.reduceLeDiff, Sum.inl.injEq, az_0, az_1, az_2, az_3, az_4, az_5, az_6, az_8, az_11, az_14, az_15, az_17, az_20, az_21, az_22, az_23, az_24, az_25, az_26, az_28, az_29, az_30, az_31, az_32, az_33, az_34, az_35, az_36, ak_0, ak_1, ak_2, ak_3, ak_4, ak_5, ak_6, ak_8, ak_11, ak_14, ak_15, ak_17, ak_20, ak_21, ak_22, ak_23, ak_24, ak_25, ak_26, ak_28, ak_29, ak_30, ak_31, ak_32, ak_33, ak_34, ak_35, ak_36, ak_37, eq_self, Int.toNat_natCast, Nat.zero_le, bI_0, b01_0, bI_or, b01_or, ne_eq, reduceCtorEq, not_false_eq_true, Nat.reduceEqDiff, if_true, if_false, ite_true, ite_false, Int.natCast_nonneg, not_true_eq_false, Bool.true_eq_false, Bool.false_eq_true, Int.reduceEq, Int.reduceLT, Int.reduceLE, Int.reduceToNat, and_self, inA, exists_eq, or_true, true_or, or_false, false_or, and_false, false_and, or_self, h1, CallR_iff sx_bec, up3, CallR_iff (sp_follow hqi (r := r) (Int.natCast_nonneg n) (show (n : Int) < 2147483647 by omega)), fup_same, fup_fup, fup_ne, T1i, eTi, hn', wr_s (show i < 2147483647 by omega)])
      rw [T0, fup_id] at L
      (rw [cr_112]; simp only [r112_0, r112_1, r112_2, r112_5, r112_8, r112_9, r112_10, r112_13, r112_16, r112_19, r112_20, r112_22, r112_25, r112_27, r112_28, r112_29, r112_30, CallR_iff sx_mayRule, CallR_iff sx_within, hr, hv, reduceIte, Option.some.injEq, and_assoc, exists_and_left, exists_eq_left, exists_eq_left', true_and, and_true, List.length_cons, List.length_nil, Nat.reduceAdd, Nat.reduceLeDiff, Sum.inl.injEq, az_0, az_1, az_2, az_3, az_4, az_5, az_6, az_8, az_11, az_14, az_15, az_17, az_20, az_21, az_22, az_23, az_24, az_25, az_26, az_28, az_29, az_30, az_31, az_32, az_33, az_34, az_35, az_36, ak_0, ak_1, ak_2, ak_3, ak_4, ak_5, ak_6, ak_8, ak_11, ak_14, ak_15, ak_17, ak_20, ak_21, ak_22, ak_23, ak_24, ak_25, ak_26, ak_28, ak_29, ak_30, ak_31, ak_32, ak_33, ak_34, ak_35, ak_36, ak_37, eq_self, Int.toNat_natCast, Nat.zero_le, bI_0, b01_0, bI_or, b01_or, ne_eq, reduceCtorEq, not_false_eq_true, Nat.reduceEqDiff, if_true, if_false, ite_true, ite_false, Int.natCast_nonneg, not_true_eq_false, Bool.true_eq_false, Bool.false_eq_true, Int.reduceEq, Int.reduceLT, Int.reduceLE, Int.reduceToNat, and_self, inA, exists_eq, or_true, true_or, or_false, false_or, and_false, false_and, or_self])
      refine L.mpr ?_
      by_cases q : m < 24
      · have q1 : ¬ 23 < (m : Int) := by omega
        have hc := hlt q
        unfold ltC at hc
        rw [decide_eq_true_iff] at hc
        have hc' : ¬ coF (tdV (RV (h 17)) (m : Int)) r n < v := by omega
        have hqi := hq m q
        have eTi := eT m
        have T1i : followV (fup (becV (T m) (h 0)) 7 (fup (becV (T m) (h 0) 7) 15 (m : Int))) r n = T (m + 1) := (T1 m).symm
        rw [r112_32]
        simp only [r112_34, r112_36, r112_39, r112_40, r112_43, r112_44, r112_47, r112_50, r112_51, r112_54, r112_56, r112_59, r112_60, r112_63, r112_64, r112_65, r112_68, r112_69, r112_72, r112_75, r112_76, r112_79, r112_81, r112_82, r112_85, r112_88, r112_89, reduceIte, Option.some.injEq, and_assoc, exists_and_left, exists_eq_left, exists_eq_left', true_and, and_true, List.length_cons, List.length_nil, Nat.reduceAdd, Nat.reduceLeDiff, Sum.inl.injEq, az_0, az_1, az_2, az_3, az_4, az_5, az_6, az_8, az_11, az_14, az_15, az_17, az_20, az_21, az_22, az_23, az_24, az_25, az_26, az_28, az_29, az_30, az_31, az_32, az_33, az_34, az_35, az_36, ak_0, ak_1, ak_2, ak_3, ak_4, ak_5, ak_6, ak_8, ak_11, ak_14, ak_15, ak_17, ak_20, ak_21, ak_22, ak_23, ak_24, ak_25, ak_26, ak_28, ak_29, ak_30, ak_31, ak_32, ak_33, ak_34, ak_35, ak_36, ak_37, eq_self, Int.toNat_natCast, Nat.zero_le, bI_0, b01_0, bI_or, b01_or, ne_eq, reduceCtorEq, not_false_eq_true, Nat.reduceEqDiff, if_true, if_false, ite_true, ite_false, Int.natCast_nonneg, not_true_eq_false, Bool.true_eq_false, Bool.false_eq_true, Int.reduceEq, Int.reduceLT, Int.reduceLE, Int.reduceToNat, and_self, inA, exists_eq, or_true, true_or, or_false, false_or, and_false, false_and, or_self, q1, CallR_iff sx_bec, up3, CallR_iff (sp_follow hqi (r := r) (Int.natCast_nonneg n) (show (n : Int) < 2147483647 by omega)), fup_same, fup_fup, fup_ne, T1i, eTi, hc', q]
      · have q1 : 23 < (m : Int) := by omega
        have q2 : m = 24 := by omega
        rw [r112_32]
        simp only [r112_34, r112_36, r112_39, r112_40, r112_43, r112_44, r112_47, r112_50, r112_51, r112_54, r112_56, r112_59, r112_60, r112_63, r112_64, r112_65, r112_68, r112_69, r112_72, r112_75, r112_76, r112_79, r112_81, r112_82, r112_85, r112_88, r112_89, reduceIte, Option.some.injEq, and_assoc, exists_and_left, exists_eq_left, exists_eq_left', true_and, and_true, List.length_cons, List.length_nil, Nat.reduceAdd, Nat.reduceLeDiff, Sum.inl.injEq, az_0, az_1, az_2, az_3, az_4, az_5, az_6, az_8, az_11, az_14, az_15, az_17, az_20, az_21, az_22, az_23, az_24, az_25, az_26, az_28, az_29, az_30, az_31, az_32, az_33, az_34, az_35, az_36, ak_0, ak_1, ak_2, ak_3, ak_4, ak_5, ak_6, ak_8, ak_11, ak_14, ak_15, ak_17, ak_20, ak_21, ak_22, ak_23, ak_24, ak_25, ak_26, ak_28, ak_29, ak_30, ak_31, ak_32, ak_33, ak_34, ak_35, ak_36, ak_37, eq_self, Int.toNat_natCast, Nat.zero_le, bI_0, b01_0, bI_or, b01_or, ne_eq, reduceCtorEq, not_false_eq_true, Nat.reduceEqDiff, if_true, if_false, ite_true, ite_false, Int.natCast_nonneg, not_true_eq_false, Bool.true_eq_false, Bool.false_eq_true, Int.reduceEq, Int.reduceLT, Int.reduceLE, Int.reduceToNat, and_self, inA, exists_eq, or_true, true_or, or_false, false_or, and_false, false_and, or_self, q1, q]
        rw [q2]
    · refine R.refused (c := -6) (x := -16) ?_ (fun h1 e => ?_)
      · (rw [cr_112]; simp only [r112_0, r112_1, r112_2, r112_5, r112_8, r112_9, r112_10, r112_13, r112_16, r112_19, r112_20, r112_22, r112_25, r112_27, r112_28, r112_29, r112_30, CallR_iff sx_mayRule, CallR_iff sx_within, CallR_iff (sx_refuse (c := -6) (by decide) (by decide)), hr, hv, show wr (-6 + -10) = -16 by decide, reduceIte, Option.some.injEq, and_assoc, exists_and_left, exists_eq_left, exists_eq_left', true_and, and_true, List.length_cons, List.length_nil, Nat.reduceAdd, Nat.reduceLeDiff, Sum.inl.injEq, az_0, az_1, az_2, az_3, az_4, az_5, az_6, az_8, az_11, az_14, az_15, az_17, az_20, az_21, az_22, az_23, az_24, az_25, az_26, az_28, az_29, az_30, az_31, az_32, az_33, az_34, az_35, az_36, ak_0, ak_1, ak_2, ak_3, ak_4, ak_5, ak_6, ak_8, ak_11, ak_14, ak_15, ak_17, ak_20, ak_21, ak_22, ak_23, ak_24, ak_25, ak_26, ak_28, ak_29, ak_30, ak_31, ak_32, ak_33, ak_34, ak_35, ak_36, ak_37, eq_self, Int.toNat_natCast, Nat.zero_le, bI_0, b01_0, bI_or, b01_or, ne_eq, reduceCtorEq, not_false_eq_true, Nat.reduceEqDiff, if_true, if_false, ite_true, ite_false, Int.natCast_nonneg, not_true_eq_false, Bool.true_eq_false, Bool.false_eq_true, Int.reduceEq, Int.reduceLT, Int.reduceLE, Int.reduceToNat, and_self, inA, exists_eq, or_true, true_or, or_false, false_or, and_false, false_and, or_self])
      · (rw [cr_209]; simp only [r209_0, r209_1, r209_2, r209_5, r209_8, r209_9, r209_10, r209_12, r209_15, r209_18, r209_19, r209_21, r209_24, r209_25, r209_26, r209_29, r209_31, r209_32, r209_34, r209_35, r209_37, CallR_iff sm_isRule, CallR_iff sm_within, CallR_iff (sm_no10 (c := -6) (by decide) (by decide)), hr, hv, show (-6 - 10 : Int) = -16 by decide, reduceIte, Option.some.injEq, and_assoc, exists_and_left, exists_eq_left, exists_eq_left', true_and, and_true, List.length_cons, List.length_nil, Nat.reduceAdd, Nat.reduceLeDiff, Sum.inl.injEq, az_0, az_1, az_2, az_3, az_4, az_5, az_6, az_8, az_11, az_14, az_15, az_17, az_20, az_21, az_22, az_23, az_24, az_25, az_26, az_28, az_29, az_30, az_31, az_32, az_33, az_34, az_35, az_36, ak_0, ak_1, ak_2, ak_3, ak_4, ak_5, ak_6, ak_8, ak_11, ak_14, ak_15, ak_17, ak_20, ak_21, ak_22, ak_23, ak_24, ak_25, ak_26, ak_28, ak_29, ak_30, ak_31, ak_32, ak_33, ak_34, ak_35, ak_36, ak_37, eq_self, Int.toNat_natCast, Nat.zero_le, bI_0, b01_0, bI_or, b01_or, ne_eq, reduceCtorEq, not_false_eq_true, Nat.reduceEqDiff, if_true, if_false, ite_true, ite_false, Int.natCast_nonneg, not_true_eq_false, Bool.true_eq_false, Bool.false_eq_true, Int.reduceEq, Int.reduceLT, Int.reduceLE, Int.reduceToNat, and_self, inA, exists_eq, or_true, true_or, or_false, false_or, and_false, false_and, or_self])
  · refine R.refused (c := -6) (x := -16) ?_ (fun h1 e => ?_)
    · (rw [cr_112]; simp only [r112_0, r112_1, r112_2, r112_5, r112_8, r112_9, r112_10, r112_13, r112_16, r112_19, r112_20, r112_22, r112_25, r112_27, r112_28, r112_29, r112_30, CallR_iff sx_mayRule, CallR_iff sx_within, CallR_iff (sx_refuse (c := -6) (by decide) (by decide)), hr, show wr (-6 + -10) = -16 by decide, reduceIte, Option.some.injEq, and_assoc, exists_and_left, exists_eq_left, exists_eq_left', true_and, and_true, List.length_cons, List.length_nil, Nat.reduceAdd, Nat.reduceLeDiff, Sum.inl.injEq, az_0, az_1, az_2, az_3, az_4, az_5, az_6, az_8, az_11, az_14, az_15, az_17, az_20, az_21, az_22, az_23, az_24, az_25, az_26, az_28, az_29, az_30, az_31, az_32, az_33, az_34, az_35, az_36, ak_0, ak_1, ak_2, ak_3, ak_4, ak_5, ak_6, ak_8, ak_11, ak_14, ak_15, ak_17, ak_20, ak_21, ak_22, ak_23, ak_24, ak_25, ak_26, ak_28, ak_29, ak_30, ak_31, ak_32, ak_33, ak_34, ak_35, ak_36, ak_37, eq_self, Int.toNat_natCast, Nat.zero_le, bI_0, b01_0, bI_or, b01_or, ne_eq, reduceCtorEq, not_false_eq_true, Nat.reduceEqDiff, if_true, if_false, ite_true, ite_false, Int.natCast_nonneg, not_true_eq_false, Bool.true_eq_false, Bool.false_eq_true, Int.reduceEq, Int.reduceLT, Int.reduceLE, Int.reduceToNat, and_self, inA, exists_eq, or_true, true_or, or_false, false_or, and_false, false_and, or_self])
    · (rw [cr_209]; simp only [r209_0, r209_1, r209_2, r209_5, r209_8, r209_9, r209_10, r209_12, r209_15, r209_18, r209_19, r209_21, r209_24, r209_25, r209_26, r209_29, r209_31, r209_32, r209_34, r209_35, r209_37, CallR_iff sm_isRule, CallR_iff sm_within, CallR_iff (sm_no10 (c := -6) (by decide) (by decide)), hr, show (-6 - 10 : Int) = -16 by decide, reduceIte, Option.some.injEq, and_assoc, exists_and_left, exists_eq_left, exists_eq_left', true_and, and_true, List.length_cons, List.length_nil, Nat.reduceAdd, Nat.reduceLeDiff, Sum.inl.injEq, az_0, az_1, az_2, az_3, az_4, az_5, az_6, az_8, az_11, az_14, az_15, az_17, az_20, az_21, az_22, az_23, az_24, az_25, az_26, az_28, az_29, az_30, az_31, az_32, az_33, az_34, az_35, az_36, ak_0, ak_1, ak_2, ak_3, ak_4, ak_5, ak_6, ak_8, ak_11, ak_14, ak_15, ak_17, ak_20, ak_21, ak_22, ak_23, ak_24, ak_25, ak_26, ak_28, ak_29, ak_30, ak_31, ak_32, ak_33, ak_34, ak_35, ak_36, ak_37, eq_self, Int.toNat_natCast, Nat.zero_le, bI_0, b01_0, bI_or, b01_or, ne_eq, reduceCtorEq, not_false_eq_true, Nat.reduceEqDiff, if_true, if_false, ite_true, ite_false, Int.natCast_nonneg, not_true_eq_false, Bool.true_eq_false, Bool.false_eq_true, Int.reduceEq, Int.reduceLT, Int.reduceLE, Int.reduceToNat, and_self, inA, exists_eq, or_true, true_or, or_false, false_or, and_false, false_and, or_self])
