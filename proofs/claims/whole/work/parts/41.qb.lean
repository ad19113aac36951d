/-! PURE: dear -/
theorem act_co (W : VS) (a : Int) : actV W a 7 10 = if a = 4 then amin 99999 (W 7 10 + W 6 (clsF (strAt W (strongV W 100))).toNat) else W 7 10 := by
  unfold actV
  by_cases h1 : a = 1
  · subst h1
    rw [if_pos rfl, if_neg (by decide)]
    unfold gatherV setFogV fillV
    dsimp only
    repeat' split
    all_goals rfl
  rw [if_neg h1]
  by_cases h2 : a = 2
  · subst h2; rfl
  rw [if_neg h2]
  by_cases h3 : a = 3
  · subst h3; rfl
  rw [if_neg h3]
  by_cases h4 : a = 4
  · subst h4
    rw [if_pos rfl, if_pos rfl]
    unfold spendV drainV
    split <;> rfl
  rw [if_neg h4, if_neg h4]
  split
  · rfl
  split
  · unfold layV
    split <;> rfl
  · rfl
theorem pass_co (W : VS) (a : Int) : passV W a 7 10 = actV W a 7 10 := by
  have f3 : thinIf (leakV (actV W a)) 7 = actV W a 7 := by unfold thinIf; split <;> rfl
  have f4 : blowIf (thinIf (leakV (actV W a))) 7 = actV W a 7 := by unfold blowIf; split; exact f3; exact f3
  have f5 : marshV (blowIf (thinIf (leakV (actV W a)))) 7 = actV W a 7 := f4
  unfold passV hourV
  split
  · show marshV (blowIf (thinIf (leakV (actV W a)))) 7 10 = _
    rw [f5]
  · show marshV (blowIf (thinIf (leakV (actV W a)))) 7 10 = _
    rw [f5]
def gnF (V : VS) (r : Int) (P : Nat → Int) : Nat → Int
  | 0 => 0
  | i + 1 => gnF V r P i + (if ruleV (followV V r i) r = 4 then P (clsF (strAt (followV V r i) (strongV (followV V r i) 100))).toNat else 0)
theorem PE.c_gn {V V' : VS} (E : PE V V') (r : Int) (P : Nat → Int) : ∀ n, gnF V r P n = gnF V' r P n
  | 0 => rfl
  | n + 1 => by
    have F := E.c_followV r n
    unfold gnF
    rw [PE.c_gn E r P n, F.c_ruleV, F.c_strongV, F.c_strAt]
theorem gn_bd (V : VS) (r : Int) {P : Nat → Int} {B : Int} (hP : ∀ c, c < 4 → 0 ≤ P c ∧ P c ≤ B) (hB : 0 ≤ B) : ∀ n : Nat, 0 ≤ gnF V r P n ∧ gnF V r P n ≤ B * n
  | 0 => by simp [gnF]
  | n + 1 => by
    have h1 := gn_bd V r hP hB n
    have hc := clsF_bd (strAt (followV V r n) (strongV (followV V r n) 100))
    have h2 := hP (clsF (strAt (followV V r n) (strongV (followV V r n) 100))).toNat (by omega)
    have e : B * ((n + 1 : Nat) : Int) = B * n + B := by rw [Int.natCast_add, Int.mul_add]; simp
    unfold gnF
    rw [e]
    split <;> omega
theorem co_gn {V : VS} (hw : WF V) (r : Int) : ∀ n, followV V r n 7 10 = amin 99999 (V 7 10 + gnF V r (V 6) n)
  | 0 => by
    have := hw.coins
    show V 7 10 = amin 99999 (V 7 10 + 0)
    unfold amin
    split <;> omega
  | n + 1 => by
    have ih := co_gn hw r n
    have hc := clsF_bd (strAt (followV V r n) (strongV (followV V r n) 100))
    have h2 := hw.pr.2 (clsF (strAt (followV V r n) (strongV (followV V r n) 100))).toNat (by omega)
    have hg := gn_bd V r hw.pr.2 (by omega) n
    have h0 := hw.coins
    have e6 : followV V r n 6 = V 6 := (FIX.follow V r n).2.2.1
    show passV (followV V r n) (ruleV (followV V r n) r) 7 10 = _
    rw [pass_co, act_co, e6, ih, show gnF V r (V 6) (n + 1) = gnF V r (V 6) n + (if ruleV (followV V r n) r = 4 then V 6 (clsF (strAt (followV V r n) (strongV (followV V r n) 100))).toNat else 0) from rfl]
    by_cases q : ruleV (followV V r n) r = 4
    · rw [if_pos q, if_pos q]
      unfold amin
      repeat' split
      all_goals omega
    · rw [if_neg q, if_neg q, Int.add_zero]
def indF (k : Nat) : Int := if k = 3 then 1 else 0
theorem gn_lin (V : VS) (r : Int) (P : Nat → Int) (v : Int) : ∀ n, gnF V r (fup P 3 v) n = gnF V r (fup P 3 0) n + v * gnF V r indF n
  | 0 => by simp [gnF]
  | n + 1 => by
    have ih := gn_lin V r P v n
    unfold gnF
    rw [Int.mul_add, ih]
    by_cases q : ruleV (followV V r n) r = 4
    · rw [if_pos q, if_pos q, if_pos q]
      unfold indF
      rw [fup_at, fup_at]
      by_cases c : (clsF (strAt (followV V r n) (strongV (followV V r n) 100))).toNat = 3
      · rw [if_pos c, if_pos c, if_pos c]; omega
      · rw [if_neg c, if_neg c, if_neg c]; omega
    · rw [if_neg q, if_neg q, if_neg q]; omega
def prV (V : VS) (v : Int) : VS := fup V 6 (fup (V 6) 3 v)
theorem pr_wf {V : VS} (hw : WF V) {v : Int} (h : 0 ≤ v ∧ v ≤ 99) : WF (prV V v) := setPrice_wf hw (r := 3) h
theorem EV.c_pr {V V' : VS} (E : EV V V') (v : Int) : EV (prV V v) (prV V' v) := E.r6 (by rw [E.2.2.2.2.2.1])
theorem pr_pr (V : VS) (t t' : Int) : prV (prV V t) t' = prV V t' := by unfold prV; rw [fup_same, fup_fup, fup_fup]
theorem pr_id (V : VS) : prV V (V 6 3) = V := by unfold prV; rw [fup_id, fup_id]
theorem pr_PE (V : VS) (v : Int) : PE (prV V v) V := PE.rf V
theorem FRW.pr {V V' : VS} (F : FRW V V') (t : Int) : FRW V (prV V' t) := F.tr (FRM.w (FRM.r (FRM.rf _) (by omega) _))
/-- what a rule brings, by the price of class 3 -/
theorem co_pr {V : VS} (hw : WF V) (r : Int) (n : Nat) {v : Int} (h : 0 ≤ v ∧ v ≤ 99) : coF (prV V v) r n = amin 99999 (V 7 10 + (gnF V r (fup (V 6) 3 0) n + v * gnF V r indF n)) := by
  rw [← gn_lin, ← (pr_PE V v).c_gn]
  exact co_gn (pr_wf hw h) r n
theorem gn_ind (V : VS) (r : Int) {n : Nat} (hn : n ≤ 48) : 0 ≤ gnF V r indF n ∧ gnF V r indF n ≤ 48 := by
  have := gn_bd V r (P := indF) (B := 1) (fun c _ => by unfold indF; split <;> omega) (by omega) n
  omega
theorem gn_z {V : VS} (hw : WF V) (r : Int) {n : Nat} (hn : n ≤ 48) : 0 ≤ gnF V r (fup (V 6) 3 0) n ∧ gnF V r (fup (V 6) 3 0) n ≤ 4752 := by
  have := gn_bd V r (P := fup (V 6) 3 0) (B := 99) (fun c hc => by
    have := hw.pr.2 c hc
    unfold fup
    split <;> omega) (by omega) n
  omega
def dkC (V : VS) (n : Nat) (v : Nat) : Bool := decide (coF (prV V (v : Int)) 0 n < coF (prV V (v : Int)) 1 n)
theorem dkC_iff {V : VS} {n v : Nat} : dkC V n v = true ↔ coF (prV V (v : Int)) 0 n < coF (prV V (v : Int)) 1 n := by unfold dkC; exact decide_eq_true_iff
def dkK (V : VS) (n : Nat) : Nat → VS
  | 0 => V
  | j + 1 => cbV (cbV (prV (dkK V n j) (99 - (j : Int))) 1 n) 0 n
theorem dkK_ok {V : VS} (hw : WF V) (n : Nat) : ∀ j : Nat, j ≤ 100 → (∃ y : Int, (0 ≤ y ∧ y ≤ 99) ∧ EV (dkK V n j) (prV V y)) ∧ FRW V (dkK V n j)
  | 0, _ => ⟨⟨V 6 3, hw.pr.2 3 (by omega), by rw [pr_id]; exact EV.rf _⟩, FRW.rf V⟩
  | j + 1, hj => by
    obtain ⟨⟨y, hy, E⟩, F⟩ := dkK_ok hw n j (by omega)
    have E1 := E.c_pr (99 - (j : Int))
    rw [pr_pr] at E1
    have w1 := E1.sy.wf (pr_wf hw (v := 99 - (j : Int)) (by omega))
    have M1 := cb_MEQ w1 1 n
    have M2 := cb_MEQ (M1.1.wf w1) 0 n
    exact ⟨⟨99 - (j : Int), by omega, (M1.1.tr M2.1).sy.tr E1⟩, ((F.pr _).tr M1.2).tr M2.2⟩
theorem sm_dear {d : Nat} {h : AH} {n : Nat} (hw : WF (RV (h 17))) (hn : n ≤ 48) : CallR (d + 9) 210 [vR 17 27, vI n] h (some (vI (upF (dkC (RV (h 17)) n) 0 100))) (fup h 17 (setRV (h 17) (prV (dkK (RV (h 17)) n 100) (RV (h 17) 6 3)))) := by
  have hn' : (n : Int) ≤ 48 := by omega
  have hK := dkK_ok hw n
  generalize hV : RV (h 17) = V at *
  have L := lo_up (P := fun j => At (CallR (d + 8)) ac_210 28 [vR 17 27, vI n, vI (V 6 3), vI (upF (dkC V n) (100 - j) j), vI (99 - (j : Int))] [] (fup h 17 (setRV (h 17) (dkK V n j))) (fun v' h2 => v' = some (vI (upF (dkC V n) 0 100)) ∧ h2 = fup h 17 (setRV (h 17) (prV (dkK V n 100) (V 6 3))))) 100 (fun j hj => by
    obtain ⟨⟨y, hy, E⟩, F⟩ := hK j (by omega)
    have E1 := E.c_pr (99 - (j : Int))
    rw [pr_pr] at E1
    have w1 := E1.sy.wf (pr_wf hw (v := 99 - (j : Int)) (by omega))
    have M1 := cb_MEQ w1 1 n
    have w2 := M1.1.wf w1
    have q1 := wf17 (h := h) w1
    have q2 := wf17 (h := h) w2
    have h1 : ¬ (99 - (j : Int)) < 0 := by omega
    have ew : wr (99 - (j : Int) + -1) = 99 - ((j + 1 : Nat) : Int) := by rw [wr_id (by omega) (by omega)]; omega
    have eP : fup (dkK V n j) 6 (fup (dkK V n j 6) 3 (99 - (j : Int))) = prV (dkK V n j) (99 - (j : Int)) := rfl
    have eK : cbV (cbV (prV (dkK V n j) (99 - (j : Int))) 1 n) 0 n = dkK V n (j + 1) := rfl
    have ej : (99 - (j : Int)) = ((99 - j : Nat) : Int) := by omega
    have c1 : coF (prV (dkK V n j) (99 - (j : Int))) 1 n = coF (prV V ((99 - j : Nat) : Int)) 1 n := by rw [E1.c_co, ej]
    have c2 : coF (cbV (prV (dkK V n j) (99 - (j : Int))) 1 n) 0 n = coF (prV V ((99 - j : Nat) : Int)) 0 n := by rw [(M1.1.sy.tr E1).c_co, ej]
    have eu : upF (dkC V n) (100 - (j + 1)) (j + 1) = if coF (prV V ((99 - j : Nat) : Int)) 1 n ≤ coF (prV V ((99 - j : Nat) : Int)) 0 n then upF (dkC V n) (100 - j) j else 99 - (j : Int) := by
      show (if dkC V n (100 - (j + 1)) = true then ((100 - (j + 1) : Nat) : Int) else upF (dkC V n) (100 - (j + 1) + 1) j) = _
      rw [show 100 - (j + 1) + 1 = 100 - j by omega, show 100 - (j + 1) = 99 - j by omega]
      by_cases q : coF (prV V ((99 - j : Nat) : Int)) 1 n ≤ coF (prV V ((99 - j : Nat) : Int)) 0 n
      · rw [if_neg (fun a => by have := dkC_iff.mp a; omega), if_pos q]
      · rw [if_pos (dkC_iff.mpr (by omega)), if_neg q]; omega
    rw [eu, r210_28]
    simp only [r210_30, r210_33, r210_34, r210_37, r210_38, r210_40, r210_41, r210_42, r210_43, r210_44, r210_47, r210_48, r210_49, r210_50, r210_53, r210_56, r210_58, r210_59, r210_62, r210_65, r210_66, r210_69, r210_70, r210_71, r210_72, r210_73, reduceIte, Option.some.injEq, and_assoc, exists_and_left, exists_eq_left, exists_eq_left', true_and, and_true, List.length_cons, List.length_nil, Nat.reduceAdd, Nat.reduceLeDiff, Sum.inl.injEq, az_0, az_1, az_2, az_3, az_4, az_5, az_6, az_8, az_11, az_14, az_15, az_17, az_20, az_21, az_22, az_23, az_24, az_25, az_26, az_28, az_29, az_30, az_31, az_32, az_33, az_34, az_35, az_36, ak_0, ak_1, ak_2, ak_3, ak_4, ak_5, ak_6, ak_8, ak_11, ak_14, ak_15, ak_17, ak_20, ak_21, ak_22, ak_23, ak_24, ak_25, ak_26, ak_28, ak_29, ak_30, ak_31, ak_32, ak_33, ak_34, ak_35, ak_36, ak_37, eq_self, Int.toNat_natCast, Nat.zero_le, bI_0, b01_0, bI_or, b01_or, ne_eq, reduceCtorEq, not_false_eq_true, Nat.reduceEqDiff, if_true, if_false, ite_true, ite_false, Int.natCast_nonneg, not_true_eq_false, Bool.true_eq_false, Bool.false_eq_true, Int.reduceEq, Int.reduceLT, Int.reduceLE, Int.reduceToNat, and_self, inA, exists_eq, or_true, true_or, or_false, false_or, and_false, false_and, or_self, up3, fup_same, fup_fup, sV_6, fS_6, h1, CallR_iff (sm_coinsBy q1 (r := 1) (by decide) (by decide) hn), CallR_iff (sm_coinsBy q2 (r := 0) (by decide) (by decide) hn), RV_set, set_set, eP, c1, c2, eK, ew]
    by_cases q : coF (prV V ((99 - j : Nat) : Int)) 1 n ≤ coF (prV V ((99 - j : Nat) : Int)) 0 n
    · simp only [q, show ¬ coF (prV V ((99 - j : Nat) : Int)) 0 n < coF (prV V ((99 - j : Nat) : Int)) 1 n by omega, if_true, if_false]
    · simp only [q, show coF (prV V ((99 - j : Nat) : Int)) 0 n < coF (prV V ((99 - j : Nat) : Int)) 1 n by omega, if_true, if_false])
  rw [show upF (dkC V n) (100 - 0) 0 = -1 from rfl, show dkK V n 0 = V from rfl, ← hV, set_RV, fup_id, hV] at L
  have e6 : h 17 26 3 = V 6 3 := by rw [← hV]; rfl
  (rw [cr_210]; simp only [r210_0, r210_1, r210_2, r210_5, r210_8, r210_9, r210_11, r210_14, r210_15, r210_16, r210_19, r210_20, r210_21, r210_22, r210_23, r210_24, r210_26, CallR_iff sm_isRule, hn', e6, reduceIte, Option.some.injEq, and_assoc, exists_and_left, exists_eq_left, exists_eq_left', true_and, and_true, List.length_cons, List.length_nil, Nat.reduceAdd, Nat.reduceLeDiff, Sum.inl.injEq, az_0, az_1, az_2, az_3, az_4, az_5, az_6, az_8, az_11, az_14, az_15, az_17, az_20, az_21, az_22, az_23, az_24, az_25, az_26, az_28, az_29, az_30, az_31, az_32, az_33, az_34, az_35, az_36, ak_0, ak_1, ak_2, ak_3, ak_4, ak_5, ak_6, ak_8, ak_11, ak_14, ak_15, ak_17, ak_20, ak_21, ak_22, ak_23, ak_24, ak_25, ak_26, ak_28, ak_29, ak_30, ak_31, ak_32, ak_33, ak_34, ak_35, ak_36, ak_37, eq_self, Int.toNat_natCast, Nat.zero_le, bI_0, b01_0, bI_or, b01_or, ne_eq, reduceCtorEq, not_false_eq_true, Nat.reduceEqDiff, if_true, if_false, ite_true, ite_false, Int.natCast_nonneg, not_true_eq_false, Bool.true_eq_false, Bool.false_eq_true, Int.reduceEq, Int.reduceLT, Int.reduceLE, Int.reduceToNat, and_self, inA, exists_eq, or_true, true_or, or_false, false_or, and_false, false_and, or_self])
  refine L.mpr ?_
  rw [r210_28]
  simp only [r210_30, r210_33, r210_34, r210_37, r210_38, r210_40, r210_41, r210_42, r210_43, r210_44, r210_47, r210_48, r210_49, r210_50, r210_53, r210_56, r210_58, r210_59, r210_62, r210_65, r210_66, r210_69, r210_70, r210_71, r210_72, r210_73, reduceIte, Option.some.injEq, and_assoc, exists_and_left, exists_eq_left, exists_eq_left', true_and, and_true, List.length_cons, List.length_nil, Nat.reduceAdd, Nat.reduceLeDiff, Sum.inl.injEq, az_0, az_1, az_2, az_3, az_4, az_5, az_6, az_8, az_11, az_14, az_15, az_17, az_20, az_21, az_22, az_23, az_24, az_25, az_26, az_28, az_29, az_30, az_31, az_32, az_33, az_34, az_35, az_36, ak_0, ak_1, ak_2, ak_3, ak_4, ak_5, ak_6, ak_8, ak_11, ak_14, ak_15, ak_17, ak_20, ak_21, ak_22, ak_23, ak_24, ak_25, ak_26, ak_28, ak_29, ak_30, ak_31, ak_32, ak_33, ak_34, ak_35, ak_36, ak_37, eq_self, Int.toNat_natCast, Nat.zero_le, bI_0, b01_0, bI_or, b01_or, ne_eq, reduceCtorEq, not_false_eq_true, Nat.reduceEqDiff, if_true, if_false, ite_true, ite_false, Int.natCast_nonneg, not_true_eq_false, Bool.true_eq_false, Bool.false_eq_true, Int.reduceEq, Int.reduceLT, Int.reduceLE, Int.reduceToNat, and_self, inA, exists_eq, or_true, true_or, or_false, false_or, and_false, false_and, or_self, up3, fup_same, fup_fup, sV_6, fS_6, show (99 - ((100 : Nat) : Int)) < 0 by decide]
  rfl
/-- what a rule brings, the class's way -/
def brT (h : AH) (W : VS) (r : Int) (n : Nat) (p : Int) : VS := followV (prV (fup (becV W (h 0)) 7 (fup (becV W (h 0) 7) 10 0)) p) r n
theorem br_val {h : AH} {R : VS} (E : EV (h 0) R) (hw : WF R) (W : VS) (r : Int) {n : Nat} (hn : n ≤ 48) {p : Int} (hp : 0 ≤ p ∧ p ≤ 1) : brT h W r n p 7 10 = gnF R r (fup (R 6) 3 0) n + p * gnF R r indF n := by
  have EB : EV (becV W (h 0)) R := (EV.bec W (h 0)).tr E
  have hwB := EB.sy.wf hw
  have hwC : WF (fup (becV W (h 0)) 7 (fup (becV W (h 0) 7) 10 0)) := hwB.nums rfl rfl rfl rfl rfl rfl rfl rfl hwB.you (by show 0 ≤ (0 : Int) ∧ (0 : Int) ≤ 99999; omega) hwB.hour hwB.wind hwB.sun hwB.tender
  have EC : EV (fup (becV W (h 0)) 7 (fup (becV W (h 0) 7) 10 0)) (fup R 7 (fup (R 7) 10 0)) := EB.n1 rfl
  have hwD : WF (fup R 7 (fup (R 7) 10 0)) := EC.wf hwC
  have hz := gn_z hw r hn
  have hi := gn_ind R r hn
  have hP : PE (fup R 7 (fup (R 7) 10 0)) R := (PE.rf R).n1 (x := 0) (x' := R 7 10) (Or.inl rfl) |> fun q => by rw [fup_id, fup_id] at q; exact q
  show coF (prV (fup (becV W (h 0)) 7 (fup (becV W (h 0) 7) 10 0)) p) r n = _
  rw [(EC.c_pr p).c_co, co_pr hwD r n (by omega), hP.c_gn, hP.c_gn]
  show amin 99999 (0 + (gnF R r (fup (R 6) 3 0) n + p * gnF R r indF n)) = _
  have : p = 0 ∨ p = 1 := by omega
  rcases this with rfl | rfl
  · unfold amin; split <;> omega
  · unfold amin; split <;> omega
theorem sx_brings {d : Nat} {h : AH} {r p : Int} {n : Nat} (hw0 : WF (h 0)) (hn : n ≤ 48) (hp : 0 ≤ p ∧ p ≤ 1) : CallR (d + 7) 114 [vR 16 10, vI r, vI n, vI p] h (some (vI (brT h (h 2) r n p 7 10))) (fup h 2 (brT h (h 2) r n p)) := by
  have hwB : WF (becV (h 2) (h 0)) := wfT hw0
  have hwC : WF (fup (becV (h 2) (h 0)) 7 (fup (becV (h 2) (h 0) 7) 10 0)) := hwB.nums rfl rfl rfl rfl rfl rfl rfl rfl hwB.you (by show 0 ≤ (0 : Int) ∧ (0 : Int) ≤ 99999; omega) hwB.hour hwB.wind hwB.sun hwB.tender
  have hq : WF ((fup h 2 (setPriceV (fup (becV (h 2) (h 0)) 7 (fup (becV (h 2) (h 0) 7) 10 0)) 3 p)) 2) := wf2 (setPrice_wf hwC (by omega))
  (rw [cr_114]; simp only [r114_0, r114_1, r114_4, r114_5, r114_8, r114_11, r114_12, r114_15, r114_16, r114_19, r114_20, r114_23, r114_24, r114_25, r114_28, r114_29, r114_32, r114_33, r114_34, r114_37, r114_38, r114_41, r114_44, CallR_iff sx_bec, up3, CallR_iff sp_setPrice, CallR_iff (sp_follow hq (r := r) (Int.natCast_nonneg n) (show (n : Int) < 2147483647 by omega)), fup_same, fup_fup, reduceIte, Option.some.injEq, and_assoc, exists_and_left, exists_eq_left, exists_eq_left', true_and, and_true, List.length_cons, List.length_nil, Nat.reduceAdd, Nat.reduceLeDiff, Sum.inl.injEq, az_0, az_1, az_2, az_3, az_4, az_5, az_6, az_8, az_11, az_14, az_15, az_17, az_20, az_21, az_22, az_23, az_24, az_25, az_26, az_28, az_29, az_30, az_31, az_32, az_33, az_34, az_35, az_36, ak_0, ak_1, ak_2, ak_3, ak_4, ak_5, ak_6, ak_8, ak_11, ak_14, ak_15, ak_17, ak_20, ak_21, ak_22, ak_23, ak_24, ak_25, ak_26, ak_28, ak_29, ak_30, ak_31, ak_32, ak_33, ak_34, ak_35, ak_36, ak_37, eq_self, Int.toNat_natCast, Nat.zero_le, bI_0, b01_0, bI_or, b01_or, ne_eq, reduceCtorEq, not_false_eq_true, Nat.reduceEqDiff, if_true, if_false, ite_true, ite_false, Int.natCast_nonneg, not_true_eq_false, Bool.true_eq_false, Bool.false_eq_true, Int.reduceEq, Int.reduceLT, Int.reduceLE, Int.reduceToNat, and_self, inA, exists_eq, or_true, true_or, or_false, false_or, and_false, false_and, or_self])
  exact ⟨rfl, rfl⟩
theorem ok_dear {S : VS} {d : Nat} {h : AH} {n : Int} (R : REL S h) : OKI S d 113 210 [vI n] h := by
  have E := R.ev
  have hw := R.w
  have hw0 := R.w0
  by_cases hn : 0 ≤ n ∧ n ≤ 48
  · obtain ⟨n, rfl⟩ : ∃ q : Nat, n = (q : Int) := ⟨n.toNat, by omega⟩
    have hn' : n ≤ 48 := by omega
    have hM : MEQ (RV (h 17)) (prV (dkK (RV (h 17)) n 100) (RV (h 17) 6 3)) := by
      obtain ⟨⟨y, hy, E'⟩, F'⟩ := dkK_ok hw n 100 (by omega)
      refine ⟨?_, F'.pr _⟩
      have := E'.c_pr (RV (h 17) 6 3)
      rw [pr_pr, pr_id] at this
      exact this.sy
    have hle := fst_le 100 (dkC (RV (h 17)) n)
    have hlt := fst_lt 100 (dkC (RV (h 17)) n)
    have hno := fst_no 100 (dkC (RV (h 17)) n)
    have c10 : h 0 7 10 = RV (h 17) 7 10 := E.at7 (k := 10) (by omega) (by omega)
    have hcb := hw.coins
    obtain ⟨W, hW⟩ : ∃ W, W = brT h (brT h (brT h (brT h (h 2) 1 n 0) 1 n 1) 0 n 0) 0 n 1 := ⟨_, rfl⟩
    refine ⟨upF (dkC (RV (h 17)) n) 0 100, fup h 2 W, _, ?_, sm_dear hw hn', R.qry ((SX.rf h).t (by omega) (by omega) _) hM⟩
    rw [upF_0]
    have z1 := gn_z hw 1 hn'
    have i1 := gn_ind (RV (h 17)) 1 hn'
    have z0 := gn_z hw 0 hn'
    have i0 := gn_ind (RV (h 17)) 0 hn'
    have v1 := fun W => br_val E hw W 1 hn' (p := 0) (by omega)
    have v2 := fun W => br_val E hw W 1 hn' (p := 1) (by omega)
    have v3 := fun W => br_val E hw W 0 hn' (p := 0) (by omega)
    have v4 := fun W => br_val E hw W 0 hn' (p := 1) (by omega)
    have cp1 := fun (v : Nat) (hv : v < 100) => co_pr hw 1 n (v := (v : Int)) (by omega)
    have cp0 := fun (v : Nat) (hv : v < 100) => co_pr hw 0 n (v := (v : Int)) (by omega)
    have hdk : ∀ v : Nat, dkC (RV (h 17)) n v = true ↔ coF (prV (RV (h 17)) (v : Int)) 0 n < coF (prV (RV (h 17)) (v : Int)) 1 n := fun v => dkC_iff
    generalize hA1 : gnF (RV (h 17)) 1 (fup (RV (h 17) 6) 3 0) n = A1 at *
    generalize hB1 : gnF (RV (h 17)) 1 indF n = B1 at *
    generalize hA0 : gnF (RV (h 17)) 0 (fup (RV (h 17) 6) 3 0) n = A0 at *
    generalize hB0 : gnF (RV (h 17)) 0 indF n = B0 at *
    generalize hm : fstN (dkC (RV (h 17)) n) 100 = m at *
    have pur : ∀ {d : Nat} {x : Int}, 0 ≤ x → x ≤ 100000 → CallR (d + 1) 115 [vR 16 10, vI x] (fup h 2 W) (some (vI (amin 99999 (RV (h 17) 7 10 + x)))) (fup h 2 W) := by
      intro d x x0 x1
      (rw [cr_115]; simp only [r115_0, r115_3, r115_4, r115_7, r115_10, r115_11, r115_12, r115_15, fup_ne, c10, wr_id (show -2147483648 ≤ RV (h 17) 7 10 + x by omega) (by omega), reduceIte, Option.some.injEq, and_assoc, exists_and_left, exists_eq_left, exists_eq_left', true_and, and_true, List.length_cons, List.length_nil, Nat.reduceAdd, Nat.reduceLeDiff, Sum.inl.injEq, az_0, az_1, az_2, az_3, az_4, az_5, az_6, az_8, az_11, az_14, az_15, az_17, az_20, az_21, az_22, az_23, az_24, az_25, az_26, az_28, az_29, az_30, az_31, az_32, az_33, az_34, az_35, az_36, ak_0, ak_1, ak_2, ak_3, ak_4, ak_5, ak_6, ak_8, ak_11, ak_14, ak_15, ak_17, ak_20, ak_21, ak_22, ak_23, ak_24, ak_25, ak_26, ak_28, ak_29, ak_30, ak_31, ak_32, ak_33, ak_34, ak_35, ak_36, ak_37, eq_self, Int.toNat_natCast, Nat.zero_le, bI_0, b01_0, bI_or, b01_or, ne_eq, reduceCtorEq, not_false_eq_true, Nat.reduceEqDiff, if_true, if_false, ite_true, ite_false, Int.natCast_nonneg, not_true_eq_false, Bool.true_eq_false, Bool.false_eq_true, Int.reduceEq, Int.reduceLT, Int.reduceLE, Int.reduceToNat, and_self, inA, exists_eq, or_true, true_or, or_false, false_or, and_false, false_and, or_self])
    have mb : ∀ (v : Nat) (B : Int), v < 100 → 0 ≤ B → B ≤ 48 → 0 ≤ (v : Int) * B ∧ (v : Int) * B ≤ 4752 := by
      intro v B hv b0 b1
      have e1 : 0 ≤ (v : Int) * B := Int.mul_nonneg (by omega) b0
      have e2 : (v : Int) * B ≤ 99 * B := Int.mul_le_mul_of_nonneg_right (by omega) b0
      omega
    have L := lo_up (P := fun i => At (CallR (d + 29)) ac_113 60 [vR 16 10, vI n, vI A1, vI B1, vI A0, vI B0, vI (i : Int)] [] (fup h 2 W) (fun v' h2 => v' = some (vI (if m < 100 then (m : Int) else -1)) ∧ h2 = fup h 2 W)) m (fun i hi => by
      have h1 : ¬ 99 < (i : Int) := by omega
      have hnn := hno i hi
      have hn2 : ¬ coF (prV (RV (h 17)) (i : Int)) 0 n < coF (prV (RV (h 17)) (i : Int)) 1 n := fun a => by rw [(hdk i).mpr a] at hnn; exact Bool.noConfusion hnn
      rw [cp1 i (by omega), cp0 i (by omega)] at hn2
      have m1 := mb i B1 (by omega) i1.1 i1.2
      have m0 := mb i B0 (by omega) i0.1 i0.2
      have w1 : wr ((i : Int) * B1) = (i : Int) * B1 := wr_id (by omega) (by omega)
      have w0 : wr ((i : Int) * B0) = (i : Int) * B0 := wr_id (by omega) (by omega)
      have w3 : wr (A1 + (i : Int) * B1) = A1 + (i : Int) * B1 := wr_id (by omega) (by omega)
      have w4 : wr (A0 + (i : Int) * B0) = A0 + (i : Int) * B0 := wr_id (by omega) (by omega)
      rw [r113_60]
      simp only [r113_62, r113_64, r113_67, r113_68, r113_69, r113_71, r113_72, r113_73, r113_74, r113_77, r113_78, r113_80, r113_82, r113_84, r113_85, r113_86, r113_89, r113_92, r113_94, r113_95, r113_98, r113_101, r113_102, reduceIte, Option.some.injEq, and_assoc, exists_and_left, exists_eq_left, exists_eq_left', true_and, and_true, List.length_cons, List.length_nil, Nat.reduceAdd, Nat.reduceLeDiff, Sum.inl.injEq, az_0, az_1, az_2, az_3, az_4, az_5, az_6, az_8, az_11, az_14, az_15, az_17, az_20, az_21, az_22, az_23, az_24, az_25, az_26, az_28, az_29, az_30, az_31, az_32, az_33, az_34, az_35, az_36, ak_0, ak_1, ak_2, ak_3, ak_4, ak_5, ak_6, ak_8, ak_11, ak_14, ak_15, ak_17, ak_20, ak_21, ak_22, ak_23, ak_24, ak_25, ak_26, ak_28, ak_29, ak_30, ak_31, ak_32, ak_33, ak_34, ak_35, ak_36, ak_37, eq_self, Int.toNat_natCast, Nat.zero_le, bI_0, b01_0, bI_or, b01_or, ne_eq, reduceCtorEq, not_false_eq_true, Nat.reduceEqDiff, if_true, if_false, ite_true, ite_false, Int.natCast_nonneg, not_true_eq_false, Bool.true_eq_false, Bool.false_eq_true, Int.reduceEq, Int.reduceLT, Int.reduceLE, Int.reduceToNat, and_self, inA, exists_eq, or_true, true_or, or_false, false_or, and_false, false_and, or_self, h1, w1, w0, w3, w4, CallR_iff (pur (x := A1 + (i : Int) * B1) (by omega) (by omega)), CallR_iff (pur (x := A0 + (i : Int) * B0) (by omega) (by omega)), hn2, wr_s (show i < 2147483647 by omega)])
    have hw2 : ∀ X : VS, WF ((fup h 2 X) 0) := fun X => hw0
    have s1 := sx_brings (d := d + 22) (h := h) (r := 1) (p := 0) hw0 hn' (by omega)
    have s2 := sx_brings (d := d + 22) (h := fup h 2 (brT h (h 2) 1 n 0)) (r := 1) (p := 1) (hw2 _) hn' (by omega)
    have s3 := sx_brings (d := d + 22) (h := fup h 2 (brT h (brT h (h 2) 1 n 0) 1 n 1)) (r := 0) (p := 0) (hw2 _) hn' (by omega)
    have s4 := sx_brings (d := d + 22) (h := fup h 2 (brT h (brT h (brT h (h 2) 1 n 0) 1 n 1) 0 n 0)) (r := 0) (p := 1) (hw2 _) hn' (by omega)
    have eb : ∀ (X Y : VS) (r p : Int), brT (fup h 2 X) Y r n p = brT h Y r n p := fun X Y r p => rfl
    rw [v1] at s1
    simp only [eb, fup_same, fup_fup] at s2 s3 s4
    rw [v2] at s2
    rw [v3] at s3
    rw [v4, ← hW] at s4
    have y1 : (0 : Int) * B1 = 0 := Int.zero_mul _
    have y2 : (1 : Int) * B1 = B1 := Int.one_mul _
    have y3 : (0 : Int) * B0 = 0 := Int.zero_mul _
    have y4 : (1 : Int) * B0 = B0 := Int.one_mul _
    simp only [y1, y2, y3, y4, Int.add_zero] at s1 s2 s3 s4
    have w5 : wr (A1 + B1 - A1) = B1 := by rw [wr_id (by omega) (by omega)]; omega
    have w6 : wr (A0 + B0 - A0) = B0 := by rw [wr_id (by omega) (by omega)]; omega
    (rw [cr_113]; simp only [r113_0, r113_1, r113_2, r113_5, r113_8, r113_9, r113_11, r113_14, r113_16, r113_17, r113_18, r113_19, r113_20, r113_21, r113_22, r113_25, r113_26, r113_27, r113_28, r113_29, r113_30, r113_33, r113_34, r113_35, r113_36, r113_37, r113_38, r113_39, r113_40, r113_43, r113_45, r113_46, r113_47, r113_48, r113_49, r113_52, r113_54, r113_55, r113_57, r113_58, CallR_iff sx_mayRule, hn, CallR_iff s1, CallR_iff s2, CallR_iff s3, CallR_iff s4, w5, w6, reduceIte, Option.some.injEq, and_assoc, exists_and_left, exists_eq_left, exists_eq_left', true_and, and_true, List.length_cons, List.length_nil, Nat.reduceAdd, Nat.reduceLeDiff, Sum.inl.injEq, az_0, az_1, az_2, az_3, az_4, az_5, az_6, az_8, az_11, az_14, az_15, az_17, az_20, az_21, az_22, az_23, az_24, az_25, az_26, az_28, az_29, az_30, az_31, az_32, az_33, az_34, az_35, az_36, ak_0, ak_1, ak_2, ak_3, ak_4, ak_5, ak_6, ak_8, ak_11, ak_14, ak_15, ak_17, ak_20, ak_21, ak_22, ak_23, ak_24, ak_25, ak_26, ak_28, ak_29, ak_30, ak_31, ak_32, ak_33, ak_34, ak_35, ak_36, ak_37, eq_self, Int.toNat_natCast, Nat.zero_le, bI_0, b01_0, bI_or, b01_or, ne_eq, reduceCtorEq, not_false_eq_true, Nat.reduceEqDiff, if_true, if_false, ite_true, ite_false, Int.natCast_nonneg, not_true_eq_false, Bool.true_eq_false, Bool.false_eq_true, Int.reduceEq, Int.reduceLT, Int.reduceLE, Int.reduceToNat, and_self, inA, exists_eq, or_true, true_or, or_false, false_or, and_false, false_and, or_self])
    refine L.mpr ?_
    by_cases q : m < 100
    · have q1 : ¬ 99 < (m : Int) := by omega
      have hc := (hdk m).mp (hlt q)
      rw [cp1 m q, cp0 m q] at hc
      have m1 := mb m B1 q i1.1 i1.2
      have m0 := mb m B0 q i0.1 i0.2
      have w1 : wr ((m : Int) * B1) = (m : Int) * B1 := wr_id (by omega) (by omega)
      have w0 : wr ((m : Int) * B0) = (m : Int) * B0 := wr_id (by omega) (by omega)
      have w3 : wr (A1 + (m : Int) * B1) = A1 + (m : Int) * B1 := wr_id (by omega) (by omega)
      have w4 : wr (A0 + (m : Int) * B0) = A0 + (m : Int) * B0 := wr_id (by omega) (by omega)
      rw [r113_60]
      simp only [r113_62, r113_64, r113_67, r113_68, r113_69, r113_71, r113_72, r113_73, r113_74, r113_77, r113_78, r113_80, r113_82, r113_84, r113_85, r113_86, r113_89, r113_92, r113_94, r113_95, r113_98, r113_101, r113_102, reduceIte, Option.some.injEq, and_assoc, exists_and_left, exists_eq_left, exists_eq_left', true_and, and_true, List.length_cons, List.length_nil, Nat.reduceAdd, Nat.reduceLeDiff, Sum.inl.injEq, az_0, az_1, az_2, az_3, az_4, az_5, az_6, az_8, az_11, az_14, az_15, az_17, az_20, az_21, az_22, az_23, az_24, az_25, az_26, az_28, az_29, az_30, az_31, az_32, az_33, az_34, az_35, az_36, ak_0, ak_1, ak_2, ak_3, ak_4, ak_5, ak_6, ak_8, ak_11, ak_14, ak_15, ak_17, ak_20, ak_21, ak_22, ak_23, ak_24, ak_25, ak_26, ak_28, ak_29, ak_30, ak_31, ak_32, ak_33, ak_34, ak_35, ak_36, ak_37, eq_self, Int.toNat_natCast, Nat.zero_le, bI_0, b01_0, bI_or, b01_or, ne_eq, reduceCtorEq, not_false_eq_true, Nat.reduceEqDiff, if_true, if_false, ite_true, ite_false, Int.natCast_nonneg, not_true_eq_false, Bool.true_eq_false, Bool.false_eq_true, Int.reduceEq, Int.reduceLT, Int.reduceLE, Int.reduceToNat, and_self, inA, exists_eq, or_true, true_or, or_false, false_or, and_false, false_and, or_self, q, q1, w1, w0, w3, w4, CallR_iff (pur (x := A1 + (m : Int) * B1) (by omega) (by omega)), CallR_iff (pur (x := A0 + (m : Int) * B0) (by omega) (by omega)), hc]
    · have q1 : 99 < (m : Int) := by omega
      rw [r113_60]
      simp only [r113_62, r113_64, r113_67, r113_68, r113_69, r113_71, r113_72, r113_73, r113_74, r113_77, r113_78, r113_80, r113_82, r113_84, r113_85, r113_86, r113_89, r113_92, r113_94, r113_95, r113_98, r113_101, r113_102, reduceIte, Option.some.injEq, and_assoc, exists_and_left, exists_eq_left, exists_eq_left', true_and, and_true, List.length_cons, List.length_nil, Nat.reduceAdd, Nat.reduceLeDiff, Sum.inl.injEq, az_0, az_1, az_2, az_3, az_4, az_5, az_6, az_8, az_11, az_14, az_15, az_17, az_20, az_21, az_22, az_23, az_24, az_25, az_26, az_28, az_29, az_30, az_31, az_32, az_33, az_34, az_35, az_36, ak_0, ak_1, ak_2, ak_3, ak_4, ak_5, ak_6, ak_8, ak_11, ak_14, ak_15, ak_17, ak_20, ak_21, ak_22, ak_23, ak_24, ak_25, ak_26, ak_28, ak_29, ak_30, ak_31, ak_32, ak_33, ak_34, ak_35, ak_36, ak_37, eq_self, Int.toNat_natCast, Nat.zero_le, bI_0, b01_0, bI_or, b01_or, ne_eq, reduceCtorEq, not_false_eq_true, Nat.reduceEqDiff, if_true, if_false, ite_true, ite_false, Int.natCast_nonneg, not_true_eq_false, Bool.true_eq_false, Bool.false_eq_true, Int.reduceEq, Int.reduceLT, Int.reduceLE, Int.reduceToNat, and_self, inA, exists_eq, or_true, true_or, or_false, false_or, and_false, false_and, or_self, q1, q]
  · refine R.refused (c := -6) (x := -16) ?_ (fun h1 e => ?_)
    · (rw [cr_113]; simp only [r113_0, r113_1, r113_2, r113_5, r113_8, r113_9, r113_11, r113_14, r113_16, r113_17, r113_18, r113_19, r113_20, r113_21, r113_22, r113_25, r113_26, r113_27, r113_28, r113_29, r113_30, r113_33, r113_34, r113_35, r113_36, r113_37, r113_38, r113_39, r113_40, r113_43, r113_45, r113_46, r113_47, r113_48, r113_49, r113_52, r113_54, r113_55, r113_57, r113_58, CallR_iff sx_mayRule, CallR_iff (sx_refuse (c := -6) (by decide) (by decide)), hn, show wr (-6 + -10) = -16 by decide, reduceIte, Option.some.injEq, and_assoc, exists_and_left, exists_eq_left, exists_eq_left', true_and, and_true, List.length_cons, List.length_nil, Nat.reduceAdd, Nat.reduceLeDiff, Sum.inl.injEq, az_0, az_1, az_2, az_3, az_4, az_5, az_6, az_8, az_11, az_14, az_15, az_17, az_20, az_21, az_22, az_23, az_24, az_25, az_26, az_28, az_29, az_30, az_31, az_32, az_33, az_34, az_35, az_36, ak_0, ak_1, ak_2, ak_3, ak_4, ak_5, ak_6, ak_8, ak_11, ak_14, ak_15, ak_17, ak_20, ak_21, ak_22, ak_23, ak_24, ak_25, ak_26, ak_28, ak_29, ak_30, ak_31, ak_32, ak_33, ak_34, ak_35, ak_36, ak_37, eq_self, Int.toNat_natCast, Nat.zero_le, bI_0, b01_0, bI_or, b01_or, ne_eq, reduceCtorEq, not_false_eq_true, Nat.reduceEqDiff, if_true, if_false, ite_true, ite_false, Int.natCast_nonneg, not_true_eq_false, Bool.true_eq_false, Bool.false_eq_true, Int.reduceEq, Int.reduceLT, Int.reduceLE, Int.reduceToNat, and_self, inA, exists_eq, or_true, true_or, or_false, false_or, and_false, false_and, or_self])
    · (rw [cr_210]; simp only [r210_0, r210_1, r210_2, r210_5, r210_8, r210_9, r210_11, r210_14, r210_15, r210_16, r210_19, r210_20, r210_21, r210_22, r210_23, r210_24, r210_26, CallR_iff sm_isRule, CallR_iff (sm_no10 (c := -6) (by decide) (by decide)), hn, show (-6 - 10 : Int) = -16 by decide, reduceIte, Option.some.injEq, and_assoc, exists_and_left, exists_eq_left, exists_eq_left', true_and, and_true, List.length_cons, List.length_nil, Nat.reduceAdd, Nat.reduceLeDiff, Sum.inl.injEq, az_0, az_1, az_2, az_3, az_4, az_5, az_6, az_8, az_11, az_14, az_15, az_17, az_20, az_21, az_22, az_23, az_24, az_25, az_26, az_28, az_29, az_30, az_31, az_32, az_33, az_34, az_35, az_36, ak_0, ak_1, ak_2, ak_3, ak_4, ak_5, ak_6, ak_8, ak_11, ak_14, ak_15, ak_17, ak_20, ak_21, ak_22, ak_23, ak_24, ak_25, ak_26, ak_28, ak_29, ak_30, ak_31, ak_32, ak_33, ak_34, ak_35, ak_36, ak_37, eq_self, Int.toNat_natCast, Nat.zero_le, bI_0, b01_0, bI_or, b01_or, ne_eq, reduceCtorEq, not_false_eq_true, Nat.reduceEqDiff, if_true, if_false, ite_true, ite_false, Int.natCast_nonneg, not_true_eq_false, Bool.true_eq_false, Bool.false_eq_true, Int.reduceEq, Int.reduceLT, Int.reduceLE, Int.reduceToNat, and_self, inA, exists_eq, or_true, true_or, or_false, false_or, and_false, false_and, or_self])
