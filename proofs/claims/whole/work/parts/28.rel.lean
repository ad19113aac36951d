/-! PURE: what an hour keeps; the two states alike -/
def FIX (V V' : VS) : Prop := V' 0 = V 0 ∧ V' 1 = V 1 ∧ V' 6 = V 6 ∧ V' 7 7 = V 7 7 ∧ V' 7 13 = V 7 13 ∧ V' 7 14 = V 7 14 ∧ V' 7 15 = V 7 15 ∧ V' 7 16 = V 7 16
theorem FIX.rf (V : VS) : FIX V V := ⟨rfl, rfl, rfl, rfl, rfl, rfl, rfl, rfl⟩
theorem FIX.tr {V V' W : VS} (a : FIX V V') (b : FIX V' W) : FIX V W := by
  obtain ⟨a1, a2, a3, a4, a5, a6, a7, a8⟩ := a
  obtain ⟨b1, b2, b3, b4, b5, b6, b7, b8⟩ := b
  exact ⟨b1.trans a1, b2.trans a2, b3.trans a3, b4.trans a4, b5.trans a5, b6.trans a6, b7.trans a7, b8.trans a8⟩
theorem FIX.setFog (V : VS) (p f : Int) : FIX V (setFogV V p f) := by unfold setFogV; split; exact ⟨rfl, rfl, rfl, rfl, rfl, rfl, rfl, rfl⟩; exact FIX.rf V
theorem FIX.lay (V : VS) (p f : Int) : FIX V (layV V p f) := by unfold layV; split; exact ⟨rfl, rfl, rfl, rfl, rfl, rfl, rfl, rfl⟩; exact FIX.rf V
theorem FIX.drain (V : VS) (b : Int) : FIX V (drainV V b) := by unfold drainV; split; exact ⟨rfl, rfl, rfl, rfl, rfl, rfl, rfl, rfl⟩; exact FIX.rf V
theorem FIX.fill (V : VS) (s x : Int) : FIX V (fillV V s x) := by unfold fillV; dsimp only; split <;> exact ⟨rfl, rfl, rfl, rfl, rfl, rfl, rfl, rfl⟩
theorem FIX.act (V : VS) (a : Int) : FIX V (actV V a) := by
  unfold actV
  split
  · exact (FIX.fill V _ _).tr (FIX.setFog _ _ _)
  split
  · exact ⟨rfl, rfl, rfl, rfl, rfl, rfl, rfl, rfl⟩
  split
  · exact ⟨rfl, rfl, rfl, rfl, rfl, rfl, rfl, rfl⟩
  split
  · unfold spendV
    have q : FIX V (fup V 7 (fup (V 7) 10 (amin 99999 (V 7 10 + V 6 (clsF (strAt V (strongV V 100))).toNat)))) := ⟨rfl, rfl, rfl, rfl, rfl, rfl, rfl, rfl⟩
    exact q.tr (FIX.drain _ _)
  split
  · exact ⟨rfl, rfl, rfl, rfl, rfl, rfl, rfl, rfl⟩
  split
  · exact FIX.lay _ _ _
  · exact FIX.rf V
theorem FIX.pass (V : VS) (a : Int) : FIX V (passV V a) := by
  have f1 := FIX.act V a
  have f2 : FIX V (leakV (actV V a)) := f1.tr ⟨rfl, rfl, rfl, rfl, rfl, rfl, rfl, rfl⟩
  have f3 : FIX V (thinIf (leakV (actV V a))) := by unfold thinIf; split; exact f2.tr ⟨rfl, rfl, rfl, rfl, rfl, rfl, rfl, rfl⟩; exact f2
  have f4 : FIX V (blowIf (thinIf (leakV (actV V a)))) := by unfold blowIf; split; exact f3; exact f3.tr ⟨rfl, rfl, rfl, rfl, rfl, rfl, rfl, rfl⟩
  have f5 : FIX V (marshV (blowIf (thinIf (leakV (actV V a))))) := f4.tr ⟨rfl, rfl, rfl, rfl, rfl, rfl, rfl, rfl⟩
  unfold passV hourV
  split
  · exact f5.tr ⟨rfl, rfl, rfl, rfl, rfl, rfl, rfl, rfl⟩
  · exact f5.tr ⟨rfl, rfl, rfl, rfl, rfl, rfl, rfl, rfl⟩
theorem FIX.wait (V : VS) : ∀ n, FIX V (waitV V n)
  | 0 => FIX.rf V
  | n + 1 => (FIX.wait V n).tr (FIX.pass _ _)
theorem FIX.follow (V : VS) (r : Int) : ∀ n, FIX V (followV V r n)
  | 0 => FIX.rf V
  | n + 1 => (FIX.follow V r n).tr (FIX.pass _ _)
theorem FIX.hpB {V V' : VS} (F : FIX V V') (p : Int) : hpB V' p = hpB V p := hpB_r F.2.2.2.1 p
def FRW (R R' : VS) : Prop := (R 8 = R' 8 ∧ R 9 = R' 9 ∧ R 10 = R' 10 ∧ R 11 = R' 11 ∧ R 12 = R' 12 ∧ R 13 = R' 13) ∧ R 7 20 = R' 7 20 ∧ R 7 21 = R' 7 21 ∧ R 7 22 = R' 7 22
theorem FRM.w {V V' : VS} (F : FRM V V') : FRW V V' := ⟨⟨(F.1 8 (by omega)).symm, (F.1 9 (by omega)).symm, (F.1 10 (by omega)).symm, (F.1 11 (by omega)).symm, (F.1 12 (by omega)).symm, (F.1 13 (by omega)).symm⟩, (F.2 20 (by omega)).symm, (F.2 21 (by omega)).symm, (F.2 22 (by omega)).symm⟩
def SHR (Sx R : VS) (s : Nat) : Prop := Sx 9 1 = R 8 s ∧ (R 8 s = -1 ∨ (0 ≤ R 8 s ∧ R 8 s < R 7 7) ∨ (100 ≤ R 8 s ∧ R 8 s ≤ 103)) ∧ (R 8 s < 100 → Sx 9 2 = 0) ∧ (100 ≤ R 8 s → Sx 9 2 = R 9 s ∧ 0 ≤ R 9 s ∧ R 9 s ≤ 160 ∧ ∀ j : Nat, j < 160 → Sx 8 j = R 10 (160 * s + j))
def XR (V1 X R : VS) : Prop := (∀ k : Nat, k ≤ 7 → X 11 k = R 11 k) ∧ X 10 9 = R 7 20 ∧ (X 16 1 = R 7 21 ∧ 0 ≤ R 7 21 ∧ R 7 21 ≤ 1000 ∧ ∀ j : Nat, j < 20 → (j : Int) < R 7 21 → X 17 j = R 12 j) ∧ X 10 8 = R 7 22 ∧ (R 7 22 = 0 ∨ R 7 22 = 1) ∧ (R 7 22 = 1 → WF V1 ∧ ∀ j : Nat, j < 61 → R 13 j = keepF V1 j)
def RLC (V0 V1 : VS) (Sh : Nat → VS) (X R : VS) : Prop := WF R ∧ EV V0 R ∧ (∀ s : Nat, s < 8 → SHR (Sh s) R s) ∧ XR V1 X R
def REL (S : VS) (h : AH) : Prop := h 18 = S ∧ RLC (h 0) (h 1) (fun s => h (8 + s)) (h 16) (RV (h 17))
theorem RLC.now {V0 V0' V1 X R R' : VS} {Sh : Nat → VS} (h : RLC V0 V1 Sh X R) (hw : WF R') (E : EV V0' R') (F : FRW R R') (hp : R 7 7 ≤ R' 7 7) : RLC V0' V1 Sh X R' := by
  obtain ⟨h1, h2, h3, h4⟩ := h
  obtain ⟨⟨f8, f9, f10, f11, f12, f13⟩, f20, f21, f22⟩ := F
  refine ⟨hw, E, fun s hs => ?_, ?_⟩
  · have := h3 s hs
    unfold SHR at this ⊢
    rw [← f8, ← f9, ← f10]
    exact ⟨this.1, by omega, this.2.2⟩
  · unfold XR at h4 ⊢
    rw [← f11, ← f12, ← f13, ← f20, ← f21, ← f22]
    exact h4
theorem RLC.meq {V0 V1 X R R' : VS} {Sh : Nat → VS} (h : RLC V0 V1 Sh X R) (M : MEQ R R') : RLC V0 V1 Sh X R' := h.now (M.1.wf h.1) (h.2.1.tr M.1) M.2 (by have := M.1.at7 (k := 7) (by omega) (by omega); omega)
theorem RLC.no {V0 V1 X R : VS} {Sh : Nat → VS} (h : RLC V0 V1 Sh X R) {c : Int} : RLC V0 V1 Sh (noV X c) (noV R c) := by
  obtain ⟨h1, h2, h3, h4⟩ := h
  refine ⟨h1, h2, h3, ?_⟩
  obtain ⟨x1, x2⟩ := h4
  refine ⟨fun k hk => ?_, x2⟩
  show fup (X 11) (-c).toNat (wr (X 11 (-c).toNat + 1)) k = fup (R 11) (-c).toNat (wr (R 11 (-c).toNat + 1)) k
  simp only [fup_at]
  split
  · next e => rw [x1 _ (by omega)]
  · exact x1 k hk
/-- heaps alike but for what is only tried -/
def SX (h h1 : AH) : Prop := h1 0 = h 0 ∧ h1 1 = h 1 ∧ (∀ s, s < 8 → h1 (8 + s) = h (8 + s)) ∧ h1 16 = h 16 ∧ h1 17 = h 17 ∧ h1 18 = h 18
theorem SX.rf (h : AH) : SX h h := ⟨rfl, rfl, fun _ _ => rfl, rfl, rfl, rfl⟩
theorem SX.t {h h1 : AH} (X : SX h h1) {g : Nat} (h2 : 2 ≤ g) (h7 : g ≤ 7) (T : VS) : SX h (fup h1 g T) := by
  obtain ⟨x0, x1, x2, x3, x4, x5⟩ := X
  exact ⟨(fup_ne _ _ (by omega)).trans x0, (fup_ne _ _ (by omega)).trans x1, fun s hs => (fup_ne _ _ (by omega)).trans (x2 s hs), (fup_ne _ _ (by omega)).trans x3, (fup_ne _ _ (by omega)).trans x4, (fup_ne _ _ (by omega)).trans x5⟩
theorem RLC.sh {V0 V1 X R : VS} {Sh Sh' : Nat → VS} (h : RLC V0 V1 Sh X R) (e : ∀ s, s < 8 → Sh' s = Sh s) : RLC V0 V1 Sh' X R := ⟨h.1, h.2.1, fun s hs => by rw [e s hs]; exact h.2.2.1 s hs, h.2.2.2⟩
theorem REL.sx {S : VS} {h h1 : AH} (R : REL S h) (X : SX h h1) : REL S h1 := by
  obtain ⟨x0, x1, x2, x3, x4, x5⟩ := X
  refine ⟨x5.trans R.1, ?_⟩
  rw [x0, x1, x3, x4]
  exact R.2.sh x2
theorem REL.r17 {S : VS} {h : AH} (R : REL S h) {R' : VS} (hc : RLC (h 0) (h 1) (fun s => h (8 + s)) (h 16) R') : REL S (fup h 17 (setRV (h 17) R')) := by
  refine ⟨R.1, ?_⟩
  rw [fup_same, RV_set]
  exact hc.sh (fun s hs => fup_ne _ _ (by omega))
theorem REL.qry {S : VS} {h h1 : AH} (R : REL S h) (X : SX h h1) {R' : VS} (M : MEQ (RV (h1 17)) R') : REL S (fup h1 17 (setRV (h1 17) R')) := (R.sx X).r17 ((R.sx X).2.meq M)
theorem REL.no {S : VS} {h : AH} (R : REL S h) {c : Int} : REL S (fup (fup h 16 (noV (h 16) c)) 17 (setRV (h 17) (noV (RV (h 17)) c))) := by
  refine ⟨R.1, ?_⟩
  rw [fup_same, RV_set]
  exact (R.2.no (c := c)).sh (fun s hs => by rw [fup_ne _ _ (by omega), fup_ne _ _ (by omega)])
theorem REL.nowp {S : VS} {h h1 : AH} (R : REL S h) (X : SX h h1) {V' R' : VS} (hw : WF R') (E : EV V' R') (F : FRW (RV (h 17)) R') (hp : RV (h 17) 7 7 ≤ R' 7 7) : REL S (fup (fup h1 0 V') 17 (setRV (h1 17) R')) := by
  have Q := R.sx X
  refine ⟨Q.1, ?_⟩
  have F' : FRW (RV (h1 17)) R' := by rw [X.2.2.2.2.1]; exact F
  have hp' : RV (h1 17) 7 7 ≤ R' 7 7 := by rw [X.2.2.2.2.1]; exact hp
  rw [fup_same, RV_set]
  exact (Q.2.now hw E F' hp').sh (fun s hs => by rw [fup_ne _ _ (by omega), fup_ne _ _ (by omega)])
def OKI (S : VS) (d kX kM : Nat) (args : List AV) (h : AH) : Prop := ∃ (x : Int) (h1 h2 : AH), CallR (d + 30) kX (vR 16 10 :: args) h (some (vI x)) h1 ∧ CallR (d + 30) kM (vR 17 27 :: args) h1 (some (vI x)) h2 ∧ REL S h2
theorem REL.refused {S : VS} {d kX kM : Nat} {args : List AV} {h : AH} (R : REL S h) {c x : Int} (hx : CallR (d + 30) kX (vR 16 10 :: args) h (some (vI x)) (fup h 16 (noV (h 16) c))) (hm : ∀ h1 : AH, h1 17 = h 17 → CallR (d + 30) kM (vR 17 27 :: args) h1 (some (vI x)) (fup h1 17 (setRV (h1 17) (noV (RV (h1 17)) c)))) : OKI S d kX kM args h := ⟨x, _, _, hx, hm _ rfl, R.no⟩
theorem REL.w {S : VS} {h : AH} (R : REL S h) : WF (RV (h 17)) := R.2.1
theorem REL.ev {S : VS} {h : AH} (R : REL S h) : EV (h 0) (RV (h 17)) := R.2.2.1
theorem REL.w0 {S : VS} {h : AH} (R : REL S h) : WF (h 0) := R.2.2.1.sy.wf R.2.1
theorem REL.sh {S : VS} {h : AH} (R : REL S h) {s : Nat} (hs : s < 8) : SHR (h (8 + s)) (RV (h 17)) s := R.2.2.2.1 s hs
/-! the first questions -/
theorem sx_behind {d : Nat} {h : AH} {n : Int} (hw0 : WF (h 0)) (h0 : 0 ≤ n) (hn : n < 2147483647) : CallR (d + 6) 138 [vR 16 10, vI n] h (some (vR 2 7)) (fup h 2 (waitV (becV (h 2) (h 0)) n.toNat)) := by
  have hwt : WF ((fup h 2 (becV (h 2) (h 0))) 2) := by rw [fup_same]; exact (EV.bec _ _).sy.wf hw0
  rw [cr_138]
  simp only [r138_0, r138_1, r138_4, r138_5, r138_8, r138_11, r138_12, r138_15, r138_16, r138_19, r138_20, r138_23, CallR_iff (sp_become (show (0 : Nat) ≠ 2 by decide)), CallR_iff (sp_wait hwt h0 hn), reduceIte, Option.some.injEq, and_assoc, exists_and_left, exists_eq_left, exists_eq_left', true_and, and_true, List.length_cons, List.length_nil, Nat.reduceAdd, Nat.reduceLeDiff, Sum.inl.injEq, az_0, az_1, az_2, az_3, az_4, az_5, az_6, az_8, az_11, az_14, az_15, az_17, az_20, az_21, az_22, az_23, az_24, az_25, az_26, az_28, az_29, az_30, az_31, az_32, az_33, az_34, az_35, az_36, ak_0, ak_1, ak_2, ak_3, ak_4, ak_5, ak_6, ak_8, ak_11, ak_14, ak_15, ak_17, ak_20, ak_21, ak_22, ak_23, ak_24, ak_25, ak_26, ak_28, ak_29, ak_30, ak_31, ak_32, ak_33, ak_34, ak_35, ak_36, ak_37, eq_self, Int.toNat_natCast, Nat.zero_le, bI_0, b01_0, bI_or, b01_or, ne_eq, reduceCtorEq, not_false_eq_true, Nat.reduceEqDiff, if_true, if_false, ite_true, ite_false, Int.natCast_nonneg, fup_same, fup_fup]
theorem sm_thick {d : Nat} {h : AH} {p n : Int} (hw : WF (RV (h 17))) (hp : hpB (RV (h 17)) p = true) (h0 : 0 ≤ n) (h99 : n ≤ 99) : CallR (d + 8) 193 [vR 17 27, vI p, vI n] h (some (vI (fogV (waitV (RV (h 17)) n.toNat) p))) (fup h 17 (setRV (h 17) (qrV (waitV (kpV (RV (h 17))) n.toNat)))) := by
  have hk : WF (RV ((fup h 17 (setRV (h 17) (kpV (RV (h 17))))) 17)) := by rw [fup_same, RV_set]; exact kp_wf hw
  have h8 := hpB_iff.mp hp
  have h8' : 0 ≤ p ∧ p < 8 := by omega
  have ef : fogV (waitV (RV (h 17)) n.toNat) p = waitV (kpV (RV (h 17))) n.toNat 2 p.toNat := by
    unfold fogV
    rw [(FIX.wait _ _).hpB, hp, if_pos rfl, (EV.c_waitV (kp_EV (RV (h 17))) n.toNat).2.2.1]
  rw [ef, cr_193]
  simp only [r193_0, r193_1, r193_2, r193_5, r193_8, r193_9, r193_10, r193_13, r193_14, r193_15, r193_18, r193_21, r193_22, r193_24, r193_27, r193_28, r193_29, r193_30, r193_33, r193_36, r193_37, r193_38, r193_41, r193_42, r193_45, r193_46, r193_47, r193_48, r193_49, r193_50, r193_53, r193_56, r193_57, CallR_iff (sm_isPlace hw.bd), CallR_iff sm_isHours, CallR_iff sm_keepNow, CallR_iff (sm_waits hk h0 (by omega)), CallR_iff sm_againNow, reduceIte, Option.some.injEq, and_assoc, exists_and_left, exists_eq_left, exists_eq_left', true_and, and_true, List.length_cons, List.length_nil, Nat.reduceAdd, Nat.reduceLeDiff, Sum.inl.injEq, az_0, az_1, az_2, az_3, az_4, az_5, az_6, az_8, az_11, az_14, az_15, az_17, az_20, az_21, az_22, az_23, az_24, az_25, az_26, az_28, az_29, az_30, az_31, az_32, az_33, az_34, az_35, az_36, ak_0, ak_1, ak_2, ak_3, ak_4, ak_5, ak_6, ak_8, ak_11, ak_14, ak_15, ak_17, ak_20, ak_21, ak_22, ak_23, ak_24, ak_25, ak_26, ak_28, ak_29, ak_30, ak_31, ak_32, ak_33, ak_34, ak_35, ak_36, ak_37, eq_self, Int.toNat_natCast, Nat.zero_le, bI_0, b01_0, bI_or, b01_or, ne_eq, reduceCtorEq, not_false_eq_true, Nat.reduceEqDiff, if_true, if_false, ite_true, ite_false, Int.natCast_nonneg, not_true_eq_false, Bool.true_eq_false, Bool.false_eq_true, Int.reduceEq, Int.reduceLT, Int.reduceLE, Int.reduceToNat, and_self, inA, hp, h0, h99, h8', fup_same, RV_set, set_set, fup_fup, sV_2, Bool.true_eq_false]
theorem ok_thick {S : VS} {d : Nat} {h : AH} {p n : Int} (R : REL S h) : OKI S d 102 193 [vI p, vI n] h := by
  have E := R.ev
  have hw := R.w
  have hw0 := R.w0
  cases hp : hpB (RV (h 17)) p
  · have hp0 : hpB (h 0) p = false := by rw [E.c_hpB, hp]
    refine R.refused (c := -1) (x := -1) ?_ (fun h1 e => ?_)
    · rw [cr_102]
      simp only [r102_0, r102_1, r102_4, r102_5, r102_8, r102_11, r102_12, r102_13, r102_16, r102_17, r102_18, r102_19, r102_21, r102_24, r102_27, r102_28, r102_30, r102_33, r102_34, r102_35, r102_36, r102_39, r102_40, r102_43, CallR_iff sp_hasPlace, CallR_iff (sx_refuse (show -7 ≤ -1 by decide) (show -1 ≤ -1 by decide)), reduceIte, Option.some.injEq, and_assoc, exists_and_left, exists_eq_left, exists_eq_left', true_and, and_true, List.length_cons, List.length_nil, Nat.reduceAdd, Nat.reduceLeDiff, Sum.inl.injEq, az_0, az_1, az_2, az_3, az_4, az_5, az_6, az_8, az_11, az_14, az_15, az_17, az_20, az_21, az_22, az_23, az_24, az_25, az_26, az_28, az_29, az_30, az_31, az_32, az_33, az_34, az_35, az_36, ak_0, ak_1, ak_2, ak_3, ak_4, ak_5, ak_6, ak_8, ak_11, ak_14, ak_15, ak_17, ak_20, ak_21, ak_22, ak_23, ak_24, ak_25, ak_26, ak_28, ak_29, ak_30, ak_31, ak_32, ak_33, ak_34, ak_35, ak_36, ak_37, eq_self, Int.toNat_natCast, Nat.zero_le, bI_0, b01_0, bI_or, b01_or, ne_eq, reduceCtorEq, not_false_eq_true, Nat.reduceEqDiff, if_true, if_false, ite_true, ite_false, Int.natCast_nonneg, not_true_eq_false, Bool.true_eq_false, Bool.false_eq_true, Int.reduceEq, Int.reduceLT, Int.reduceLE, Int.reduceToNat, and_self, inA, hp0]
    · rw [← e] at hp hw
      rw [cr_193]
      simp only [r193_0, r193_1, r193_2, r193_5, r193_8, r193_9, r193_10, r193_13, r193_14, r193_15, r193_18, r193_21, r193_22, r193_24, r193_27, r193_28, r193_29, r193_30, r193_33, r193_36, r193_37, r193_38, r193_41, r193_42, r193_45, r193_46, r193_47, r193_48, r193_49, r193_50, r193_53, r193_56, r193_57, CallR_iff (sm_isPlace hw.bd), CallR_iff (sm_no (show -7 ≤ -1 by decide) (show -1 ≤ -1 by decide)), reduceIte, Option.some.injEq, and_assoc, exists_and_left, exists_eq_left, exists_eq_left', true_and, and_true, List.length_cons, List.length_nil, Nat.reduceAdd, Nat.reduceLeDiff, Sum.inl.injEq, az_0, az_1, az_2, az_3, az_4, az_5, az_6, az_8, az_11, az_14, az_15, az_17, az_20, az_21, az_22, az_23, az_24, az_25, az_26, az_28, az_29, az_30, az_31, az_32, az_33, az_34, az_35, az_36, ak_0, ak_1, ak_2, ak_3, ak_4, ak_5, ak_6, ak_8, ak_11, ak_14, ak_15, ak_17, ak_20, ak_21, ak_22, ak_23, ak_24, ak_25, ak_26, ak_28, ak_29, ak_30, ak_31, ak_32, ak_33, ak_34, ak_35, ak_36, ak_37, eq_self, Int.toNat_natCast, Nat.zero_le, bI_0, b01_0, bI_or, b01_or, ne_eq, reduceCtorEq, not_false_eq_true, Nat.reduceEqDiff, if_true, if_false, ite_true, ite_false, Int.natCast_nonneg, not_true_eq_false, Bool.true_eq_false, Bool.false_eq_true, Int.reduceEq, Int.reduceLT, Int.reduceLE, Int.reduceToNat, and_self, inA, hp]
  · have hp0 : hpB (h 0) p = true := by rw [E.c_hpB, hp]
    by_cases hn : 0 ≤ n ∧ n ≤ 99
    · have ev := (EV.c_waitV ((EV.bec (h 2) (h 0)).tr E) n.toNat)
      refine ⟨fogV (waitV (RV (h 17)) n.toNat) p, fup h 2 (waitV (becV (h 2) (h 0)) n.toNat), _, ?_, sm_thick hw hp hn.1 hn.2, R.qry ((SX.rf h).t (by omega) (by omega) _) (qr_MEQ hw (wait_wf (kp_wf hw) _) (FRM.wait (FRM.rf _) _))⟩
      rw [← ev.c_fogV, cr_102]
      simp only [r102_0, r102_1, r102_4, r102_5, r102_8, r102_11, r102_12, r102_13, r102_16, r102_17, r102_18, r102_19, r102_21, r102_24, r102_27, r102_28, r102_30, r102_33, r102_34, r102_35, r102_36, r102_39, r102_40, r102_43, CallR_iff sp_hasPlace, CallR_iff sx_within, CallR_iff (sx_behind hw0 hn.1 (show n < 2147483647 by omega)), CallR_iff sp_fogAt, reduceIte, Option.some.injEq, and_assoc, exists_and_left, exists_eq_left, exists_eq_left', true_and, and_true, List.length_cons, List.length_nil, Nat.reduceAdd, Nat.reduceLeDiff, Sum.inl.injEq, az_0, az_1, az_2, az_3, az_4, az_5, az_6, az_8, az_11, az_14, az_15, az_17, az_20, az_21, az_22, az_23, az_24, az_25, az_26, az_28, az_29, az_30, az_31, az_32, az_33, az_34, az_35, az_36, ak_0, ak_1, ak_2, ak_3, ak_4, ak_5, ak_6, ak_8, ak_11, ak_14, ak_15, ak_17, ak_20, ak_21, ak_22, ak_23, ak_24, ak_25, ak_26, ak_28, ak_29, ak_30, ak_31, ak_32, ak_33, ak_34, ak_35, ak_36, ak_37, eq_self, Int.toNat_natCast, Nat.zero_le, bI_0, b01_0, bI_or, b01_or, ne_eq, reduceCtorEq, not_false_eq_true, Nat.reduceEqDiff, if_true, if_false, ite_true, ite_false, Int.natCast_nonneg, not_true_eq_false, Bool.true_eq_false, Bool.false_eq_true, Int.reduceEq, Int.reduceLT, Int.reduceLE, Int.reduceToNat, and_self, inA, hp0, hn, fup_same, Bool.true_eq_false]
    · refine R.refused (c := -6) (x := -6) ?_ (fun h1 e => ?_)
      · rw [cr_102]
        simp only [r102_0, r102_1, r102_4, r102_5, r102_8, r102_11, r102_12, r102_13, r102_16, r102_17, r102_18, r102_19, r102_21, r102_24, r102_27, r102_28, r102_30, r102_33, r102_34, r102_35, r102_36, r102_39, r102_40, r102_43, CallR_iff sp_hasPlace, CallR_iff sx_within, CallR_iff (sx_refuse (show -7 ≤ -6 by decide) (show -6 ≤ -1 by decide)), reduceIte, Option.some.injEq, and_assoc, exists_and_left, exists_eq_left, exists_eq_left', true_and, and_true, List.length_cons, List.length_nil, Nat.reduceAdd, Nat.reduceLeDiff, Sum.inl.injEq, az_0, az_1, az_2, az_3, az_4, az_5, az_6, az_8, az_11, az_14, az_15, az_17, az_20, az_21, az_22, az_23, az_24, az_25, az_26, az_28, az_29, az_30, az_31, az_32, az_33, az_34, az_35, az_36, ak_0, ak_1, ak_2, ak_3, ak_4, ak_5, ak_6, ak_8, ak_11, ak_14, ak_15, ak_17, ak_20, ak_21, ak_22, ak_23, ak_24, ak_25, ak_26, ak_28, ak_29, ak_30, ak_31, ak_32, ak_33, ak_34, ak_35, ak_36, ak_37, eq_self, Int.toNat_natCast, Nat.zero_le, bI_0, b01_0, bI_or, b01_or, ne_eq, reduceCtorEq, not_false_eq_true, Nat.reduceEqDiff, if_true, if_false, ite_true, ite_false, Int.natCast_nonneg, not_true_eq_false, Bool.true_eq_false, Bool.false_eq_true, Int.reduceEq, Int.reduceLT, Int.reduceLE, Int.reduceToNat, and_self, inA, hp0, hn, Bool.true_eq_false]
      · rw [← e] at hp hw
        rw [cr_193]
        simp only [r193_0, r193_1, r193_2, r193_5, r193_8, r193_9, r193_10, r193_13, r193_14, r193_15, r193_18, r193_21, r193_22, r193_24, r193_27, r193_28, r193_29, r193_30, r193_33, r193_36, r193_37, r193_38, r193_41, r193_42, r193_45, r193_46, r193_47, r193_48, r193_49, r193_50, r193_53, r193_56, r193_57, CallR_iff (sm_isPlace hw.bd), CallR_iff sm_isHours, CallR_iff (sm_no (show -7 ≤ -6 by decide) (show -6 ≤ -1 by decide)), reduceIte, Option.some.injEq, and_assoc, exists_and_left, exists_eq_left, exists_eq_left', true_and, and_true, List.length_cons, List.length_nil, Nat.reduceAdd, Nat.reduceLeDiff, Sum.inl.injEq, az_0, az_1, az_2, az_3, az_4, az_5, az_6, az_8, az_11, az_14, az_15, az_17, az_20, az_21, az_22, az_23, az_24, az_25, az_26, az_28, az_29, az_30, az_31, az_32, az_33, az_34, az_35, az_36, ak_0, ak_1, ak_2, ak_3, ak_4, ak_5, ak_6, ak_8, ak_11, ak_14, ak_15, ak_17, ak_20, ak_21, ak_22, ak_23, ak_24, ak_25, ak_26, ak_28, ak_29, ak_30, ak_31, ak_32, ak_33, ak_34, ak_35, ak_36, ak_37, eq_self, Int.toNat_natCast, Nat.zero_le, bI_0, b01_0, bI_or, b01_or, ne_eq, reduceCtorEq, not_false_eq_true, Nat.reduceEqDiff, if_true, if_false, ite_true, ite_false, Int.natCast_nonneg, not_true_eq_false, Bool.true_eq_false, Bool.false_eq_true, Int.reduceEq, Int.reduceLT, Int.reduceLE, Int.reduceToNat, and_self, inA, hp, hn, Bool.true_eq_false]
