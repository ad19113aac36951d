/-! PURE: two valleys that are alike (but for what the wind keeps) -/
def EV (V V' : VS) : Prop := V 0 = V' 0 ∧ V 1 = V' 1 ∧ V 2 = V' 2 ∧ V 4 = V' 4 ∧ V 5 = V' 5 ∧ V 6 = V' 6 ∧ V 7 7 = V' 7 7 ∧ V 7 8 = V' 7 8 ∧ V 7 9 = V' 7 9 ∧ V 7 10 = V' 7 10 ∧ V 7 11 = V' 7 11 ∧ V 7 12 = V' 7 12 ∧ V 7 13 = V' 7 13 ∧ V 7 14 = V' 7 14 ∧ V 7 15 = V' 7 15 ∧ V 7 16 = V' 7 16
theorem EV.rf (V : VS) : EV V V := ⟨rfl, rfl, rfl, rfl, rfl, rfl, rfl, rfl, rfl, rfl, rfl, rfl, rfl, rfl, rfl, rfl⟩
theorem EV.sy {V V' : VS} (E : EV V V') : EV V' V := by
  obtain ⟨e0, e1, e2, e4, e5, e6, e77, e78, e79, e710, e711, e712, e713, e714, e715, e716⟩ := E
  exact ⟨e0.symm, e1.symm, e2.symm, e4.symm, e5.symm, e6.symm, e77.symm, e78.symm, e79.symm, e710.symm, e711.symm, e712.symm, e713.symm, e714.symm, e715.symm, e716.symm⟩
theorem EV.tr {V V' W : VS} (E : EV V V') (F : EV V' W) : EV V W := by
  obtain ⟨e0, e1, e2, e4, e5, e6, e77, e78, e79, e710, e711, e712, e713, e714, e715, e716⟩ := E
  obtain ⟨f0, f1, f2, f4, f5, f6, f77, f78, f79, f710, f711, f712, f713, f714, f715, f716⟩ := F
  exact ⟨e0.trans f0, e1.trans f1, e2.trans f2, e4.trans f4, e5.trans f5, e6.trans f6, e77.trans f77, e78.trans f78, e79.trans f79, e710.trans f710, e711.trans f711, e712.trans f712, e713.trans f713, e714.trans f714, e715.trans f715, e716.trans f716⟩
theorem EV.bec (V W : VS) : EV (becV V W) W := ⟨rfl, rfl, rfl, rfl, rfl, rfl, rfl, rfl, rfl, rfl, rfl, rfl, rfl, rfl, rfl, rfl⟩
theorem EV.wf {V V' : VS} (E : EV V V') (h : WF V) : WF V' := by
  obtain ⟨e0, e1, e2, e4, e5, e6, e77, e78, e79, e710, e711, e712, e713, e714, e715, e716⟩ := E
  unfold WF BD at h ⊢
  rw [e0, e1, e2, e4, e5, e6, e77, e78, e79, e710, e711, e713, e714, e715] at h
  exact h
section EVS
variable {V V' : VS}
theorem EV.c_hpB (E : EV V V') (p : Int) : hpB V p = hpB V' p := by
  obtain ⟨e0, e1, e2, e4, e5, e6, e77, e78, e79, e710, e711, e712, e713, e714, e715, e716⟩ := id E
  simp only [hpB, e0, e1, e2, e4, e5, e6, e77, e78, e79, e710, e711, e712, e713, e714, e715, e716]
theorem EV.c_nP (E : EV V V') : nP V = nP V' := by
  obtain ⟨e0, e1, e2, e4, e5, e6, e77, e78, e79, e710, e711, e712, e713, e714, e715, e716⟩ := id E
  simp only [nP, e0, e1, e2, e4, e5, e6, e77, e78, e79, e710, e711, e712, e713, e714, e715, e716]
theorem EV.c_nB (E : EV V V') : nB V = nB V' := by
  obtain ⟨e0, e1, e2, e4, e5, e6, e77, e78, e79, e710, e711, e712, e713, e714, e715, e716⟩ := id E
  simp only [nB, e0, e1, e2, e4, e5, e6, e77, e78, e79, e710, e711, e712, e713, e714, e715, e716]
theorem EV.c_upV (E : EV V V') : upV V = upV V' := by
  obtain ⟨e0, e1, e2, e4, e5, e6, e77, e78, e79, e710, e711, e712, e713, e714, e715, e716⟩ := id E
  simp only [upV, e0, e1, e2, e4, e5, e6, e77, e78, e79, e710, e711, e712, e713, e714, e715, e716]
theorem EV.c_kindV (E : EV V V') (p : Int) : kindV V p = kindV V' p := by
  obtain ⟨e0, e1, e2, e4, e5, e6, e77, e78, e79, e710, e711, e712, e713, e714, e715, e716⟩ := id E
  simp only [kindV, E.c_hpB, e0, e1, e2, e4, e5, e6, e77, e78, e79, e710, e711, e712, e713, e714, e715, e716]
theorem EV.c_traitV (E : EV V V') (p : Int) : traitV V p = traitV V' p := by
  obtain ⟨e0, e1, e2, e4, e5, e6, e77, e78, e79, e710, e711, e712, e713, e714, e715, e716⟩ := id E
  simp only [traitV, E.c_hpB, e0, e1, e2, e4, e5, e6, e77, e78, e79, e710, e711, e712, e713, e714, e715, e716]
theorem EV.c_fogV (E : EV V V') (p : Int) : fogV V p = fogV V' p := by
  obtain ⟨e0, e1, e2, e4, e5, e6, e77, e78, e79, e710, e711, e712, e713, e714, e715, e716⟩ := id E
  simp only [fogV, E.c_hpB, e0, e1, e2, e4, e5, e6, e77, e78, e79, e710, e711, e712, e713, e714, e715, e716]
theorem EV.c_leakK (E : EV V V') (k a : Int) : leakK V k a = leakK V' k a := by
  obtain ⟨e0, e1, e2, e4, e5, e6, e77, e78, e79, e710, e711, e712, e713, e714, e715, e716⟩ := id E
  simp only [leakK, e0, e1, e2, e4, e5, e6, e77, e78, e79, e710, e711, e712, e713, e714, e715, e716]
theorem EV.c_leakF (E : EV V V') (s : Int) : leakF V s = leakF V' s := by
  obtain ⟨e0, e1, e2, e4, e5, e6, e77, e78, e79, e710, e711, e712, e713, e714, e715, e716⟩ := id E
  simp only [leakF, E.c_hpB, E.c_leakK, E.c_upV, e0, e1, e2, e4, e5, e6, e77, e78, e79, e710, e711, e712, e713, e714, e715, e716]
theorem EV.c_sunT (E : EV V V') (p : Nat) : sunT V p = sunT V' p := by
  obtain ⟨e0, e1, e2, e4, e5, e6, e77, e78, e79, e710, e711, e712, e713, e714, e715, e716⟩ := id E
  simp only [sunT, e0, e1, e2, e4, e5, e6, e77, e78, e79, e710, e711, e712, e713, e714, e715, e716]
theorem EV.c_windT (E : EV V V') (p : Nat) : windT V p = windT V' p := by
  obtain ⟨e0, e1, e2, e4, e5, e6, e77, e78, e79, e710, e711, e712, e713, e714, e715, e716⟩ := id E
  simp only [windT, e0, e1, e2, e4, e5, e6, e77, e78, e79, e710, e711, e712, e713, e714, e715, e716]
theorem EV.c_strAt (E : EV V V') (b : Int) : strAt V b = strAt V' b := by
  obtain ⟨e0, e1, e2, e4, e5, e6, e77, e78, e79, e710, e711, e712, e713, e714, e715, e716⟩ := id E
  simp only [strAt, e0, e1, e2, e4, e5, e6, e77, e78, e79, e710, e711, e712, e713, e714, e715, e716]
theorem EV.c_priceB (E : EV V V') (b : Nat) : priceB V b = priceB V' b := by
  obtain ⟨e0, e1, e2, e4, e5, e6, e77, e78, e79, e710, e711, e712, e713, e714, e715, e716⟩ := id E
  simp only [priceB, e0, e1, e2, e4, e5, e6, e77, e78, e79, e710, e711, e712, e713, e714, e715, e716]
theorem EV.c_comesV (E : EV V V') (p : Nat) : comesV V p = comesV V' p := by
  obtain ⟨e0, e1, e2, e4, e5, e6, e77, e78, e79, e710, e711, e712, e713, e714, e715, e716⟩ := id E
  simp only [comesV, E.c_hpB, E.c_windT, e0, e1, e2, e4, e5, e6, e77, e78, e79, e710, e711, e712, e713, e714, e715, e716]
theorem EV.c_leakS (E : EV V V') (b : Nat) : leakS V b = leakS V' b := by
  obtain ⟨e0, e1, e2, e4, e5, e6, e77, e78, e79, e710, e711, e712, e713, e714, e715, e716⟩ := id E
  simp only [leakS, E.c_leakF, e0, e1, e2, e4, e5, e6, e77, e78, e79, e710, e711, e712, e713, e714, e715, e716]
theorem EV.c_freeF (E : EV V V') : ∀ k i : Nat, freeF V k i = freeF V' k i := by
  obtain ⟨e0, e1, e2, e4, e5, e6, e77, e78, e79, e710, e711, e712, e713, e714, e715, e716⟩ := id E
  intro k
  induction k with
  | zero => intro i; simp only [freeF, e78]
  | succ k ih => intro i; simp only [freeF, e5, ih]
theorem EV.c_cntF (E : EV V V') (s : Int) (n : Nat) : cntF V s n = cntF V' s n := by
  obtain ⟨e0, e1, e2, e4, e5, e6, e77, e78, e79, e710, e711, e712, e713, e714, e715, e716⟩ := id E
  simp only [cntF, e5]
theorem EV.c_stg (E : EV V V') (s : Int) : ∀ n : Nat, stg V s n = stg V' s n := by
  obtain ⟨e0, e1, e2, e4, e5, e6, e77, e78, e79, e710, e711, e712, e713, e714, e715, e716⟩ := id E
  intro n
  induction n with
  | zero => rfl
  | succ n ih => simp only [stg, e5, e4, ih]
theorem EV.c_bitsF (E : EV V V') (s : Int) : ∀ n : Nat, bitsF V s n = bitsF V' s n := by
  obtain ⟨e0, e1, e2, e4, e5, e6, e77, e78, e79, e710, e711, e712, e713, e714, e715, e716⟩ := id E
  intro n
  induction n with
  | zero => rfl
  | succ n ih => simp only [bitsF, e5, ih]
theorem EV.c_freeV (E : EV V V') : freeV V = freeV V' := by
  obtain ⟨e0, e1, e2, e4, e5, e6, e77, e78, e79, e710, e711, e712, e713, e714, e715, e716⟩ := id E
  simp only [freeV, E.c_freeF, E.c_nB, e0, e1, e2, e4, e5, e6, e77, e78, e79, e710, e711, e712, e713, e714, e715, e716]
theorem EV.c_cntV (E : EV V V') : cntV V = cntV V' := by
  obtain ⟨e0, e1, e2, e4, e5, e6, e77, e78, e79, e710, e711, e712, e713, e714, e715, e716⟩ := id E
  simp only [cntV, E.c_cntF, E.c_nB, e0, e1, e2, e4, e5, e6, e77, e78, e79, e710, e711, e712, e713, e714, e715, e716]
theorem EV.c_strongV (E : EV V V') (s : Int) : strongV V s = strongV V' s := by
  obtain ⟨e0, e1, e2, e4, e5, e6, e77, e78, e79, e710, e711, e712, e713, e714, e715, e716⟩ := id E
  simp only [strongV, E.c_stg, E.c_nB, e0, e1, e2, e4, e5, e6, e77, e78, e79, e710, e711, e712, e713, e714, e715, e716]
theorem EV.c_spendB (E : EV V V') : spendB V = spendB V' := by
  obtain ⟨e0, e1, e2, e4, e5, e6, e77, e78, e79, e710, e711, e712, e713, e714, e715, e716⟩ := id E
  simp only [spendB, E.c_strAt, E.c_strongV, e0, e1, e2, e4, e5, e6, e77, e78, e79, e710, e711, e712, e713, e714, e715, e716]
theorem EV.c_mayV (E : EV V V') (a : Int) : mayV V a = mayV V' a := by
  obtain ⟨e0, e1, e2, e4, e5, e6, e77, e78, e79, e710, e711, e712, e713, e714, e715, e716⟩ := id E
  simp only [mayV, E.c_fogV, E.c_cntV, E.c_freeV, E.c_hpB, E.c_spendB, E.c_strongV, e0, e1, e2, e4, e5, e6, e77, e78, e79, e710, e711, e712, e713, e714, e715, e716]
theorem EV.c_strC (E : EV V V') : strC V = strC V' := by
  obtain ⟨e0, e1, e2, e4, e5, e6, e77, e78, e79, e710, e711, e712, e713, e714, e715, e716⟩ := id E
  simp only [strC, E.c_nB, e0, e1, e2, e4, e5, e6, e77, e78, e79, e710, e711, e712, e713, e714, e715, e716]
theorem EV.c_worthA (E : EV V V') (s : Int) : worthA V s = worthA V' s := by
  obtain ⟨e0, e1, e2, e4, e5, e6, e77, e78, e79, e710, e711, e712, e713, e714, e715, e716⟩ := id E
  simp only [worthA, E.c_nB, E.c_priceB, e0, e1, e2, e4, e5, e6, e77, e78, e79, e710, e711, e712, e713, e714, e715, e716]
theorem EV.c_fogSum (E : EV V V') : fogSum V = fogSum V' := by
  obtain ⟨e0, e1, e2, e4, e5, e6, e77, e78, e79, e710, e711, e712, e713, e714, e715, e716⟩ := id E
  simp only [fogSum, E.c_nP, e0, e1, e2, e4, e5, e6, e77, e78, e79, e710, e711, e712, e713, e714, e715, e716]
theorem EV.c_worthV (E : EV V V') : worthV V = worthV V' := by
  unfold worthV
  rw [E.c_nB]
  exact sumN_congr _ (fun j _ => E.c_priceB j)
theorem EV.c_ruleV (E : EV V V') (r : Int) : ruleV V r = ruleV V' r := by
  unfold ruleV
  rw [E.c_mayV, E.c_mayV, E.c_mayV, E.c_mayV, E.c_strongV, E.c_strAt, E.c_kindV, E.2.2.2.2.2.2.2.2.1]
theorem EV.r0 (E : EV V V') {r r' : Nat → Int} (h : r = r') : EV (fup V 0 r) (fup V' 0 r') := by
  obtain ⟨e0, e1, e2, e4, e5, e6, e77, e78, e79, e710, e711, e712, e713, e714, e715, e716⟩ := E
  exact ⟨h, e1, e2, e4, e5, e6, e77, e78, e79, e710, e711, e712, e713, e714, e715, e716⟩
theorem EV.r1 (E : EV V V') {r r' : Nat → Int} (h : r = r') : EV (fup V 1 r) (fup V' 1 r') := by
  obtain ⟨e0, e1, e2, e4, e5, e6, e77, e78, e79, e710, e711, e712, e713, e714, e715, e716⟩ := E
  exact ⟨e0, h, e2, e4, e5, e6, e77, e78, e79, e710, e711, e712, e713, e714, e715, e716⟩
theorem EV.r2 (E : EV V V') {r r' : Nat → Int} (h : r = r') : EV (fup V 2 r) (fup V' 2 r') := by
  obtain ⟨e0, e1, e2, e4, e5, e6, e77, e78, e79, e710, e711, e712, e713, e714, e715, e716⟩ := E
  exact ⟨e0, e1, h, e4, e5, e6, e77, e78, e79, e710, e711, e712, e713, e714, e715, e716⟩
theorem EV.r3 (E : EV V V') {r r' : Nat → Int} : EV (fup V 3 r) (fup V' 3 r') := by
  obtain ⟨e0, e1, e2, e4, e5, e6, e77, e78, e79, e710, e711, e712, e713, e714, e715, e716⟩ := E
  exact ⟨e0, e1, e2, e4, e5, e6, e77, e78, e79, e710, e711, e712, e713, e714, e715, e716⟩
theorem EV.r4 (E : EV V V') {r r' : Nat → Int} (h : r = r') : EV (fup V 4 r) (fup V' 4 r') := by
  obtain ⟨e0, e1, e2, e4, e5, e6, e77, e78, e79, e710, e711, e712, e713, e714, e715, e716⟩ := E
  exact ⟨e0, e1, e2, h, e5, e6, e77, e78, e79, e710, e711, e712, e713, e714, e715, e716⟩
theorem EV.r5 (E : EV V V') {r r' : Nat → Int} (h : r = r') : EV (fup V 5 r) (fup V' 5 r') := by
  obtain ⟨e0, e1, e2, e4, e5, e6, e77, e78, e79, e710, e711, e712, e713, e714, e715, e716⟩ := E
  exact ⟨e0, e1, e2, e4, h, e6, e77, e78, e79, e710, e711, e712, e713, e714, e715, e716⟩
theorem EV.r6 (E : EV V V') {r r' : Nat → Int} (h : r = r') : EV (fup V 6 r) (fup V' 6 r') := by
  obtain ⟨e0, e1, e2, e4, e5, e6, e77, e78, e79, e710, e711, e712, e713, e714, e715, e716⟩ := E
  exact ⟨e0, e1, e2, e4, e5, h, e77, e78, e79, e710, e711, e712, e713, e714, e715, e716⟩
theorem EV.n7 (E : EV V V') {r r' : Nat → Int} (h : ∀ k : Nat, 7 ≤ k → k ≤ 16 → r k = r' k) : EV (fup V 7 r) (fup V' 7 r') := by
  obtain ⟨e0, e1, e2, e4, e5, e6, e77, e78, e79, e710, e711, e712, e713, e714, e715, e716⟩ := E
  exact ⟨e0, e1, e2, e4, e5, e6, h 7 (by decide) (by decide), h 8 (by decide) (by decide), h 9 (by decide) (by decide), h 10 (by decide) (by decide), h 11 (by decide) (by decide), h 12 (by decide) (by decide), h 13 (by decide) (by decide), h 14 (by decide) (by decide), h 15 (by decide) (by decide), h 16 (by decide) (by decide)⟩
theorem EV.at7 (E : EV V V') {k : Nat} (h1 : 7 ≤ k) (h2 : k ≤ 16) : V 7 k = V' 7 k := by
  obtain ⟨e0, e1, e2, e4, e5, e6, e77, e78, e79, e710, e711, e712, e713, e714, e715, e716⟩ := E
  match k, h1, h2 with
  | 7, _, _ => exact e77
  | 8, _, _ => exact e78
  | 9, _, _ => exact e79
  | 10, _, _ => exact e710
  | 11, _, _ => exact e711
  | 12, _, _ => exact e712
  | 13, _, _ => exact e713
  | 14, _, _ => exact e714
  | 15, _, _ => exact e715
  | 16, _, _ => exact e716
  | n + 17, _, h => omega
theorem EV.n1 (E : EV V V') {j : Nat} {x x' : Int} (h : x = x') : EV (fup V 7 (fup (V 7) j x)) (fup V' 7 (fup (V' 7) j x')) := by
  subst h
  refine E.n7 (fun k h1 h2 => ?_)
  unfold fup
  split
  · rfl
  · exact E.at7 h1 h2
theorem EV.c_setFogV (E : EV V V') (p f : Int) : EV (setFogV V p f) (setFogV V' p f) := by
  unfold setFogV
  rw [E.c_hpB]
  split
  · exact E.r2 (by rw [E.2.2.1])
  · exact E
theorem EV.c_setPriceV (E : EV V V') (p f : Int) : EV (setPriceV V p f) (setPriceV V' p f) := by
  unfold setPriceV
  split
  · exact E.r6 (by rw [E.2.2.2.2.2.1])
  · exact E
theorem EV.c_layV (E : EV V V') (b s : Int) : EV (layV V b s) (layV V' b s) := by
  unfold layV
  rw [E.at7 (k := 8) (by decide) (by decide)]
  split
  · exact E.r5 (by rw [E.2.2.2.2.1])
  · exact E
theorem EV.c_drainV (E : EV V V') (b : Int) : EV (drainV V b) (drainV V' b) := by
  unfold drainV
  split
  · exact (E.r4 (by rw [E.2.2.2.1])).r5 (by rw [E.2.2.2.2.1])
  · exact E
theorem EV.c_addPlV (E : EV V V') (k a f : Int) : EV (addPlV V k a f) (addPlV V' k a f) := by
  have h := E.at7 (k := 7) (by decide) (by decide)
  unfold addPlV
  rw [h]
  refine EV.n7 (((E.r0 (by rw [E.1])).r1 (by rw [E.2.1])).r2 (by rw [E.2.2.1])) (fun j h1 h2 => ?_)
  unfold fup
  split
  · rfl
  · exact E.at7 h1 h2
theorem EV.c_fillV (E : EV V V') (s x : Int) : EV (fillV V s x) (fillV V' s x) := by
  have h := E.at7 (k := 8) (by decide) (by decide)
  unfold fillV
  rw [E.c_freeV, h]
  have F := (E.r4 (r := fup (V 4) (freeV V').toNat x) (r' := fup (V' 4) (freeV V').toNat x) (by rw [E.2.2.2.1])).r5 (r := fup (V 5) (freeV V').toNat s) (r' := fup (V' 5) (freeV V').toNat s) (by rw [E.2.2.2.2.1])
  dsimp only
  split
  · refine EV.n7 F (fun j h1 h2 => ?_)
    unfold fup
    split
    · rfl
    · exact E.at7 h1 h2
  · exact F
theorem EV.c_youV (E : EV V V') {x x' : Int} (h : x = x') : EV (youV V x) (youV V' x') := E.n1 h
theorem EV.c_spendV (E : EV V V') : EV (spendV V) (spendV V') := by
  unfold spendV
  rw [E.c_strongV, E.c_strAt, E.2.2.2.2.2.1, E.at7 (k := 10) (by decide) (by decide)]
  exact (E.n1 rfl).c_drainV _
theorem EV.c_putV (E : EV V V') : EV (putV V) (putV V') := by
  unfold putV
  rw [E.c_nB, E.at7 (k := 9) (by decide) (by decide)]
  exact E.r5 (by rw [E.2.2.2.2.1])
theorem EV.c_gatherV (E : EV V V') : EV (gatherV V) (gatherV V') := by
  unfold gatherV
  rw [E.c_fogV, E.at7 (k := 9) (by decide) (by decide)]
  exact (E.c_fillV _ _).c_setFogV _ _
theorem EV.c_actV (E : EV V V') (a : Int) : EV (actV V a) (actV V' a) := by
  have h9 := E.at7 (k := 9) (by decide) (by decide)
  unfold actV
  (repeat' split)
  · exact E.c_gatherV
  · exact E.c_youV (by rw [h9])
  · exact E.c_youV (by rw [h9])
  · exact E.c_spendV
  · exact E.c_putV
  · rw [E.c_strongV, h9]; exact E.c_layV _ _
  · exact E
theorem EV.c_leakV (E : EV V V') : EV (leakV V) (leakV V') := by
  have hl : ∀ b, leakS V b = leakS V' b := E.c_leakS
  unfold leakV
  rw [E.c_nB]
  refine (E.r4 ?_).r5 ?_
  · funext b; simp only [rowN, hl, E.2.2.2.1, E.2.2.2.2.1]
  · funext b; simp only [rowN, hl, E.2.2.2.2.1]
theorem EV.c_thinV (E : EV V V') : EV (thinV V) (thinV V') := by
  have hl : ∀ p, sunT V p = sunT V' p := E.c_sunT
  unfold thinV
  rw [E.c_nP]
  exact E.r2 (by funext b; simp only [rowN, hl, E.2.2.1])
theorem EV.c_blowV (E : EV V V') : EV (blowV V) (blowV V') := by
  have hl : ∀ p, windT V p = windT V' p := E.c_windT
  have hc : ∀ p, comesV V p = comesV V' p := E.c_comesV
  unfold blowV
  rw [E.c_nP]
  exact E.r3.r2 (by funext b; simp only [rowN, hl, hc, E.2.2.1])
theorem EV.c_marshV (E : EV V V') : EV (marshV V) (marshV V') := by
  unfold marshV
  rw [E.c_nP]
  exact E.r2 (by funext b; simp only [rowN, E.1, E.2.1, E.2.2.1])
theorem EV.c_hourV (E : EV V V') : EV (hourV V) (hourV V') := by
  have h11 := E.at7 (k := 11) (by decide) (by decide)
  have h12 := E.at7 (k := 12) (by decide) (by decide)
  unfold hourV
  rw [h11, h12]
  split
  · refine E.n7 (fun j h1 h2 => ?_)
    unfold fup
    (repeat' split)
    · rfl
    · rfl
    · exact E.at7 h1 h2
  · exact E.n1 rfl
theorem EV.c_thinIf (E : EV V V') : EV (thinIf V) (thinIf V') := by
  unfold thinIf
  rw [E.c_upV]
  split
  · exact E.c_thinV
  · exact E
theorem EV.c_blowIf (E : EV V V') : EV (blowIf V) (blowIf V') := by
  unfold blowIf
  rw [E.at7 (k := 13) (by decide) (by decide)]
  split
  · exact E
  · exact E.c_blowV
theorem EV.c_passV (E : EV V V') (a : Int) : EV (passV V a) (passV V' a) := (E.c_actV a).c_leakV.c_thinIf.c_blowIf.c_marshV.c_hourV
theorem EV.c_waitV (E : EV V V') : ∀ n, EV (waitV V n) (waitV V' n)
  | 0 => E
  | n + 1 => (EV.c_waitV E n).c_passV 0
theorem EV.c_followV (E : EV V V') (r : Int) : ∀ n, EV (followV V r n) (followV V' r n)
  | 0 => E
  | n + 1 => by
    have F := EV.c_followV E r n
    have := F.c_passV (ruleV (followV V r n) r)
    rw [F.c_ruleV] at this
    unfold followV
    rw [F.c_ruleV]
    exact this
theorem EV.c_seedV (E : EV V V') : EV (seedV V) (seedV V') := by
  unfold seedV
  rw [E.at7 (k := 16) (by decide) (by decide)]
  exact E.n1 rfl
end EVS
