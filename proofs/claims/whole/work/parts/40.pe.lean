/-! PURE: two valleys alike but for prices and coins; what a price brings -/
def PE (V V' : VS) : Prop := V 0 = V' 0 ∧ V 1 = V' 1 ∧ V 2 = V' 2 ∧ V 4 = V' 4 ∧ V 5 = V' 5 ∧ V 7 7 = V' 7 7 ∧ V 7 8 = V' 7 8 ∧ V 7 9 = V' 7 9 ∧ V 7 11 = V' 7 11 ∧ V 7 12 = V' 7 12 ∧ V 7 13 = V' 7 13 ∧ V 7 14 = V' 7 14 ∧ V 7 15 = V' 7 15 ∧ V 7 16 = V' 7 16
theorem PE.rf (V : VS) : PE V V := ⟨rfl, rfl, rfl, rfl, rfl, rfl, rfl, rfl, rfl, rfl, rfl, rfl, rfl, rfl⟩
theorem PE.sy {V V' : VS} (E : PE V V') : PE V' V := by
  obtain ⟨e0, e1, e2, e4, e5, e77, e78, e79, e711, e712, e713, e714, e715, e716⟩ := E
  exact ⟨e0.symm, e1.symm, e2.symm, e4.symm, e5.symm, e77.symm, e78.symm, e79.symm, e711.symm, e712.symm, e713.symm, e714.symm, e715.symm, e716.symm⟩
section PES
variable {V V' : VS}
theorem PE.c_hpB (E : PE V V') (p : Int) : hpB V p = hpB V' p := by
  obtain ⟨e0, e1, e2, e4, e5, e77, e78, e79, e711, e712, e713, e714, e715, e716⟩ := id E
  simp only [hpB, e0, e1, e2, e4, e5, e77, e78, e79, e711, e712, e713, e714, e715, e716]
theorem PE.c_nP (E : PE V V') : nP V = nP V' := by
  obtain ⟨e0, e1, e2, e4, e5, e77, e78, e79, e711, e712, e713, e714, e715, e716⟩ := id E
  simp only [nP, e0, e1, e2, e4, e5, e77, e78, e79, e711, e712, e713, e714, e715, e716]
theorem PE.c_nB (E : PE V V') : nB V = nB V' := by
  obtain ⟨e0, e1, e2, e4, e5, e77, e78, e79, e711, e712, e713, e714, e715, e716⟩ := id E
  simp only [nB, e0, e1, e2, e4, e5, e77, e78, e79, e711, e712, e713, e714, e715, e716]
theorem PE.c_upV (E : PE V V') : upV V = upV V' := by
  obtain ⟨e0, e1, e2, e4, e5, e77, e78, e79, e711, e712, e713, e714, e715, e716⟩ := id E
  simp only [upV, e0, e1, e2, e4, e5, e77, e78, e79, e711, e712, e713, e714, e715, e716]
theorem PE.c_kindV (E : PE V V') (p : Int) : kindV V p = kindV V' p := by
  obtain ⟨e0, e1, e2, e4, e5, e77, e78, e79, e711, e712, e713, e714, e715, e716⟩ := id E
  simp only [kindV, E.c_hpB, e0, e1, e2, e4, e5, e77, e78, e79, e711, e712, e713, e714, e715, e716]
theorem PE.c_traitV (E : PE V V') (p : Int) : traitV V p = traitV V' p := by
  obtain ⟨e0, e1, e2, e4, e5, e77, e78, e79, e711, e712, e713, e714, e715, e716⟩ := id E
  simp only [traitV, E.c_hpB, e0, e1, e2, e4, e5, e77, e78, e79, e711, e712, e713, e714, e715, e716]
theorem PE.c_fogV (E : PE V V') (p : Int) : fogV V p = fogV V' p := by
  obtain ⟨e0, e1, e2, e4, e5, e77, e78, e79, e711, e712, e713, e714, e715, e716⟩ := id E
  simp only [fogV, E.c_hpB, e0, e1, e2, e4, e5, e77, e78, e79, e711, e712, e713, e714, e715, e716]
theorem PE.c_leakK (E : PE V V') (k a : Int) : leakK V k a = leakK V' k a := by
  obtain ⟨e0, e1, e2, e4, e5, e77, e78, e79, e711, e712, e713, e714, e715, e716⟩ := id E
  simp only [leakK, e0, e1, e2, e4, e5, e77, e78, e79, e711, e712, e713, e714, e715, e716]
theorem PE.c_leakF (E : PE V V') (s : Int) : leakF V s = leakF V' s := by
  obtain ⟨e0, e1, e2, e4, e5, e77, e78, e79, e711, e712, e713, e714, e715, e716⟩ := id E
  simp only [leakF, E.c_hpB, E.c_leakK, E.c_upV, e0, e1, e2, e4, e5, e77, e78, e79, e711, e712, e713, e714, e715, e716]
theorem PE.c_sunT (E : PE V V') (p : Nat) : sunT V p = sunT V' p := by
  obtain ⟨e0, e1, e2, e4, e5, e77, e78, e79, e711, e712, e713, e714, e715, e716⟩ := id E
  simp only [sunT, e0, e1, e2, e4, e5, e77, e78, e79, e711, e712, e713, e714, e715, e716]
theorem PE.c_windT (E : PE V V') (p : Nat) : windT V p = windT V' p := by
  obtain ⟨e0, e1, e2, e4, e5, e77, e78, e79, e711, e712, e713, e714, e715, e716⟩ := id E
  simp only [windT, e0, e1, e2, e4, e5, e77, e78, e79, e711, e712, e713, e714, e715, e716]
theorem PE.c_strAt (E : PE V V') (b : Int) : strAt V b = strAt V' b := by
  obtain ⟨e0, e1, e2, e4, e5, e77, e78, e79, e711, e712, e713, e714, e715, e716⟩ := id E
  simp only [strAt, e0, e1, e2, e4, e5, e77, e78, e79, e711, e712, e713, e714, e715, e716]
theorem PE.c_comesV (E : PE V V') (p : Nat) : comesV V p = comesV V' p := by
  obtain ⟨e0, e1, e2, e4, e5, e77, e78, e79, e711, e712, e713, e714, e715, e716⟩ := id E
  simp only [comesV, E.c_hpB, E.c_windT, e0, e1, e2, e4, e5, e77, e78, e79, e711, e712, e713, e714, e715, e716]
theorem PE.c_leakS (E : PE V V') (b : Nat) : leakS V b = leakS V' b := by
  obtain ⟨e0, e1, e2, e4, e5, e77, e78, e79, e711, e712, e713, e714, e715, e716⟩ := id E
  simp only [leakS, E.c_leakF, e0, e1, e2, e4, e5, e77, e78, e79, e711, e712, e713, e714, e715, e716]
theorem PE.c_freeF (E : PE V V') : ∀ k i : Nat, freeF V k i = freeF V' k i := by
  obtain ⟨e0, e1, e2, e4, e5, e77, e78, e79, e711, e712, e713, e714, e715, e716⟩ := id E
  intro k
  induction k with
  | zero => intro i; simp only [freeF, e78]
  | succ k ih => intro i; simp only [freeF, e5, ih]
theorem PE.c_cntF (E : PE V V') (s : Int) (n : Nat) : cntF V s n = cntF V' s n := by
  obtain ⟨e0, e1, e2, e4, e5, e77, e78, e79, e711, e712, e713, e714, e715, e716⟩ := id E
  simp only [cntF, e5]
theorem PE.c_stg (E : PE V V') (s : Int) : ∀ n : Nat, stg V s n = stg V' s n := by
  obtain ⟨e0, e1, e2, e4, e5, e77, e78, e79, e711, e712, e713, e714, e715, e716⟩ := id E
  intro n
  induction n with
  | zero => rfl
  | succ n ih => simp only [stg, e5, e4, ih]
theorem PE.c_freeV (E : PE V V') : freeV V = freeV V' := by
  obtain ⟨e0, e1, e2, e4, e5, e77, e78, e79, e711, e712, e713, e714, e715, e716⟩ := id E
  simp only [freeV, E.c_freeF, E.c_nB, e0, e1, e2, e4, e5, e77, e78, e79, e711, e712, e713, e714, e715, e716]
theorem PE.c_cntV (E : PE V V') : cntV V = cntV V' := by
  obtain ⟨e0, e1, e2, e4, e5, e77, e78, e79, e711, e712, e713, e714, e715, e716⟩ := id E
  simp only [cntV, E.c_cntF, E.c_nB, e0, e1, e2, e4, e5, e77, e78, e79, e711, e712, e713, e714, e715, e716]
theorem PE.c_strongV (E : PE V V') (s : Int) : strongV V s = strongV V' s := by
  obtain ⟨e0, e1, e2, e4, e5, e77, e78, e79, e711, e712, e713, e714, e715, e716⟩ := id E
  simp only [strongV, E.c_stg, E.c_nB, e0, e1, e2, e4, e5, e77, e78, e79, e711, e712, e713, e714, e715, e716]
theorem PE.c_spendB (E : PE V V') : spendB V = spendB V' := by
  obtain ⟨e0, e1, e2, e4, e5, e77, e78, e79, e711, e712, e713, e714, e715, e716⟩ := id E
  simp only [spendB, E.c_strAt, E.c_strongV, e0, e1, e2, e4, e5, e77, e78, e79, e711, e712, e713, e714, e715, e716]
theorem PE.c_mayV (E : PE V V') (a : Int) : mayV V a = mayV V' a := by
  obtain ⟨e0, e1, e2, e4, e5, e77, e78, e79, e711, e712, e713, e714, e715, e716⟩ := id E
  simp only [mayV, E.c_fogV, E.c_cntV, E.c_freeV, E.c_hpB, E.c_spendB, E.c_strongV, e0, e1, e2, e4, e5, e77, e78, e79, e711, e712, e713, e714, e715, e716]
theorem PE.c_ruleV (E : PE V V') (r : Int) : ruleV V r = ruleV V' r := by
  unfold ruleV
  rw [E.c_mayV, E.c_mayV, E.c_mayV, E.c_mayV, E.c_strongV, E.c_strAt, E.c_kindV, E.2.2.2.2.2.2.2.1]
theorem PE.r0 (E : PE V V') {r r' : Nat → Int} (h : r = r') : PE (fup V 0 r) (fup V' 0 r') := by
  obtain ⟨e0, e1, e2, e4, e5, e77, e78, e79, e711, e712, e713, e714, e715, e716⟩ := E
  exact ⟨h, e1, e2, e4, e5, e77, e78, e79, e711, e712, e713, e714, e715, e716⟩
theorem PE.r1 (E : PE V V') {r r' : Nat → Int} (h : r = r') : PE (fup V 1 r) (fup V' 1 r') := by
  obtain ⟨e0, e1, e2, e4, e5, e77, e78, e79, e711, e712, e713, e714, e715, e716⟩ := E
  exact ⟨e0, h, e2, e4, e5, e77, e78, e79, e711, e712, e713, e714, e715, e716⟩
theorem PE.r2 (E : PE V V') {r r' : Nat → Int} (h : r = r') : PE (fup V 2 r) (fup V' 2 r') := by
  obtain ⟨e0, e1, e2, e4, e5, e77, e78, e79, e711, e712, e713, e714, e715, e716⟩ := E
  exact ⟨e0, e1, h, e4, e5, e77, e78, e79, e711, e712, e713, e714, e715, e716⟩
theorem PE.r3 (E : PE V V') {r r' : Nat → Int} : PE (fup V 3 r) (fup V' 3 r') := by
  obtain ⟨e0, e1, e2, e4, e5, e77, e78, e79, e711, e712, e713, e714, e715, e716⟩ := E
  exact ⟨e0, e1, e2, e4, e5, e77, e78, e79, e711, e712, e713, e714, e715, e716⟩
theorem PE.r4 (E : PE V V') {r r' : Nat → Int} (h : r = r') : PE (fup V 4 r) (fup V' 4 r') := by
  obtain ⟨e0, e1, e2, e4, e5, e77, e78, e79, e711, e712, e713, e714, e715, e716⟩ := E
  exact ⟨e0, e1, e2, h, e5, e77, e78, e79, e711, e712, e713, e714, e715, e716⟩
theorem PE.r5 (E : PE V V') {r r' : Nat → Int} (h : r = r') : PE (fup V 5 r) (fup V' 5 r') := by
  obtain ⟨e0, e1, e2, e4, e5, e77, e78, e79, e711, e712, e713, e714, e715, e716⟩ := E
  exact ⟨e0, e1, e2, e4, h, e77, e78, e79, e711, e712, e713, e714, e715, e716⟩
theorem PE.n7 (E : PE V V') {r r' : Nat → Int} (h : ∀ k : Nat, 7 ≤ k → k ≤ 16 → k ≠ 10 → r k = r' k) : PE (fup V 7 r) (fup V' 7 r') := by
  obtain ⟨e0, e1, e2, e4, e5, e77, e78, e79, e711, e712, e713, e714, e715, e716⟩ := E
  exact ⟨e0, e1, e2, e4, e5, h 7 (by decide) (by decide) (by decide), h 8 (by decide) (by decide) (by decide), h 9 (by decide) (by decide) (by decide), h 11 (by decide) (by decide) (by decide), h 12 (by decide) (by decide) (by decide), h 13 (by decide) (by decide) (by decide), h 14 (by decide) (by decide) (by decide), h 15 (by decide) (by decide) (by decide), h 16 (by decide) (by decide) (by decide)⟩
theorem PE.at7 (E : PE V V') {k : Nat} (h1 : 7 ≤ k) (h2 : k ≤ 16) (h3 : k ≠ 10) : V 7 k = V' 7 k := by
  obtain ⟨e0, e1, e2, e4, e5, e77, e78, e79, e711, e712, e713, e714, e715, e716⟩ := E
  match k, h1, h2, h3 with
  | 7, _, _, _ => exact e77
  | 8, _, _, _ => exact e78
  | 9, _, _, _ => exact e79
  | 10, _, _, h => exact absurd rfl h
  | 11, _, _, _ => exact e711
  | 12, _, _, _ => exact e712
  | 13, _, _, _ => exact e713
  | 14, _, _, _ => exact e714
  | 15, _, _, _ => exact e715
  | 16, _, _, _ => exact e716
  | n + 17, _, h, _ => omega
theorem PE.n1 (E : PE V V') {j : Nat} {x x' : Int} (h : j = 10 ∨ x = x') : PE (fup V 7 (fup (V 7) j x)) (fup V' 7 (fup (V' 7) j x')) := by
  refine E.n7 (fun k h1 h2 h3 => ?_)
  unfold fup
  split
  · next q => subst q; exact h.resolve_left h3
  · exact E.at7 h1 h2 h3
theorem PE.c_setFogV (E : PE V V') (p f : Int) : PE (setFogV V p f) (setFogV V' p f) := by
  unfold setFogV
  rw [E.c_hpB]
  split
  · exact E.r2 (by rw [E.2.2.1])
  · exact E
theorem PE.c_layV (E : PE V V') (b s : Int) : PE (layV V b s) (layV V' b s) := by
  unfold layV
  rw [E.at7 (k := 8) (by decide) (by decide) (by decide)]
  split
  · exact E.r5 (by rw [E.2.2.2.2.1])
  · exact E
theorem PE.c_drainV (E : PE V V') (b : Int) : PE (drainV V b) (drainV V' b) := by
  unfold drainV
  split
  · exact (E.r4 (by rw [E.2.2.2.1])).r5 (by rw [E.2.2.2.2.1])
  · exact E
theorem PE.c_fillV (E : PE V V') (s x : Int) : PE (fillV V s x) (fillV V' s x) := by
  have h := E.at7 (k := 8) (by decide) (by decide) (by decide)
  unfold fillV
  rw [E.c_freeV, h]
  have F := (E.r4 (r := fup (V 4) (freeV V').toNat x) (r' := fup (V' 4) (freeV V').toNat x) (by rw [E.2.2.2.1])).r5 (r := fup (V 5) (freeV V').toNat s) (r' := fup (V' 5) (freeV V').toNat s) (by rw [E.2.2.2.2.1])
  dsimp only
  split
  · refine PE.n7 F (fun j h1 h2 h3 => ?_)
    unfold fup
    split
    · rfl
    · exact E.at7 h1 h2 h3
  · exact F
theorem PE.c_youV (E : PE V V') {x x' : Int} (h : x = x') : PE (youV V x) (youV V' x') := E.n1 (Or.inr h)
theorem PE.c_spendV (E : PE V V') : PE (spendV V) (spendV V') := by
  unfold spendV
  rw [E.c_strongV, E.c_strAt]
  exact (E.n1 (Or.inl rfl)).c_drainV _
theorem PE.c_putV (E : PE V V') : PE (putV V) (putV V') := by
  unfold putV
  rw [E.c_nB, E.at7 (k := 9) (by decide) (by decide) (by decide)]
  exact E.r5 (by rw [E.2.2.2.2.1])
theorem PE.c_gatherV (E : PE V V') : PE (gatherV V) (gatherV V') := by
  unfold gatherV
  rw [E.c_fogV, E.at7 (k := 9) (by decide) (by decide) (by decide)]
  exact (E.c_fillV _ _).c_setFogV _ _
theorem PE.c_actV (E : PE V V') (a : Int) : PE (actV V a) (actV V' a) := by
  have h9 := E.at7 (k := 9) (by decide) (by decide) (by decide)
  unfold actV
  (repeat' split)
  · exact E.c_gatherV
  · exact E.c_youV (by rw [h9])
  · exact E.c_youV (by rw [h9])
  · exact E.c_spendV
  · exact E.c_putV
  · rw [E.c_strongV, h9]; exact E.c_layV _ _
  · exact E
theorem PE.c_leakV (E : PE V V') : PE (leakV V) (leakV V') := by
  have hl : ∀ b, leakS V b = leakS V' b := E.c_leakS
  unfold leakV
  rw [E.c_nB]
  refine (E.r4 ?_).r5 ?_
  · funext b; simp only [rowN, hl, E.2.2.2.1, E.2.2.2.2.1]
  · funext b; simp only [rowN, hl, E.2.2.2.2.1]
theorem PE.c_thinV (E : PE V V') : PE (thinV V) (thinV V') := by
  have hl : ∀ p, sunT V p = sunT V' p := E.c_sunT
  unfold thinV
  rw [E.c_nP]
  exact E.r2 (by funext b; simp only [rowN, hl, E.2.2.1])
theorem PE.c_blowV (E : PE V V') : PE (blowV V) (blowV V') := by
  have hl : ∀ p, windT V p = windT V' p := E.c_windT
  have hc : ∀ p, comesV V p = comesV V' p := E.c_comesV
  unfold blowV
  rw [E.c_nP]
  exact E.r3.r2 (by funext b; simp only [rowN, hl, hc, E.2.2.1])
theorem PE.c_marshV (E : PE V V') : PE (marshV V) (marshV V') := by
  unfold marshV
  rw [E.c_nP]
  exact E.r2 (by funext b; simp only [rowN, E.1, E.2.1, E.2.2.1])
theorem PE.c_hourV (E : PE V V') : PE (hourV V) (hourV V') := by
  have h11 := E.at7 (k := 11) (by decide) (by decide) (by decide)
  have h12 := E.at7 (k := 12) (by decide) (by decide) (by decide)
  unfold hourV
  rw [h11, h12]
  split
  · refine E.n7 (fun j h1 h2 h3 => ?_)
    unfold fup
    (repeat' split)
    · rfl
    · rfl
    · exact E.at7 h1 h2 h3
  · exact E.n1 (Or.inr rfl)
theorem PE.c_thinIf (E : PE V V') : PE (thinIf V) (thinIf V') := by
  unfold thinIf
  rw [E.c_upV]
  split
  · exact E.c_thinV
  · exact E
theorem PE.c_blowIf (E : PE V V') : PE (blowIf V) (blowIf V') := by
  unfold blowIf
  rw [E.at7 (k := 13) (by decide) (by decide) (by decide)]
  split
  · exact E
  · exact E.c_blowV
theorem PE.c_passV (E : PE V V') (a : Int) : PE (passV V a) (passV V' a) := (E.c_actV a).c_leakV.c_thinIf.c_blowIf.c_marshV.c_hourV
theorem PE.c_followV (E : PE V V') (r : Int) : ∀ n, PE (followV V r n) (followV V' r n)
  | 0 => E
  | n + 1 => by
    have F := PE.c_followV E r n
    have := F.c_passV (ruleV (followV V r n) r)
    rw [F.c_ruleV] at this
    unfold followV
    rw [F.c_ruleV]
    exact this
end PES
