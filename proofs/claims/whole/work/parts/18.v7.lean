/-! PURE: what always holds, kept by an hour -/
theorem thin_wf {V : VS} (hw : WF V) : WF (thinV V) := th_wf hw (nP V) (WF.nP8 hw.bd)
theorem comesV_bd {V : VS} (hw : WF V) (p : Nat) : 0 ≤ comesV V p ∧ comesV V p ≤ 24 := by
  unfold comesV
  split
  · next hq =>
    have h5 := hpB_iff.mp hq
    have := windT_bd hw (p := ((p : Int) - V 7 13).toNat) (by omega)
    omega
  · omega
theorem w2_wf {V : VS} (hw : WF V) (i : Nat) (hi : i ≤ 8) : WF (w2V V i) := by
  refine hw.rows rfl rfl (fun p hp => ?_) (fun p hp => ?_) rfl rfl rfl rfl
  · have h1 := hw.pl p hp
    have h2 := windT_bd hw hp
    have h3 := comesV_bd hw p
    rw [w2_2]
    unfold rowN
    split
    · unfold amin; dsimp only; split <;> omega
    · omega
  · rw [w2_2]
    unfold rowN
    rw [if_neg (by omega)]
    exact hw.z2 p hp
theorem blow_wf {V : VS} (hw : WF V) : WF (blowV V) := w2_wf hw (nP V) (WF.nP8 hw.bd)
theorem marsh_wf {V : VS} (hw : WF V) : WF (marshV V) := by
  have h8 := WF.nP8 hw.bd
  refine hw.rows (V' := mrV V (nP V)) rfl rfl (fun p hp => ?_) (fun p hp => ?_) rfl rfl rfl rfl
  · have h1 := hw.pl p hp
    rw [mr_2]
    unfold rowN
    split
    · dsimp only
      split
      · unfold amin; split <;> omega
      · omega
    · omega
  · rw [mr_2]
    unfold rowN
    rw [if_neg (by omega)]
    exact hw.z2 p hp
/-- a valley whose bottles are others -/
theorem WF.bott {V V' : VS} (h : WF V) (h0 : V' 0 = V 0) (h1 : V' 1 = V 1) (h2 : V' 2 = V 2) (h6 : V' 6 = V 6) (h7 : V' 7 = V 7)
    (hb : ∀ b : Nat, (b : Int) < V 7 8 → (V' 5 b = 200 ∧ V' 4 b = 0) ∨ ((V' 5 b = 100 ∨ (0 ≤ V' 5 b ∧ V' 5 b < V 7 7)) ∧ 1 ≤ V' 4 b ∧ V' 4 b ≤ 99)) (hz : ∀ k : Nat, 12 ≤ k → V' 4 k = 0 ∧ V' 5 k = 0) : WF V' := by
  obtain ⟨a1, a2, a3, a4, a5, a6, a7, a8, a9, a10, a11, a12, a13, a14⟩ := h
  unfold WF BD
  rw [h0, h1, h2, h6, h7]
  exact ⟨a1, a2, a3, a4, a5, a6, a7, a8, hb, a10, a11, a12, hz, a14⟩
theorem WF.z45 {V : VS} (h : WF V) : ∀ k : Nat, 12 ≤ k → V 4 k = 0 ∧ V 5 k = 0 := h.2.2.2.2.2.2.2.2.2.2.2.2.1
theorem leak_wf {V : VS} (hw : WF V) : WF (leakV V) := by
  have h12 := WF.nB12 hw.bd
  have h0 := hw.bd.2.2.1
  refine hw.bott (V' := lkV V (nB V)) rfl rfl rfl rfl rfl (fun b hb => ?_) (fun k hk => ?_)
  · have h1 := hw.bt b hb
    have h2 := leakF_bd V (V 5 b)
    have hlt : b < nB V := by unfold nB; omega
    rw [lk_4, lk_5]
    unfold rowN
    rw [if_pos hlt, if_pos hlt]
    unfold lk4 lk5 leakS
    by_cases hq : V 5 b = 200
    · rw [if_pos hq, if_pos hq]; omega
    · rw [if_neg hq, if_neg hq]
      by_cases hr : V 4 b - leakF V (V 5 b) ≤ 0
      · rw [if_pos hr, if_pos hr]; omega
      · rw [if_neg hr, if_neg hr]; omega
  · rw [lk_4, lk_5]
    unfold rowN
    rw [if_neg (by omega), if_neg (by omega)]
    exact hw.z45 k hk
/-- a valley whose numbers are others -/
theorem WF.nums {V V' : VS} (h : WF V) (h0 : V' 0 = V 0) (h1 : V' 1 = V 1) (h2 : V' 2 = V 2) (h4 : V' 4 = V 4) (h5 : V' 5 = V 5) (h6 : V' 6 = V 6) (h77 : V' 7 7 = V 7 7) (h78 : V' 7 8 = V 7 8)
    (hy : 0 ≤ V' 7 9 ∧ (V' 7 9 < V 7 7 ∨ (V 7 7 = 0 ∧ V' 7 9 = 0))) (hc : 0 ≤ V' 7 10 ∧ V' 7 10 ≤ 99999) (hh : 0 ≤ V' 7 11 ∧ V' 7 11 ≤ 23) (hwd : -1 ≤ V' 7 13 ∧ V' 7 13 ≤ 1) (hs : 0 ≤ V' 7 14 ∧ V' 7 14 ≤ 18) (ht : 0 ≤ V' 7 15 ∧ V' 7 15 ≤ 23) : WF V' := by
  obtain ⟨a1, a2, a3, a4, a5, a6, a7, a8, a9, a10, a11, a12, a13, a14⟩ := h
  unfold WF BD
  rw [h0, h1, h2, h4, h5, h6, h77, h78]
  exact ⟨a1, hy, hc, hh, hwd, hs, ht, a8, a9, a10, a11, a12, a13, a14⟩
theorem hour_wf {V : VS} (hw : WF V) : WF (hourV V) := by
  have hh := hw.hour
  unfold hourV
  split
  · exact hw.nums rfl rfl rfl rfl rfl rfl rfl rfl hw.you hw.coins (by show 0 ≤ (0 : Int) ∧ (0 : Int) ≤ 23; omega) hw.wind hw.sun hw.tender
  · exact hw.nums rfl rfl rfl rfl rfl rfl rfl rfl hw.you hw.coins (by show 0 ≤ V 7 11 + 1 ∧ V 7 11 + 1 ≤ 23; omega) hw.wind hw.sun hw.tender
theorem stg_bd (V : VS) (s : Int) : ∀ n : Nat, (stg V s n).1 = -1 ∨ (∃ b : Nat, b < n ∧ (stg V s n).1 = (b : Int) ∧ V 5 b = s ∧ 0 < V 4 b)
  | 0 => Or.inl rfl
  | n + 1 => by
    unfold stg
    split
    · next hq =>
      refine Or.inr ⟨n, by omega, rfl, hq.1, ?_⟩
      have h2 : ∀ m : Nat, 0 ≤ (stg V s m).2 := by
        intro m
        induction m with
        | zero => exact Int.le_refl 0
        | succ m ih =>
          unfold stg
          split
          · next hr => simp only; omega
          · exact ih
      have := h2 n
      omega
    · rcases stg_bd V s n with h | ⟨b, h1, h2⟩
      · exact Or.inl h
      · exact Or.inr ⟨b, by omega, h2⟩
theorem strong_bd {V : VS} (s : Int) : strongV V s = -1 ∨ (∃ b : Nat, b < nB V ∧ strongV V s = (b : Int) ∧ V 5 b = s ∧ 0 < V 4 b) := stg_bd V s (nB V)
theorem hp_of {V : VS} (hw : WF V) (h : V 7 9 < V 7 7) : hpB V (V 7 9) = true := hpB_iff.mpr ⟨hw.you.1, h, by have := hw.bd.2.1; omega⟩
theorem freeF_at (V : VS) : ∀ (k i : Nat), (freeF V k i = if V 7 8 < 12 then V 7 8 else -1) ∨ (∃ b : Nat, i ≤ b ∧ b < i + k ∧ freeF V k i = (b : Int) ∧ V 5 b = 200)
  | 0, i => Or.inl rfl
  | k + 1, i => by
    unfold freeF
    split
    · next h => exact Or.inr ⟨i, by omega, by omega, rfl, h⟩
    · rcases freeF_at V k (i + 1) with h | ⟨b, h1, h2, h3⟩
      · exact Or.inl h
      · exact Or.inr ⟨b, by omega, by omega, h3⟩
/-- a new bottle at a spot -/
theorem fill_wf {V : VS} (hw : WF V) {s x : Int} (hs : s = 100 ∨ (0 ≤ s ∧ s < V 7 7)) (hx : 1 ≤ x ∧ x ≤ 99) (hp : 0 < V 7 7) (hf : freeV V ≠ -1) : WF (fillV V s x) := by
  have hbd := freeV_bd hw.bd
  have hb := hw.bd
  obtain ⟨a1, a2, a3, a4, a5, a6, a7, a8, a9, a10, a11, a12, a13, a14⟩ := hw
  have hcase : freeV V = V 7 8 ∧ V 7 8 < 12 ∨ ∃ b : Nat, b < nB V ∧ freeV V = (b : Int) ∧ V 5 b = 200 := by
    rcases freeF_at V (nB V) 0 with h | ⟨b, h1, h2, h3, h4⟩
    · left
      by_cases h12 : V 7 8 < 12
      · rw [if_pos h12] at h; exact ⟨h, h12⟩
      · rw [if_neg h12] at h; exact absurd h hf
    · exact Or.inr ⟨b, by omega, h3, h4⟩
  unfold fillV
  generalize freeV V = b at hbd hf hcase
  obtain ⟨n, rfl⟩ : ∃ n : Nat, b = (n : Int) := ⟨b.toNat, by omega⟩
  simp only [Int.toNat_natCast]
  have hz : ∀ k : Nat, 12 ≤ k → fup (V 4) n x k = 0 ∧ fup (V 5) n s k = 0 := by
    intro k hk
    rw [fup_ne _ _ (by omega), fup_ne _ _ (by omega)]
    exact a13 k hk
  have hbt : ∀ k : Nat, ((k : Int) < V 7 8 ∨ k = n) → (fup (V 5) n s k = 200 ∧ fup (V 4) n x k = 0) ∨ ((fup (V 5) n s k = 100 ∨ (0 ≤ fup (V 5) n s k ∧ fup (V 5) n s k < V 7 7)) ∧ 1 ≤ fup (V 4) n x k ∧ fup (V 4) n x k ≤ 99) := by
    intro k hk
    by_cases hkn : k = n
    · subst hkn
      rw [fup_same, fup_same]
      exact Or.inr ⟨hs, hx⟩
    · rw [fup_ne _ _ hkn, fup_ne _ _ hkn]
      exact a9 k (by omega)
  unfold nB at hcase
  split
  · next hge =>
    have hn : (n : Int) = V 7 8 := by
      rcases hcase with h | ⟨b, h1, h2, -⟩
      · exact h.1
      · omega
    refine ⟨⟨hb.1, hb.2.1, ?_, ?_⟩, a2, a3, a4, a5, a6, a7, a8, ?_, a10, ?_, a12, hz, a14⟩
    · show 0 ≤ (n : Int) + 1; omega
    · show (n : Int) + 1 ≤ 12; omega
    · intro k hk
      have hk : (k : Int) < (n : Int) + 1 := hk
      exact hbt k (by omega)
    · intro h7
      have h7 : V 7 7 = 0 := h7
      omega
  · next hlt => exact ⟨hb, a2, a3, a4, a5, a6, a7, a8, fun k hk => hbt k (Or.inl hk), a10, a11, a12, hz, a14⟩
theorem setFog_wf {V : VS} (hw : WF V) {p f : Int} (hf : 0 ≤ f ∧ f ≤ 99) : WF (setFogV V p f) := by
  unfold setFogV
  split
  · next hq =>
    have h1 := hpB_iff.mp hq
    refine hw.rows rfl rfl (fun k hk => ?_) (fun k hk => ?_) rfl rfl rfl rfl
    · show 0 ≤ fup (V 2) p.toNat f k ∧ fup (V 2) p.toNat f k ≤ 99
      unfold fup
      split
      · exact hf
      · have := hw.pl k hk; omega
    · show fup (V 2) p.toNat f k = 0
      rw [fup_ne _ _ (by omega)]
      exact hw.z2 k hk
  · exact hw
theorem drain_wf {V : VS} (hw : WF V) (b : Int) : WF (drainV V b) := by
  unfold drainV
  split
  · next hq =>
    refine hw.bott rfl rfl rfl rfl rfl (fun k hk => ?_) (fun k hk => ?_)
    · show (fup (V 5) b.toNat 200 k = 200 ∧ fup (V 4) b.toNat 0 k = 0) ∨ ((fup (V 5) b.toNat 200 k = 100 ∨ (0 ≤ fup (V 5) b.toNat 200 k ∧ fup (V 5) b.toNat 200 k < V 7 7)) ∧ 1 ≤ fup (V 4) b.toNat 0 k ∧ fup (V 4) b.toNat 0 k ≤ 99)
      by_cases hkb : k = b.toNat
      · subst hkb; rw [fup_same, fup_same]; exact Or.inl ⟨rfl, rfl⟩
      · rw [fup_ne _ _ hkb, fup_ne _ _ hkb]; exact hw.bt k hk
    · show fup (V 4) b.toNat 0 k = 0 ∧ fup (V 5) b.toNat 200 k = 0
      rw [fup_ne _ _ (by omega), fup_ne _ _ (by omega)]
      exact hw.z45 k hk
  · exact hw
theorem lay_wf {V : VS} (hw : WF V) {b : Nat} {s : Int} (hb : (b : Int) < V 7 8) (hne : V 5 b ≠ 200) (hs : s = 100 ∨ (0 ≤ s ∧ s < V 7 7)) : WF (layV V b s) := by
  unfold layV
  split
  · next hq =>
    simp only [Int.toNat_natCast]
    refine hw.bott rfl rfl rfl rfl rfl (fun k hk => ?_) (fun k hk => ?_)
    · show (fup (V 5) b s k = 200 ∧ V 4 k = 0) ∨ ((fup (V 5) b s k = 100 ∨ (0 ≤ fup (V 5) b s k ∧ fup (V 5) b s k < V 7 7)) ∧ 1 ≤ V 4 k ∧ V 4 k ≤ 99)
      by_cases hkb : k = b
      · subst hkb
        rw [fup_same]
        rcases hw.bt k hk with h | h
        · exact absurd h.1 hne
        · exact Or.inr ⟨hs, h.2⟩
      · rw [fup_ne _ _ hkb]; exact hw.bt k hk
    · show V 4 k = 0 ∧ fup (V 5) b s k = 0
      rw [fup_ne _ _ (by omega)]
      exact hw.z45 k hk
  · exact hw
theorem act_wf {V : VS} (hw : WF V) {a : Int} (hm : mayV V a = true) : WF (actV V a) := by
  have hb := hw.bd
  have hy := hw.you
  unfold actV
  split
  · next h1 =>
    subst h1
    unfold mayV at hm
    simp at hm
    obtain ⟨m1, m2, m3⟩ := hm
    have hfb := fogV_bd hw (V 7 9)
    have hp : 0 < V 7 7 := by
      have hh : hpB V (V 7 9) = true := by
        cases hq : hpB V (V 7 9)
        · unfold fogV at m1; rw [hq] at m1; simp at m1
        · rfl
      have := hpB_iff.mp hh
      omega
    exact setFog_wf (fill_wf hw (Or.inl rfl) (by omega) hp m3) (by omega)
  · split
    · next h1 =>
      subst h1
      unfold mayV at hm
      simp at hm
      have := hpB_iff.mp hm
      exact hw.nums rfl rfl rfl rfl rfl rfl rfl rfl (by show 0 ≤ V 7 9 + 1 ∧ (V 7 9 + 1 < V 7 7 ∨ (V 7 7 = 0 ∧ V 7 9 + 1 = 0)); omega) hw.coins hw.hour hw.wind hw.sun hw.tender
    · split
      · next h1 =>
        subst h1
        unfold mayV at hm
        simp at hm
        have := hpB_iff.mp hm
        exact hw.nums rfl rfl rfl rfl rfl rfl rfl rfl (by show 0 ≤ V 7 9 - 1 ∧ (V 7 9 - 1 < V 7 7 ∨ (V 7 7 = 0 ∧ V 7 9 - 1 = 0)); omega) hw.coins hw.hour hw.wind hw.sun hw.tender
      · split
        · unfold spendV
          have hc := hw.coins
          have hcl := clsF_bd (strAt V (strongV V 100))
          have hpr := hw.pr.2 (clsF (strAt V (strongV V 100))).toNat (by omega)
          have ha : 0 ≤ amin 99999 (V 7 10 + V 6 (clsF (strAt V (strongV V 100))).toNat) ∧ amin 99999 (V 7 10 + V 6 (clsF (strAt V (strongV V 100))).toNat) ≤ 99999 := by
            unfold amin
            split <;> omega
          have hq : WF (fup V 7 (fup (V 7) 10 (amin 99999 (V 7 10 + V 6 (clsF (strAt V (strongV V 100))).toNat)))) := hw.nums rfl rfl rfl rfl rfl rfl rfl rfl hw.you ha hw.hour hw.wind hw.sun hw.tender
          exact drain_wf hq _
        · split
          · next h5 =>
            subst h5
            unfold mayV at hm
            simp at hm
            have hh := hpB_iff.mp hm.1
            refine hw.bott (V' := putV V) rfl rfl rfl rfl rfl (fun k hk => ?_) (fun k hk => ?_)
            · show (rowN (fun j => if V 5 j = 100 then V 7 9 else V 5 j) (V 5) (nB V) k = 200 ∧ V 4 k = 0) ∨ ((rowN (fun j => if V 5 j = 100 then V 7 9 else V 5 j) (V 5) (nB V) k = 100 ∨ (0 ≤ rowN (fun j => if V 5 j = 100 then V 7 9 else V 5 j) (V 5) (nB V) k ∧ rowN (fun j => if V 5 j = 100 then V 7 9 else V 5 j) (V 5) (nB V) k < V 7 7)) ∧ 1 ≤ V 4 k ∧ V 4 k ≤ 99)
              have hk1 := hw.bt k hk
              unfold rowN
              split
              · dsimp only; split <;> omega
              · exact hk1
            · show V 4 k = 0 ∧ rowN (fun j => if V 5 j = 100 then V 7 9 else V 5 j) (V 5) (nB V) k = 0
              have h12 := WF.nB12 hb
              unfold rowN
              rw [if_neg (by omega)]
              exact hw.z45 k hk
          · split
            · next h6 =>
              subst h6
              unfold mayV at hm
              simp at hm
              rcases strong_bd (V := V) (V 7 9) with h | ⟨b, h1, h2, h3, h4⟩
              · exact absurd h hm.2
              · rw [h2]
                have h8 := hb.2.1
                unfold nB at h1
                exact lay_wf hw (by omega) (by rw [h3]; omega) (Or.inl rfl)
            · exact hw
theorem thinIf_wf {V : VS} (hw : WF V) : WF (thinIf V) := by
  unfold thinIf
  split
  · exact thin_wf hw
  · exact hw
theorem blowIf_wf {V : VS} (hw : WF V) : WF (blowIf V) := by
  unfold blowIf
  split
  · exact hw
  · exact blow_wf hw
theorem pass_wf {V : VS} (hw : WF V) {a : Int} (hm : mayV V a = true) : WF (passV V a) := hour_wf (marsh_wf (blowIf_wf (thinIf_wf (leak_wf (act_wf hw hm)))))
theorem sp_pass {d g : Nat} {h : AH} {a : Int} (hw : WF (h g)) (hm : mayV (h g) a = true) : CallR (d + 4) 75 [vR g 7, vI a] h none (fup h g (passV (h g) a)) := by
  have w1 := act_wf hw hm
  have w2 := leak_wf w1
  have w3 := thinIf_wf w2
  have w4 := blowIf_wf w3
  have w5 := marsh_wf w4
  have k1 : WF ((fup h g (actV (h g) a)) g) := by rw [fup_same]; exact w1
  have k2 : WF ((fup h g (leakV (actV (h g) a))) g) := by rw [fup_same]; exact w2
  have k3 : WF ((fup h g (thinIf (leakV (actV (h g) a)))) g) := by rw [fup_same]; exact w3
  have k4 : WF ((fup h g (blowIf (thinIf (leakV (actV (h g) a))))) g) := by rw [fup_same]; exact w4
  have hh := w5.hour
  have e1 : wr (marshV (blowIf (thinIf (leakV (actV (h g) a)))) 7 11 + 1) = marshV (blowIf (thinIf (leakV (actV (h g) a)))) 7 11 + 1 := wr_id (by omega) (by omega)
  have fin : ∀ Q : Option AV → AH → Prop, Q none (fup h g (passV (h g) a)) → At (CallR (d + 3)) ac_75 31 [vR g 7, vI a] [] (fup h g (blowIf (thinIf (leakV (actV (h g) a))))) Q := by
    intro Q hQ
    simp only [r75_31, r75_32, r75_35, r75_36, r75_36r, r75_37, r75_40, r75_41, r75_42, r75_45, r75_46, r75_49, r75_51, r75_54, r75_55, r75_56, r75_59, r75_60, r75_60r, r75_61, r75_64, r75_65, r75_66, r75_69, CallR_iff (sp_marsh k4), reduceIte, Option.some.injEq, and_assoc, exists_and_left, exists_eq_left, exists_eq_left', true_and, and_true, List.length_cons, List.length_nil, Nat.reduceAdd, Nat.reduceLeDiff, Sum.inl.injEq, az_0, az_1, az_2, az_3, az_4, az_5, az_6, az_8, az_11, az_14, az_15, az_17, az_20, az_21, az_22, az_23, az_24, az_25, az_26, az_28, az_29, az_30, az_31, az_32, az_33, az_34, az_35, az_36, ak_0, ak_1, ak_2, ak_3, ak_4, ak_5, ak_6, ak_8, ak_11, ak_14, ak_15, ak_17, ak_20, ak_21, ak_22, ak_23, ak_24, ak_25, ak_26, ak_28, ak_29, ak_30, ak_31, ak_32, ak_33, ak_34, ak_35, ak_36, ak_37, eq_self, Int.toNat_natCast, Nat.zero_le, bI_0, b01_0, bI_or, b01_or, ne_eq, reduceCtorEq, not_false_eq_true, Nat.reduceEqDiff, if_true, if_false, ite_true, ite_false, Int.natCast_nonneg, fup_same, fup_fup, up3, e1]
    unfold passV hourV at hQ
    by_cases hq : 23 < marshV (blowIf (thinIf (leakV (actV (h g) a)))) 7 11 + 1
    · rw [if_pos hq] at hQ ⊢
      simp only [r75_31, r75_32, r75_35, r75_36, r75_36r, r75_37, r75_40, r75_41, r75_42, r75_45, r75_46, r75_49, r75_51, r75_54, r75_55, r75_56, r75_59, r75_60, r75_60r, r75_61, r75_64, r75_65, r75_66, r75_69, reduceIte, Option.some.injEq, and_assoc, exists_and_left, exists_eq_left, exists_eq_left', true_and, and_true, List.length_cons, List.length_nil, Nat.reduceAdd, Nat.reduceLeDiff, Sum.inl.injEq, az_0, az_1, az_2, az_3, az_4, az_5, az_6, az_8, az_11, az_14, az_15, az_17, az_20, az_21, az_22, az_23, az_24, az_25, az_26, az_28, az_29, az_30, az_31, az_32, az_33, az_34, az_35, az_36, ak_0, ak_1, ak_2, ak_3, ak_4, ak_5, ak_6, ak_8, ak_11, ak_14, ak_15, ak_17, ak_20, ak_21, ak_22, ak_23, ak_24, ak_25, ak_26, ak_28, ak_29, ak_30, ak_31, ak_32, ak_33, ak_34, ak_35, ak_36, ak_37, eq_self, Int.toNat_natCast, Nat.zero_le, bI_0, b01_0, bI_or, b01_or, ne_eq, reduceCtorEq, not_false_eq_true, Nat.reduceEqDiff, if_true, if_false, ite_true, ite_false, Int.natCast_nonneg, fup_same, fup_fup, fup_ne, up3]
      exact hQ
    · rw [if_neg hq] at hQ ⊢
      exact hQ
  rw [cr_75]
  simp only [r75_0, r75_1, r75_2, r75_5, r75_6, r75_9, r75_10, r75_13, r75_16, r75_17, r75_20, r75_21, r75_24, r75_27, r75_28, CallR_iff (sp_perform hw hm), CallR_iff (sp_leakAll k1), CallR_iff sp_sunUp, reduceIte, Option.some.injEq, and_assoc, exists_and_left, exists_eq_left, exists_eq_left', true_and, and_true, List.length_cons, List.length_nil, Nat.reduceAdd, Nat.reduceLeDiff, Sum.inl.injEq, az_0, az_1, az_2, az_3, az_4, az_5, az_6, az_8, az_11, az_14, az_15, az_17, az_20, az_21, az_22, az_23, az_24, az_25, az_26, az_28, az_29, az_30, az_31, az_32, az_33, az_34, az_35, az_36, ak_0, ak_1, ak_2, ak_3, ak_4, ak_5, ak_6, ak_8, ak_11, ak_14, ak_15, ak_17, ak_20, ak_21, ak_22, ak_23, ak_24, ak_25, ak_26, ak_28, ak_29, ak_30, ak_31, ak_32, ak_33, ak_34, ak_35, ak_36, ak_37, eq_self, Int.toNat_natCast, Nat.zero_le, bI_0, b01_0, bI_or, b01_or, ne_eq, reduceCtorEq, not_false_eq_true, Nat.reduceEqDiff, if_true, if_false, ite_true, ite_false, Int.natCast_nonneg, fup_same, fup_fup]
  have t3 : ∀ Q : Option AV → AH → Prop, At (CallR (d + 3)) ac_75 31 [vR g 7, vI a] [] (fup h g (blowIf (thinIf (leakV (actV (h g) a))))) Q → At (CallR (d + 3)) ac_75 20 [vR g 7, vI a] [] (fup h g (thinIf (leakV (actV (h g) a)))) Q := by
    intro Q hQ
    simp only [r75_20, r75_21, r75_24, r75_27, r75_28, CallR_iff (sp_blow k3), reduceIte, Option.some.injEq, and_assoc, exists_and_left, exists_eq_left, exists_eq_left', true_and, and_true, List.length_cons, List.length_nil, Nat.reduceAdd, Nat.reduceLeDiff, Sum.inl.injEq, az_0, az_1, az_2, az_3, az_4, az_5, az_6, az_8, az_11, az_14, az_15, az_17, az_20, az_21, az_22, az_23, az_24, az_25, az_26, az_28, az_29, az_30, az_31, az_32, az_33, az_34, az_35, az_36, ak_0, ak_1, ak_2, ak_3, ak_4, ak_5, ak_6, ak_8, ak_11, ak_14, ak_15, ak_17, ak_20, ak_21, ak_22, ak_23, ak_24, ak_25, ak_26, ak_28, ak_29, ak_30, ak_31, ak_32, ak_33, ak_34, ak_35, ak_36, ak_37, eq_self, Int.toNat_natCast, Nat.zero_le, bI_0, b01_0, bI_or, b01_or, ne_eq, reduceCtorEq, not_false_eq_true, Nat.reduceEqDiff, if_true, if_false, ite_true, ite_false, Int.natCast_nonneg, fup_same, fup_fup]
    unfold blowIf at hQ
    by_cases hq : thinIf (leakV (actV (h g) a)) 7 13 = 0
    · rw [if_pos hq] at hQ ⊢; exact hQ
    · rw [if_neg hq] at hQ ⊢; exact hQ
  have t3' := t3 _ (fin (fun v' h2 => v' = none ∧ h2 = fup h g (passV (h g) a)) ⟨rfl, rfl⟩)
  unfold thinIf at t3'
  cases hu : upV (leakV (actV (h g) a))
  · rw [hu] at t3'
    simp only [Bool.false_eq_true, if_false] at t3'
    simp only [r75_20, r75_21, r75_24, r75_27, r75_28, reduceIte, Option.some.injEq, and_assoc, exists_and_left, exists_eq_left, exists_eq_left', true_and, and_true, List.length_cons, List.length_nil, Nat.reduceAdd, Nat.reduceLeDiff, Sum.inl.injEq, az_0, az_1, az_2, az_3, az_4, az_5, az_6, az_8, az_11, az_14, az_15, az_17, az_20, az_21, az_22, az_23, az_24, az_25, az_26, az_28, az_29, az_30, az_31, az_32, az_33, az_34, az_35, az_36, ak_0, ak_1, ak_2, ak_3, ak_4, ak_5, ak_6, ak_8, ak_11, ak_14, ak_15, ak_17, ak_20, ak_21, ak_22, ak_23, ak_24, ak_25, ak_26, ak_28, ak_29, ak_30, ak_31, ak_32, ak_33, ak_34, ak_35, ak_36, ak_37, eq_self, Int.toNat_natCast, Nat.zero_le, bI_0, b01_0, bI_or, b01_or, ne_eq, reduceCtorEq, not_false_eq_true, Nat.reduceEqDiff, if_true, if_false, ite_true, ite_false, Int.natCast_nonneg, fup_same, fup_fup] at t3' ⊢
    simpa using t3'
  · rw [hu] at t3'
    simp only [if_true] at t3'
    simp only [CallR_iff (sp_thin k2), reduceIte, Option.some.injEq, and_assoc, exists_and_left, exists_eq_left, exists_eq_left', true_and, and_true, List.length_cons, List.length_nil, Nat.reduceAdd, Nat.reduceLeDiff, Sum.inl.injEq, az_0, az_1, az_2, az_3, az_4, az_5, az_6, az_8, az_11, az_14, az_15, az_17, az_20, az_21, az_22, az_23, az_24, az_25, az_26, az_28, az_29, az_30, az_31, az_32, az_33, az_34, az_35, az_36, ak_0, ak_1, ak_2, ak_3, ak_4, ak_5, ak_6, ak_8, ak_11, ak_14, ak_15, ak_17, ak_20, ak_21, ak_22, ak_23, ak_24, ak_25, ak_26, ak_28, ak_29, ak_30, ak_31, ak_32, ak_33, ak_34, ak_35, ak_36, ak_37, eq_self, Int.toNat_natCast, Nat.zero_le, bI_0, b01_0, bI_or, b01_or, ne_eq, reduceCtorEq, not_false_eq_true, Nat.reduceEqDiff, if_true, if_false, ite_true, ite_false, Int.natCast_nonneg, fup_same, fup_fup, Bool.true_eq_false, r75_20, r75_21, r75_24, r75_27, r75_28] at t3' ⊢
    simpa using t3'
