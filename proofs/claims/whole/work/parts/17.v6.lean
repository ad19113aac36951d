/-! PURE: sun, wind, marshes, the hour -/
theorem hpB_r {V V' : VS} (h7 : V' 7 7 = V 7 7) (p : Int) : hpB V' p = hpB V p := by unfold hpB; rw [h7]
theorem sunT_r {V V' : VS} (h0 : V' 0 = V 0) (h1 : V' 1 = V 1) (p : Nat) : sunT V' p = sunT V p := by unfold sunT; rw [h0, h1]
theorem WF.rows {V V' : VS} (h : WF V) (h0 : V' 0 = V 0) (h1 : V' 1 = V 1) (h2 : ∀ p : Nat, p < 8 → 0 ≤ V' 2 p ∧ V' 2 p ≤ 99) (h2' : ∀ p : Nat, 8 ≤ p → V' 2 p = 0) (h4 : V' 4 = V 4) (h5 : V' 5 = V 5) (h6 : V' 6 = V 6) (h7 : V' 7 = V 7) : WF V' := by
  obtain ⟨a1, a2, a3, a4, a5, a6, a7, a8, a9, a10, a11, a12, a13, a14⟩ := h
  unfold WF BD
  rw [h0, h1, h4, h5, h6, h7]
  exact ⟨a1, a2, a3, a4, a5, a6, a7, fun p hp => ⟨(a8 p hp).1, (a8 p hp).2.1, (a8 p hp).2.2.1, (a8 p hp).2.2.2.1, (h2 p hp).1, (h2 p hp).2⟩, a9, a10, a11, fun k hk => ⟨(a12 k hk).1, (a12 k hk).2.1, h2' k hk⟩, a13, a14⟩
theorem WF.z2 {V : VS} (h : WF V) : ∀ p : Nat, 8 ≤ p → V 2 p = 0 := fun p hp => (h.2.2.2.2.2.2.2.2.2.2.2.1 p hp).2.2
theorem sunT_bd {V : VS} (hw : WF V) {p : Nat} (hp : p < 8) : 0 ≤ sunT V p ∧ sunT V p ≤ 19 := by
  have := hw.pl p hp
  unfold sunT
  (repeat' split) <;> omega
theorem windT_bd {V : VS} (hw : WF V) {p : Nat} (hp : p < 8) : 0 ≤ windT V p ∧ windT V p ≤ 24 ∧ windT V p ≤ V 2 p := by
  have := hw.pl p hp
  unfold windT
  split <;> omega
def thV (V : VS) (i : Nat) : VS := fup V 2 (rowN (fun p => amax 0 (V 2 p - sunT V p)) (V 2) i)
theorem th_2 (V : VS) (i : Nat) : thV V i 2 = rowN (fun p => amax 0 (V 2 p - sunT V p)) (V 2) i := rfl
theorem th_wf {V : VS} (hw : WF V) (i : Nat) (hi : i ≤ 8) : WF (thV V i) := by
  refine hw.rows rfl rfl (fun p hp => ?_) (fun p hp => ?_) rfl rfl rfl rfl
  · have h1 := hw.pl p hp
    have h2 := sunT_bd hw hp
    rw [th_2]
    unfold rowN
    split
    · unfold amax; dsimp only; split <;> omega
    · omega
  · rw [th_2]
    unfold rowN
    rw [if_neg (by omega)]
    exact hw.z2 p hp
theorem lp_thin {d g : Nat} {h : AH} {Q : Option AV → AH → Prop} (hw : WF (h g)) : ∀ (k i : Nat), ((i + k : Nat) : Int) = h g 7 7 → (At (CallR (d + 2)) ac_78 2 [vR g 7, vI i] [] (fup h g (thV (h g) i)) Q ↔ Q none (fup h g (thV (h g) (i + k))))
  | 0, i, e => by
    have h1 : ¬ (i : Int) < h g 7 7 := by omega
    rw [r78_2]
    simp only [r78_3, r78_4, r78_7, r78_10, r78_11, r78_13, r78_16, r78_17, r78_20, r78_21, r78_22, r78_23, r78_26, r78_27, r78_28, r78_29, r78_30, r78_33, r78_34, r78_37, r78_38, r78_41, r78_44, reduceIte, Option.some.injEq, and_assoc, exists_and_left, exists_eq_left, exists_eq_left', true_and, and_true, List.length_cons, List.length_nil, Nat.reduceAdd, Nat.reduceLeDiff, Sum.inl.injEq, az_0, az_1, az_2, az_3, az_4, az_5, az_6, az_8, az_11, az_14, az_15, az_17, az_20, az_21, az_22, az_23, az_24, az_25, az_26, az_28, az_29, az_30, az_31, az_32, az_33, az_34, az_35, az_36, ak_0, ak_1, ak_2, ak_3, ak_4, ak_5, ak_6, ak_8, ak_11, ak_14, ak_15, ak_17, ak_20, ak_21, ak_22, ak_23, ak_24, ak_25, ak_26, ak_28, ak_29, ak_30, ak_31, ak_32, ak_33, ak_34, ak_35, ak_36, ak_37, eq_self, Int.toNat_natCast, Nat.zero_le, bI_0, b01_0, bI_or, b01_or, ne_eq, reduceCtorEq, not_false_eq_true, Nat.reduceEqDiff, if_true, if_false, ite_true, ite_false, Int.natCast_nonneg, fup_same, h1, show thV (h g) i 7 = h g 7 from rfl]
    exact Iff.rfl
  | k + 1, i, e => by
    have h4 := hw.bd.2.1
    have h1 : (i : Int) < h g 7 7 := by omega
    have h2 : (i : Int) < 8 := by omega
    have hwt := th_wf hw i (by omega)
    have hwt2 : WF ((fup h g (thV (h g) i)) g) := by rw [fup_same]; exact hwt
    have hp := hw.pl i (by omega)
    have hs := sunT_bd hw (p := i) (by omega)
    have ih := lp_thin (d := d) (Q := Q) hw k (i + 1) (by omega)
    have e1 : wr (h g 2 i - sunT (h g) i) = h g 2 i - sunT (h g) i := wr_id (by omega) (by omega)
    have e2 : sunT (thV (h g) i) i = sunT (h g) i := sunT_r rfl rfl i
    have e3 : hpB (thV (h g) i) (i : Int) = true := by rw [hpB_r (V := h g) (V' := thV (h g) i) rfl]; exact hpB_iff.mpr ⟨by omega, h1, h2⟩
    have e4 : thV (h g) i 2 i = h g 2 i := by rw [th_2, rowN_at]
    have e5 : fup (thV (h g) i) 2 (fup (thV (h g) i 2) i (amax 0 (h g 2 i - sunT (h g) i))) = thV (h g) (i + 1) := by
      rw [th_2]
      unfold thV
      rw [fup_fup, rowN_s (fun p => amax 0 (h g 2 p - sunT (h g) p))]
    rw [show i + 1 + k = i + (k + 1) by omega] at ih
    rw [← ih, r78_2]
    simp only [r78_3, r78_4, r78_7, r78_10, r78_11, r78_13, r78_16, r78_17, r78_20, r78_21, r78_22, r78_23, r78_26, r78_27, r78_28, r78_29, r78_30, r78_33, r78_34, r78_37, r78_38, r78_41, r78_44, CallR_iff (sp_sunTakes hwt2), reduceIte, Option.some.injEq, and_assoc, exists_and_left, exists_eq_left, exists_eq_left', true_and, and_true, List.length_cons, List.length_nil, Nat.reduceAdd, Nat.reduceLeDiff, Sum.inl.injEq, az_0, az_1, az_2, az_3, az_4, az_5, az_6, az_8, az_11, az_14, az_15, az_17, az_20, az_21, az_22, az_23, az_24, az_25, az_26, az_28, az_29, az_30, az_31, az_32, az_33, az_34, az_35, az_36, ak_0, ak_1, ak_2, ak_3, ak_4, ak_5, ak_6, ak_8, ak_11, ak_14, ak_15, ak_17, ak_20, ak_21, ak_22, ak_23, ak_24, ak_25, ak_26, ak_28, ak_29, ak_30, ak_31, ak_32, ak_33, ak_34, ak_35, ak_36, ak_37, eq_self, Int.toNat_natCast, Nat.zero_le, bI_0, b01_0, bI_or, b01_or, ne_eq, reduceCtorEq, not_false_eq_true, Nat.reduceEqDiff, if_true, if_false, ite_true, ite_false, Int.natCast_nonneg, fup_same, fup_fup, up3, h1, h2, wr_s (show i < 2147483647 by omega), show thV (h g) i 7 = h g 7 from rfl, e1, e2, e3, e4, e5]
theorem sp_thin {d g : Nat} {h : AH} (hw : WF (h g)) : CallR (d + 3) 78 [vR g 7] h none (fup h g (thinV (h g))) := by
  have h0 := hw.bd.1
  have L := lp_thin (d := d) (g := g) (h := h) (Q := fun v' h2 => v' = none ∧ h2 = fup h g (thinV (h g))) hw (nP (h g)) 0 (by unfold nP; omega)
  have e0 : thV (h g) 0 = h g := by unfold thV; rw [rowN_0, fup_id]
  rw [e0, fup_id] at L
  rw [cr_78]
  simp only [r78_0, r78_1]
  exact L.mpr ⟨rfl, by rw [Nat.zero_add]; rfl⟩
def mrV (V : VS) (i : Nat) : VS := fup V 2 (rowN (fun p => if V 0 p = 5 then amin 99 (V 2 p + V 1 p) else V 2 p) (V 2) i)
theorem mr_2 (V : VS) (i : Nat) : mrV V i 2 = rowN (fun p => if V 0 p = 5 then amin 99 (V 2 p + V 1 p) else V 2 p) (V 2) i := rfl
theorem lp_marsh {d g : Nat} {h : AH} {Q : Option AV → AH → Prop} (hw : WF (h g)) : ∀ (k i : Nat), ((i + k : Nat) : Int) = h g 7 7 → (At (CallR d) ac_80 2 [vR g 7, vI i] [] (fup h g (mrV (h g) i)) Q ↔ Q none (fup h g (mrV (h g) (i + k))))
  | 0, i, e => by
    have h1 : ¬ (i : Int) < h g 7 7 := by omega
    rw [r80_2]
    simp only [r80_3, r80_4, r80_7, r80_10, r80_11, r80_13, r80_16, r80_17, r80_20, r80_21, r80_22, r80_23, r80_26, r80_27, r80_30, r80_31, r80_33, r80_34, r80_37, r80_38, r80_39, r80_40, r80_43, r80_44, r80_45, r80_46, r80_49, r80_50, r80_53, r80_56, reduceIte, Option.some.injEq, and_assoc, exists_and_left, exists_eq_left, exists_eq_left', true_and, and_true, List.length_cons, List.length_nil, Nat.reduceAdd, Nat.reduceLeDiff, Sum.inl.injEq, az_0, az_1, az_2, az_3, az_4, az_5, az_6, az_8, az_11, az_14, az_15, az_17, az_20, az_21, az_22, az_23, az_24, az_25, az_26, az_28, az_29, az_30, az_31, az_32, az_33, az_34, az_35, az_36, ak_0, ak_1, ak_2, ak_3, ak_4, ak_5, ak_6, ak_8, ak_11, ak_14, ak_15, ak_17, ak_20, ak_21, ak_22, ak_23, ak_24, ak_25, ak_26, ak_28, ak_29, ak_30, ak_31, ak_32, ak_33, ak_34, ak_35, ak_36, ak_37, eq_self, Int.toNat_natCast, Nat.zero_le, bI_0, b01_0, bI_or, b01_or, ne_eq, reduceCtorEq, not_false_eq_true, Nat.reduceEqDiff, if_true, if_false, ite_true, ite_false, Int.natCast_nonneg, fup_same, h1, show mrV (h g) i 7 = h g 7 from rfl]
    exact Iff.rfl
  | k + 1, i, e => by
    have h4 := hw.bd.2.1
    have h1 : (i : Int) < h g 7 7 := by omega
    have h2 : (i : Int) < 8 := by omega
    have hp := hw.pl i (by omega)
    have ih := lp_marsh (d := d) (Q := Q) hw k (i + 1) (by omega)
    have e1 : wr (h g 2 i + h g 1 i) = h g 2 i + h g 1 i := wr_id (by omega) (by omega)
    have e4 : mrV (h g) i 2 i = h g 2 i := by rw [mr_2, rowN_at]
    rw [show i + 1 + k = i + (k + 1) by omega] at ih
    rw [← ih, r80_2]
    simp only [r80_3, r80_4, r80_7, r80_10, r80_11, r80_13, r80_16, r80_17, r80_20, r80_21, r80_22, r80_23, r80_26, r80_27, r80_30, r80_31, r80_33, r80_34, r80_37, r80_38, r80_39, r80_40, r80_43, r80_44, r80_45, r80_46, r80_49, r80_50, r80_53, r80_56, reduceIte, Option.some.injEq, and_assoc, exists_and_left, exists_eq_left, exists_eq_left', true_and, and_true, List.length_cons, List.length_nil, Nat.reduceAdd, Nat.reduceLeDiff, Sum.inl.injEq, az_0, az_1, az_2, az_3, az_4, az_5, az_6, az_8, az_11, az_14, az_15, az_17, az_20, az_21, az_22, az_23, az_24, az_25, az_26, az_28, az_29, az_30, az_31, az_32, az_33, az_34, az_35, az_36, ak_0, ak_1, ak_2, ak_3, ak_4, ak_5, ak_6, ak_8, ak_11, ak_14, ak_15, ak_17, ak_20, ak_21, ak_22, ak_23, ak_24, ak_25, ak_26, ak_28, ak_29, ak_30, ak_31, ak_32, ak_33, ak_34, ak_35, ak_36, ak_37, eq_self, Int.toNat_natCast, Nat.zero_le, bI_0, b01_0, bI_or, b01_or, ne_eq, reduceCtorEq, not_false_eq_true, Nat.reduceEqDiff, if_true, if_false, ite_true, ite_false, Int.natCast_nonneg, fup_same, fup_fup, up3, h1, h2, wr_s (show i < 2147483647 by omega), show mrV (h g) i 7 = h g 7 from rfl, show mrV (h g) i 0 = h g 0 from rfl, show mrV (h g) i 1 = h g 1 from rfl, e1, e4]
    by_cases hq : h g 0 i = 5
    · have e5 : fup (mrV (h g) i) 2 (fup (mrV (h g) i 2) i (amin 99 (h g 2 i + h g 1 i))) = mrV (h g) (i + 1) := by
        rw [mr_2]
        unfold mrV
        rw [fup_fup, ← rowN_s]
        simp only [hq, if_true]
      rw [if_pos hq, e5]
    · have e5 : mrV (h g) (i + 1) = mrV (h g) i := by
        unfold mrV
        rw [rowN_k _ _ _ (by simp only [hq, if_false])]
      rw [if_neg hq, e5]
theorem sp_marsh {d g : Nat} {h : AH} (hw : WF (h g)) : CallR (d + 1) 80 [vR g 7] h none (fup h g (marshV (h g))) := by
  have h0 := hw.bd.1
  have L := lp_marsh (d := d) (g := g) (h := h) (Q := fun v' h2 => v' = none ∧ h2 = fup h g (marshV (h g))) hw (nP (h g)) 0 (by unfold nP; omega)
  have e0 : mrV (h g) 0 = h g := by unfold mrV; rw [rowN_0, fup_id]
  rw [e0, fup_id] at L
  rw [cr_80]
  simp only [r80_0, r80_1]
  exact L.mpr ⟨rfl, by rw [Nat.zero_add]; rfl⟩
/-- the wind: first what goes, then what stands -/
theorem windT_r {V V' : VS} (h0 : V' 0 = V 0) (h2 : V' 2 = V 2) (p : Nat) : windT V' p = windT V p := by unfold windT; rw [h0, h2]
def w1V (V : VS) (i : Nat) : VS := fup V 3 (rowN (windT V) (V 3) i)
def w2V (V : VS) (i : Nat) : VS := fup (w1V V (nP V)) 2 (rowN (fun p => amin 99 (V 2 p - windT V p + comesV V p)) (V 2) i)
theorem w2_2 (V : VS) (i : Nat) : w2V V i 2 = rowN (fun p => amin 99 (V 2 p - windT V p + comesV V p)) (V 2) i := rfl
theorem w1_2 (V : VS) (i : Nat) : w1V V i 3 = rowN (windT V) (V 3) i := rfl
theorem w1_wf {V : VS} (hw : WF V) (i : Nat) : WF (w1V V i) := hw.rows rfl rfl (fun p hp => ⟨(hw.pl p hp).2.2.2.2.1, (hw.pl p hp).2.2.2.2.2⟩) hw.z2 rfl rfl rfl rfl
theorem lp_w2 {d g : Nat} {h : AH} {Q : Option AV → AH → Prop} (hw : WF (h g)) : ∀ (k i : Nat) (a2 a3 : AV), ((i + k : Nat) : Int) = h g 7 7 → (At (CallR (d + 2)) ac_79 35 [vR g 7, vI i, a2, a3] [] (fup h g (w2V (h g) i)) Q ↔ Q none (fup h g (w2V (h g) (i + k))))
  | 0, i, a2, a3, e => by
    have h1 : ¬ (i : Int) < h g 7 7 := by omega
    rw [r79_35]
    simp only [r79_36, r79_37, r79_40, r79_43, r79_44, r79_46, r79_49, r79_50, r79_51, r79_54, r79_55, r79_56, r79_57, r79_58, r79_61, r79_64, r79_65, r79_68, r79_69, r79_70, r79_73, r79_74, r79_75, r79_76, r79_79, r79_80, r79_82, r79_83, r79_86, r79_87, r79_88, r79_89, r79_92, r79_93, r79_94, r79_95, r79_96, r79_97, r79_100, r79_101, r79_104, r79_107, reduceIte, Option.some.injEq, and_assoc, exists_and_left, exists_eq_left, exists_eq_left', true_and, and_true, List.length_cons, List.length_nil, Nat.reduceAdd, Nat.reduceLeDiff, Sum.inl.injEq, az_0, az_1, az_2, az_3, az_4, az_5, az_6, az_8, az_11, az_14, az_15, az_17, az_20, az_21, az_22, az_23, az_24, az_25, az_26, az_28, az_29, az_30, az_31, az_32, az_33, az_34, az_35, az_36, ak_0, ak_1, ak_2, ak_3, ak_4, ak_5, ak_6, ak_8, ak_11, ak_14, ak_15, ak_17, ak_20, ak_21, ak_22, ak_23, ak_24, ak_25, ak_26, ak_28, ak_29, ak_30, ak_31, ak_32, ak_33, ak_34, ak_35, ak_36, ak_37, eq_self, Int.toNat_natCast, Nat.zero_le, bI_0, b01_0, bI_or, b01_or, ne_eq, reduceCtorEq, not_false_eq_true, Nat.reduceEqDiff, if_true, if_false, ite_true, ite_false, Int.natCast_nonneg, fup_same, h1, show w2V (h g) i 7 = h g 7 from rfl]
    exact Iff.rfl
  | k + 1, i, a2', a3', e => by
    have h4 := hw.bd.2.1
    have h1 : (i : Int) < h g 7 7 := by omega
    have h2 : (i : Int) < 8 := by omega
    have hp := hw.pl i (by omega)
    have hwd := hw.wind
    have hs := windT_bd hw (p := i) (by omega)
    have ih := lp_w2 (d := d) (Q := Q) hw k (i + 1)
    have e0 : wr ((i : Int) - h g 7 13) = (i : Int) - h g 7 13 := wr_id (by omega) (by omega)
    have e1 : wr (h g 2 i - windT (h g) i) = h g 2 i - windT (h g) i := wr_id (by omega) (by omega)
    have b3 : w2V (h g) i 3 = rowN (windT (h g)) (h g 3) (nP (h g)) := rfl
    have b3i : rowN (windT (h g)) (h g 3) (nP (h g)) i = windT (h g) i := by unfold rowN nP; rw [if_pos (by omega)]
    have e4 : w2V (h g) i 2 i = h g 2 i := by rw [w2_2, rowN_at]
    have hc : 0 ≤ comesV (h g) i ∧ comesV (h g) i ≤ 24 := by
      unfold comesV
      split
      · next hq =>
        have h5 := hpB_iff.mp hq
        have := windT_bd hw (p := ((i : Int) - h g 7 13).toNat) (by omega)
        omega
      · omega
    have e2 : wr (h g 2 i - windT (h g) i + comesV (h g) i) = h g 2 i - windT (h g) i + comesV (h g) i := wr_id (by omega) (by omega)
    have e5 : fup (w2V (h g) i) 2 (fup (w2V (h g) i 2) i (amin 99 (h g 2 i - windT (h g) i + comesV (h g) i))) = w2V (h g) (i + 1) := by
      rw [w2_2]
      unfold w2V
      rw [fup_fup, rowN_s (fun p => amin 99 (h g 2 p - windT (h g) p + comesV (h g) p))]
    rw [show i + (k + 1) = i + 1 + k by omega]
    rw [r79_35]
    simp only [r79_36, r79_37, r79_40, r79_43, r79_44, r79_46, r79_49, r79_50, r79_51, r79_54, r79_55, r79_56, r79_57, r79_58, r79_61, r79_64, r79_65, r79_68, r79_69, r79_70, r79_73, r79_74, r79_75, r79_76, r79_79, r79_80, r79_82, r79_83, r79_86, r79_87, r79_88, r79_89, r79_92, r79_93, r79_94, r79_95, r79_96, r79_97, r79_100, r79_101, r79_104, r79_107, CallR_iff sp_hasPlace, reduceIte, Option.some.injEq, and_assoc, exists_and_left, exists_eq_left, exists_eq_left', true_and, and_true, List.length_cons, List.length_nil, Nat.reduceAdd, Nat.reduceLeDiff, Sum.inl.injEq, az_0, az_1, az_2, az_3, az_4, az_5, az_6, az_8, az_11, az_14, az_15, az_17, az_20, az_21, az_22, az_23, az_24, az_25, az_26, az_28, az_29, az_30, az_31, az_32, az_33, az_34, az_35, az_36, ak_0, ak_1, ak_2, ak_3, ak_4, ak_5, ak_6, ak_8, ak_11, ak_14, ak_15, ak_17, ak_20, ak_21, ak_22, ak_23, ak_24, ak_25, ak_26, ak_28, ak_29, ak_30, ak_31, ak_32, ak_33, ak_34, ak_35, ak_36, ak_37, eq_self, Int.toNat_natCast, Nat.zero_le, bI_0, b01_0, bI_or, b01_or, ne_eq, reduceCtorEq, not_false_eq_true, Nat.reduceEqDiff, if_true, if_false, ite_true, ite_false, Int.natCast_nonneg, fup_same, fup_fup, up3, h1, h2, wr_s (show i < 2147483647 by omega), show w2V (h g) i 7 = h g 7 from rfl, e0, hpB_r (V := h g) (V' := w2V (h g) i) rfl]
    cases hq : hpB (h g) ((i : Int) - h g 7 13)
    · have hc0 : comesV (h g) i = 0 := by unfold comesV; rw [hq]; rfl
      rw [hc0] at e2 e5
      simp only [if_true, b3, b3i, e4, e1, e2, e5]
      exact ih _ _ (by omega)
    · have h5 := hpB_iff.mp hq
      have hc0 : rowN (windT (h g)) (h g 3) (nP (h g)) ((i : Int) - h g 7 13).toNat = comesV (h g) i := by
        unfold comesV rowN nP
        rw [hq, if_pos (by omega)]
        rfl
      have h6 : (0 ≤ (i : Int) - h g 7 13 ∧ (i : Int) - h g 7 13 < 8) := by omega
      simp only [if_false, Bool.true_eq_false, b3, b3i, e4, hc0, h6, e1, e2, e5, true_and, and_self]
      exact ih _ _ (by omega)
theorem lp_w1 {d g : Nat} {h : AH} {Q : Option AV → AH → Prop} (hw : WF (h g)) : ∀ (k i : Nat), ((i + k : Nat) : Int) = h g 7 7 → (At (CallR (d + 2)) ac_79 2 [vR g 7, vI i, vU, vU] [] (fup h g (w1V (h g) i)) Q ↔ Q none (fup h g (w2V (h g) (nP (h g)))))
  | 0, i, e => by
    have h1 : ¬ (i : Int) < h g 7 7 := by omega
    have hi : i = nP (h g) := by unfold nP; omega
    have L := lp_w2 (d := d) (Q := Q) hw (nP (h g)) 0 vU vU (by unfold nP; have := hw.bd.1; omega)
    have e0 : w2V (h g) 0 = w1V (h g) (nP (h g)) := by
      show fup (w1V (h g) (nP (h g))) 2 (rowN _ (w1V (h g) (nP (h g)) 2) 0) = _
      rw [rowN_0, fup_id]
    rw [e0, Nat.zero_add] at L
    subst hi
    rw [r79_2]
    simp only [r79_3, r79_4, r79_7, r79_10, r79_11, r79_13, r79_16, r79_17, r79_20, r79_21, r79_22, r79_23, r79_26, r79_27, r79_30, r79_33, r79_34, reduceIte, Option.some.injEq, and_assoc, exists_and_left, exists_eq_left, exists_eq_left', true_and, and_true, List.length_cons, List.length_nil, Nat.reduceAdd, Nat.reduceLeDiff, Sum.inl.injEq, az_0, az_1, az_2, az_3, az_4, az_5, az_6, az_8, az_11, az_14, az_15, az_17, az_20, az_21, az_22, az_23, az_24, az_25, az_26, az_28, az_29, az_30, az_31, az_32, az_33, az_34, az_35, az_36, ak_0, ak_1, ak_2, ak_3, ak_4, ak_5, ak_6, ak_8, ak_11, ak_14, ak_15, ak_17, ak_20, ak_21, ak_22, ak_23, ak_24, ak_25, ak_26, ak_28, ak_29, ak_30, ak_31, ak_32, ak_33, ak_34, ak_35, ak_36, ak_37, eq_self, Int.toNat_natCast, Nat.zero_le, bI_0, b01_0, bI_or, b01_or, ne_eq, reduceCtorEq, not_false_eq_true, Nat.reduceEqDiff, if_true, if_false, ite_true, ite_false, Int.natCast_nonneg, fup_same, h1, show w1V (h g) (nP (h g)) 7 = h g 7 from rfl]
    exact L
  | k + 1, i, e => by
    have h4 := hw.bd.2.1
    have h1 : (i : Int) < h g 7 7 := by omega
    have h2 : (i : Int) < 8 := by omega
    have hwt2 : WF ((fup h g (w1V (h g) i)) g) := by rw [fup_same]; exact w1_wf hw i
    have ih := lp_w1 (d := d) (Q := Q) hw k (i + 1) (by omega)
    have e2 : windT (w1V (h g) i) i = windT (h g) i := windT_r rfl rfl i
    have e3 : hpB (w1V (h g) i) (i : Int) = true := by rw [hpB_r (V := h g) (V' := w1V (h g) i) rfl]; exact hpB_iff.mpr ⟨by omega, h1, h2⟩
    have e5 : fup (w1V (h g) i) 3 (fup (w1V (h g) i 3) i (windT (h g) i)) = w1V (h g) (i + 1) := by
      rw [w1_2]
      unfold w1V
      rw [fup_fup, rowN_s (windT (h g))]
    rw [← ih, r79_2]
    simp only [r79_3, r79_4, r79_7, r79_10, r79_11, r79_13, r79_16, r79_17, r79_20, r79_21, r79_22, r79_23, r79_26, r79_27, r79_30, r79_33, r79_34, CallR_iff (sp_windTakes hwt2), reduceIte, Option.some.injEq, and_assoc, exists_and_left, exists_eq_left, exists_eq_left', true_and, and_true, List.length_cons, List.length_nil, Nat.reduceAdd, Nat.reduceLeDiff, Sum.inl.injEq, az_0, az_1, az_2, az_3, az_4, az_5, az_6, az_8, az_11, az_14, az_15, az_17, az_20, az_21, az_22, az_23, az_24, az_25, az_26, az_28, az_29, az_30, az_31, az_32, az_33, az_34, az_35, az_36, ak_0, ak_1, ak_2, ak_3, ak_4, ak_5, ak_6, ak_8, ak_11, ak_14, ak_15, ak_17, ak_20, ak_21, ak_22, ak_23, ak_24, ak_25, ak_26, ak_28, ak_29, ak_30, ak_31, ak_32, ak_33, ak_34, ak_35, ak_36, ak_37, eq_self, Int.toNat_natCast, Nat.zero_le, bI_0, b01_0, bI_or, b01_or, ne_eq, reduceCtorEq, not_false_eq_true, Nat.reduceEqDiff, if_true, if_false, ite_true, ite_false, Int.natCast_nonneg, fup_same, fup_fup, up3, h1, h2, wr_s (show i < 2147483647 by omega), show w1V (h g) i 7 = h g 7 from rfl, e2, e3, e5]
theorem sp_blow {d g : Nat} {h : AH} (hw : WF (h g)) : CallR (d + 3) 79 [vR g 7] h none (fup h g (blowV (h g))) := by
  have h0 := hw.bd.1
  have L := lp_w1 (d := d) (g := g) (h := h) (Q := fun v' h2 => v' = none ∧ h2 = fup h g (blowV (h g))) hw (nP (h g)) 0 (by unfold nP; omega)
  have e0 : w1V (h g) 0 = h g := by unfold w1V; rw [rowN_0, fup_id]
  rw [e0, fup_id] at L
  rw [cr_79]
  simp only [r79_0, r79_1]
  exact L.mpr ⟨rfl, rfl⟩
