/-! PURE: the valley's reads -/
def kindV (V : VS) (p : Int) : Int := if hpB V p then V 0 p.toNat else -1
def traitV (V : VS) (p : Int) : Int := if hpB V p then V 1 p.toNat else 0
def fogV (V : VS) (p : Int) : Int := if hpB V p then V 2 p.toNat else 0
def setFogV (V : VS) (p f : Int) : VS := if hpB V p then fup V 2 (fup (V 2) p.toNat f) else V
theorem sp_hasPlace {d g : Nat} {h : AH} {p : Int} : CallR (d + 1) 41 [vR g 7, vI p] h (some (vI (b01 (hpB (h g) p)))) h := by
  rw [cr_41]
  simp only [r41_0, r41_1, r41_4, r41_5, r41_6, r41_9, r41_12, r41_13, r41_15, r41_18, r41_19, r41_22, r41_23]
  (repeat' split) <;> simp [b01, hpB] <;> omega
theorem sp_kindAt {d g : Nat} {h : AH} {p : Int} : CallR (d + 2) 44 [vR g 7, vI p] h (some (vI (kindV (h g) p))) h := by
  rw [cr_44]
  simp only [r44_0, r44_1, r44_2, r44_5, r44_8, r44_9, r44_12, r44_13, r44_14, r44_17, r44_18, CallR_iff sp_hasPlace, reduceIte, Option.some.injEq, and_assoc, exists_and_left, exists_eq_left, exists_eq_left', true_and, and_true, List.length_cons, List.length_nil, Nat.reduceAdd, Nat.reduceLeDiff, Sum.inl.injEq, az_0, az_1, az_2, az_3, az_4, az_5, az_6, az_8, az_11, az_14, az_15, az_17, az_20, az_21, az_22, az_23, az_24, az_25, az_26, az_28, az_29, az_30, az_31, az_32, az_33, az_34, az_35, az_36, ak_0, ak_1, ak_2, ak_3, ak_4, ak_5, ak_6, ak_8, ak_11, ak_14, ak_15, ak_17, ak_20, ak_21, ak_22, ak_23, ak_24, ak_25, ak_26, ak_28, ak_29, ak_30, ak_31, ak_32, ak_33, ak_34, ak_35, ak_36, ak_37, eq_self, Int.toNat_natCast, Nat.zero_le, bI_0, b01_0, bI_or, b01_or, ne_eq, reduceCtorEq, not_false_eq_true, Nat.reduceEqDiff, if_true, if_false, ite_true, ite_false, Int.natCast_nonneg]
  unfold kindV
  cases hq : hpB (h g) p
  · simp
  · have := hpB_iff.mp hq
    simp; omega
theorem sp_traitAt {d g : Nat} {h : AH} {p : Int} : CallR (d + 2) 45 [vR g 7, vI p] h (some (vI (traitV (h g) p))) h := by
  rw [cr_45]
  simp only [r45_0, r45_1, r45_2, r45_5, r45_8, r45_9, r45_12, r45_13, r45_14, r45_17, r45_18, CallR_iff sp_hasPlace, reduceIte, Option.some.injEq, and_assoc, exists_and_left, exists_eq_left, exists_eq_left', true_and, and_true, List.length_cons, List.length_nil, Nat.reduceAdd, Nat.reduceLeDiff, Sum.inl.injEq, az_0, az_1, az_2, az_3, az_4, az_5, az_6, az_8, az_11, az_14, az_15, az_17, az_20, az_21, az_22, az_23, az_24, az_25, az_26, az_28, az_29, az_30, az_31, az_32, az_33, az_34, az_35, az_36, ak_0, ak_1, ak_2, ak_3, ak_4, ak_5, ak_6, ak_8, ak_11, ak_14, ak_15, ak_17, ak_20, ak_21, ak_22, ak_23, ak_24, ak_25, ak_26, ak_28, ak_29, ak_30, ak_31, ak_32, ak_33, ak_34, ak_35, ak_36, ak_37, eq_self, Int.toNat_natCast, Nat.zero_le, bI_0, b01_0, bI_or, b01_or, ne_eq, reduceCtorEq, not_false_eq_true, Nat.reduceEqDiff, if_true, if_false, ite_true, ite_false, Int.natCast_nonneg]
  unfold traitV
  cases hq : hpB (h g) p
  · simp
  · have := hpB_iff.mp hq
    simp; omega
theorem sp_fogAt {d g : Nat} {h : AH} {p : Int} : CallR (d + 2) 46 [vR g 7, vI p] h (some (vI (fogV (h g) p))) h := by
  rw [cr_46]
  simp only [r46_0, r46_1, r46_2, r46_5, r46_8, r46_9, r46_12, r46_13, r46_14, r46_17, r46_18, CallR_iff sp_hasPlace, reduceIte, Option.some.injEq, and_assoc, exists_and_left, exists_eq_left, exists_eq_left', true_and, and_true, List.length_cons, List.length_nil, Nat.reduceAdd, Nat.reduceLeDiff, Sum.inl.injEq, az_0, az_1, az_2, az_3, az_4, az_5, az_6, az_8, az_11, az_14, az_15, az_17, az_20, az_21, az_22, az_23, az_24, az_25, az_26, az_28, az_29, az_30, az_31, az_32, az_33, az_34, az_35, az_36, ak_0, ak_1, ak_2, ak_3, ak_4, ak_5, ak_6, ak_8, ak_11, ak_14, ak_15, ak_17, ak_20, ak_21, ak_22, ak_23, ak_24, ak_25, ak_26, ak_28, ak_29, ak_30, ak_31, ak_32, ak_33, ak_34, ak_35, ak_36, ak_37, eq_self, Int.toNat_natCast, Nat.zero_le, bI_0, b01_0, bI_or, b01_or, ne_eq, reduceCtorEq, not_false_eq_true, Nat.reduceEqDiff, if_true, if_false, ite_true, ite_false, Int.natCast_nonneg]
  unfold fogV
  cases hq : hpB (h g) p
  · simp
  · have := hpB_iff.mp hq
    simp; omega
theorem sp_setFog {d g : Nat} {h : AH} {p f : Int} : CallR (d + 2) 47 [vR g 7, vI p, vI f] h none (fup h g (setFogV (h g) p f)) := by
  rw [cr_47]
  simp only [r47_0, r47_1, r47_2, r47_5, r47_8, r47_9, r47_12, r47_13, r47_14, r47_15, CallR_iff sp_hasPlace, reduceIte, Option.some.injEq, and_assoc, exists_and_left, exists_eq_left, exists_eq_left', true_and, and_true, List.length_cons, List.length_nil, Nat.reduceAdd, Nat.reduceLeDiff, Sum.inl.injEq, az_0, az_1, az_2, az_3, az_4, az_5, az_6, az_8, az_11, az_14, az_15, az_17, az_20, az_21, az_22, az_23, az_24, az_25, az_26, az_28, az_29, az_30, az_31, az_32, az_33, az_34, az_35, az_36, ak_0, ak_1, ak_2, ak_3, ak_4, ak_5, ak_6, ak_8, ak_11, ak_14, ak_15, ak_17, ak_20, ak_21, ak_22, ak_23, ak_24, ak_25, ak_26, ak_28, ak_29, ak_30, ak_31, ak_32, ak_33, ak_34, ak_35, ak_36, ak_37, eq_self, Int.toNat_natCast, Nat.zero_le, bI_0, b01_0, bI_or, b01_or, ne_eq, reduceCtorEq, not_false_eq_true, Nat.reduceEqDiff, if_true, if_false, ite_true, ite_false, Int.natCast_nonneg]
  unfold setFogV
  cases hq : hpB (h g) p
  · simp [fup_id]
  · have := hpB_iff.mp hq
    simp [up3]; omega
theorem sp_hasRoom {d g : Nat} {h : AH} : CallR (d + 1) 42 [vR g 7] h (some (vI (bI (h g 7 7 < 8)))) h := by
  rw [cr_42]
  simp only [r42_0, r42_1, r42_4, r42_6, r42_9, r42_10, r42_13, r42_14]
  (repeat' split) <;> simp_all [bI]
/-- the first empty one from i on, else a new one -/
def freeF (V : VS) : Nat → Nat → Int
  | 0, _ => if V 7 8 < 12 then V 7 8 else -1
  | k + 1, i => if V 5 i = 200 then (i : Int) else freeF V k (i + 1)
theorem lp_freeB {d g : Nat} {h : AH} {Q : Option AV → AH → Prop} (hb : BD (h g)) : ∀ (k i : Nat), ((i + k : Nat) : Int) = h g 7 8 → (At (CallR d) ac_51 2 [vR g 7, vI i] [] h Q ↔ Q (some (vI (freeF (h g) k i))) h)
  | 0, i, e => by
    have h1 : ¬ (i : Int) < h g 7 8 := by omega
    rw [r51_2]
    simp only [r51_3, r51_4, r51_7, r51_10, r51_11, r51_13, r51_16, r51_17, r51_20, r51_21, r51_22, r51_25, r51_28, r51_29, r51_30, r51_33, r51_36, r51_37, r51_40, r51_42, r51_45, r51_46, r51_49, r51_52, r51_53, reduceIte, Option.some.injEq, and_assoc, exists_and_left, exists_eq_left, exists_eq_left', true_and, and_true, List.length_cons, List.length_nil, Nat.reduceAdd, Nat.reduceLeDiff, Sum.inl.injEq, az_0, az_1, az_2, az_3, az_4, az_5, az_6, az_8, az_11, az_14, az_15, az_17, az_20, az_21, az_22, az_23, az_24, az_25, az_26, az_28, az_29, az_30, az_31, az_32, az_33, az_34, az_35, az_36, ak_0, ak_1, ak_2, ak_3, ak_4, ak_5, ak_6, ak_8, ak_11, ak_14, ak_15, ak_17, ak_20, ak_21, ak_22, ak_23, ak_24, ak_25, ak_26, ak_28, ak_29, ak_30, ak_31, ak_32, ak_33, ak_34, ak_35, ak_36, ak_37, eq_self, Int.toNat_natCast, Nat.zero_le, bI_0, b01_0, bI_or, b01_or, ne_eq, reduceCtorEq, not_false_eq_true, Nat.reduceEqDiff, if_true, if_false, ite_true, ite_false, Int.natCast_nonneg, h1, if_false, freeF]
    split <;> exact Iff.rfl
  | k + 1, i, e => by
    have h4 := hb.2.2.2
    have h1 : (i : Int) < h g 7 8 := by omega
    have h2 : (i : Int) < 12 := by omega
    have ih := lp_freeB (d := d) (Q := Q) hb k (i + 1) (by omega)
    rw [r51_2]
    simp only [r51_3, r51_4, r51_7, r51_10, r51_11, r51_13, r51_16, r51_17, r51_20, r51_21, r51_22, r51_25, r51_28, r51_29, r51_30, r51_33, r51_36, r51_37, r51_40, r51_42, r51_45, r51_46, r51_49, r51_52, r51_53, reduceIte, Option.some.injEq, and_assoc, exists_and_left, exists_eq_left, exists_eq_left', true_and, and_true, List.length_cons, List.length_nil, Nat.reduceAdd, Nat.reduceLeDiff, Sum.inl.injEq, az_0, az_1, az_2, az_3, az_4, az_5, az_6, az_8, az_11, az_14, az_15, az_17, az_20, az_21, az_22, az_23, az_24, az_25, az_26, az_28, az_29, az_30, az_31, az_32, az_33, az_34, az_35, az_36, ak_0, ak_1, ak_2, ak_3, ak_4, ak_5, ak_6, ak_8, ak_11, ak_14, ak_15, ak_17, ak_20, ak_21, ak_22, ak_23, ak_24, ak_25, ak_26, ak_28, ak_29, ak_30, ak_31, ak_32, ak_33, ak_34, ak_35, ak_36, ak_37, eq_self, Int.toNat_natCast, Nat.zero_le, bI_0, b01_0, bI_or, b01_or, ne_eq, reduceCtorEq, not_false_eq_true, Nat.reduceEqDiff, if_true, if_false, ite_true, ite_false, Int.natCast_nonneg, h1, h2, if_true, freeF, wr_s (show i < 2147483647 by omega), ih]
    split <;> rfl
