/-! PURE: rows of acts ahead; the reference's search -/
abbrev Acc : Type := Int × Int × Int
def updA (acc : Acc) (V : VS) (r : Nat) : Acc := if acc.1 = -1 then ((r : Int), V 7 10, strC V) else if acc.2.1 < V 7 10 then ((r : Int), V 7 10, strC V) else if V 7 10 = acc.2.1 then (if acc.2.2 < strC V then ((r : Int), V 7 10, strC V) else acc) else acc
def fold7 (f : Nat → Acc → Acc) (acc : Acc) : Nat → Acc
  | 0 => acc
  | k + 1 => f k (fold7 f acc k)
def dfs : Nat → VS → Nat → Acc → Acc
  | 0, V, r, acc => updA acc V r
  | e + 1, V, r, acc => fold7 (fun a acc => if mayV V (a : Int) = true then dfs e (passV V (a : Int)) (7 * r + a) acc else acc) acc 7
theorem fold7_c {f f' : Nat → Acc → Acc} (h : ∀ a acc, f a acc = f' a acc) (acc : Acc) : ∀ k, fold7 f acc k = fold7 f' acc k
  | 0 => rfl
  | k + 1 => by unfold fold7; rw [fold7_c h acc k, h]
theorem EV.c_upd {V V' : VS} (E : EV V V') (acc : Acc) (r : Nat) : updA acc V r = updA acc V' r := by
  unfold updA
  rw [E.at7 (k := 10) (by omega) (by omega), E.c_strC]
theorem EV.c_dfs : ∀ (e : Nat) {V V' : VS} (r : Nat) (acc : Acc), EV V V' → dfs e V r acc = dfs e V' r acc
  | 0, _, _, r, acc, E => E.c_upd acc r
  | e + 1, V, V', r, acc, E => by
    unfold dfs
    refine fold7_c (fun a acc => ?_) acc 7
    rw [E.c_mayV, EV.c_dfs e (7 * r + a) acc (E.c_passV (a : Int))]
theorem upd_0 (acc : Acc) (V : VS) (r : Nat) (h : -1 ≤ acc.1) : 0 ≤ (updA acc V r).1 := by
  unfold updA
  repeat' split
  all_goals first | omega | (dsimp only; omega)
theorem dfs_0 : ∀ (e : Nat) (V : VS) (r : Nat) (acc : Acc), -1 ≤ acc.1 → 0 ≤ (dfs e V r acc).1
  | 0, V, r, acc, h => upd_0 acc V r h
  | e + 1, V, r, acc, h => by
    unfold dfs
    have key : ∀ k, 0 ≤ (fold7 (fun a acc => if mayV V (a : Int) = true then dfs e (passV V (a : Int)) (7 * r + a) acc else acc) acc (k + 1)).1 := by
      intro k
      induction k with
      | zero =>
        show 0 ≤ (if mayV V ((0 : Nat) : Int) = true then dfs e (passV V ((0 : Nat) : Int)) (7 * r + 0) acc else acc).1
        rw [if_pos (show mayV V ((0 : Nat) : Int) = true from may_0 V)]
        exact dfs_0 e _ _ _ h
      | succ k ih =>
        show 0 ≤ (if mayV V ((k + 1 : Nat) : Int) = true then dfs e (passV V ((k + 1 : Nat) : Int)) (7 * r + (k + 1)) (fold7 _ acc (k + 1)) else fold7 _ acc (k + 1)).1
        split
        · exact dfs_0 e _ _ _ (by omega)
        · exact ih
    exact key 6
/-- a row's acts, the first ahead: whether all may be, and what stands behind -/
def rwB : Nat → VS → Nat → Bool
  | 0, _, _ => true
  | q + 1, V, row => if mayV V ((row / 7 ^ q % 7 : Nat) : Int) = true then rwB q (passV V ((row / 7 ^ q % 7 : Nat) : Int)) row else false
def rwW : Nat → VS → Nat → VS
  | 0, V, _ => V
  | q + 1, V, row => if mayV V ((row / 7 ^ q % 7 : Nat) : Int) = true then rwW q (passV V ((row / 7 ^ q % 7 : Nat) : Int)) row else V
theorem rw_wf : ∀ (q : Nat) {V : VS} (row : Nat), WF V → WF (rwW q V row)
  | 0, _, _, hw => hw
  | q + 1, V, row, hw => by
    unfold rwW
    split
    · next h => exact rw_wf q row (pass_wf hw h)
    · exact hw
theorem rw_F : ∀ (q : Nat) {U V : VS} (row : Nat), FRM U V → FRM U (rwW q V row)
  | 0, _, _, _, F => F
  | q + 1, U, V, row, F => by
    unfold rwW
    split
    · exact rw_F q row (FRM.pass F _)
    · exact F
theorem EV.c_rw : ∀ (q : Nat) {V V' : VS} (row : Nat), EV V V' → rwB q V row = rwB q V' row ∧ EV (rwW q V row) (rwW q V' row)
  | 0, _, _, _, E => ⟨rfl, E⟩
  | q + 1, V, V', row, E => by
    have ih := EV.c_rw q row (E.c_passV ((row / 7 ^ q % 7 : Nat) : Int))
    unfold rwB rwW
    rw [E.c_mayV]
    split
    · exact ih
    · exact ⟨rfl, E⟩
def rowS_ (V : VS) (e : Nat) (acc : Acc) (row : Nat) : Acc := if rwB e V row = true then updA acc (rwW e V row) row else acc
def rowsF (V : VS) (e r : Nat) (acc : Acc) : Nat → Acc
  | 0 => acc
  | k + 1 => rowS_ V e (rowsF V e r acc k) (r * 7 ^ e + k)
theorem row_a (r a k e : Nat) : r * 7 ^ (e + 1) + (a * 7 ^ e + k) = (7 * r + a) * 7 ^ e + k := by
  rw [Nat.pow_succ, Nat.add_mul, Nat.mul_comm (7 ^ e) 7, ← Nat.mul_assoc, Nat.mul_comm r 7]
  omega
theorem dig_a (r a k e : Nat) (ha : a < 7) (hk : k < 7 ^ e) : (r * 7 ^ (e + 1) + (a * 7 ^ e + k)) / 7 ^ e % 7 = a := by
  have hp : 0 < 7 ^ e := Nat.pow_pos (by decide)
  rw [row_a, Nat.mul_comm, Nat.mul_add_div hp, Nat.div_eq_of_lt hk]
  omega
theorem rows_a (V : VS) (e r : Nat) (acc : Acc) (a : Nat) (ha : a < 7) : ∀ k, k ≤ 7 ^ e → rowsF V (e + 1) r acc (a * 7 ^ e + k) = if mayV V (a : Int) = true then rowsF (passV V (a : Int)) e (7 * r + a) (rowsF V (e + 1) r acc (a * 7 ^ e)) k else rowsF V (e + 1) r acc (a * 7 ^ e)
  | 0, _ => by
    split <;> rfl
  | k + 1, hk => by
    have ih := rows_a V e r acc a ha k (by omega)
    show rowS_ V (e + 1) (rowsF V (e + 1) r acc (a * 7 ^ e + k)) (r * 7 ^ (e + 1) + (a * 7 ^ e + k)) = _
    rw [ih]
    have hd := dig_a r a k e ha (by omega)
    have hr := row_a r a k e
    unfold rowS_ rwB rwW
    rw [hd, hr]
    by_cases q : mayV V (a : Int) = true
    · simp only [q, if_true]
      rfl
    · simp only [q, if_false, Bool.false_eq_true]
theorem rows_dfs : ∀ (e : Nat) (V : VS) (r : Nat) (acc : Acc), rowsF V e r acc (7 ^ e) = dfs e V r acc
  | 0, V, r, acc => by
    show rowS_ V 0 acc (r * 7 ^ 0 + 0) = updA acc V r
    unfold rowS_ rwB rwW
    rw [if_pos rfl, Nat.pow_zero, Nat.mul_one, Nat.add_zero]
  | e + 1, V, r, acc => by
    have key : ∀ a, a ≤ 7 → rowsF V (e + 1) r acc (a * 7 ^ e) = fold7 (fun a acc => if mayV V (a : Int) = true then dfs e (passV V (a : Int)) (7 * r + a) acc else acc) acc a := by
      intro a
      induction a with
      | zero => intro _; rw [Nat.zero_mul]; rfl
      | succ a ih =>
        intro ha
        have h1 := rows_a V e r acc a (by omega) (7 ^ e) (Nat.le_refl _)
        rw [Nat.succ_mul, h1, ih (by omega)]
        show _ = (if mayV V (a : Int) = true then dfs e (passV V (a : Int)) (7 * r + a) (fold7 _ acc a) else fold7 _ acc a)
        split
        · exact rows_dfs e _ _ _
        · rfl
    have := key 7 (Nat.le_refl _)
    rw [Nat.pow_succ, Nat.mul_comm]
    exact this
theorem rows_bd (V : VS) (e : Nat) : ∀ k, -1 ≤ (rowsF V e 0 (-1, 0, 0) k).1 ∧ (rowsF V e 0 (-1, 0, 0) k).1 < k ∨ (k = 0 ∧ (rowsF V e 0 (-1, 0, 0) k).1 = -1)
  | 0 => Or.inr ⟨rfl, rfl⟩
  | k + 1 => by
    have ih := rows_bd V e k
    left
    show -1 ≤ (rowS_ V e (rowsF V e 0 (-1, 0, 0) k) (0 * 7 ^ e + k)).1 ∧ (rowS_ V e (rowsF V e 0 (-1, 0, 0) k) (0 * 7 ^ e + k)).1 < ((k + 1 : Nat) : Int)
    rw [Nat.zero_mul, Nat.zero_add]
    unfold rowS_ updA
    repeat' split
    all_goals first | omega | (dsimp only; omega)
theorem EV.c_rows {V V' : VS} (E : EV V V') (e r : Nat) (acc : Acc) : ∀ k, rowsF V e r acc k = rowsF V' e r acc k
  | 0 => rfl
  | k + 1 => by
    unfold rowsF rowS_
    rw [EV.c_rows E e r acc k, (EV.c_rw e _ E).1, ((EV.c_rw e (r * 7 ^ e + k) E).2).c_upd]
theorem rem7 {x : Int} (h0 : 0 ≤ x) (h : x < 1000000) : opRem x 7 = x % 7 := by
  have hd : (Int32.ofInt x / Int32.ofInt 7).toInt = x / 7 := opDiv_pos h0 (by omega) (by omega) (by omega)
  unfold opRem
  rw [Int32.toInt_sub, Int32.toInt_mul, hd, Int32.toInt_ofInt, Int32.toInt_ofInt]
  have e1 : Int.bmod x Int32.size = x := wr_id (by omega) (by omega)
  have e2 : Int.bmod 7 Int32.size = 7 := by decide
  rw [e1, e2]
  have e3 : Int.bmod (x / 7 * 7) (2 ^ 32) = x / 7 * 7 := wr_id (by omega) (by omega)
  rw [e3]
  have e4 : Int.bmod (x - x / 7 * 7) (2 ^ 32) = x - x / 7 * 7 := wr_id (by omega) (by omega)
  rw [e4]
  omega
theorem rem7n {z : Nat} (h : z < 1000000) : opRem (z : Int) 7 = ((z % 7 : Nat) : Int) := by
  rw [rem7 (by omega) (by omega)]
  omega
theorem p7 : ∀ q : Nat, q < 4 → 1 ≤ 7 ^ q ∧ 7 ^ q ≤ 343 ∧ 7 ^ (q + 1) = 7 * 7 ^ q := by decide
theorem sm_aheadI {d : Nat} {h : AH} {n i row : Nat} {x3 x4 x5 x6 ii : AV} {Q : Option AV → AH → Prop} (hrow : row < 2401) (hn : n ≤ 4) : ∀ (q e : Nat) (V : VS) (x : AV), e + q = n → WF V → (∀ s' e' x' : AV, At (CallR (d + 8)) ac_201 144 [vR 17 27, vI n, ii, x3, x4, x5, x6, vI row, vI (b01 (rwB q V row)), s', e', x'] [] (fup h 17 (setRV (h 17) (rwW q V row))) Q) → At (CallR (d + 8)) ac_201 91 [vR 17 27, vI n, ii, x3, x4, x5, x6, vI row, vI 1, vI ((7 ^ q : Nat) : Int), vI e, x] [] (fup h 17 (setRV (h 17) V)) Q
  | 0, e, V, x, he, hw, hQ => by
    have h1 : ¬ (e : Int) < (n : Int) := by omega
    rw [r201_91]
    simp only [r201_93, r201_94, r201_97, r201_99, r201_102, r201_104, r201_106, r201_107, r201_109, r201_111, r201_113, r201_114, r201_116, r201_117, r201_119, r201_120, r201_122, r201_125, r201_127, r201_129, r201_132, r201_133, r201_135, r201_138, r201_141, reduceIte, Option.some.injEq, and_assoc, exists_and_left, exists_eq_left, exists_eq_left', true_and, and_true, List.length_cons, List.length_nil, Nat.reduceAdd, Nat.reduceLeDiff, Sum.inl.injEq, az_0, az_1, az_2, az_3, az_4, az_5, az_6, az_8, az_11, az_14, az_15, az_17, az_20, az_21, az_22, az_23, az_24, az_25, az_26, az_28, az_29, az_30, az_31, az_32, az_33, az_34, az_35, az_36, ak_0, ak_1, ak_2, ak_3, ak_4, ak_5, ak_6, ak_8, ak_11, ak_14, ak_15, ak_17, ak_20, ak_21, ak_22, ak_23, ak_24, ak_25, ak_26, ak_28, ak_29, ak_30, ak_31, ak_32, ak_33, ak_34, ak_35, ak_36, ak_37, eq_self, Int.toNat_natCast, Nat.zero_le, bI_0, b01_0, bI_or, b01_or, ne_eq, reduceCtorEq, not_false_eq_true, Nat.reduceEqDiff, if_true, if_false, ite_true, ite_false, Int.natCast_nonneg, not_true_eq_false, Bool.true_eq_false, Bool.false_eq_true, Int.reduceEq, Int.reduceLT, Int.reduceLE, Int.reduceToNat, and_self, inA, exists_eq, or_true, true_or, or_false, false_or, and_false, false_and, or_self, Nat.reduceLT, h1]
    exact hQ _ _ _
  | q + 1, e, V, x, he, hw, hQ => by
    have h1 : (e : Int) < (n : Int) := by omega
    have ks := wr_s (show e < 2147483647 by omega)
    obtain ⟨a1, a2, a3⟩ := p7 q (by omega)
    have d1 : opDiv ((7 ^ (q + 1) : Nat) : Int) 7 = ((7 ^ q : Nat) : Int) := by
      rw [opDiv_pos (by omega) (by omega) (by omega) (by omega), a3]
      omega
    have nz : ¬ ((7 ^ q : Nat) : Int) = 0 := by omega
    have d2 : opDiv (row : Int) ((7 ^ q : Nat) : Int) = ((row / 7 ^ q : Nat) : Int) := by
      rw [opDiv_pos (by omega) (by omega) (by omega) (by omega)]
      exact (Int.natCast_ediv row (7 ^ q)).symm
    have le1 : row / 7 ^ q ≤ row := Nat.div_le_self _ _
    have d3 : opRem ((row / 7 ^ q : Nat) : Int) 7 = ((row / 7 ^ q % 7 : Nat) : Int) := rem7n (Nat.lt_of_le_of_lt le1 (by omega))
    have hq := wf17 (h := h) hw
    have uB : rwB (q + 1) V row = if mayV V ((row / 7 ^ q % 7 : Nat) : Int) = true then rwB q (passV V ((row / 7 ^ q % 7 : Nat) : Int)) row else false := rfl
    have uW : rwW (q + 1) V row = if mayV V ((row / 7 ^ q % 7 : Nat) : Int) = true then rwW q (passV V ((row / 7 ^ q % 7 : Nat) : Int)) row else V := rfl
    rw [uB, uW] at hQ
    cases hm : mayV V ((row / 7 ^ q % 7 : Nat) : Int)
    · rw [hm] at hQ
      simp only [Bool.false_eq_true, if_false] at hQ
      rw [r201_91]
      simp only [r201_93, r201_94, r201_97, r201_99, r201_102, r201_104, r201_106, r201_107, r201_109, r201_111, r201_113, r201_114, r201_116, r201_117, r201_119, r201_120, r201_122, r201_125, r201_127, r201_129, r201_132, r201_133, r201_135, r201_138, r201_141, reduceIte, Option.some.injEq, and_assoc, exists_and_left, exists_eq_left, exists_eq_left', true_and, and_true, List.length_cons, List.length_nil, Nat.reduceAdd, Nat.reduceLeDiff, Sum.inl.injEq, az_0, az_1, az_2, az_3, az_4, az_5, az_6, az_8, az_11, az_14, az_15, az_17, az_20, az_21, az_22, az_23, az_24, az_25, az_26, az_28, az_29, az_30, az_31, az_32, az_33, az_34, az_35, az_36, ak_0, ak_1, ak_2, ak_3, ak_4, ak_5, ak_6, ak_8, ak_11, ak_14, ak_15, ak_17, ak_20, ak_21, ak_22, ak_23, ak_24, ak_25, ak_26, ak_28, ak_29, ak_30, ak_31, ak_32, ak_33, ak_34, ak_35, ak_36, ak_37, eq_self, Int.toNat_natCast, Nat.zero_le, bI_0, b01_0, bI_or, b01_or, ne_eq, reduceCtorEq, not_false_eq_true, Nat.reduceEqDiff, if_true, if_false, ite_true, ite_false, Int.natCast_nonneg, not_true_eq_false, Bool.true_eq_false, Bool.false_eq_true, Int.reduceEq, Int.reduceLT, Int.reduceLE, Int.reduceToNat, and_self, inA, exists_eq, or_true, true_or, or_false, false_or, and_false, false_and, or_self, Nat.reduceLT, h1, d1, nz, d2, d3, CallR_iff (sm_may hq), fup_same, RV_set, hm, ks]
      rw [r201_91]
      by_cases h2 : ((e + 1 : Nat) : Int) < (n : Int)
      · simp only [r201_93, r201_94, r201_97, r201_99, r201_102, r201_104, r201_106, r201_107, r201_109, r201_111, r201_113, r201_114, r201_116, r201_117, r201_119, r201_120, r201_122, r201_125, r201_127, r201_129, r201_132, r201_133, r201_135, r201_138, r201_141, reduceIte, Option.some.injEq, and_assoc, exists_and_left, exists_eq_left, exists_eq_left', true_and, and_true, List.length_cons, List.length_nil, Nat.reduceAdd, Nat.reduceLeDiff, Sum.inl.injEq, az_0, az_1, az_2, az_3, az_4, az_5, az_6, az_8, az_11, az_14, az_15, az_17, az_20, az_21, az_22, az_23, az_24, az_25, az_26, az_28, az_29, az_30, az_31, az_32, az_33, az_34, az_35, az_36, ak_0, ak_1, ak_2, ak_3, ak_4, ak_5, ak_6, ak_8, ak_11, ak_14, ak_15, ak_17, ak_20, ak_21, ak_22, ak_23, ak_24, ak_25, ak_26, ak_28, ak_29, ak_30, ak_31, ak_32, ak_33, ak_34, ak_35, ak_36, ak_37, eq_self, Int.toNat_natCast, Nat.zero_le, bI_0, b01_0, bI_or, b01_or, ne_eq, reduceCtorEq, not_false_eq_true, Nat.reduceEqDiff, if_true, if_false, ite_true, ite_false, Int.natCast_nonneg, not_true_eq_false, Bool.true_eq_false, Bool.false_eq_true, Int.reduceEq, Int.reduceLT, Int.reduceLE, Int.reduceToNat, and_self, inA, exists_eq, or_true, true_or, or_false, false_or, and_false, false_and, or_self, Nat.reduceLT, h2]
        exact hQ _ _ _
      · simp only [r201_93, r201_94, r201_97, r201_99, r201_102, r201_104, r201_106, r201_107, r201_109, r201_111, r201_113, r201_114, r201_116, r201_117, r201_119, r201_120, r201_122, r201_125, r201_127, r201_129, r201_132, r201_133, r201_135, r201_138, r201_141, reduceIte, Option.some.injEq, and_assoc, exists_and_left, exists_eq_left, exists_eq_left', true_and, and_true, List.length_cons, List.length_nil, Nat.reduceAdd, Nat.reduceLeDiff, Sum.inl.injEq, az_0, az_1, az_2, az_3, az_4, az_5, az_6, az_8, az_11, az_14, az_15, az_17, az_20, az_21, az_22, az_23, az_24, az_25, az_26, az_28, az_29, az_30, az_31, az_32, az_33, az_34, az_35, az_36, ak_0, ak_1, ak_2, ak_3, ak_4, ak_5, ak_6, ak_8, ak_11, ak_14, ak_15, ak_17, ak_20, ak_21, ak_22, ak_23, ak_24, ak_25, ak_26, ak_28, ak_29, ak_30, ak_31, ak_32, ak_33, ak_34, ak_35, ak_36, ak_37, eq_self, Int.toNat_natCast, Nat.zero_le, bI_0, b01_0, bI_or, b01_or, ne_eq, reduceCtorEq, not_false_eq_true, Nat.reduceEqDiff, if_true, if_false, ite_true, ite_false, Int.natCast_nonneg, not_true_eq_false, Bool.true_eq_false, Bool.false_eq_true, Int.reduceEq, Int.reduceLT, Int.reduceLE, Int.reduceToNat, and_self, inA, exists_eq, or_true, true_or, or_false, false_or, and_false, false_and, or_self, Nat.reduceLT, h2]
        exact hQ _ _ _
    · rw [hm] at hQ
      simp only [if_true] at hQ
      have hm2 : mayV (RV ((fup h 17 (setRV (h 17) V)) 17)) ((row / 7 ^ q % 7 : Nat) : Int) = true := by rw [fup_same, RV_set]; exact hm
      have ih := sm_aheadI (d := d) (h := h) (n := n) (i := i) (row := row) (x3 := x3) (x4 := x4) (x5 := x5) (x6 := x6) (ii := ii) (Q := Q) hrow hn q (e + 1) (passV V ((row / 7 ^ q % 7 : Nat) : Int)) (vI ((row / 7 ^ q % 7 : Nat) : Int)) (by omega) (pass_wf hw hm) hQ
      rw [r201_91]
      simp only [r201_93, r201_94, r201_97, r201_99, r201_102, r201_104, r201_106, r201_107, r201_109, r201_111, r201_113, r201_114, r201_116, r201_117, r201_119, r201_120, r201_122, r201_125, r201_127, r201_129, r201_132, r201_133, r201_135, r201_138, r201_141, reduceIte, Option.some.injEq, and_assoc, exists_and_left, exists_eq_left, exists_eq_left', true_and, and_true, List.length_cons, List.length_nil, Nat.reduceAdd, Nat.reduceLeDiff, Sum.inl.injEq, az_0, az_1, az_2, az_3, az_4, az_5, az_6, az_8, az_11, az_14, az_15, az_17, az_20, az_21, az_22, az_23, az_24, az_25, az_26, az_28, az_29, az_30, az_31, az_32, az_33, az_34, az_35, az_36, ak_0, ak_1, ak_2, ak_3, ak_4, ak_5, ak_6, ak_8, ak_11, ak_14, ak_15, ak_17, ak_20, ak_21, ak_22, ak_23, ak_24, ak_25, ak_26, ak_28, ak_29, ak_30, ak_31, ak_32, ak_33, ak_34, ak_35, ak_36, ak_37, eq_self, Int.toNat_natCast, Nat.zero_le, bI_0, b01_0, bI_or, b01_or, ne_eq, reduceCtorEq, not_false_eq_true, Nat.reduceEqDiff, if_true, if_false, ite_true, ite_false, Int.natCast_nonneg, not_true_eq_false, Bool.true_eq_false, Bool.false_eq_true, Int.reduceEq, Int.reduceLT, Int.reduceLE, Int.reduceToNat, and_self, inA, exists_eq, or_true, true_or, or_false, false_or, and_false, false_and, or_self, Nat.reduceLT, h1, d1, nz, d2, d3, CallR_iff (sm_may hq), CallR_iff (sm_goOn hq hm2), fup_same, fup_fup, RV_set, set_set, hm, ks]
      exact ih
def ahK (V : VS) (n : Nat) : Nat → VS
  | 0 => kpV V
  | k + 1 => qrV (rwW n (ahK V n k) k)
theorem ahK_ok {V : VS} (hw : WF V) (n : Nat) : ∀ k, EV (ahK V n k) V ∧ FRM (kpV V) (ahK V n k)
  | 0 => ⟨EV.rf _, FRM.rf _⟩
  | k + 1 => by
    obtain ⟨E, F⟩ := ahK_ok hw n k
    have w1 := rw_wf n k (E.sy.wf hw)
    have F2 := rw_F n k F
    exact ⟨qr_EV hw w1 F2, qr_F F2⟩
