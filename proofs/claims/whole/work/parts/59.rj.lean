/-! PURE: law, closed -/
theorem At_ex {α : Type} {call : ACall} {C : Nat → AI} {Q : α → Option AV → AH → Prop} {pc : Nat} {L st : List AV} {h : AH} (a : At call C pc L st h (fun v h2 => ∃ x, Q x v h2)) : ∃ x, At call C pc L st h (Q x) := by
  obtain ⟨n, hn⟩ := a
  induction n generalizing pc L st h with
  | zero => exact hn.elim
  | succ n ih =>
    simp only [ExecP] at hn
    split at hn
    · exact hn.elim
    · next e => obtain ⟨x, y⟩ := ih hn; exact ⟨x, (At_next e).mpr y⟩
    · next e => obtain ⟨x, y⟩ := hn; exact ⟨x, (At_ret e).mpr y⟩
    · next e =>
      obtain ⟨h1, y1, y2⟩ := hn
      obtain ⟨x, y⟩ := ih y2
      exact ⟨x, (At_callv e).mpr ⟨h1, y1, y⟩⟩
    · next e =>
      obtain ⟨v, h1, y1, y2⟩ := hn
      obtain ⟨x, y⟩ := ih y2
      exact ⟨x, (At_call e).mpr ⟨v, h1, y1, y⟩⟩
theorem At_pr {P : Prop} {call : ACall} {C : Nat → AI} {Q : Option AV → AH → Prop} {pc : Nat} {L st : List AV} {h : AH} (a : At call C pc L st h (fun v h2 => P ∧ Q v h2)) : P ∧ At call C pc L st h Q := by
  obtain ⟨n, hn⟩ := a
  induction n generalizing pc L st h with
  | zero => exact hn.elim
  | succ n ih =>
    simp only [ExecP] at hn
    split at hn
    · exact hn.elim
    · next e => obtain ⟨x, y⟩ := ih hn; exact ⟨x, (At_next e).mpr y⟩
    · next e => exact ⟨hn.1, (At_ret e).mpr hn.2⟩
    · next e =>
      obtain ⟨h1, y1, y2⟩ := hn
      obtain ⟨x, y⟩ := ih y2
      exact ⟨x, (At_callv e).mpr ⟨h1, y1, y⟩⟩
    · next e =>
      obtain ⟨v, h1, y1, y2⟩ := hn
      obtain ⟨x, y⟩ := ih y2
      exact ⟨x, (At_call e).mpr ⟨v, h1, y1, y⟩⟩
theorem law_77 {U : VS} {s : Nat} {g : Nat → Int} (O : MDO U s g) (L : Int) : ∀ (k : Nat) (V : VS) (i n : Nat), V 7 7 ≤ (lawF L g k V i n).2.2 7 7
  | 0, V, _, _ => Int.le_refl _
  | k + 1, V, i, n => by
    unfold lawF
    by_cases a : (itS g V i).1 = true
    · have hp := (it_pos O a).2.2
      rw [if_pos a]
      split
      · exact hp
      · split
        · exact Int.le_trans hp (law_77 O L k _ _ _)
        · exact hp
    · rw [if_neg a]
      exact Int.le_refl _
theorem RLC.law {V0 V0' V1 X X' R R' : VS} {Sh : Nat → VS} (h : RLC V0 V1 Sh X R) (hw : WF R') (E : EV V0' R') (x11 : X' 11 = X 11) (x16 : X' 16 = X 16) (x17 : X' 17 = X 17) (x8 : X' 10 8 = X 10 8) (x9 : X' 10 9 = R' 7 20) (r : ∀ m, 8 ≤ m → m ≤ 13 → R' m = R m) (r21 : R' 7 21 = R 7 21) (r22 : R' 7 22 = R 7 22) (hp : R 7 7 ≤ R' 7 7) : RLC V0' V1 Sh X' R' := by
  obtain ⟨h1, h2, h3, h4⟩ := h
  refine ⟨hw, E, fun s hs => ?_, ?_⟩
  · have := h3 s hs
    unfold SHR at this ⊢
    rw [r 8 (by omega) (by omega), r 9 (by omega) (by omega), r 10 (by omega) (by omega)]
    exact ⟨this.1, by omega, this.2.2⟩
  · obtain ⟨y1, y2, y3, y4, y5, y6⟩ := h4
    unfold XR
    rw [r 11 (by omega) (by omega), r 12 (by omega) (by omega), r 13 (by omega) (by omega), x11, x16, x17, x8, x9, r21, r22]
    exact ⟨y1, rfl, y3, y4, y5, y6⟩
def opB_ (h : AH) (m : Nat) : AH := fup h 16 (fup (h 16) 12 (fup (fup (h 16 12) 0 (m : Int)) 1 2))
theorem op_row (r : Nat → Int) (m : Int) : rrow (fup (fup r 0 m) 1 2) 0 (r 3) 0 (-1) = fup (fup (fup (fup (fup r 0 m) 1 2) 2 0) 4 0) 5 (-1) := by
  funext k
  unfold rrow
  simp only [fup_at]
  by_cases k5 : k = 5
  · subst k5; rfl
  by_cases k4 : k = 4
  · subst k4; rfl
  by_cases k3 : k = 3
  · subst k3; rfl
  by_cases k2 : k = 2
  · subst k2; rfl
  · rw [if_neg k2, if_neg k3, if_neg k4, if_neg k5, if_neg k5, if_neg k4, if_neg k2]
theorem sr_open {d : Nat} {h : AH} {T : VS} {m : Nat} : CallR (d + 1) 0 [vR 16 12, vR (8 + m) 9, vR 2 7] (fup h 2 T) none (rdH (opB_ h m) T 0 (h 16 12 3) 0 (-1)) := by
  have e1 : ((8 + m : Nat) : Int) - 8 = (m : Int) := by omega
  (rw [cr_0]; simp only [r0_0, r0_1, r0_1n, r0_1s, r0_2, r0_2n, r0_5, r0_6, r0_6n, r0_6s, r0_7, r0_7n, r0_10, r0_11, r0_12, r0_15, r0_16, r0_17, r0_20, r0_21, r0_22, r0_25, up3, fup_same, fup_fup, fup_ne, e1, reduceIte, Option.some.injEq, and_assoc, exists_and_left, exists_eq_left, exists_eq_left', true_and, and_true, List.length_cons, List.length_nil, Nat.reduceAdd, Nat.reduceLeDiff, Sum.inl.injEq, az_0, az_1, az_2, az_3, az_4, az_5, az_6, az_8, az_11, az_14, az_15, az_17, az_20, az_21, az_22, az_23, az_24, az_25, az_26, az_28, az_29, az_30, az_31, az_32, az_33, az_34, az_35, az_36, ak_0, ak_1, ak_2, ak_3, ak_4, ak_5, ak_6, ak_8, ak_11, ak_14, ak_15, ak_17, ak_20, ak_21, ak_22, ak_23, ak_24, ak_25, ak_26, ak_28, ak_29, ak_30, ak_31, ak_32, ak_33, ak_34, ak_35, ak_36, ak_37, eq_self, Int.toNat_natCast, Nat.zero_le, bI_0, b01_0, bI_or, b01_or, ne_eq, reduceCtorEq, not_false_eq_true, Nat.reduceEqDiff, if_true, if_false, ite_true, ite_false, Int.natCast_nonneg, not_true_eq_false, Bool.true_eq_false, Bool.false_eq_true, Int.reduceEq, Int.reduceLT, Int.reduceLE, Int.reduceToNat, and_self, inA, exists_eq, or_true, true_or, or_false, false_or, and_false, false_and, or_self, Nat.reduceLT])
  unfold rdH opB_
  rw [fup_same, fup_same, fup_fup, op_row, fup_comm _ _ _ (show (16 : Nat) ≠ 2 by decide), fup_fup]
  rfl
theorem ok_law {S : VS} {d : Nat} {h : AH} {s : Int} (R : REL S h) : OKI S d 99 181 [vI s] h := by
  have E := R.ev
  have hw := R.w
  have hw0 := R.w0
  by_cases hs : 0 ≤ s ∧ s < 8
  · obtain ⟨m, rfl⟩ : ∃ m : Nat, s = (m : Int) := ⟨s.toNat, by omega⟩
    have hm : m < 8 := by omega
    have h8 : (m : Int) < 8 := by omega
    have ec := R.rowC hm
    by_cases h0 : noRowC (RV (h 17) 8 m) = 0
    · obtain ⟨e9, l0, l1, hel⟩ := R.rowOk hm h0
      obtain ⟨g, hg⟩ : ∃ g : Nat → Int, g = fun i : Nat => if (i : Int) < h (8 + m) 9 2 then wr (h (8 + m) 8 i) else 0 := ⟨_, rfl⟩
      have O : RDO (opB_ h m) m g := by
        refine ⟨hm, rfl, rfl, ?_, ?_, fun i => ?_⟩
        · rw [show opB_ h m (8 + m) = h (8 + m) from fup_ne _ _ (by omega), e9]; exact l0
        · rw [show opB_ h m (8 + m) = h (8 + m) from fup_ne _ _ (by omega), e9]; exact l1
        · rw [show opB_ h m (8 + m) = h (8 + m) from fup_ne _ _ (by omega), hg]
      have eo : opB_ h m (8 + m) = h (8 + m) := fup_ne _ _ (by omega)
      have hwT := wfT hw0
      have ET := evT R
      -- the reference's start
      obtain ⟨U0, hU0⟩ : ∃ U0 : VS, U0 = fup (fup (RV (h 17)) 14 (rowN (keepF (RV (h 17))) (RV (h 17) 14) 61)) 7 (fup (fup (RV (h 17) 7) 23 (m : Int)) 24 0) := ⟨_, rfl⟩
      have EU : EV U0 (RV (h 17)) := by rw [hU0]; exact EV.rf _
      have hwU : WF U0 := EU.sy.wf hw
      have u9 : U0 9 = RV (h 17) 9 := by rw [hU0]; rfl
      have OM : MDO U0 m g := by
        refine ⟨hm, by rw [hU0]; rfl, by rw [u9]; exact l0, by rw [u9]; exact l1, fun j => ?_⟩
        rw [u9, hg]
        dsimp only
        rw [e9]
        by_cases q : (j : Int) < RV (h 17) 9 m
        · rw [if_pos q, if_pos q, hel j (by omega)]
          rw [show U0 10 = RV (h 17) 10 by rw [hU0]; rfl]
        · rw [if_neg q, if_neg q]
      have ETU : EV (becV (h 2) (h 0)) U0 := ET.tr EU.sy
      have cl := EV.c_law (RV (h 17) 9 m) g 200 0 0 ETU
      have h77 := law_77 OM (RV (h 17) 9 m) 200 U0 0 0
      have hwL := law_wf (RV (h 17) 9 m) g 200 0 0 hwU
      have keepA : ∀ h1 : AH, h1 17 = h 17 → CallR (d + 28 + 1) 231 [vR 17 27, vR 17 34] h1 none (fup h1 17 (setRV (h 17) (fup (RV (h 17)) 14 (rowN (keepF (RV (h 17))) (RV (h 17) 14) 61)))) := fun h1 e => by
        have := sm_keep_ (d := d + 28) (k := 14) (h := h1) (by omega) (by omega) rfl rfl
        rw [e] at this
        exact this
      cases hok : (lawF (RV (h 17) 9 m) g 200 U0 0 0).1
      · -- a fault
        have hokT : (lawF (RV (h 17) 9 m) g 200 (becV (h 2) (h 0)) 0 0).1 = false := by rw [cl.1]; exact hok
        obtain ⟨p, hp⟩ : ∃ p : Nat, (lawF (RV (h 17) 9 m) g 200 U0 0 0).2.1 = p := ⟨_, rfl⟩
        have hpT : (lawF (RV (h 17) 9 m) g 200 (becV (h 2) (h 0)) 0 0).2.1 = p := by rw [cl.2.1]; exact hp
        have hX : ∃ (W' : VS) (a' ns' it' : Int), CallR (d + 30) 99 [vR 16 10, vI m] h (some (vI (-6))) (fup (up3 (rdH (opB_ h m) W' a' ns' it' (p : Int)) 16 10 9 (p : Int)) 16 (noV (up3 (rdH (opB_ h m) W' a' ns' it' (p : Int)) 16 10 9 (p : Int) 16) (-6))) := by
          have key : ∃ (W' : VS) (a' ns' it' : Int), At (CallR (d + 29)) ac_99 52 [vR 16 10, vI m, vI 0, vR (8 + m) 9, vI 0] [] (rdH (opB_ h m) (becV (h 2) (h 0)) 0 (h 16 12 3) 0 (-1)) (fun v' h2 => v' = some (vI (-6)) ∧ h2 = fup (up3 (rdH (opB_ h m) W' a' ns' it' (p : Int)) 16 10 9 (p : Int)) 16 (noV (up3 (rdH (opB_ h m) W' a' ns' it' (p : Int)) 16 10 9 (p : Int) 16) (-6))) := by
            have LX := lx_start (d := d + 17) (sv := (m : Int)) (ns := h 16 12 3) O hwT (fun v' h2 => ∃ (W' : VS) (a' ns' it' : Int), v' = some (vI (-6)) ∧ h2 = fup (up3 (rdH (opB_ h m) W' a' ns' it' (p : Int)) 16 10 9 (p : Int)) 16 (noV (up3 (rdH (opB_ h m) W' a' ns' it' (p : Int)) 16 10 9 (p : Int) 16) (-6))) (fun W' a' ns' it' ft' t hF => by
              rw [eo, e9] at hF
              rcases hF with ⟨f1, -⟩ | ⟨-, f2⟩
              · rw [hokT] at f1; exact Bool.noConfusion f1
              · rw [hpT] at f2
                subst f2
                have e910 : up3 (rdH (opB_ h m) W' a' ns' it' (p : Int)) 16 10 9 (p : Int) 16 10 9 = (p : Int) := by unfold up3; rw [fup_same, fup_same, fup_same]
                simp only [r99_83, r99_84, r99_85, r99_88, r99_91, r99_94, r99_95, r99_98, r99_99, r99_102, r99_103, r99_105, r99_108, r99_109, r99_110, r99_113, r99_114, r99_117, r99_120, r99_121, r99_124, r99_127, reduceIte, Option.some.injEq, and_assoc, exists_and_left, exists_eq_left, exists_eq_left', true_and, and_true, List.length_cons, List.length_nil, Nat.reduceAdd, Nat.reduceLeDiff, Sum.inl.injEq, az_0, az_1, az_2, az_3, az_4, az_5, az_6, az_8, az_11, az_14, az_15, az_17, az_20, az_21, az_22, az_23, az_24, az_25, az_26, az_28, az_29, az_30, az_31, az_32, az_33, az_34, az_35, az_36, ak_0, ak_1, ak_2, ak_3, ak_4, ak_5, ak_6, ak_8, ak_11, ak_14, ak_15, ak_17, ak_20, ak_21, ak_22, ak_23, ak_24, ak_25, ak_26, ak_28, ak_29, ak_30, ak_31, ak_32, ak_33, ak_34, ak_35, ak_36, ak_37, eq_self, Int.toNat_natCast, Nat.zero_le, bI_0, b01_0, bI_or, b01_or, ne_eq, reduceCtorEq, not_false_eq_true, Nat.reduceEqDiff, if_true, if_false, ite_true, ite_false, Int.natCast_nonneg, not_true_eq_false, Bool.true_eq_false, Bool.false_eq_true, Int.reduceEq, Int.reduceLT, Int.reduceLE, Int.reduceToNat, and_self, inA, exists_eq, or_true, true_or, or_false, false_or, and_false, false_and, or_self, Nat.reduceLT, rq_5, e910, fpos', CallR_iff (sx_refuse (h := up3 (rdH (opB_ h m) W' a' ns' it' (p : Int)) 16 10 9 (p : Int)) (c := -6) (by decide) (by decide))]
                exact ⟨W', a', ns', it', rfl⟩)
            obtain ⟨W', LX⟩ := At_ex LX
            obtain ⟨a', LX⟩ := At_ex LX
            obtain ⟨ns', LX⟩ := At_ex LX
            obtain ⟨it', LX⟩ := At_ex LX
            exact ⟨W', a', ns', it', LX⟩
          obtain ⟨W', a', ns', it', key⟩ := key
          refine ⟨W', a', ns', it', ?_⟩
          rw [cr_99]
          simp only [r99_0, r99_1, r99_2, r99_5, r99_6, r99_7, r99_8, r99_11, r99_12, r99_13, r99_16, r99_16n, r99_16s, r99_17, r99_17n, r99_20, r99_21, r99_22, r99_25, r99_26, r99_27, r99_30, r99_31, r99_34, r99_37, r99_38, r99_41, r99_41n, r99_41s, r99_42, r99_43, r99_46, r99_49, r99_50, reduceIte, Option.some.injEq, and_assoc, exists_and_left, exists_eq_left, exists_eq_left', true_and, and_true, List.length_cons, List.length_nil, Nat.reduceAdd, Nat.reduceLeDiff, Sum.inl.injEq, az_0, az_1, az_2, az_3, az_4, az_5, az_6, az_8, az_11, az_14, az_15, az_17, az_20, az_21, az_22, az_23, az_24, az_25, az_26, az_28, az_29, az_30, az_31, az_32, az_33, az_34, az_35, az_36, ak_0, ak_1, ak_2, ak_3, ak_4, ak_5, ak_6, ak_8, ak_11, ak_14, ak_15, ak_17, ak_20, ak_21, ak_22, ak_23, ak_24, ak_25, ak_26, ak_28, ak_29, ak_30, ak_31, ak_32, ak_33, ak_34, ak_35, ak_36, ak_37, eq_self, Int.toNat_natCast, Nat.zero_le, bI_0, b01_0, bI_or, b01_or, ne_eq, reduceCtorEq, not_false_eq_true, Nat.reduceEqDiff, if_true, if_false, ite_true, ite_false, Int.natCast_nonneg, not_true_eq_false, Bool.true_eq_false, Bool.false_eq_true, Int.reduceEq, Int.reduceLT, Int.reduceLE, Int.reduceToNat, and_self, inA, exists_eq, or_true, true_or, or_false, false_or, and_false, false_and, or_self, Nat.reduceLT, CallR_iff (sx_noRow (Int.natCast_nonneg m) h8), CallR_iff (sx_shelf (Int.natCast_nonneg m) h8), ec, h0, CallR_iff sx_bec, CallR_iff sr_open]
          exact key
        obtain ⟨W', a', ns', it', hX⟩ := hX
        generalize hh1 : fup (up3 (rdH (opB_ h m) W' a' ns' it' (p : Int)) 16 10 9 (p : Int)) 16 (noV (up3 (rdH (opB_ h m) W' a' ns' it' (p : Int)) 16 10 9 (p : Int) 16) (-6)) = h1 at *
        have e17 : h1 17 = h 17 := by rw [← hh1]; rfl
        have hM : ∃ U' : VS, LFR U0 U' ∧ WF U' ∧ CallR (d + 30) 181 [vR 17 27, vI m] h1 (some (vI (-6))) (fup h1 17 (setRV (h 17) (noV (agV (fup U' 7 (fup (U' 7) 20 (p : Int))) (U' 14)) (-6)))) := by
          have LM := lm_law (d := d + 19) (h := fup h1 17 (setRV (h 17) U0)) (s := m) (g := g) 200 U0 0 0 OM hwU (by rw [hU0]; rfl) (by rw [u9]; omega) (by rw [u9]; omega) (by omega) (fun v' h2 => ∃ U' : VS, LFR U0 U' ∧ WF U' ∧ v' = some (vI (-6)) ∧ h2 = fup h1 17 (setRV (h 17) (noV (agV (fup U' 7 (fup (U' 7) 20 (p : Int))) (U' 14)) (-6))))
            (fun U' f1 f2 f3 => by rw [u9, hok] at f3; exact Bool.noConfusion f3) (fun U' z f1 f2 f3 f4 => by
              rw [u9, hp] at f4
              have sa := sm_again (d := d + 28) (k := 14) (h := fup h1 17 (setRV (h 17) (fup U' 7 (fup (U' 7) 20 (p : Int))))) (by omega) (by omega) rfl rfl
              rw [fup_same, RV_set, set_set, fup_fup] at sa
              have sn := sm_no (d := d + 28) (c := -6) (h := fup h1 17 (setRV (h 17) (agV (fup U' 7 (fup (U' 7) 20 (p : Int))) (fup U' 7 (fup (U' 7) 20 (p : Int)) 14)))) (by decide) (by decide)
              rw [fup_same, RV_set, set_set, fup_fup] at sn
              simp only [r181_99, r181_100, r181_101, r181_104, r181_107, r181_108, r181_109, r181_112, r181_115, r181_116, r181_118, r181_121, reduceIte, Option.some.injEq, and_assoc, exists_and_left, exists_eq_left, exists_eq_left', true_and, and_true, List.length_cons, List.length_nil, Nat.reduceAdd, Nat.reduceLeDiff, Sum.inl.injEq, az_0, az_1, az_2, az_3, az_4, az_5, az_6, az_8, az_11, az_14, az_15, az_17, az_20, az_21, az_22, az_23, az_24, az_25, az_26, az_28, az_29, az_30, az_31, az_32, az_33, az_34, az_35, az_36, ak_0, ak_1, ak_2, ak_3, ak_4, ak_5, ak_6, ak_8, ak_11, ak_14, ak_15, ak_17, ak_20, ak_21, ak_22, ak_23, ak_24, ak_25, ak_26, ak_28, ak_29, ak_30, ak_31, ak_32, ak_33, ak_34, ak_35, ak_36, ak_37, eq_self, Int.toNat_natCast, Nat.zero_le, bI_0, b01_0, bI_or, b01_or, ne_eq, reduceCtorEq, not_false_eq_true, Nat.reduceEqDiff, if_true, if_false, ite_true, ite_false, Int.natCast_nonneg, not_true_eq_false, Bool.true_eq_false, Bool.false_eq_true, Int.reduceEq, Int.reduceLT, Int.reduceLE, Int.reduceToNat, and_self, inA, exists_eq, or_true, true_or, or_false, false_or, and_false, false_and, or_self, Nat.reduceLT, fup_same, fup_fup, set_set, up3, sV_7, fS_7, f4, CallR_iff sa, CallR_iff sn]
              exact ⟨U', f1, f2, rfl⟩)
          have key : ∃ U' : VS, LFR U0 U' ∧ WF U' ∧ At (CallR (d + 29)) ac_181 39 [vR 17 27, vI m, vI 0, vI 0, vI 1] [] (fup h1 17 (setRV (h 17) U0)) (fun v' h2 => v' = some (vI (-6)) ∧ h2 = fup h1 17 (setRV (h 17) (noV (agV (fup U' 7 (fup (U' 7) 20 (p : Int))) (U' 14)) (-6)))) := by
            rw [fup_same, set_set, fup_fup] at LM
            obtain ⟨U', LM⟩ := At_ex LM
            obtain ⟨f1, LM⟩ := At_pr LM
            obtain ⟨f2, LM⟩ := At_pr LM
            exact ⟨U', f1, f2, LM⟩
          obtain ⟨U', f1, f2, key⟩ := key
          refine ⟨U', f1, f2, ?_⟩
          have e27 : RV (h 17) 7 = h 17 27 := rfl
          have h0' : noRowC (RV (h1 17) 8 m) = 0 := by rw [e17]; exact h0
          rw [hU0, e27] at key
          rw [cr_181]
          simp only [r181_0, r181_1, r181_2, r181_5, r181_6, r181_7, r181_10, r181_11, r181_12, r181_15, r181_16, r181_17, r181_18, r181_21, r181_24, r181_25, r181_26, r181_29, r181_30, r181_31, r181_34, r181_35, r181_36, r181_37, reduceIte, Option.some.injEq, and_assoc, exists_and_left, exists_eq_left, exists_eq_left', true_and, and_true, List.length_cons, List.length_nil, Nat.reduceAdd, Nat.reduceLeDiff, Sum.inl.injEq, az_0, az_1, az_2, az_3, az_4, az_5, az_6, az_8, az_11, az_14, az_15, az_17, az_20, az_21, az_22, az_23, az_24, az_25, az_26, az_28, az_29, az_30, az_31, az_32, az_33, az_34, az_35, az_36, ak_0, ak_1, ak_2, ak_3, ak_4, ak_5, ak_6, ak_8, ak_11, ak_14, ak_15, ak_17, ak_20, ak_21, ak_22, ak_23, ak_24, ak_25, ak_26, ak_28, ak_29, ak_30, ak_31, ak_32, ak_33, ak_34, ak_35, ak_36, ak_37, eq_self, Int.toNat_natCast, Nat.zero_le, bI_0, b01_0, bI_or, b01_or, ne_eq, reduceCtorEq, not_false_eq_true, Nat.reduceEqDiff, if_true, if_false, ite_true, ite_false, Int.natCast_nonneg, not_true_eq_false, Bool.true_eq_false, Bool.false_eq_true, Int.reduceEq, Int.reduceLT, Int.reduceLE, Int.reduceToNat, and_self, inA, exists_eq, or_true, true_or, or_false, false_or, and_false, false_and, or_self, Nat.reduceLT, CallR_iff (sm_noRow (h := h1) (Int.natCast_nonneg m) h8), h0', CallR_iff (keepA h1 e17), up3, fup_same, fup_fup, sV_7, fS_7, fup_ne, e27]
          exact key
        obtain ⟨U', f1, f2, hM⟩ := hM
        refine ⟨-6, h1, _, hX, hM, ?_⟩
        have a14 : U' 14 = U0 14 := f1.1 14 (by omega) (by omega)
        have w20 : WF (fup U' 7 (fup (U' 7) 20 (p : Int))) := f2
        have EA : EV (agV (fup U' 7 (fup (U' 7) 20 (p : Int))) (U' 14)) (RV (h 17)) := ag_EV w20 hw (fun j hj => by
          rw [a14, hU0]
          show rowN (keepF (RV (h 17))) (RV (h 17) 14) 61 j = _
          unfold rowN
          rw [if_pos hj])
        have k8 := fun k (hk : 8 ≤ k) (hk2 : k ≤ 13) => show agV (fup U' 7 (fup (U' 7) 20 (p : Int))) (U' 14) k = RV (h 17) k by
          rw [agV_k _ _ hk, fup_ne _ _ (by omega), f1.1 k hk (by omega), hU0, fup_ne _ _ (by omega), fup_ne _ _ (by omega)]
        have k7 := fun k (hk : 21 ≤ k) (hk2 : k ≤ 22) => show agV (fup U' 7 (fup (U' 7) 20 (p : Int))) (U' 14) 7 k = RV (h 17) 7 k by
          rw [agV_7 _ _ (by omega), fup_same, fup_ne _ _ (by omega), f1.2 k (by omega) (by omega), hU0, fup_same, fup_ne _ _ (by omega), fup_ne _ _ (by omega)]
        have hc := (R.2.law (V0' := h 0) (X' := up3 (rdH (opB_ h m) W' a' ns' it' (p : Int)) 16 10 9 (p : Int) 16) (EA.sy.wf hw) (E.tr EA.sy) rfl rfl rfl rfl (by
          show _ = agV (fup U' 7 (fup (U' 7) 20 (p : Int))) (U' 14) 7 20
          rw [agV_7 _ _ (by omega), fup_same, fup_same]
          unfold up3
          rw [fup_same, fup_same, fup_same]) k8 (k7 21 (by omega) (by omega)) (k7 22 (by omega) (by omega)) (by rw [EA.at7 (k := 7) (by omega) (by omega)]; exact Int.le_refl _)).no (c := -6)
        refine ⟨?_, ?_⟩
        · rw [fup_ne _ _ (by omega), ← hh1]
          exact R.1
        · rw [fup_same, RV_set, ← hh1]
          exact hc.sh (fun t ht => by
            have n16 : 8 + t ≠ 16 := by omega
            have n2 : 8 + t ≠ 2 := by omega
            rw [fup_ne _ _ (by omega), fup_ne _ _ n16]
            unfold up3 rdH opB_
            rw [fup_ne _ _ n16, fup_ne _ _ n16, fup_ne _ _ n2, fup_ne _ _ n16])
      · -- no fault
        have hokT : (lawF (RV (h 17) 9 m) g 200 (becV (h 2) (h 0)) 0 0).1 = true := by rw [cl.1]; exact hok
        obtain ⟨p, hp⟩ : ∃ p : Nat, (lawF (RV (h 17) 9 m) g 200 U0 0 0).2.1 = p := ⟨_, rfl⟩
        have hpT : (lawF (RV (h 17) 9 m) g 200 (becV (h 2) (h 0)) 0 0).2.1 = p := by rw [cl.2.1]; exact hp
        have EL := cl.2.2
        generalize hWT : (lawF (RV (h 17) 9 m) g 200 (becV (h 2) (h 0)) 0 0).2.2 = WT at *
        generalize hWU : (lawF (RV (h 17) 9 m) g 200 U0 0 0).2.2 = WU at *
        have hX : ∃ (a' ns' : Int), CallR (d + 30) 99 [vR 16 10, vI m] h (some (vI (p : Int))) (fup (up3 (rdH (opB_ h m) WT a' ns' (p : Int) (-1)) 16 10 9 (-1)) 0 (becV (h 0) WT)) := by
          have LX := lx_start (d := d + 17) (sv := (m : Int)) (ns := h 16 12 3) O hwT (fun v' h2 => ∃ (a' ns' : Int), v' = some (vI (p : Int)) ∧ h2 = fup (up3 (rdH (opB_ h m) WT a' ns' (p : Int) (-1)) 16 10 9 (-1)) 0 (becV (h 0) WT)) (fun W' a' ns' it' ft' t hF => by
            rw [eo, e9] at hF
            rcases hF with ⟨-, f2, f3, f4⟩ | ⟨f1, -⟩
            · rw [hpT] at f3
              rw [hWT] at f4
              subst f2; subst f3; subst f4
              have e910 : up3 (rdH (opB_ h m) W' a' ns' (p : Int) (-1)) 16 10 9 (-1) 16 10 9 = -1 := by unfold up3; rw [fup_same, fup_same, fup_same]
              have sb : CallR (d + 29) 40 [vR 0 7, vR 2 7] (up3 (rdH (opB_ h m) W' a' ns' (p : Int) (-1)) 16 10 9 (-1)) none (fup (up3 (rdH (opB_ h m) W' a' ns' (p : Int) (-1)) 16 10 9 (-1)) 0 (becV (h 0) W')) := sp_become (d := d + 28) (g := 0) (g' := 2) (h := up3 (rdH (opB_ h m) W' a' ns' (p : Int) (-1)) 16 10 9 (-1)) (by decide)
              have ei : fup (up3 (rdH (opB_ h m) W' a' ns' (p : Int) (-1)) 16 10 9 (-1)) 0 (becV (h 0) W') 16 12 4 = (p : Int) := rfl
              simp only [r99_83, r99_84, r99_85, r99_88, r99_91, r99_94, r99_95, r99_98, r99_99, r99_102, r99_103, r99_105, r99_108, r99_109, r99_110, r99_113, r99_114, r99_117, r99_120, r99_121, r99_124, r99_127, reduceIte, Option.some.injEq, and_assoc, exists_and_left, exists_eq_left, exists_eq_left', true_and, and_true, List.length_cons, List.length_nil, Nat.reduceAdd, Nat.reduceLeDiff, Sum.inl.injEq, az_0, az_1, az_2, az_3, az_4, az_5, az_6, az_8, az_11, az_14, az_15, az_17, az_20, az_21, az_22, az_23, az_24, az_25, az_26, az_28, az_29, az_30, az_31, az_32, az_33, az_34, az_35, az_36, ak_0, ak_1, ak_2, ak_3, ak_4, ak_5, ak_6, ak_8, ak_11, ak_14, ak_15, ak_17, ak_20, ak_21, ak_22, ak_23, ak_24, ak_25, ak_26, ak_28, ak_29, ak_30, ak_31, ak_32, ak_33, ak_34, ak_35, ak_36, ak_37, eq_self, Int.toNat_natCast, Nat.zero_le, bI_0, b01_0, bI_or, b01_or, ne_eq, reduceCtorEq, not_false_eq_true, Nat.reduceEqDiff, if_true, if_false, ite_true, ite_false, Int.natCast_nonneg, not_true_eq_false, Bool.true_eq_false, Bool.false_eq_true, Int.reduceEq, Int.reduceLT, Int.reduceLE, Int.reduceToNat, and_self, inA, exists_eq, or_true, true_or, or_false, false_or, and_false, false_and, or_self, Nat.reduceLT, rq_5, e910, CallR_iff sb, ei]
              exact ⟨a', ns', rfl⟩
            · rw [hokT] at f1; exact Bool.noConfusion f1)
          obtain ⟨a', LX⟩ := At_ex LX
          obtain ⟨ns', LX⟩ := At_ex LX
          refine ⟨a', ns', ?_⟩
          rw [cr_99]
          simp only [r99_0, r99_1, r99_2, r99_5, r99_6, r99_7, r99_8, r99_11, r99_12, r99_13, r99_16, r99_16n, r99_16s, r99_17, r99_17n, r99_20, r99_21, r99_22, r99_25, r99_26, r99_27, r99_30, r99_31, r99_34, r99_37, r99_38, r99_41, r99_41n, r99_41s, r99_42, r99_43, r99_46, r99_49, r99_50, reduceIte, Option.some.injEq, and_assoc, exists_and_left, exists_eq_left, exists_eq_left', true_and, and_true, List.length_cons, List.length_nil, Nat.reduceAdd, Nat.reduceLeDiff, Sum.inl.injEq, az_0, az_1, az_2, az_3, az_4, az_5, az_6, az_8, az_11, az_14, az_15, az_17, az_20, az_21, az_22, az_23, az_24, az_25, az_26, az_28, az_29, az_30, az_31, az_32, az_33, az_34, az_35, az_36, ak_0, ak_1, ak_2, ak_3, ak_4, ak_5, ak_6, ak_8, ak_11, ak_14, ak_15, ak_17, ak_20, ak_21, ak_22, ak_23, ak_24, ak_25, ak_26, ak_28, ak_29, ak_30, ak_31, ak_32, ak_33, ak_34, ak_35, ak_36, ak_37, eq_self, Int.toNat_natCast, Nat.zero_le, bI_0, b01_0, bI_or, b01_or, ne_eq, reduceCtorEq, not_false_eq_true, Nat.reduceEqDiff, if_true, if_false, ite_true, ite_false, Int.natCast_nonneg, not_true_eq_false, Bool.true_eq_false, Bool.false_eq_true, Int.reduceEq, Int.reduceLT, Int.reduceLE, Int.reduceToNat, and_self, inA, exists_eq, or_true, true_or, or_false, false_or, and_false, false_and, or_self, Nat.reduceLT, CallR_iff (sx_noRow (Int.natCast_nonneg m) h8), CallR_iff (sx_shelf (Int.natCast_nonneg m) h8), ec, h0, CallR_iff sx_bec, CallR_iff sr_open]
          exact LX
        obtain ⟨a', ns', hX⟩ := hX
        generalize hh1 : fup (up3 (rdH (opB_ h m) WT a' ns' (p : Int) (-1)) 16 10 9 (-1)) 0 (becV (h 0) WT) = h1 at *
        have e17 : h1 17 = h 17 := by rw [← hh1]; rfl
        have hM : ∃ U' : VS, LFR U0 U' ∧ EV U' WU ∧ CallR (d + 30) 181 [vR 17 27, vI m] h1 (some (vI (p : Int))) (fup h1 17 (setRV (h 17) (fup U' 7 (fup (U' 7) 20 (-1))))) := by
          have LM := lm_law (d := d + 19) (h := fup h1 17 (setRV (h 17) U0)) (s := m) (g := g) 200 U0 0 0 OM hwU (by rw [hU0]; rfl) (by rw [u9]; omega) (by rw [u9]; omega) (by omega) (fun v' h2 => ∃ U' : VS, LFR U0 U' ∧ EV U' WU ∧ v' = some (vI (p : Int)) ∧ h2 = fup h1 17 (setRV (h 17) (fup U' 7 (fup (U' 7) 20 (-1)))))
            (fun U' f1 f2 f3 => by
              rw [u9, hWU] at f2
              rw [u9, hp, fup_same, set_set, fup_fup]
              exact ⟨U', f1, f2, rfl, rfl⟩) (fun U' z f1 f2 f3 f4 => by rw [u9, hok] at f3; exact Bool.noConfusion f3)
          rw [fup_same, set_set, fup_fup] at LM
          obtain ⟨U', LM⟩ := At_ex LM
          obtain ⟨f1, LM⟩ := At_pr LM
          obtain ⟨f2, key⟩ := At_pr LM
          refine ⟨U', f1, f2, ?_⟩
          have e27 : RV (h 17) 7 = h 17 27 := rfl
          have h0' : noRowC (RV (h1 17) 8 m) = 0 := by rw [e17]; exact h0
          rw [hU0, e27] at key
          rw [cr_181]
          simp only [r181_0, r181_1, r181_2, r181_5, r181_6, r181_7, r181_10, r181_11, r181_12, r181_15, r181_16, r181_17, r181_18, r181_21, r181_24, r181_25, r181_26, r181_29, r181_30, r181_31, r181_34, r181_35, r181_36, r181_37, reduceIte, Option.some.injEq, and_assoc, exists_and_left, exists_eq_left, exists_eq_left', true_and, and_true, List.length_cons, List.length_nil, Nat.reduceAdd, Nat.reduceLeDiff, Sum.inl.injEq, az_0, az_1, az_2, az_3, az_4, az_5, az_6, az_8, az_11, az_14, az_15, az_17, az_20, az_21, az_22, az_23, az_24, az_25, az_26, az_28, az_29, az_30, az_31, az_32, az_33, az_34, az_35, az_36, ak_0, ak_1, ak_2, ak_3, ak_4, ak_5, ak_6, ak_8, ak_11, ak_14, ak_15, ak_17, ak_20, ak_21, ak_22, ak_23, ak_24, ak_25, ak_26, ak_28, ak_29, ak_30, ak_31, ak_32, ak_33, ak_34, ak_35, ak_36, ak_37, eq_self, Int.toNat_natCast, Nat.zero_le, bI_0, b01_0, bI_or, b01_or, ne_eq, reduceCtorEq, not_false_eq_true, Nat.reduceEqDiff, if_true, if_false, ite_true, ite_false, Int.natCast_nonneg, not_true_eq_false, Bool.true_eq_false, Bool.false_eq_true, Int.reduceEq, Int.reduceLT, Int.reduceLE, Int.reduceToNat, and_self, inA, exists_eq, or_true, true_or, or_false, false_or, and_false, false_and, or_self, Nat.reduceLT, CallR_iff (sm_noRow (h := h1) (Int.natCast_nonneg m) h8), h0', CallR_iff (keepA h1 e17), up3, fup_same, fup_fup, sV_7, fS_7, fup_ne, e27]
          exact key
        obtain ⟨U', f1, f2, hM⟩ := hM
        refine ⟨(p : Int), h1, _, hX, hM, ?_⟩
        have ER : EV (fup U' 7 (fup (U' 7) 20 (-1))) WU := f2
        have k8 := fun k (hk : 8 ≤ k) (hk2 : k ≤ 13) => show fup U' 7 (fup (U' 7) 20 (-1)) k = RV (h 17) k by
          rw [fup_ne _ _ (by omega), f1.1 k hk (by omega), hU0, fup_ne _ _ (by omega), fup_ne _ _ (by omega)]
        have k7 := fun k (hk : 21 ≤ k) (hk2 : k ≤ 22) => show fup U' 7 (fup (U' 7) 20 (-1)) 7 k = RV (h 17) 7 k by
          rw [fup_same, fup_ne _ _ (by omega), f1.2 k (by omega) (by omega), hU0, fup_same, fup_ne _ _ (by omega), fup_ne _ _ (by omega)]
        have hc := R.2.law (V0' := becV (h 0) WT) (X' := up3 (rdH (opB_ h m) WT a' ns' (p : Int) (-1)) 16 10 9 (-1) 16) (ER.sy.wf hwL) (((EV.bec _ _).tr EL).tr ER.sy) rfl rfl rfl rfl (by
          show _ = fup U' 7 (fup (U' 7) 20 (-1)) 7 20
          rw [fup_same, fup_same]
          unfold up3
          rw [fup_same, fup_same, fup_same]) k8 (k7 21 (by omega) (by omega)) (k7 22 (by omega) (by omega)) (by
          rw [ER.at7 (k := 7) (by omega) (by omega), ← EU.at7 (k := 7) (by omega) (by omega)]
          exact h77)
        refine ⟨?_, ?_⟩
        · rw [fup_ne _ _ (by omega), ← hh1]
          exact R.1
        · rw [fup_same, RV_set, ← hh1]
          exact hc.sh (fun t ht => by
            have n16 : 8 + t ≠ 16 := by omega
            have n2 : 8 + t ≠ 2 := by omega
            have n0 : 8 + t ≠ 0 := by omega
            rw [fup_ne _ _ (by omega), fup_ne _ _ n0]
            unfold up3 rdH opB_
            rw [fup_ne _ _ n16, fup_ne _ _ n16, fup_ne _ _ n2, fup_ne _ _ n16])
    · have hcc := R.rowNo hm
      generalize hq : noRowC (RV (h 17) 8 m) = q at *
      have q1 : q < 0 := by omega
      refine R.refused (c := q) (x := q) ?_ (fun h1 e => ?_)
      · (rw [cr_99]; simp only [r99_0, r99_1, r99_2, r99_5, r99_6, r99_7, r99_8, r99_11, r99_12, r99_13, r99_16, r99_16n, r99_16s, r99_17, r99_17n, r99_20, r99_21, r99_22, r99_25, r99_26, r99_27, r99_30, r99_31, r99_34, r99_37, r99_38, r99_41, r99_41n, r99_41s, r99_42, r99_43, r99_46, r99_49, r99_50, CallR_iff (sx_noRow (Int.natCast_nonneg m) h8), CallR_iff (sx_shelf (Int.natCast_nonneg m) h8), ec, hq, h0, CallR_iff (sx_refuse (c := q) (by omega) (by omega)), reduceIte, Option.some.injEq, and_assoc, exists_and_left, exists_eq_left, exists_eq_left', true_and, and_true, List.length_cons, List.length_nil, Nat.reduceAdd, Nat.reduceLeDiff, Sum.inl.injEq, az_0, az_1, az_2, az_3, az_4, az_5, az_6, az_8, az_11, az_14, az_15, az_17, az_20, az_21, az_22, az_23, az_24, az_25, az_26, az_28, az_29, az_30, az_31, az_32, az_33, az_34, az_35, az_36, ak_0, ak_1, ak_2, ak_3, ak_4, ak_5, ak_6, ak_8, ak_11, ak_14, ak_15, ak_17, ak_20, ak_21, ak_22, ak_23, ak_24, ak_25, ak_26, ak_28, ak_29, ak_30, ak_31, ak_32, ak_33, ak_34, ak_35, ak_36, ak_37, eq_self, Int.toNat_natCast, Nat.zero_le, bI_0, b01_0, bI_or, b01_or, ne_eq, reduceCtorEq, not_false_eq_true, Nat.reduceEqDiff, if_true, if_false, ite_true, ite_false, Int.natCast_nonneg, not_true_eq_false, Bool.true_eq_false, Bool.false_eq_true, Int.reduceEq, Int.reduceLT, Int.reduceLE, Int.reduceToNat, and_self, inA, exists_eq, or_true, true_or, or_false, false_or, and_false, false_and, or_self, Nat.reduceLT])
      · rw [← e] at hq
        (rw [cr_181]; simp only [r181_0, r181_1, r181_2, r181_5, r181_6, r181_7, r181_10, r181_11, r181_12, r181_15, r181_16, r181_17, r181_18, r181_21, r181_24, r181_25, r181_26, r181_29, r181_30, r181_31, r181_34, r181_35, r181_36, r181_37, CallR_iff (sm_noRow (Int.natCast_nonneg m) h8), hq, q1, CallR_iff (sm_no (c := q) (by omega) (by omega)), reduceIte, Option.some.injEq, and_assoc, exists_and_left, exists_eq_left, exists_eq_left', true_and, and_true, List.length_cons, List.length_nil, Nat.reduceAdd, Nat.reduceLeDiff, Sum.inl.injEq, az_0, az_1, az_2, az_3, az_4, az_5, az_6, az_8, az_11, az_14, az_15, az_17, az_20, az_21, az_22, az_23, az_24, az_25, az_26, az_28, az_29, az_30, az_31, az_32, az_33, az_34, az_35, az_36, ak_0, ak_1, ak_2, ak_3, ak_4, ak_5, ak_6, ak_8, ak_11, ak_14, ak_15, ak_17, ak_20, ak_21, ak_22, ak_23, ak_24, ak_25, ak_26, ak_28, ak_29, ak_30, ak_31, ak_32, ak_33, ak_34, ak_35, ak_36, ak_37, eq_self, Int.toNat_natCast, Nat.zero_le, bI_0, b01_0, bI_or, b01_or, ne_eq, reduceCtorEq, not_false_eq_true, Nat.reduceEqDiff, if_true, if_false, ite_true, ite_false, Int.natCast_nonneg, not_true_eq_false, Bool.true_eq_false, Bool.false_eq_true, Int.reduceEq, Int.reduceLT, Int.reduceLE, Int.reduceToNat, and_self, inA, exists_eq, or_true, true_or, or_false, false_or, and_false, false_and, or_self, Nat.reduceLT])
  · refine R.refused (c := -1) (x := -1) ?_ (fun h1 e => ?_)
    · (rw [cr_99]; simp only [r99_0, r99_1, r99_2, r99_5, r99_6, r99_7, r99_8, r99_11, r99_12, r99_13, r99_16, r99_16n, r99_16s, r99_17, r99_17n, r99_20, r99_21, r99_22, r99_25, r99_26, r99_27, r99_30, r99_31, r99_34, r99_37, r99_38, r99_41, r99_41n, r99_41s, r99_42, r99_43, r99_46, r99_49, r99_50, CallR_iff (sx_noRowN hs), CallR_iff (sx_shelfN hs), CallR_iff (sx_refuse (c := -1) (by decide) (by decide)), reduceIte, Option.some.injEq, and_assoc, exists_and_left, exists_eq_left, exists_eq_left', true_and, and_true, List.length_cons, List.length_nil, Nat.reduceAdd, Nat.reduceLeDiff, Sum.inl.injEq, az_0, az_1, az_2, az_3, az_4, az_5, az_6, az_8, az_11, az_14, az_15, az_17, az_20, az_21, az_22, az_23, az_24, az_25, az_26, az_28, az_29, az_30, az_31, az_32, az_33, az_34, az_35, az_36, ak_0, ak_1, ak_2, ak_3, ak_4, ak_5, ak_6, ak_8, ak_11, ak_14, ak_15, ak_17, ak_20, ak_21, ak_22, ak_23, ak_24, ak_25, ak_26, ak_28, ak_29, ak_30, ak_31, ak_32, ak_33, ak_34, ak_35, ak_36, ak_37, eq_self, Int.toNat_natCast, Nat.zero_le, bI_0, b01_0, bI_or, b01_or, ne_eq, reduceCtorEq, not_false_eq_true, Nat.reduceEqDiff, if_true, if_false, ite_true, ite_false, Int.natCast_nonneg, not_true_eq_false, Bool.true_eq_false, Bool.false_eq_true, Int.reduceEq, Int.reduceLT, Int.reduceLE, Int.reduceToNat, and_self, inA, exists_eq, or_true, true_or, or_false, false_or, and_false, false_and, or_self, Nat.reduceLT])
    · (rw [cr_181]; simp only [r181_0, r181_1, r181_2, r181_5, r181_6, r181_7, r181_10, r181_11, r181_12, r181_15, r181_16, r181_17, r181_18, r181_21, r181_24, r181_25, r181_26, r181_29, r181_30, r181_31, r181_34, r181_35, r181_36, r181_37, CallR_iff (sm_noRowN hs), CallR_iff (sm_no (c := -1) (by decide) (by decide)), reduceIte, Option.some.injEq, and_assoc, exists_and_left, exists_eq_left, exists_eq_left', true_and, and_true, List.length_cons, List.length_nil, Nat.reduceAdd, Nat.reduceLeDiff, Sum.inl.injEq, az_0, az_1, az_2, az_3, az_4, az_5, az_6, az_8, az_11, az_14, az_15, az_17, az_20, az_21, az_22, az_23, az_24, az_25, az_26, az_28, az_29, az_30, az_31, az_32, az_33, az_34, az_35, az_36, ak_0, ak_1, ak_2, ak_3, ak_4, ak_5, ak_6, ak_8, ak_11, ak_14, ak_15, ak_17, ak_20, ak_21, ak_22, ak_23, ak_24, ak_25, ak_26, ak_28, ak_29, ak_30, ak_31, ak_32, ak_33, ak_34, ak_35, ak_36, ak_37, eq_self, Int.toNat_natCast, Nat.zero_le, bI_0, b01_0, bI_or, b01_or, ne_eq, reduceCtorEq, not_false_eq_true, Nat.reduceEqDiff, if_true, if_false, ite_true, ite_false, Int.natCast_nonneg, not_true_eq_false, Bool.true_eq_false, Bool.false_eq_true, Int.reduceEq, Int.reduceLT, Int.reduceLE, Int.reduceToNat, and_self, inA, exists_eq, or_true, true_or, or_false, false_or, and_false, false_and, or_self, Nat.reduceLT])
