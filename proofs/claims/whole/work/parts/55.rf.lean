/-! PURE: the reference's items -/
def LFR (U U' : VS) : Prop := (∀ m, 8 ≤ m → m ≠ 16 → U' m = U m) ∧ (∀ k, 17 ≤ k → k ≠ 24 → U' 7 k = U 7 k)
theorem LFR.rf (U : VS) : LFR U U := ⟨fun _ _ _ => rfl, fun _ _ _ => rfl⟩
theorem LFR.tr {U V W : VS} (a : LFR U V) (b : LFR V W) : LFR U W := ⟨fun m h h' => (b.1 m h h').trans (a.1 m h h'), fun k h h' => (b.2 k h h').trans (a.2 k h h')⟩
theorem LFR.f {U V : VS} (a : FRM U V) : LFR U V := ⟨fun m h _ => a.1 m h, fun k h _ => a.2 k h⟩
theorem LFR.st (U : VS) (x : Int) (r : Nat → Int) : LFR U (stU U x r) := by
  refine ⟨fun m h h' => ?_, fun k h h' => ?_⟩
  · unfold stU; rw [fup_ne _ _ h', fup_ne _ _ (by omega)]
  · show fup (U 7) 24 x k = U 7 k
    exact fup_ne _ _ h'
def IRES (h : AH) (U : VS) (res : Bool × Nat × VS) (h' : AH) : Prop := ∃ U', h' = fup h 17 (setRV (h 17) U') ∧ U' 7 24 = (res.2.1 : Int) ∧ LFR U U' ∧ EV U' res.2.2
theorem it_fin {h : AH} {U V' : VS} {x : Nat} {r : Nat → Int} {res : Bool × Nat × VS} (F : FRM (stU U (x : Int) r) V') (E : EV V' res.2.2) (ex : res.2.1 = x) : IRES h U res (fup h 17 (setRV (h 17) V')) := ⟨V', rfl, by rw [F.2 24 (by omega), ex]; rfl, (LFR.st U _ r).tr (LFR.f F), E⟩
theorem it_bad {h : AH} {U : VS} {x : Nat} {r : Nat → Int} {b : Bool} : IRES h U (b, x, U) (MH h U (x : Int) r) := it_fin (r := r) (FRM.rf _) (stU_EV _ _ _) rfl
section MI
variable {h : AH} {U : VS} {s : Nat} {g : Nat → Int} {r : Nat → Int} {i : Nat}
theorem mh_set {x : Int} {V : VS} : fup (MH h U x r) 17 (setRV (MH h U x r 17) V) = fup h 17 (setRV (h 17) V) := by unfold MH; rw [fup_same, set_set, fup_fup]
theorem mh_u7 {x y : Int} {k : Nat} : up3 (MH h U x r) 17 27 k y = fup h 17 (setRV (h 17) (fup (stU U x r) 7 (fup (stU U x r 7) k y))) := by
  unfold MH up3
  rw [fup_same, fup_fup, sV_7, fS_7]
theorem mh_u6 {x y : Int} {k : Nat} : up3 (MH h U x r) 17 26 k y = fup h 17 (setRV (h 17) (fup (stU U x r) 6 (fup (stU U x r 6) k y))) := by
  unfold MH up3
  rw [fup_same, fup_fup, sV_6, fS_6]
theorem mh_u2 {x y : Int} {k : Nat} : up3 (MH h U x r) 17 22 k y = fup h 17 (setRV (h 17) (fup (stU U x r) 2 (fup (stU U x r 2) k y))) := by
  unfold MH up3
  rw [fup_same, fup_fup, sV_2, fS_2]
theorem mm_num {d t : Nat} {lo hi : Int} (O : MDO U s g) (ht : t < 3) (hi2 : i < 180) : ((nrS g i lo hi).1 = true ∧ CallR (d + 3) 178 [vR 17 27, vI t, vI lo, vI hi] (MH h U (i : Int) r) (some (vI 1)) (MH h U ((nrS g i lo hi).2.1 : Int) (fup r t (nrS g i lo hi).2.2))) ∨ ((nrS g i lo hi).1 = false ∧ ∃ r', CallR (d + 3) 178 [vR 17 27, vI t, vI lo, vI hi] (MH h U (i : Int) r) (some (vI 0)) (MH h U ((nrS g i lo hi).2.1 : Int) r')) := by
  obtain ⟨r', hc, hn⟩ := sm_number (d := d) (h := h) (r := r) (lo := lo) (hi := hi) O ht hi2
  cases e : (nrS g i lo hi).1
  · rw [e] at hc
    exact Or.inr ⟨rfl, r', hc⟩
  · rw [e, hn e] at hc
    exact Or.inl ⟨rfl, hc⟩
theorem nr_in' (O : MDO U s g) {lo hi : Int} (e : (nrS g i lo hi).1 = true) : ((nrS g i lo hi).2.1 : Int) ≤ U 9 s := by
  have gz := fun (k : Nat) (q : 0 < g k) => show (k : Int) < U 9 s by
    by_cases p : (k : Int) < U 9 s
    · exact p
    · have := O.2.2.2.2 k; rw [if_neg p] at this; omega
  unfold nrS at e ⊢
  split at e
  · next q0 =>
    rw [if_pos q0]
    split at e
    · next q1 =>
      rw [if_pos q1]
      split at e
      · next q2 =>
        rw [if_pos q2]
        split at e
        · next q3 => rw [if_pos q3]; have := gz (i + 2) (by omega); show ((i + 3 : Nat) : Int) ≤ _; omega
        · exact Bool.noConfusion e
      · next q2 =>
        rw [if_neg q2]
        split at e
        · next q3 => rw [if_pos q3]; have := gz (i + 1) (by omega); show ((i + 2 : Nat) : Int) ≤ _; omega
        · exact Bool.noConfusion e
    · exact Bool.noConfusion e
  · exact Bool.noConfusion e
theorem mt_in' (O : MDO U s g) : ∀ (w : List Int) (i : Nat), (∀ c ∈ w, c ≠ 0) → 0 < mtF g w i → ((i + mtF g w i : Nat) : Int) ≤ U 9 s
  | [], _, _, q => absurd q (by unfold mtF; omega)
  | c :: w, i, hc, q => by
    unfold mtF at q ⊢
    split at q
    · next e =>
      rw [if_pos e]
      have hin : (i : Int) < U 9 s := by
        by_cases p : (i : Int) < U 9 s
        · exact p
        · have := O.2.2.2.2 i
          rw [if_neg p] at this
          rw [this] at e
          exact absurd e.symm (hc c (by simp))
      by_cases z : mtF g w (i + 1) = 0
      · rw [z]; omega
      · have := mt_in' O w (i + 1) (fun c' h' => hc c' (by simp [h'])) (by omega)
        omega
    · omega
theorem fr0 (v0 : Int) : fup r 0 v0 0 = v0 := fup_same _ _ _
theorem fr1 (v0 v1 : Int) : fup (fup r 0 v0) 1 v1 0 = v0 := by rw [fup_ne _ _ (by decide), fup_same]
theorem fr2 (v0 v1 v2 : Int) : fup (fup (fup r 0 v0) 1 v1) 2 v2 0 = v0 := by rw [fup_ne _ _ (by decide), fup_ne _ _ (by decide), fup_same]
theorem fr3 (v0 v1 v2 : Int) : fup (fup (fup r 0 v0) 1 v1) 2 v2 1 = v1 := by rw [fup_ne _ _ (by decide), fup_same]
theorem it_un (V : VS) {k j : Nat} (es : selF g i = k) (hk : k < 10) (hlt : ¬ mtF g (wdL k) i < (wdL k).length) (ej : i + (wdL k).length = j) : ∀ k', k = k' → itS g V i = (if k' = 0 then
      if V 7 7 < 8 then
        let a := nrS g j 0 6
        if a.1 then let b := nrS g a.2.1 0 9
                    if b.1 then let c := nrS g b.2.1 0 99
                                if c.1 then (true, c.2.1, addPlV V a.2.2 b.2.2 c.2.2) else (false, c.2.1, V)
                    else (false, b.2.1, V)
        else (false, a.2.1, V)
      else (false, i, V)
    else if k' = 4 then let a := nrS g j 0 18
                              if a.1 then (true, a.2.1, fup V 7 (fup (V 7) 14 a.2.2)) else (false, a.2.1, V)
    else if k' = 5 then let a := nrS g j 0 23
                              if a.1 then (true, a.2.1, tdV V a.2.2) else (false, a.2.1, V)
    else if k' = 6 then let a := nrS g j 1 3
                              if a.1 then let b := nrS g a.2.1 0 99
                                          if b.1 then (true, b.2.1, setPriceV V a.2.2 b.2.2) else (false, b.2.1, V)
                              else (false, a.2.1, V)
    else if k' = 7 then let a := nrS g j 0 (V 7 7 - 1)
                              if a.1 then let b := nrS g a.2.1 0 99
                                          if b.1 then (true, b.2.1, setFogV V a.2.2 b.2.2) else (false, b.2.1, V)
                              else (false, a.2.1, V)
    else if k' = 8 then
      if freeV V = -1 then (false, i, V)
      else let a := nrS g j 0 (V 7 7 - 1)
           if a.1 then let b := nrS g a.2.1 1 99
                       if b.1 then (true, b.2.1, fillV V a.2.2 b.2.2) else (false, b.2.1, V)
           else (false, a.2.1, V)
    else if k' = 9 then let a := nrS g j 0 6
                              if a.1 then if mayV V a.2.2 then (true, a.2.1, passV V a.2.2) else (false, j + 1, V)
                              else (false, a.2.1, V)
    else (true, j, wdV V ((k' : Nat) - 2))) := by
  intro k' ek
  subst ek
  unfold itS
  rw [es, if_neg (show ¬ k = 10 by omega), if_neg hlt]
  simp only [ej]
theorem it_part (V : VS) {k : Nat} (es : selF g i = k) (hk : k < 10) (hlt : mtF g (wdL k) i < (wdL k).length) : itS g V i = (false, i + mtF g (wdL k) i, V) := by
  unfold itS
  rw [es, if_neg (show ¬ k = 10 by omega), if_pos hlt]
theorem it_10 (V : VS) (es : selF g i = 10) : itS g V i = (false, i, V) := by
  unfold itS
  rw [if_pos es]
end MI
