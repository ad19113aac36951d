/-! PURE: the first heap -/
def vly0 : VS := fun m k => if m = 6 then (if k = 1 then 1 else if k = 2 then 4 else if k = 3 then 9 else 0) else if m = 7 then (if k = 14 then 7 else if k = 15 then 9 else if k = 16 then 1 else 0) else 0
def shf0 : VS := fun m k => if m = 9 ∧ k = 1 then -1 else 0
def cls0 : VS := fun m k => if (m = 10 ∧ k = 9) ∨ (m = 12 ∧ (k = 0 ∨ k = 1 ∨ k = 5)) ∨ (m = 13 ∧ (k = 3 ∨ k = 4)) then -1 else 0
def ref0 : VS := fun m k => if m = 26 then (if k = 1 then 1 else if k = 2 then 4 else if k = 3 then 9 else 0) else if m = 27 then (if k = 14 then 7 else if k = 15 then 9 else if k = 16 then 1 else if k = 20 then -1 else 0) else if m = 28 ∧ k < 8 then -1 else 0
def scr0 (L : Nat) (xs : Nat → Int32) : VS := fun m k => if m = 37 then (xs k).toInt else if m = 38 ∧ k = 0 then (L : Int) else 0
def H0 (L : Nat) (xs : Nat → Int32) : AH := fun g => if g < 8 then vly0 else if g < 16 then shf0 else if g = 16 then cls0 else if g = 17 then ref0 else if g = 18 then scr0 L xs else fun _ _ => 0
theorem H0_rel (L : Nat) (xs : Nat → Int32) : REL (scr0 L xs) (H0 L xs) := by
  refine ⟨rfl, ?_⟩
  show RLC vly0 vly0 (fun s => H0 L xs (8 + s)) cls0 (RV ref0)
  have e14 : vly0 7 14 = 7 := rfl
  have e15 : vly0 7 15 = 9 := rfl
  refine ⟨⟨⟨by decide, by decide, by decide, by decide⟩, ⟨by decide, Or.inr ⟨rfl, rfl⟩⟩, ⟨by decide, by decide⟩, ⟨by decide, by decide⟩, ⟨by decide, by decide⟩, ⟨by decide, by decide⟩, ⟨by decide, by decide⟩, fun p hp => ⟨Int.le_refl 0, (by show (0 : Int) ≤ 6; decide), Int.le_refl 0, (by show (0 : Int) ≤ 9; decide), Int.le_refl 0, (by show (0 : Int) ≤ 99; decide)⟩, fun b hb => absurd (show (b : Int) < 0 from hb) (by omega), ⟨rfl, fun c hc => ?_⟩, fun _ => rfl, fun k hk => ⟨rfl, rfl, rfl⟩, fun k hk => ⟨rfl, rfl⟩, fun k hk => ?_⟩, ⟨rfl, rfl, rfl, rfl, rfl, rfl, rfl, rfl, rfl, rfl, rfl, rfl, rfl, rfl, rfl, rfl⟩, fun s hs => ?_, ?_⟩
  · match c, hc with
    | 0, _ => exact ⟨by decide, by decide⟩
    | 1, _ => exact ⟨by decide, by decide⟩
    | 2, _ => exact ⟨by decide, by decide⟩
    | 3, _ => exact ⟨by decide, by decide⟩
  · show ref0 26 k = 0
    unfold ref0
    rw [if_pos rfl, if_neg (by omega), if_neg (by omega), if_neg (by omega)]
  · have e : H0 L xs (8 + s) = shf0 := by
      unfold H0
      rw [if_neg (by omega), if_pos (by omega)]
    show SHR (H0 L xs (8 + s)) (RV ref0) s
    rw [e]
    have r8 : RV ref0 8 s = -1 := by
      show ref0 28 s = -1
      unfold ref0
      rw [if_neg (by decide), if_neg (by decide), if_pos ⟨rfl, hs⟩]
    refine ⟨?_, Or.inl r8, fun _ => rfl, fun h => ?_⟩
    · rw [r8]; rfl
    · rw [r8] at h
      exact absurd h (by decide)
  · refine ⟨fun k hk => rfl, rfl, ⟨rfl, by decide, by decide, fun j hj hj2 => rfl⟩, rfl, Or.inl rfl, fun h => ?_⟩
    exact absurd h (by decide)
theorem scr0_SC {L : Nat} (xs : Nat → Int32) (hL : L ≤ 3072) : SC (scr0 L xs) := by
  have e : scr0 L xs 38 0 = (L : Int) := rfl
  refine ⟨?_, fun k => ?_⟩
  · rw [e]; omega
  · show -2147483648 ≤ (xs k).toInt ∧ (xs k).toInt < 2147483648
    exact ⟨Int32.le_toInt _, Int32.toInt_lt _⟩
