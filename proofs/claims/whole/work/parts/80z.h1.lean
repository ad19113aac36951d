/-! the law's own code, held against the tables; the first heap's numbers -/
theorem H0_canon (L : Nat) (xs : Nat → Int32) (hL : L ≤ 3072) : Canon (H0 L xs) := by
  have k2 : ∀ x : Int, in32 x → (∀ m : Nat, if akind m = 1 then in64 x else in32 x) := by
    intro x hx m
    split
    · unfold in32 at hx; unfold in64; omega
    · exact hx
  intro g m k
  refine k2 _ ?_ m
  unfold H0
  split
  · unfold vly0; repeat' split
    all_goals (unfold in32; omega)
  split
  · unfold shf0; repeat' split
    all_goals (unfold in32; omega)
  split
  · unfold cls0; repeat' split
    all_goals (unfold in32; omega)
  split
  · unfold ref0; repeat' split
    all_goals (unfold in32; omega)
  split
  · unfold scr0; repeat' split
    · exact i32_in _
    all_goals (unfold in32; omega)
  · show in32 0
    unfold in32; omega
theorem H0_scr (b L : Nat) (xs : Nat → Int32) (hL : L ≤ 3072) : ScrH (some (b, L, xs)) (H0 L xs) := by
  intro z hz
  cases hz
  exact ⟨rfl, by show L < 2147483648; omega, fun j hj => rfl⟩
