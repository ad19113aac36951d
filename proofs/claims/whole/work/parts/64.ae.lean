/-! PURE: what no call touches: the law's own numbers -/
def NA : AV → Prop
  | .inr (.inr (.inl y)) => y.1 ≠ 18
  | _ => True
def OKL : List AV → Prop
  | [] => True
  | a :: l => NA a ∧ OKL l
def OKV : Option AV → Prop
  | none => True
  | some a => NA a
theorem OKL_get : ∀ {L : List AV} {i : Nat} {a : AV}, OKL L → L[i]? = some a → NA a
  | [], _, _, _, e => by simp at e
  | b :: L, 0, a, h, e => by
    simp only [List.getElem?_cons_zero, Option.some.injEq] at e
    subst e
    exact h.1
  | b :: L, i + 1, a, h, e => by
    simp only [List.getElem?_cons_succ] at e
    exact OKL_get h.2 e
theorem OKL_set : ∀ {L : List AV} {i : Nat} {a : AV}, OKL L → NA a → OKL (L.set i a)
  | [], _, _, h, _ => h
  | b :: L, 0, a, h, e => ⟨e, h.2⟩
  | b :: L, i + 1, a, h, e => ⟨h.1, OKL_set h.2 e⟩
theorem OKL_drop : ∀ {L : List AV} (n : Nat), OKL L → OKL (L.drop n)
  | [], n, h => by simp [OKL]
  | b :: L, 0, h => h
  | b :: L, n + 1, h => OKL_drop n h.2
theorem OKL_take : ∀ {L : List AV} (n : Nat), OKL L → OKL (L.take n)
  | [], n, h => by simp [OKL]
  | b :: L, 0, h => trivial
  | b :: L, n + 1, h => ⟨h.1, OKL_take n h.2⟩
theorem OKL_app : ∀ {L M : List AV}, OKL L → OKL M → OKL (L ++ M)
  | [], _, _, m => m
  | _ :: _, _, h, m => ⟨h.1, OKL_app h.2 m⟩
theorem OKL_rev : ∀ {L : List AV}, OKL L → OKL L.reverse
  | [], h => h
  | b :: L, h => by
    rw [List.reverse_cons]
    exact OKL_app (OKL_rev h.2) ⟨h.1, trivial⟩
theorem up3_18 {h : AH} {g m k : Nat} {x : Int} (hg : g ≠ 18) : up3 h g m k x 18 = h 18 := fup_ne _ _ (fun e => hg e.symm)
theorem acopy_18 {h : AH} {g m g' m' a b n : Nat} (hg : g' ≠ 18) : acopy h g m g' m' a b n 18 = h 18 := fup_ne _ _ (fun e => hg e.symm)
def P18 (h : AH) : AOut → Prop
  | none => True
  | some (.inl (_, L', st', h')) => OKL L' ∧ OKL st' ∧ h' 18 = h 18
  | some (.inr (.inl (v, h'))) => h' 18 = h 18 ∧ OKV v
  | some (.inr (.inr (_, as, _, (_, L', st', h')))) => OKL as ∧ OKL L' ∧ OKL st' ∧ h' 18 = h 18
theorem P18_n {h h' : AH} {pc : Nat} {L st : List AV} (a : OKL L) (b : OKL st) (c : h' 18 = h 18) : P18 h (nxt pc L st h') := ⟨a, b, c⟩
theorem step18 {op len : Nat} {x : Int} {l : List Int} {pc : Nat} {L st : List AV} {h : AH} (hx : op = 67 → x.toNat ≠ 18) (hL : OKL L) (hs : OKL st) : P18 h (stepR (op, len, x, l) pc L st h) := by
  unfold stepR
  dsimp only
  split
  all_goals (repeat' split)
  all_goals subst_vars
  all_goals first
    | exact trivial
    | exact P18_n hL hs rfl
    | exact P18_n hL ⟨trivial, hs⟩ rfl
    | exact P18_n hL ⟨trivial, hs.2⟩ rfl
    | exact P18_n hL ⟨trivial, hs.2.2⟩ rfl
    | exact P18_n hL hs.2 rfl
    | exact P18_n hL hs.2.2 rfl
    | exact P18_n (OKL_set hL trivial) hs.2 rfl
    | exact P18_n (OKL_set hL trivial) hs rfl
    | exact P18_n (OKL_set hL hs.1) hs.2 rfl
    | exact P18_n hL ⟨OKL_get hL (by assumption), hs⟩ rfl
    | exact P18_n hL ⟨hs.1, hs⟩ rfl
    | exact P18_n hL ⟨hs.1, hs.2⟩ rfl
    | exact P18_n hL ⟨hs.1, hs.2.1, hs⟩ rfl
    | exact P18_n hL ⟨hs.1, hs.2.1, hs.1, hs.2.2⟩ rfl
    | exact P18_n hL ⟨trivial, hs.2.1, trivial, hs⟩ rfl
    | exact P18_n hL ⟨trivial, hs.2.1, trivial, hs.2.2⟩ rfl
    | exact P18_n hL ⟨trivial, hs.2.2.2⟩ rfl
    | exact P18_n hL ⟨hx rfl, hs.2⟩ rfl
    | exact P18_n hL ⟨(by simp only [NA]; omega), hs.2⟩ rfl
    | exact P18_n hL ⟨(by simp only [NA]; omega), hs.2.2⟩ rfl
    | exact P18_n hL hs.2.2 (up3_18 hs.2.1)
    | exact P18_n hL hs.2.2.2 (up3_18 hs.2.2.1)
    | exact P18_n hL hs.2.2.2.2.2 (acopy_18 hs.2.2.1)
    | exact ⟨OKL_rev (OKL_take _ hs), hL, OKL_drop _ hs, rfl⟩
    | exact ⟨rfl, trivial⟩
    | exact ⟨rfl, hs.1⟩
    | skip
