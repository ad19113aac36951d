/-! THE WORLD: the abstract heap, as the machine's heap has it -/
def LOCS : List (Nat × Nat) := ((List.range 8).flatMap fun g => (List.range 8).map fun m => (g, m)) ++ ((List.range 8).flatMap fun g => [(8 + g, 8), (8 + g, 9)]) ++ ((List.range 10).map fun m => (16, 10 + m)) ++ ((List.range 17).map fun m => (17, 20 + m))
theorem LOCS_nd : LOCS.Nodup := by decide +kernel
def fval (ad : Nat → Nat → Nat) (h : AH) (g m : Nat) (q : Nat × Nat) : Value := match q.1 with
  | 0 => .int (Int32.ofInt (h g m q.2))
  | 1 => .ref (ad g q.2)
  | 2 => .ref (ad (q.2 / 64) (q.2 % 64))
  | 3 => if 0 ≤ h g m q.2 ∧ h g m q.2 < 8 then .ref (ad (8 + (h g m q.2).toNat) 9) else .null
  | _ => if 0 ≤ h g m q.2 ∧ h g m q.2 < 8 then .ref (ad (h g m q.2).toNat 7) else .null
/-- the classes of the arrays, the addresses -/
abbrev AW : Type := (ClassId × ClassId × ClassId × ClassId) × (Nat → Nat → Nat)
def ent (w : AW) (h : AH) (g m : Nat) : va_E :=
  if akind m = 0 then .inl (w.1.1, alenN m, .inl (fun j => Int32.ofInt (h g m j)))
  else if akind m = 1 then .inl (w.1.2.1, alenN m, .inr (.inl (fun j => Int64.ofInt (h g m j))))
  else if m = 18 then .inl (w.1.2.2.1, 8, .inr (.inr (.inr (.inr (fun j => if j < 8 then some (w.2 (8 + j) 9) else none)))))
  else if m = 19 then .inl (w.1.2.2.2, 5, .inr (.inr (.inr (.inr (fun j => if j < 5 then some (w.2 (3 + j) 7) else none)))))
  else .inr (ocls m, (fspec m).map (fval w.2 h g m))
def wsOf (w : AW) (h : AH) : va_W := LOCS.map fun q => (w.2 q.1 q.2, ent w h q.1 q.2)
abbrev tysOf (w : AW) : List (ClassId × FieldType) := [(w.1.1, .int), (w.1.2.1, .long), (w.1.2.2.1, .object "PaidInFog$Shelf"), (w.1.2.2.2, .object "PaidInFog$Valley")]
theorem ent_congr {w : AW} {h h' : AH} {g m : Nat} (e : h' g m = h g m) : ent w h' g m = ent w h g m := by
  unfold ent
  rw [e]
  have : fval w.2 h' g m = fval w.2 h g m := by funext q; unfold fval; rw [e]
  rw [this]
theorem ws_get {w : AW} {h : AH} {g m : Nat} (hv : (g, m) ∈ LOCS) : ∃ q0 : Nat, LOCS[q0]? = some (g, m) ∧ (wsOf w h)[q0]? = some (w.2 g m, ent w h g m) := by
  obtain ⟨i, hi⟩ := List.getElem?_of_mem hv
  refine ⟨i, hi, ?_⟩
  unfold wsOf
  rw [List.getElem?_map, hi]
  rfl
theorem ws_set {w : AW} {h h' : AH} {g m q0 : Nat} {e : va_E} (hq : LOCS[q0]? = some (g, m)) (ho : ∀ g' m' : Nat, ¬ (g' = g ∧ m' = m) → h' g' m' = h g' m') (he : ent w h' g m = e) : (wsOf w h).set q0 (w.2 g m, e) = wsOf w h' := by
  apply List.ext_getElem?
  intro j
  have hl : q0 < (wsOf w h).length := by
    unfold wsOf
    rw [List.length_map]
    exact (List.getElem?_eq_some_iff.mp hq).1
  by_cases hj : j = q0
  · subst hj
    rw [List.getElem?_set_self hl]
    unfold wsOf
    rw [List.getElem?_map, hq]
    simp [he]
  · rw [List.getElem?_set_ne (Ne.symm hj)]
    unfold wsOf
    rw [List.getElem?_map, List.getElem?_map]
    cases hc : LOCS[j]? with
    | none => rfl
    | some q =>
      obtain ⟨g', m'⟩ := q
      have hne : ¬ (g' = g ∧ m' = m) := by
        rintro ⟨rfl, rfl⟩
        exact hj ((List.getElem?_inj (List.getElem?_eq_some_iff.mp hc).1 LOCS_nd).mp (hc.trans hq.symm))
      simp only [Option.map_some, Option.some.injEq, Prod.mk.injEq, true_and]
      exact (ent_congr (ho g' m' hne)).symm
def in32 (x : Int) : Prop := -2147483648 ≤ x ∧ x < 2147483648
def in64 (x : Int) : Prop := -9223372036854775808 ≤ x ∧ x < 9223372036854775808
def Canon (h : AH) : Prop := ∀ g m k : Nat, if akind m = 1 then in64 (h g m k) else in32 (h g m k)
theorem of32 {x : Int} (h : in32 x) : (Int32.ofInt x).toInt = x := by
  rw [Int32.toInt_ofInt]
  exact wr_id h.1 h.2
theorem of64 {x : Int} (h : in64 x) : (Int64.ofInt x).toInt = x := by
  rw [Int64.toInt_ofInt]
  exact wl_id h.1 h.2
theorem i32_in (y : Int32) : in32 y.toInt := ⟨Int32.le_toInt y, Int32.toInt_lt y⟩
theorem i64_in (y : Int64) : in64 y.toInt := ⟨Int64.le_toInt y, Int64.toInt_lt y⟩
theorem i32_inj {x y : Int32} (h : x.toInt = y.toInt) : x = y := Int32.toInt_inj.mp h
theorem i32_of (y : Int32) : Int32.ofInt y.toInt = y := i32_inj (of32 (i32_in y))
theorem i64_of (y : Int64) : Int64.ofInt y.toInt = y := Int64.toInt_inj.mp (of64 (i64_in y))
theorem wr_in (x : Int) : in32 (wr x) := by unfold wr in32; rw [Int.bmod_def]; omega
theorem wl_in (x : Int) : in64 (wl x) := by unfold wl in64; rw [Int.bmod_def]; omega
theorem Canon.up {h : AH} (hc : Canon h) {g m k : Nat} {x : Int} (hx : if akind m = 1 then in64 x else in32 x) : Canon (up3 h g m k x) := by
  intro g' m' k'
  unfold up3
  by_cases h1 : g' = g
  · subst h1
    rw [fup_same]
    by_cases h2 : m' = m
    · subst h2
      rw [fup_same]
      by_cases h3 : k' = k
      · subst h3; rw [fup_same]; exact hx
      · rw [fup_ne _ _ h3]; exact hc _ _ _
    · rw [fup_ne _ _ h2]; exact hc _ _ _
  · rw [fup_ne _ _ h1]; exact hc _ _ _
theorem up3_o {h : AH} {g m k : Nat} {x : Int} (g' m' : Nat) (hn : ¬ (g' = g ∧ m' = m)) : up3 h g m k x g' m' = h g' m' := by
  unfold up3
  by_cases h1 : g' = g
  · subst h1
    rw [fup_same, fup_ne _ _ (fun q => hn ⟨rfl, q⟩)]
  · rw [fup_ne _ _ h1]
theorem up3_at {h : AH} {g m k : Nat} {x : Int} : up3 h g m k x g m = fup (h g m) k x := by unfold up3; rw [fup_same, fup_same]
/-- objects -/
theorem ent_obj {w : AW} {h : AH} {g m : Nat} (hk : akind m = 2) (h1 : m ≠ 18) (h2 : m ≠ 19) : ent w h g m = .inr (ocls m, (fspec m).map (fval w.2 h g m)) := by
  unfold ent
  rw [if_neg (by omega), if_neg (by omega), if_neg h1, if_neg h2]
theorem ent_int {w : AW} {h : AH} {g m : Nat} (hk : akind m = 0) : ent w h g m = .inl (w.1.1, alenN m, .inl (fun j => Int32.ofInt (h g m j))) := by unfold ent; rw [if_pos hk]
theorem ent_lng {w : AW} {h : AH} {g m : Nat} (hk : akind m = 1) : ent w h g m = .inl (w.1.2.1, alenN m, .inr (.inl (fun j => Int64.ofInt (h g m j)))) := by unfold ent; rw [if_neg (by omega), if_pos hk]
/-- the places of an object's own numbers are apart -/
def ndj : List (Nat × Nat) → Bool
  | [] => true
  | q :: l => l.all (fun r => decide (q.1 = 1 ∨ q.1 = 2 ∨ r.1 = 1 ∨ r.1 = 2 ∨ q.2 ≠ r.2)) && ndj l
theorem fspec_nd (m : Nat) : ndj (fspec m) = true := by
  unfold fspec
  split <;> decide
theorem ndj_at : ∀ (l : List (Nat × Nat)), ndj l = true → ∀ (i j : Nat) (p q : Nat × Nat), l[i]? = some p → l[j]? = some q → i ≠ j → p.1 = 1 ∨ p.1 = 2 ∨ q.1 = 1 ∨ q.1 = 2 ∨ p.2 ≠ q.2
  | [], _, i, j, p, q, h, _, _ => by simp at h
  | r :: l, hn, i, j, p, q, h1, h2, hij => by
    simp only [ndj, Bool.and_eq_true, List.all_eq_true, decide_eq_true_eq] at hn
    cases i with
    | zero =>
      cases j with
      | zero => exact absurd rfl hij
      | succ j =>
        rw [List.getElem?_cons_zero] at h1
        rw [List.getElem?_cons_succ] at h2
        cases h1
        exact hn.1 q (List.mem_of_getElem? h2)
    | succ i =>
      rw [List.getElem?_cons_succ] at h1
      cases j with
      | zero =>
        rw [List.getElem?_cons_zero] at h2
        cases h2
        rcases hn.1 p (List.mem_of_getElem? h1) with z | z | z | z | z
        · exact Or.inr (Or.inr (Or.inl z))
        · exact Or.inr (Or.inr (Or.inr (Or.inl z)))
        · exact Or.inl z
        · exact Or.inr (Or.inl z)
        · exact Or.inr (Or.inr (Or.inr (Or.inr (Ne.symm z))))
      | succ j =>
        rw [List.getElem?_cons_succ] at h2
        exact ndj_at l hn.2 i j p q h1 h2 (fun z => hij (by rw [z]))
theorem fval_other {ad : Nat → Nat → Nat} {h h' : AH} {g m : Nat} {q : Nat × Nat} (e : q.1 = 1 ∨ q.1 = 2 ∨ h' g m q.2 = h g m q.2) : fval ad h' g m q = fval ad h g m q := by
  obtain ⟨a, b⟩ := q
  unfold fval
  rcases e with e | e | e
  · simp only at e; subst e; rfl
  · simp only at e; subst e; rfl
  · simp only at e ⊢; rw [e]
theorem fset {ad : Nat → Nat → Nat} {h : AH} {g m k j kd : Nat} {x : Int} (hs : (fspec m)[k]? = some (kd, j)) (hkd : kd ≠ 1 ∧ kd ≠ 2) : ((fspec m).map (fval ad h g m)).set k (fval ad (up3 h g m j x) g m (kd, j)) = (fspec m).map (fval ad (up3 h g m j x) g m) := by
  apply List.ext_getElem?
  intro i
  have hl : k < (fspec m).length := (List.getElem?_eq_some_iff.mp hs).1
  by_cases hi : i = k
  · subst hi
    rw [List.getElem?_set_self (by rw [List.length_map]; exact hl), List.getElem?_map, hs]
    rfl
  · rw [List.getElem?_set_ne (Ne.symm hi), List.getElem?_map, List.getElem?_map]
    cases hc : (fspec m)[i]? with
    | none => rfl
    | some q =>
      simp only [Option.map_some, Option.some.injEq]
      refine (fval_other ?_).symm
      rcases ndj_at _ (fspec_nd m) i k q (kd, j) hc hs hi with z | z | z | z | z
      · exact Or.inl z
      · exact Or.inr (Or.inl z)
      · exact absurd z hkd.1
      · exact absurd z hkd.2
      · refine Or.inr (Or.inr ?_)
        rw [up3_at, fup_ne _ _ z]
