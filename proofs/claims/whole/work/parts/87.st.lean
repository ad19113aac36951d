/-! THE START: the JDK's texts, the classes (laid by mk86.py) -/
def stT (i : Nat) : Jvm.Term := .string "PaidInFog$LawReader" ([87, 89, 91, 93, 95, 96, 97, 99, 101, 103].getD i 0)
abbrev stF : List Jvm.Cond := flatC (Jvm.Cond.and given_1 narrow_1)
def stA (i : Nat) (q : Jvm.Cond) : Bool := decide (stF[i]? = some q)
theorem stA_in {i : Nat} {q : Jvm.Cond} (h : stA i q = true) : q ∈ stF := List.mem_of_getElem? (of_decide_eq_true h)
theorem st_n : ∀ i : Nat, i < 10 → lenS.getD i 0 < 2 ^ 31 := by decide +kernel
theorem st_ex : ∀ i : Nat, i < 10 → stA ([23, 32, 41, 51, 62, 73, 88, 103, 117, 135].getD i 0) (Jvm.Cond.exactly (stT i) "java/lang/String") = true := by decide +kernel
theorem st_co : ∀ i : Nat, i < 10 → stA ([24, 33, 42, 52, 63, 74, 89, 104, 118, 136].getD i 0) (Jvm.Cond.eq (.field (stT i) "java/lang/String" "coder" "B") (.int 0)) = true := by decide +kernel
theorem st_ar : ∀ i : Nat, i < 10 → stA ([25, 34, 43, 53, 64, 75, 90, 105, 119, 137].getD i 0) (Jvm.Cond.arrayOf (.field (stT i) "java/lang/String" "value" "[B") .byte) = true := by decide +kernel
theorem st_le : ∀ i : Nat, i < 10 → stA ([26, 35, 44, 54, 65, 76, 91, 106, 120, 138].getD i 0) (Jvm.Cond.eq (.length (.field (stT i) "java/lang/String" "value" "[B")) (.int (Int32.ofNat (lenS.getD i 0)))) = true := by decide +kernel
theorem st_el : ∀ i : Nat, i < 10 → ∀ j : Nat, j < lenS.getD i 0 → stA (([[27, 28, 29, 30, 31], [36, 37, 38, 39], [45, 46, 47, 48], [55, 56, 57, 58], [66, 67, 68], [77, 78, 79, 80, 81, 82], [92, 93, 94, 95, 96], [107, 108, 109], [121, 122, 123, 124, 125, 126], [139, 140, 141, 142]].getD i []).getD j 0) (Jvm.Cond.eq (.elem (.field (stT i) "java/lang/String" "value" "[B") (.int (Int32.ofNat j))) (.int ((bytS.getD i []).getD j 0))) = true := by decide +kernel
theorem st_ne : ∀ i : Nat, i < 10 → ∀ j : Nat, j < 10 → i < j → stA (([[0, 40, 49, 59, 69, 83, 97, 110, 127, 143], [0, 0, 50, 60, 70, 84, 98, 111, 128, 144], [0, 0, 0, 61, 71, 85, 99, 112, 129, 145], [0, 0, 0, 0, 72, 86, 100, 113, 130, 146], [0, 0, 0, 0, 0, 87, 101, 114, 131, 147], [0, 0, 0, 0, 0, 0, 102, 115, 132, 148], [0, 0, 0, 0, 0, 0, 0, 116, 133, 149], [0, 0, 0, 0, 0, 0, 0, 0, 134, 150], [0, 0, 0, 0, 0, 0, 0, 0, 0, 151], [0, 0, 0, 0, 0, 0, 0, 0, 0, 0]].getD i []).getD j 0) (Jvm.Cond.not (Jvm.Cond.eq (stT i) (stT j))) = true := by decide +kernel
theorem st_sl : ∀ i : Nat, i < 20 → (match SLT[i]? with
  | some q => decide (lw_tbl[[624, 625, 626, 627, 628, 629, 630, 631, 632, 633, 1276, 1291, 1296, 1297, 1298, 1299, 1300, 1301, 1302, 1303].getD i 0]? = some (Jvm.Cond.stringRef q.1 q.2.1 (strTx q.2.2))) && decide (q.2.2 < 10) && (if i < 10 then decide (Jvm.Term.string q.1 q.2.1 = stT q.2.2) else stA ([0, 0, 0, 0, 0, 0, 0, 0, 0, 0, 167, 180, 200, 221, 243, 265, 291, 316, 344, 371].getD i 0) (Jvm.Cond.eq (stT q.2.2) (.string q.1 q.2.1)))
  | none => false) = true := by decide +kernel
theorem start_str {s : State} {b : Nat} (hts : ∀ q ∈ lw_tbl, q.before #[Value.ref b] s = true) (hgv : (Jvm.Cond.and given_1 narrow_1).before #[Value.ref b] s = true) : ∃ sa sv : Nat → Nat, (∀ q ∈ SLT, vk_R q.1 q.2.1 (strTx q.2.2) (sa q.2.2) s) ∧ StrF sa sv (fun q : Nat => s.heap.size ≤ q) s s.heap := by
  have hF : ∀ c ∈ stF, c.before #[Value.ref b] s = true := flat_of_before _ hgv
  have hA : ∀ a : Nat, a < s.heap.size → ¬ (fun q : Nat => s.heap.size ≤ q) a := fun a h => Nat.not_le.mpr h
  obtain ⟨sa, sv, h1, h2⟩ := vk_Sof (args := #[Value.ref b]) (s := s) (N := 10) (tm := stT) (len := lenS) (byt := bytS) (A := fun q : Nat => s.heap.size ≤ q) st_n (fun i hi => hF _ (stA_in (st_ex i hi))) (fun i hi => hF _ (stA_in (st_co i hi))) (fun i hi => hF _ (stA_in (st_ar i hi))) (fun i hi => hF _ (stA_in (st_le i hi))) (fun i hi j hj => hF _ (stA_in (st_el i hi j hj))) (fun i j hi hj hij => by
    rcases Nat.lt_or_ge i j with q | q
    · exact Or.inl (hF _ (stA_in (st_ne i hi j hj q)))
    · exact Or.inr (hF _ (stA_in (st_ne j hj i hi (by omega))))) hA
  refine ⟨sa, sv, fun q hq => ?_, h1, va_Zof (hts (.laysStatic "java/lang/String" "COMPACT_STRINGS" "Z") (List.mem_of_getElem? (i := 647) (by decide +kernel))) (hts (.initialized "java/lang/String") (List.mem_of_getElem? (i := 145) (by decide +kernel))) (va_eqi (hF _ (stA_in (i := 4) (by decide +kernel)))) hA, va_Zqof (hts (.laysStatic "jdk/internal/util/Preconditions" "SIOOBE_FORMATTER" "Ljava/util/function/BiFunction;") (List.mem_of_getElem? (i := 663) (by decide +kernel))) (hts (.initialized "jdk/internal/util/Preconditions") (List.mem_of_getElem? (i := 147) (by decide +kernel))) (hF _ (stA_in (i := 5) (by decide +kernel))) hA⟩
  obtain ⟨i, hi⟩ := List.getElem?_of_mem hq
  have hl : i < 20 := (List.getElem?_eq_some_iff.mp hi).1
  have hz := st_sl i hl
  rw [hi] at hz
  simp only [Bool.and_eq_true, decide_eq_true_eq] at hz
  obtain ⟨⟨e1, e2⟩, e3⟩ := hz
  refine vk_R.of (hts _ (List.mem_of_getElem? e1)) ?_
  split at e3
  · rw [of_decide_eq_true e3]
    exact h2 _ e2
  · exact va_eqR (hF _ (stA_in e3)) (h2 _ e2)
theorem start_nw {s : State} {b : Nat} (hts : ∀ q ∈ lw_tbl, q.before #[Value.ref b] s = true) : ∀ q ∈ NWS, va_Nw q s := by
  intro q hq
  obtain ⟨hm, hn⟩ := List.mem_filter.mp hq
  have h1 := hts q (List.mem_append_right _ hm)
  cases q <;> first | (simp [isNest] at hn; done) | exact va_Nw.of rfl h1
theorem inst_in : ∀ ci : Nat, ci < 7 → lw_tbl[[236, 289, 263, 311, 160, 152, 1041].getD ci 0]? = some (Jvm.Cond.instantiable (clsOf ci).1 (clsOf ci).2.2) := by decide +kernel
theorem start_K {s : State} {b : Nat} (hts : ∀ q ∈ lw_tbl, q.before #[Value.ref b] s = true) : ∃ (D : va_G) (cw : ClassId × ClassId × ClassId × ClassId), va_K D wCl (tysOf (cw, fun _ _ => 0)) s ∧ va_AO "PaidInFog$Valley" s ∧ va_AO "PaidInFog$Shelf" s := by
  have hT : ∀ q ∈ TBL, q.before #[Value.ref b] s = true := fun q hq => hts q (List.mem_filter.mp hq).1
  have hk0 : ∀ ci : Nat, ci < 7 → ∃ z : ClassId × (Nat → Nat), u_Kn s (clsOf ci).1 (clsOf ci).2.1 (clsOf ci).2.2 z.1 z.2 := by
    intro ci h
    obtain ⟨cC, iS, hz⟩ := u_known hT (cls_in ci h) (hts _ (List.mem_of_getElem? (inst_in ci h)))
    exact ⟨(cC, iS), hz⟩
  have hk : ∀ ci : Nat, ∃ z : ClassId × (Nat → Nat), ci < 7 → u_Kn s (clsOf ci).1 (clsOf ci).2.1 (clsOf ci).2.2 z.1 z.2 := by
    intro ci
    by_cases h : ci < 7
    · obtain ⟨z, hz⟩ := hk0 ci h
      exact ⟨z, fun _ => hz⟩
    · obtain ⟨z, -⟩ := hk0 0 (by decide)
      exact ⟨z, fun q => absurd q h⟩
  obtain ⟨f, hf⟩ := Classical.axiomOfChoice hk
  obtain ⟨cI, kI, pI, i1, i2, i3⟩ := Cond.arrayClass_spec (args := #[Value.ref b]) (first := s) (o := none) (s := s) (idx := []) (type := .int) (hts (.arrayClass .int) (List.mem_of_getElem? (i := 232) (by decide +kernel)))
  obtain ⟨cJ, kJ, pJ, j1, j2, j3⟩ := Cond.arrayClass_spec (args := #[Value.ref b]) (first := s) (o := none) (s := s) (idx := []) (type := .long) (hts (.arrayClass .long) (List.mem_of_getElem? (i := 329) (by decide +kernel)))
  have hoS := hts (.arrayOver (.object "PaidInFog$Shelf")) (List.mem_of_getElem? (i := 234) (by decide +kernel))
  have hoV := hts (.arrayOver (.object "PaidInFog$Valley")) (List.mem_of_getElem? (i := 269) (by decide +kernel))
  obtain ⟨pS, cS, kS, s1, s2, s3, s4, s5⟩ := Cond.arrayOver_spec (args := #[Value.ref b]) (first := s) (o := none) (s := s) (idx := []) (n := "PaidInFog$Shelf") hoS
  obtain ⟨pV, cV, kV, v1, v2, v3, v4, v5⟩ := Cond.arrayOver_spec (args := #[Value.ref b]) (first := s) (o := none) (s := s) (idx := []) (n := "PaidInFog$Valley") hoV
  refine ⟨(fun ci => (f ci).1, fun ci => (f ci).2), (cI, cJ, cS, cV), ⟨fun ci q hq => ?_, fun k q hq => ?_⟩, va_AO.of hoV, va_AO.of hoS⟩
  · have hl : ci < 7 := (List.getElem?_eq_some_iff.mp hq).1
    have e : clsOf ci = q := by
      unfold clsOf
      rw [List.getD_eq_getElem?_getD, hq]
      rfl
    rw [← e]
    exact hf ci hl
  · match k, hq with
    | 0, hq =>
      cases hq
      exact ⟨fun n z => ⟨fun k h => (by cases h), kI, i2, pI, i3⟩, i1⟩
    | 1, hq =>
      cases hq
      exact ⟨fun n z => ⟨fun k h => (by cases h), kJ, j2, pJ, j3⟩, j1⟩
    | 2, hq =>
      cases hq
      exact ⟨fun n z => ⟨fun k h => (by cases h), kS, s3, pS, s4⟩, kS, pS, s3, s4, s1, s5⟩
    | 3, hq =>
      cases hq
      exact ⟨fun n z => ⟨fun k h => (by cases h), kV, v3, pV, v4⟩, kV, pV, v3, v4, v1, v5⟩
    | k + 4, hq => simp at hq
