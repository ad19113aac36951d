/-! THE LAW, from its entry -/
theorem fin_LR {ad : Nat → Nat → Nat} {cw : ClassId × ClassId × ClassId × ClassId} {sa : Nat → Nat} {b L : Nat} {xs : Nat → Int32} {ls : Array Slot} (hl : lv_has ls 4 [(3, .int 0), (2, .ref (ad 17 27)), (1, .ref (ad 16 10)), (0, .ref b)]) : LR (cw, ad) sa (some (b, L, xs)) 4 [] ls [vR 18 37, vR 16 10, vR 17 27, vI ((0 : Nat) : Int)] := by
  have m1 : ((16, 10) : Nat × Nat) ∈ LOCS := by decide +kernel
  have m2 : ((17, 27) : Nat × Nat) ∈ LOCS := by decide +kernel
  refine ⟨rfl, fun i x hi => ?_, _, hl, fun i a hi => ?_⟩
  · match i, hi with
    | 0, hi => cases hi
    | 1, hi => cases hi
    | 2, hi => cases hi
    | 3, hi => cases hi
    | i + 4, hi => simp at hi
  · match i, hi with
    | 0, hi =>
      cases hi
      exact Or.inr ⟨.ref b, Or.inr ⟨rfl, (b, L, xs), rfl, rfl⟩, by simp⟩
    | 1, hi =>
      cases hi
      exact Or.inr ⟨.ref (ad 16 10), Or.inl ⟨m1, rfl⟩, by simp⟩
    | 2, hi =>
      cases hi
      exact Or.inr ⟨.ref (ad 17 27), Or.inl ⟨m2, rfl⟩, by simp⟩
    | 3, hi =>
      cases hi
      exact Or.inr ⟨.int 0, ⟨0, rfl, rfl⟩, by simp⟩
    | i + 4, hi => simp at hi
set_option maxHeartbeats 4000000 in
theorem whole_start {p : Program} {e : Env} {s : State} {m : MethodId} {below : List Frame} {meth : Method} {c : Code} (l : Launch) (hflags : l.flags = flags0) {b L : Nat} {xs : Nat → Int32} (hL : L ≤ 3072) (C0 : lw_At p s m meth c b L xs) : W p l e room_1 s m #[Value.ref b] below meth c s.heap [] 0 0 (lw_Z below #[Value.ref b] s) (entryFrame m ([Value.ref b] : List Value).toArray 4) := by
  obtain ⟨hx, hb, hr, hml, hown, hts, hX, hbl, hlocks, hgv⟩ := id C0
  obtain ⟨D, cw, hK, hov, hov2⟩ := start_K hts
  obtain ⟨sa, sv, hSL, hStr⟩ := start_str hts hgv
  have hnw := start_nw hts
  have hT : ∀ q ∈ TBL, q.before #[Value.ref b] s = true := fun q hq => hts q (List.mem_filter.mp hq).1
  refine law_ini l C0 D cw hK hov hov2 hnw (fun ad H locs ls hP hD hS hl => ?_)
  have e38 : scr0 L xs 38 0 = (L : Int) := rfl
  obtain ⟨nn, hrun⟩ := lw_loop (S := scr0 L xs) (d := 0) (scr0_SC xs hL) (L + 1) 0 (H0 L xs) (by rw [e38]; omega) (by omega) (H0_rel L xs)
  have C1 : Ctx p room_1 s m #[Value.ref b] c 107 3597 (fun q : Nat => s.heap.size ≤ q) "PaidInFogLaw" code 4 D (cw, ad) sa sv :=
    ⟨hx, hb, hml, hown, hT, hnw, hK, hSL, hStr, fun _ h => h, Nat.le_of_ble_eq_true rfl, Nat.le_of_ble_eq_true rfl, Nat.le_of_ble_eq_true rfl, Nat.le_of_ble_eq_true rfl⟩
  have hF := first_world cw ad L xs
  have hw : Wld s (fun q : Nat => s.heap.size ≤ q) D (cw, ad) (some (b, L, xs)) (H0 L xs) H locs := ⟨hF.P hP, hF.D hD, hS, H0_canon L xs hL, H0_scr b L xs hL, fun z hz => by cases hz; exact ⟨hX, hbl, Nat.not_le.mpr hbl⟩⟩
  refine sound_exec (l := l) (e := e) (below := below) (meth := meth) (Z := lw_Z below #[Value.ref b] s) (sb := some (b, L, xs)) (lp := []) (ret := ret) (d := 0 + 30) C1 (fun pc => chk_law_at pc) (fun k as h v h' hq => sound_call l chk_all (0 + 30) k as h v h' hq) ⟨Nat.le_of_ble_eq_true rfl, Nat.le_of_ble_eq_true rfl⟩ ?_ nn 18 _ [] (H0 L xs) hrun H locs ls [] hw (fin_LR hl) trivial
  intro v h' pc H locs ls rv hq hw hv hrf
  subst hq
  match rv, hv with
  | some u, hv =>
    obtain ⟨y, rfl, hy⟩ := hv
    have hy1 : y = 1 := i32_inj hy
    subst hy1
    have hdg : decode code pc = .ok (.ireturn, 1) := by
      rcases hrf with ⟨-, h, -⟩ | ⟨-, hdg, -⟩ | ⟨-, hdg, -⟩ | ⟨-, -, x, h⟩ | ⟨cn, -, -, z, h⟩
      · cases h
      · exact hdg
      · exact hdg
      · cases h
      · cases h
    refine va_forget (fun q hq => hw.2.2.1.2.2 q hq) ?_
    refine W.widen (k := 600000) (n := 7302250) (Nat.le_of_ble_eq_true rfl) (Nat.le_of_ble_eq_true rfl) ?_
    exact lw_ret hx hb hr hlocks hdg
  | none, hv => exact hv.elim
