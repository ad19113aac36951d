/-! SOUNDNESS of calls: the abstract machine's call is the method's contract -/
theorem lg_sl_cons (v : Value) (vs : List Value) : (lg_sl (v :: vs)).length = (if v.category = 2 then 2 else 1) + (lg_sl vs).length := by
  unfold lg_sl
  rw [List.flatMap_cons, List.length_append]
  split <;> rfl
theorem spread_len {w : AW} {sa : Nat → Nat} {sb : SB} : ∀ {as : List AV} {vs : List Value}, SR w sa sb as vs → (lg_sl vs).length = (spreadA as).length
  | [], [], _ => rfl
  | .inl x :: as, v :: vs, h => by
    obtain ⟨y, rfl, -⟩ := h.1
    have := spread_len h.2
    rw [lg_sl_cons]
    simp only [spreadA, List.length_cons, Value.category]
    simp
    omega
  | .inr (.inl x) :: as, v :: vs, h => by
    obtain ⟨y, rfl, -⟩ := h.1
    have := spread_len h.2
    rw [lg_sl_cons]
    simp only [spreadA, List.length_cons, Value.category]
    simp
    omega
  | .inr (.inr x) :: as, v :: vs, h => by
    have hc := VR.cat1 h.1
    have := spread_len h.2
    rw [lg_sl_cons, hc]
    simp only [spreadA, List.length_cons]
    simp
    omega
  | [], _ :: _, h => h.elim
  | _ :: _, [], h => h.elim
theorem spread_at {w : AW} {sa : Nat → Nat} {sb : SB} : ∀ {as : List AV} {vs : List Value} (b i : Nat) (a : AV), SR w sa sb as vs → (spreadA as)[i]? = some a → a = vU ∨ ∃ v, VR w sa sb a v ∧ (b + i, v) ∈ lv_args b vs
  | [], [], b, i, a, _, hi => by simp [spreadA] at hi
  | .inl x :: as, v :: vs, b, i, a, h, hi => by
    obtain ⟨y, rfl, hy⟩ := id h.1
    cases i with
    | zero =>
      simp only [spreadA, List.getElem?_cons_zero, Option.some.injEq] at hi
      subst hi
      exact Or.inr ⟨_, h.1, by simp [lv_args]⟩
    | succ i =>
      simp only [spreadA, List.getElem?_cons_succ] at hi
      rcases spread_at (b + 1) i a h.2 hi with q | ⟨u, q1, q2⟩
      · exact Or.inl q
      · refine Or.inr ⟨u, q1, ?_⟩
        rw [show b + (i + 1) = b + 1 + i by omega]
        exact List.mem_cons_of_mem _ q2
  | .inr (.inl x) :: as, v :: vs, b, i, a, h, hi => by
    obtain ⟨y, rfl, hy⟩ := id h.1
    cases i with
    | zero =>
      simp only [spreadA, List.getElem?_cons_zero, Option.some.injEq] at hi
      subst hi
      exact Or.inr ⟨_, h.1, by simp [lv_args]⟩
    | succ i =>
      cases i with
      | zero =>
        simp only [spreadA, List.getElem?_cons_succ, List.getElem?_cons_zero, Option.some.injEq] at hi
        exact Or.inl hi.symm
      | succ i =>
        simp only [spreadA, List.getElem?_cons_succ] at hi
        rcases spread_at (b + 2) i a h.2 hi with q | ⟨u, q1, q2⟩
        · exact Or.inl q
        · refine Or.inr ⟨u, q1, ?_⟩
          rw [show b + (i + 1 + 1) = b + 2 + i by omega]
          exact List.mem_cons_of_mem _ q2
  | .inr (.inr x) :: as, v :: vs, b, i, a, h, hi => by
    have hc := VR.cat1 h.1
    cases i with
    | zero =>
      simp only [spreadA, List.getElem?_cons_zero, Option.some.injEq] at hi
      subst hi
      exact Or.inr ⟨_, h.1, by simp [lv_args]⟩
    | succ i =>
      simp only [spreadA, List.getElem?_cons_succ] at hi
      rcases spread_at (b + 1) i a h.2 hi with q | ⟨u, q1, q2⟩
      · exact Or.inl q
      · refine Or.inr ⟨u, q1, ?_⟩
        rw [show b + (i + 1) = b + 1 + i by omega]
        unfold lv_args
        rw [if_neg (by omega)]
        exact List.mem_cons_of_mem _ q2
  | [], _ :: _, _, _, _, h, _ => h.elim
  | _ :: _, [], _, _, _, h, _ => h.elim
theorem spread_lng : ∀ (as : List AV) (b i : Nat) (x : Int), (spreadA as)[i]? = some (.inr (.inl x)) → b + i ∈ longPos b as
  | [], b, i, x, hi => by simp [spreadA] at hi
  | .inl y :: as, b, i, x, hi => by
    cases i with
    | zero => simp [spreadA] at hi
    | succ i =>
      simp only [spreadA, List.getElem?_cons_succ] at hi
      rw [show b + (i + 1) = b + 1 + i by omega]
      exact spread_lng as (b + 1) i x hi
  | .inr (.inl y) :: as, b, i, x, hi => by
    cases i with
    | zero => simp [longPos]
    | succ i =>
      cases i with
      | zero => simp [spreadA] at hi
      | succ i =>
        simp only [spreadA, List.getElem?_cons_succ] at hi
        rw [show b + (i + 1 + 1) = b + 2 + i by omega]
        exact List.mem_cons_of_mem _ (spread_lng as (b + 2) i x hi)
  | .inr (.inr y) :: as, b, i, x, hi => by
    cases i with
    | zero => simp [spreadA] at hi
    | succ i =>
      simp only [spreadA, List.getElem?_cons_succ] at hi
      rw [show b + (i + 1) = b + 1 + i by omega]
      exact spread_lng as (b + 1) i x hi
theorem init_LR {w : AW} {sa : Nat → Nat} {sb : SB} {as : List AV} {vs : List Value} {n : Nat} {lp : List Nat} (h : SR w sa sb as vs) (hn : (spreadA as).length ≤ n) (hlp : longPos 0 as = lp) : LR w sa sb n lp ((lg_sl vs ++ List.replicate (n - (lg_sl vs).length) Slot.unset).toArray) (initL n as) := by
  have hle : (lg_sl vs).length ≤ n := by rw [spread_len h]; exact hn
  have hat : ∀ (i : Nat) (a : AV), (initL n as)[i]? = some a → (spreadA as)[i]? = some a ∨ a = vU := by
    intro i a hi
    unfold initL at hi
    by_cases hl : i < (spreadA as).length
    · rw [List.getElem?_append_left hl] at hi
      exact Or.inl hi
    · rw [List.getElem?_append_right (by omega)] at hi
      exact Or.inr (List.eq_of_mem_replicate (List.mem_of_getElem? hi))
  refine ⟨by unfold initL; simp; omega, fun i x hi => ?_, _, lv_entry vs hle, fun i a hi => ?_⟩
  · rcases hat i _ hi with q | q
    · have := spread_lng as 0 i x q
      rw [hlp, Nat.zero_add] at this
      exact this
    · cases q
  · rcases hat i a hi with q | q
    · have := spread_at 0 i a h q
      rw [Nat.zero_add] at this
      exact this
    · exact Or.inl q
theorem fC_own {k : Nat} (hk : k < nMeth) : plainName (mName k).cls = true := (M_misc k hk).2.2.1
theorem chkM_at {k : Nat} (h : chkM k = true) (pc : Nat) : chkB (mName k).cls (mBytes k) (maxLA k) (mLong k) (mRet k) pc (nthA (codeL k) pc) = true := by
  have := chkAll_at (codeL k) 0 h pc
  rw [Nat.zero_add] at this
  exact this
theorem sound_call (l : Launch) (hchk : ∀ k, k < nMeth → chkM k = true) : ∀ (d k : Nat) (as : List AV) (h : AH) (v : Option AV) (h' : AH), CallR d k as h v h' → recvOk k as = true ∧ MetOf l d k as h v h'
  | 0, _, _, _, _, _, q => q.elim
  | d + 1, k, as, h, v, h', q => by
    obtain ⟨hok, nn, hrun⟩ := CallR_succ.mp q
    refine ⟨hok, ?_⟩
    unfold recvOk at hok
    simp only [Bool.and_eq_true, beq_iff_eq, decide_eq_true_eq] at hok
    obtain ⟨⟨⟨⟨hk, hrv⟩, hal⟩, hsp⟩, hlp⟩ := hok
    intro D w sa sv sb sz vs hvs
    refine Met.ofW (cc := mBytes k) (maxL := maxLA k) (ret := mRet k) (fC_own hk) rfl ?_
    intro p e s m args below meth c s₁ B hml hv
    obtain ⟨rfl, hsz, hP, hK, hD0, hC, hSc, hNW, hSL, hStr, hScF⟩ := hv
    subst hsz
    have hx := B.exec
    have hb := B.bytes
    have hr := B.returns
    have hts0 := atoms_spec (ws := wsM k) B.pre
    have hts : ∀ q ∈ TBL, q.before _ s = true := fun q hq => hts0 q (List.mem_cons_of_mem _ hq)
    have hown : s.vm.findClass (mName k).cls = some m.cls := findClass_of_methodNamed B.named
    have hlocks := B.notSynchronized
    have hA : ∀ q : Nat, s.heap.size ≤ q → va_A (wsOf w h) s.heap.size q := fun q hq => Or.inr hq
    have hD : va_D (va_A (wsOf w h) s.heap.size) (wsOf w h) := hD0.self
    rw [lg_entry_eq]
    have C0 : Ctx p (headSpec (wsM k) (rmD (d + 1))).room s m vs.toArray c 0 0 (va_A (wsOf w h) s.heap.size) (mName k).cls (mBytes k) (maxLA k) D w sa sv :=
      ⟨hx, hb, hml, hown, hts, hNW, hK, hSL, hStr, hA, Nat.le_refl _, Nat.le_refl _, by show 8 ≤ d + 1 + 8; omega, by show 512 ≤ 64 * (d + 1 + 8); omega⟩
    have S := sound_exec (l := l) (e := e) (below := below) (meth := meth) (Z := MQ below (CalleeQ D w sa sb h s.heap.size v h') vs.toArray s 0 0 (va_A (wsOf w h) s.heap.size)) (sb := sb) (lp := mLong k) (ret := mRet k) (d := d) C0 (fun pc => chkM_at (hchk k hk) pc) (fun k as h v h' hq => sound_call l hchk d k as h v h' hq) ⟨by show d + 9 ≤ d + 1 + 8; omega, by show 64 * (d + 8) + 31 ≤ 64 * (d + 1 + 8); omega⟩ ?_ nn 0 (initL (maxLA k) as) [] h hrun
    · exact S s.heap [] _ [] ⟨hP, hD, va_S.rf, hC, hSc, hScF⟩ (init_LR hvs hsp hlp) trivial
    · intro v1 h1 pc H locs ls rv hq hw hvr hrf
      obtain ⟨rfl, rfl⟩ := hq
      obtain ⟨hP1, hD1, hS1, hC1, hSc1, -⟩ := hw
      have hQ : ∀ t : State, t.heap = H → s.WarmedH t.vm → CalleeQ D w sa sb h s.heap.size v1 h1 vs.toArray s (.returned rv) t := fun t ht hW => ⟨⟨rv, rfl, hvr, by rw [ht]; exact hP1, hD1, hC1, hSc1⟩, hS1.F ht⟩
      rcases hrf with ⟨e1, rfl, hdg⟩ | ⟨e1, hdg, x, rfl⟩ | ⟨e1, hdg, x, rfl, hx01⟩ | ⟨e1, hdg, x, rfl⟩ | ⟨cn, e1, hdg, z, rfl⟩
      · match rv, hvr, hQ with
        | none, _, hQ => exact W.vret hx hb (hr.trans e1) hQ hS1.2.2 hdg hlocks
        | some _, hvr, _ => exact hvr.elim
      · match rv, hvr, hQ with
        | some u, hvr, hQ =>
          obtain ⟨y, rfl, -⟩ := hvr
          exact W.iret hx hb (hr.trans e1) hQ hS1.2.2 hdg hlocks
        | none, hvr, _ => exact hvr.elim
      · match rv, hvr, hQ with
        | some u, hvr, hQ =>
          obtain ⟨y, rfl, hy⟩ := hvr
          have hu : y = 0 ∨ y = 1 := by
            rcases hx01 with q | q
            · exact Or.inl (i32_inj (hy.trans q))
            · exact Or.inr (i32_inj (hy.trans q))
          exact W.zret hx hb (hr.trans e1) (by rcases hu with rfl | rfl <;> rfl) hQ hS1.2.2 hdg hlocks
        | none, hvr, _ => exact hvr.elim
      · match rv, hvr, hQ with
        | some u, hvr, hQ =>
          obtain ⟨y, rfl, -⟩ := hvr
          exact W.lret hx hb (hr.trans e1) hQ hS1.2.2 hdg hlocks
        | none, hvr, _ => exact hvr.elim
      · match rv, hvr, hQ with
        | some u, hvr, hQ => exact W.aret hx hb (hr.trans e1) (Or.inl ⟨cn, rfl⟩) (VR.ref hvr) hQ hS1.2.2 hdg hlocks
        | none, hvr, _ => exact hvr.elim
