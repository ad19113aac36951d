/-! SOUNDNESS, an instruction a row -/
section SOP
variable {p : Program} {l : Launch} {e : Env} {R : Room} {s : State} {m : MethodId} {args : Array Value} {below : List Frame} {meth : Method} {c : Code} {cells slots : Nat} {Z : State → Prop} {A : Nat → Prop}
variable {own : String} {bytes : ByteArray} {nL : Nat} {lp : List Nat} {D : va_G} {w : AW} {sa sv : Nat → Nat} {sb : SB}
variable {pc len : Nat} {L st : List AV} {h : AH} {x y : Int} {z z2 : (Nat × Nat) ⊕ Nat}

theorem so_0 (C0 : Ctx p R s m args c cells slots A own bytes nL D w sa sv) (hc : (dqB bytes pc (.iconst x) 1 len && decide (wr x = x)) = true) (K : Sim p l e R s m args below meth c cells slots Z A D w sa sb nL lp (pc + len) L (.inl x :: st) h) : Sim p l e R s m args below meth c cells slots Z A D w sa sb nL lp pc L st h := by
  obtain ⟨hx, hb, hml, hown, hts, hnw, hK, hstr, hvs, hA, hroom⟩ := C0
  simp only [Bool.and_eq_true, decide_eq_true_eq] at hc
  obtain ⟨hc, hwr⟩ := hc
  obtain ⟨hdg, rfl⟩ := dqB_spec hc
  intro H locs ls jst hw hl hs
  exact lv_iconst hx hb hdg rfl (K _ _ _ _ hw hl ⟨⟨_, rfl, by rw [Int32.toInt_ofInt]; exact hwr⟩, hs⟩)
theorem so_1 (C0 : Ctx p R s m args c cells slots A own bytes nL D w sa sv) (hc : (dqB bytes pc (.bipush x) 2 len && decide ((Int8.ofInt x).toInt32.toInt = x)) = true) (K : Sim p l e R s m args below meth c cells slots Z A D w sa sb nL lp (pc + len) L (.inl x :: st) h) : Sim p l e R s m args below meth c cells slots Z A D w sa sb nL lp pc L st h := by
  obtain ⟨hx, hb, hml, hown, hts, hnw, hK, hstr, hvs, hA, hroom⟩ := C0
  simp only [Bool.and_eq_true, decide_eq_true_eq] at hc
  obtain ⟨hc, hwr⟩ := hc
  obtain ⟨hdg, rfl⟩ := dqB_spec hc
  intro H locs ls jst hw hl hs
  exact lv_bipush hx hb hdg rfl (K _ _ _ _ hw hl ⟨⟨_, rfl, hwr⟩, hs⟩)
theorem so_2 (C0 : Ctx p R s m args c cells slots A own bytes nL D w sa sv) (hc : (dqB bytes pc (.sipush x) 3 len && decide ((Int16.ofInt x).toInt32.toInt = x)) = true) (K : Sim p l e R s m args below meth c cells slots Z A D w sa sb nL lp (pc + len) L (.inl x :: st) h) : Sim p l e R s m args below meth c cells slots Z A D w sa sb nL lp pc L st h := by
  obtain ⟨hx, hb, hml, hown, hts, hnw, hK, hstr, hvs, hA, hroom⟩ := C0
  simp only [Bool.and_eq_true, decide_eq_true_eq] at hc
  obtain ⟨hc, hwr⟩ := hc
  obtain ⟨hdg, rfl⟩ := dqB_spec hc
  intro H locs ls jst hw hl hs
  exact lv_sipush hx hb hdg rfl (K _ _ _ _ hw hl ⟨⟨_, rfl, hwr⟩, hs⟩)
theorem so_3 (C0 : Ctx p R s m args c cells slots A own bytes nL D w sa sv) {i : Int} (hc : (dqB bytes pc (.ldc i.toNat) 2 len && decide (wr x = x) && decide (Jvm.Cond.constant own i.toNat (Int32.ofInt x) ∈ TBL)) = true) (K : Sim p l e R s m args below meth c cells slots Z A D w sa sb nL lp (pc + len) L (.inl x :: st) h) : Sim p l e R s m args below meth c cells slots Z A D w sa sb nL lp pc L st h := by
  obtain ⟨hx, hb, hml, hown, hts, hnw, hK, hstr, hvs, hA, hroom⟩ := C0
  simp only [Bool.and_eq_true, decide_eq_true_eq] at hc
  obtain ⟨⟨hc, hwr⟩, hin⟩ := hc
  obtain ⟨hdg, rfl⟩ := dqB_spec hc
  intro H locs ls jst hw hl hs
  exact lv_ldc hx hb hown (hts _ hin) hdg (K _ _ _ _ hw hl ⟨⟨_, rfl, by rw [Int32.toInt_ofInt]; exact hwr⟩, hs⟩)
theorem so_4 (C0 : Ctx p R s m args c cells slots A own bytes nL D w sa sv) {i : Int} (hc : (dqB bytes pc (.ldc_w i.toNat) 3 len && decide (wr x = x) && decide (Jvm.Cond.constant own i.toNat (Int32.ofInt x) ∈ TBL)) = true) (K : Sim p l e R s m args below meth c cells slots Z A D w sa sb nL lp (pc + len) L (.inl x :: st) h) : Sim p l e R s m args below meth c cells slots Z A D w sa sb nL lp pc L st h := by
  obtain ⟨hx, hb, hml, hown, hts, hnw, hK, hstr, hvs, hA, hroom⟩ := C0
  simp only [Bool.and_eq_true, decide_eq_true_eq] at hc
  obtain ⟨⟨hc, hwr⟩, hin⟩ := hc
  obtain ⟨hdg, rfl⟩ := dqB_spec hc
  intro H locs ls jst hw hl hs
  exact lv_ldcw hx hb hown (hts _ hin) hdg (K _ _ _ _ hw hl ⟨⟨_, rfl, by rw [Int32.toInt_ofInt]; exact hwr⟩, hs⟩)
theorem so_5 (C0 : Ctx p R s m args c cells slots A own bytes nL D w sa sv) (hc : ((decide (x = 0) && dqB bytes pc (.lconst 0) 1 len) || (decide (x = 1) && dqB bytes pc (.lconst 1) 1 len)) = true) (K : Sim p l e R s m args below meth c cells slots Z A D w sa sb nL lp (pc + len) L (.inr (.inl x) :: st) h) : Sim p l e R s m args below meth c cells slots Z A D w sa sb nL lp pc L st h := by
  obtain ⟨hx, hb, hml, hown, hts, hnw, hK, hstr, hvs, hA, hroom⟩ := C0
  simp only [Bool.or_eq_true, Bool.and_eq_true, decide_eq_true_eq] at hc
  rcases hc with ⟨rfl, hc⟩ | ⟨rfl, hc⟩
  · obtain ⟨hdg, rfl⟩ := dqB_spec hc
    intro H locs ls jst hw hl hs
    exact lv_lconst hx hb hdg rfl (K _ _ _ _ hw hl ⟨⟨_, rfl, rfl⟩, hs⟩)
  · obtain ⟨hdg, rfl⟩ := dqB_spec hc
    intro H locs ls jst hw hl hs
    exact lv_lconst hx hb hdg rfl (K _ _ _ _ hw hl ⟨⟨_, rfl, rfl⟩, hs⟩)
theorem so_6 (C0 : Ctx p R s m args c cells slots A own bytes nL D w sa sv) {i : Int} (hc : (dqB bytes pc (.ldc2_w i.toNat) 3 len && decide (wl x = x) && decide (Jvm.Cond.constantLong own i.toNat (Int64.ofInt x) ∈ TBL)) = true) (K : Sim p l e R s m args below meth c cells slots Z A D w sa sb nL lp (pc + len) L (.inr (.inl x) :: st) h) : Sim p l e R s m args below meth c cells slots Z A D w sa sb nL lp pc L st h := by
  obtain ⟨hx, hb, hml, hown, hts, hnw, hK, hstr, hvs, hA, hroom⟩ := C0
  simp only [Bool.and_eq_true, decide_eq_true_eq] at hc
  obtain ⟨⟨hc, hwr⟩, hin⟩ := hc
  obtain ⟨hdg, rfl⟩ := dqB_spec hc
  intro H locs ls jst hw hl hs
  exact lv_ldc2 hx hb hown (hts _ hin) hdg (K _ _ _ _ hw hl ⟨⟨_, rfl, by rw [Int64.toInt_ofInt]; exact hwr⟩, hs⟩)
theorem so_7 (C0 : Ctx p R s m args c cells slots A own bytes nL D w sa sv) (hc : dqB bytes pc .aconst_null 1 len = true) (K : Sim p l e R s m args below meth c cells slots Z A D w sa sb nL lp (pc + len) L (vN :: st) h) : Sim p l e R s m args below meth c cells slots Z A D w sa sb nL lp pc L st h := by
  obtain ⟨hx, hb, hml, hown, hts, hnw, hK, hstr, hvs, hA, hroom⟩ := C0
  obtain ⟨hdg, rfl⟩ := dqB_spec hc
  intro H locs ls jst hw hl hs
  exact lv_null hx hb hdg (K _ _ _ _ hw hl ⟨rfl, hs⟩)
theorem so_8 (C0 : Ctx p R s m args c cells slots A own bytes nL D w sa sv) {i : Int} (hc : (dqB bytes pc (.ldc i.toNat) 2 len && decide ((own, i.toNat, x.toNat) ∈ SLT) && decide (x.toNat < 10)) = true) (K : Sim p l e R s m args below meth c cells slots Z A D w sa sb nL lp (pc + len) L (vS x.toNat :: st) h) : Sim p l e R s m args below meth c cells slots Z A D w sa sb nL lp pc L st h := by
  obtain ⟨hx, hb, hml, hown, hts, hnw, hK, hstr, hvs, hA, hroom⟩ := C0
  simp only [Bool.and_eq_true, decide_eq_true_eq] at hc
  obtain ⟨⟨hc, hin⟩, hlt⟩ := hc
  obtain ⟨hdg, rfl⟩ := dqB_spec hc
  intro H locs ls jst hw hl hs
  exact va_ldcS hx hb hown (hstr _ hin) hdg (K _ _ _ _ hw hl ⟨⟨hlt, rfl⟩, hs⟩)
theorem so_10 (C0 : Ctx p R s m args c cells slots A own bytes nL D w sa sv) (hc : ldB bytes pc len .iload_n .iload x = true) (hL : L[x.toNat]? = some (.inl y)) (K : Sim p l e R s m args below meth c cells slots Z A D w sa sb nL lp (pc + len) L (.inl y :: st) h) : Sim p l e R s m args below meth c cells slots Z A D w sa sb nL lp pc L st h := by
  obtain ⟨hx, hb, hml, hown, hts, hnw, hK, hstr, hvs, hA, hroom⟩ := C0
  unfold ldB at hc
  simp only [Bool.or_eq_true, Bool.and_eq_true, decide_eq_true_eq] at hc
  obtain ⟨hx0, hc⟩ := hc
  intro H locs ls jst hw hl hs
  obtain ⟨v, hv, hat⟩ := hl.at hL (by simp)
  obtain ⟨u, rfl, hu⟩ := id hv
  rcases hc with ⟨rfl, k, hk, hdg⟩ | hc
  · exact lv_iload_n hx hb hdg hk hat (K _ _ _ _ hw hl ⟨hv, hs⟩)
  · obtain ⟨hdg, rfl⟩ := dqB_spec hc
    exact lv_iload hx hb hdg hat (K _ _ _ _ hw hl ⟨hv, hs⟩)
theorem so_11 (C0 : Ctx p R s m args c cells slots A own bytes nL D w sa sv) (hc : ldB bytes pc len .lload_n .lload x = true) (hL : L[x.toNat]? = some (.inr (.inl y))) (K : Sim p l e R s m args below meth c cells slots Z A D w sa sb nL lp (pc + len) L (.inr (.inl y) :: st) h) : Sim p l e R s m args below meth c cells slots Z A D w sa sb nL lp pc L st h := by
  obtain ⟨hx, hb, hml, hown, hts, hnw, hK, hstr, hvs, hA, hroom⟩ := C0
  unfold ldB at hc
  simp only [Bool.or_eq_true, Bool.and_eq_true, decide_eq_true_eq] at hc
  obtain ⟨hx0, hc⟩ := hc
  intro H locs ls jst hw hl hs
  obtain ⟨v, hv, hat⟩ := hl.at hL (by simp)
  obtain ⟨u, rfl, hu⟩ := id hv
  rcases hc with ⟨rfl, k, hk, hdg⟩ | hc
  · exact lv_lload_n hx hb hdg hk hat (K _ _ _ _ hw hl ⟨hv, hs⟩)
  · obtain ⟨hdg, rfl⟩ := dqB_spec hc
    exact lv_lload hx hb hdg hat (K _ _ _ _ hw hl ⟨hv, hs⟩)
theorem so_12 (C0 : Ctx p R s m args c cells slots A own bytes nL D w sa sv) (hc : ldB bytes pc len .aload_n .aload x = true) (hL : L[x.toNat]? = some (.inr (.inr z))) (hz : z ≠ .inr 1) (K : Sim p l e R s m args below meth c cells slots Z A D w sa sb nL lp (pc + len) L (.inr (.inr z) :: st) h) : Sim p l e R s m args below meth c cells slots Z A D w sa sb nL lp pc L st h := by
  obtain ⟨hx, hb, hml, hown, hts, hnw, hK, hstr, hvs, hA, hroom⟩ := C0
  unfold ldB at hc
  simp only [Bool.or_eq_true, Bool.and_eq_true, decide_eq_true_eq] at hc
  obtain ⟨hx0, hc⟩ := hc
  intro H locs ls jst hw hl hs
  obtain ⟨v, hv, hat⟩ := hl.at hL (by intro q; cases q; exact hz rfl)
  rcases hv.ref with rfl | ⟨a, rfl⟩
  · rcases hc with ⟨rfl, k, hk, hdg⟩ | hc
    · exact lv_aload_nN hx hb hdg hk hat (K _ _ _ _ hw hl ⟨hv, hs⟩)
    · obtain ⟨hdg, rfl⟩ := dqB_spec hc
      exact lv_aloadN hx hb hdg hat (K _ _ _ _ hw hl ⟨hv, hs⟩)
  · rcases hc with ⟨rfl, k, hk, hdg⟩ | hc
    · exact lv_aload_n hx hb hdg hk hat (K _ _ _ _ hw hl ⟨hv, hs⟩)
    · obtain ⟨hdg, rfl⟩ := dqB_spec hc
      exact lv_aload hx hb hdg hat (K _ _ _ _ hw hl ⟨hv, hs⟩)
theorem so_13 (C0 : Ctx p R s m args c cells slots A own bytes nL D w sa sv) (hc : (ldB bytes pc len .istore_n .istore x && decide (x.toNat < nL) && lp.all (fun j => decide (j + 1 ≠ x.toNat))) = true) (K : Sim p l e R s m args below meth c cells slots Z A D w sa sb nL lp (pc + len) (L.set x.toNat (.inl y)) st h) : Sim p l e R s m args below meth c cells slots Z A D w sa sb nL lp pc L (.inl y :: st) h := by
  obtain ⟨hx, hb, hml, hown, hts, hnw, hK, hstr, hvs, hA, hroom⟩ := C0
  simp only [Bool.and_eq_true, decide_eq_true_eq, List.all_eq_true] at hc
  obtain ⟨⟨hc, hlt⟩, hlp⟩ := hc
  unfold ldB at hc
  simp only [Bool.or_eq_true, Bool.and_eq_true, decide_eq_true_eq] at hc
  obtain ⟨hx0, hc⟩ := hc
  intro H locs ls jst hw hl hs
  obtain ⟨u, t, rfl, rfl, hs2⟩ := hs.int
  obtain ⟨l1, l2, lv, l3, l4⟩ := hl
  have key : ∀ ls' : Array Slot, lv_has ls' nL ((x.toNat, .int u) :: lv.filter (fun q => !(q.1 == x.toNat) && !(q.1 + 1 == x.toNat && q.2.category == 2))) → LR w sa sb nL lp ls' (L.set x.toNat (.inl u.toInt)) := fun ls' hls => LR.store l1 l2 l4 hlt hlp ⟨u, rfl, rfl⟩ (fun _ q => by cases q) hls
  rcases hc with ⟨rfl, k, hk, hdg⟩ | hc
  · exact lv_istore_n hx hb hdg hk l3 hlt rfl (fun ls' hls => K _ _ _ _ hw (key ls' hls) hs2)
  · obtain ⟨hdg, rfl⟩ := dqB_spec hc
    exact lv_istore hx hb hdg l3 hlt rfl (fun ls' hls => K _ _ _ _ hw (key ls' hls) hs2)
theorem so_14 (C0 : Ctx p R s m args c cells slots A own bytes nL D w sa sv) (hc : (ldB bytes pc len .astore_n .astore x && decide (x.toNat < nL) && lp.all (fun j => decide (j + 1 ≠ x.toNat))) = true) (K : Sim p l e R s m args below meth c cells slots Z A D w sa sb nL lp (pc + len) (L.set x.toNat (.inr (.inr z))) st h) : Sim p l e R s m args below meth c cells slots Z A D w sa sb nL lp pc L (.inr (.inr z) :: st) h := by
  obtain ⟨hx, hb, hml, hown, hts, hnw, hK, hstr, hvs, hA, hroom⟩ := C0
  simp only [Bool.and_eq_true, decide_eq_true_eq, List.all_eq_true] at hc
  obtain ⟨⟨hc, hlt⟩, hlp⟩ := hc
  unfold ldB at hc
  simp only [Bool.or_eq_true, Bool.and_eq_true, decide_eq_true_eq] at hc
  obtain ⟨hx0, hc⟩ := hc
  intro H locs ls jst hw hl hs
  obtain ⟨u, t, rfl, hv, hs2⟩ := hs.cons
  obtain ⟨l1, l2, lv, l3, l4⟩ := hl
  have key : ∀ ls' : Array Slot, lv_has ls' nL ((x.toNat, u) :: lv.filter (fun q => !(q.1 == x.toNat) && !(q.1 + 1 == x.toNat && q.2.category == 2))) → LR w sa sb nL lp ls' (L.set x.toNat (.inr (.inr z))) := fun ls' hls => LR.store l1 l2 l4 hlt hlp hv (fun _ q => by cases q) hls
  rcases hv.ref with rfl | ⟨a, rfl⟩
  · rcases hc with ⟨rfl, k, hk, hdg⟩ | hc
    · exact lv_astore_nN hx hb hdg hk l3 hlt rfl (fun ls' hls => K _ _ _ _ hw (key ls' hls) hs2)
    · obtain ⟨hdg, rfl⟩ := dqB_spec hc
      exact lv_astoreN hx hb hdg l3 hlt rfl (fun ls' hls => K _ _ _ _ hw (key ls' hls) hs2)
  · rcases hc with ⟨rfl, k, hk, hdg⟩ | hc
    · exact lv_astore_n hx hb hdg hk l3 hlt rfl (fun ls' hls => K _ _ _ _ hw (key ls' hls) hs2)
    · obtain ⟨hdg, rfl⟩ := dqB_spec hc
      exact lv_astore hx hb hdg l3 hlt rfl (fun ls' hls => K _ _ _ _ hw (key ls' hls) hs2)
theorem so_15 (C0 : Ctx p R s m args c cells slots A own bytes nL D w sa sv) {i : Int} (hc : (decide (0 ≤ i) && dqB bytes pc (.iinc i.toNat x) 3 len && decide (i.toNat < nL) && lp.all (fun j => decide (j + 1 ≠ i.toNat)) && decide (wr x = x)) = true) (hL : L[i.toNat]? = some (.inl y)) (K : Sim p l e R s m args below meth c cells slots Z A D w sa sb nL lp (pc + len) (L.set i.toNat (.inl (wr (y + x)))) st h) : Sim p l e R s m args below meth c cells slots Z A D w sa sb nL lp pc L st h := by
  obtain ⟨hx, hb, hml, hown, hts, hnw, hK, hstr, hvs, hA, hroom⟩ := C0
  simp only [Bool.and_eq_true, decide_eq_true_eq, List.all_eq_true] at hc
  obtain ⟨⟨⟨⟨-, hc⟩, hlt⟩, hlp⟩, hwr⟩ := hc
  obtain ⟨hdg, rfl⟩ := dqB_spec hc
  intro H locs ls jst hw hl hs
  obtain ⟨l1, l2, lv, l3, l4⟩ := hl
  rcases l4 _ _ hL with q | ⟨v, hv, hm⟩
  · cases q
  obtain ⟨u, rfl, rfl⟩ := hv
  obtain ⟨k, hk⟩ := List.getElem?_of_mem hm
  refine lv_iinc (k := k) hx hb hdg l3 hk rfl hlt rfl (fun ls' hls => K _ _ _ _ hw (LR.store l1 l2 l4 hlt hlp ⟨_, rfl, ?_⟩ (fun _ q => by cases q) hls) hs)
  rw [Int32.toInt_add, Int32.toInt_ofInt]
  show wr (u.toInt + wr x) = wr (u.toInt + x)
  rw [hwr]
theorem so_20 (C0 : Ctx p R s m args c cells slots A own bytes nL D w sa sv) (hc : dqB bytes pc .iadd 1 len = true) (K : Sim p l e R s m args below meth c cells slots Z A D w sa sb nL lp (pc + len) L (.inl (wr (x + y)) :: st) h) : Sim p l e R s m args below meth c cells slots Z A D w sa sb nL lp pc L (.inl y :: .inl x :: st) h := by
  obtain ⟨hx, hb, hml, hown, hts, hnw, hK, hstr, hvs, hA, hroom⟩ := C0
  obtain ⟨hdg, rfl⟩ := dqB_spec hc
  intro H locs ls jst hw hl hs
  obtain ⟨b, t1, rfl, rfl, hs1⟩ := hs.int
  obtain ⟨a, t, rfl, rfl, hs2⟩ := hs1.int
  exact lv_iadd hx hb hdg (K _ _ _ _ hw hl ⟨⟨_, rfl, Int32.toInt_add a b⟩, hs2⟩)
theorem so_21 (C0 : Ctx p R s m args c cells slots A own bytes nL D w sa sv) (hc : dqB bytes pc .isub 1 len = true) (K : Sim p l e R s m args below meth c cells slots Z A D w sa sb nL lp (pc + len) L (.inl (wr (x - y)) :: st) h) : Sim p l e R s m args below meth c cells slots Z A D w sa sb nL lp pc L (.inl y :: .inl x :: st) h := by
  obtain ⟨hx, hb, hml, hown, hts, hnw, hK, hstr, hvs, hA, hroom⟩ := C0
  obtain ⟨hdg, rfl⟩ := dqB_spec hc
  intro H locs ls jst hw hl hs
  obtain ⟨b, t1, rfl, rfl, hs1⟩ := hs.int
  obtain ⟨a, t, rfl, rfl, hs2⟩ := hs1.int
  exact lv_isub hx hb hdg (K _ _ _ _ hw hl ⟨⟨_, rfl, Int32.toInt_sub a b⟩, hs2⟩)
theorem so_22 (C0 : Ctx p R s m args c cells slots A own bytes nL D w sa sv) (hc : dqB bytes pc .imul 1 len = true) (K : Sim p l e R s m args below meth c cells slots Z A D w sa sb nL lp (pc + len) L (.inl (wr (x * y)) :: st) h) : Sim p l e R s m args below meth c cells slots Z A D w sa sb nL lp pc L (.inl y :: .inl x :: st) h := by
  obtain ⟨hx, hb, hml, hown, hts, hnw, hK, hstr, hvs, hA, hroom⟩ := C0
  obtain ⟨hdg, rfl⟩ := dqB_spec hc
  intro H locs ls jst hw hl hs
  obtain ⟨b, t1, rfl, rfl, hs1⟩ := hs.int
  obtain ⟨a, t, rfl, rfl, hs2⟩ := hs1.int
  exact lv_imul hx hb hdg (K _ _ _ _ hw hl ⟨⟨_, rfl, Int32.toInt_mul a b⟩, hs2⟩)
theorem so_23 (C0 : Ctx p R s m args c cells slots A own bytes nL D w sa sv) (hc : dqB bytes pc .idiv 1 len = true) (hne : y ≠ 0) (K : Sim p l e R s m args below meth c cells slots Z A D w sa sb nL lp (pc + len) L (.inl (opDiv x y) :: st) h) : Sim p l e R s m args below meth c cells slots Z A D w sa sb nL lp pc L (.inl y :: .inl x :: st) h := by
  obtain ⟨hx, hb, hml, hown, hts, hnw, hK, hstr, hvs, hA, hroom⟩ := C0
  obtain ⟨hdg, rfl⟩ := dqB_spec hc
  intro H locs ls jst hw hl hs
  obtain ⟨b, t1, rfl, rfl, hs1⟩ := hs.int
  obtain ⟨a, t, rfl, rfl, hs2⟩ := hs1.int
  exact lv_idiv hx hb hdg (fun q => hne (by rw [q]; rfl)) (K _ _ _ _ hw hl ⟨⟨_, rfl, by unfold opDiv; rw [i32_of, i32_of]⟩, hs2⟩)
theorem so_24 (C0 : Ctx p R s m args c cells slots A own bytes nL D w sa sv) (hc : dqB bytes pc .irem 1 len = true) (hne : y ≠ 0) (K : Sim p l e R s m args below meth c cells slots Z A D w sa sb nL lp (pc + len) L (.inl (opRem x y) :: st) h) : Sim p l e R s m args below meth c cells slots Z A D w sa sb nL lp pc L (.inl y :: .inl x :: st) h := by
  obtain ⟨hx, hb, hml, hown, hts, hnw, hK, hstr, hvs, hA, hroom⟩ := C0
  obtain ⟨hdg, rfl⟩ := dqB_spec hc
  intro H locs ls jst hw hl hs
  obtain ⟨b, t1, rfl, rfl, hs1⟩ := hs.int
  obtain ⟨a, t, rfl, rfl, hs2⟩ := hs1.int
  exact lv_irem hx hb hdg (fun q => hne (by rw [q]; rfl)) (K _ _ _ _ hw hl ⟨⟨_, rfl, by unfold opRem; rw [i32_of, i32_of]⟩, hs2⟩)
theorem so_26 (C0 : Ctx p R s m args c cells slots A own bytes nL D w sa sv) (hc : dqB bytes pc .ixor 1 len = true) (K : Sim p l e R s m args below meth c cells slots Z A D w sa sb nL lp (pc + len) L (.inl (opXor x y) :: st) h) : Sim p l e R s m args below meth c cells slots Z A D w sa sb nL lp pc L (.inl y :: .inl x :: st) h := by
  obtain ⟨hx, hb, hml, hown, hts, hnw, hK, hstr, hvs, hA, hroom⟩ := C0
  obtain ⟨hdg, rfl⟩ := dqB_spec hc
  intro H locs ls jst hw hl hs
  obtain ⟨b, t1, rfl, rfl, hs1⟩ := hs.int
  obtain ⟨a, t, rfl, rfl, hs2⟩ := hs1.int
  exact lv_ixor hx hb hdg (K _ _ _ _ hw hl ⟨⟨_, rfl, by unfold opXor; rw [i32_of, i32_of]⟩, hs2⟩)
theorem so_27 (C0 : Ctx p R s m args c cells slots A own bytes nL D w sa sv) (hc : dqB bytes pc .ior 1 len = true) (K : Sim p l e R s m args below meth c cells slots Z A D w sa sb nL lp (pc + len) L (.inl (opOr x y) :: st) h) : Sim p l e R s m args below meth c cells slots Z A D w sa sb nL lp pc L (.inl y :: .inl x :: st) h := by
  obtain ⟨hx, hb, hml, hown, hts, hnw, hK, hstr, hvs, hA, hroom⟩ := C0
  obtain ⟨hdg, rfl⟩ := dqB_spec hc
  intro H locs ls jst hw hl hs
  obtain ⟨b, t1, rfl, rfl, hs1⟩ := hs.int
  obtain ⟨a, t, rfl, rfl, hs2⟩ := hs1.int
  exact lv_ior hx hb hdg (K _ _ _ _ hw hl ⟨⟨_, rfl, by unfold opOr; rw [i32_of, i32_of]⟩, hs2⟩)
theorem so_28 (C0 : Ctx p R s m args c cells slots A own bytes nL D w sa sv) (hc : dqB bytes pc .iand 1 len = true) (K : Sim p l e R s m args below meth c cells slots Z A D w sa sb nL lp (pc + len) L (.inl (opAnd x y) :: st) h) : Sim p l e R s m args below meth c cells slots Z A D w sa sb nL lp pc L (.inl y :: .inl x :: st) h := by
  obtain ⟨hx, hb, hml, hown, hts, hnw, hK, hstr, hvs, hA, hroom⟩ := C0
  obtain ⟨hdg, rfl⟩ := dqB_spec hc
  intro H locs ls jst hw hl hs
  obtain ⟨b, t1, rfl, rfl, hs1⟩ := hs.int
  obtain ⟨a, t, rfl, rfl, hs2⟩ := hs1.int
  exact lv_iand hx hb hdg (K _ _ _ _ hw hl ⟨⟨_, rfl, by unfold opAnd; rw [i32_of, i32_of]⟩, hs2⟩)
theorem so_29 (C0 : Ctx p R s m args c cells slots A own bytes nL D w sa sv) (hc : dqB bytes pc .ishl 1 len = true) (K : Sim p l e R s m args below meth c cells slots Z A D w sa sb nL lp (pc + len) L (.inl (opShl x y) :: st) h) : Sim p l e R s m args below meth c cells slots Z A D w sa sb nL lp pc L (.inl y :: .inl x :: st) h := by
  obtain ⟨hx, hb, hml, hown, hts, hnw, hK, hstr, hvs, hA, hroom⟩ := C0
  obtain ⟨hdg, rfl⟩ := dqB_spec hc
  intro H locs ls jst hw hl hs
  obtain ⟨b, t1, rfl, rfl, hs1⟩ := hs.int
  obtain ⟨a, t, rfl, rfl, hs2⟩ := hs1.int
  exact lv_ishl hx hb hdg (K _ _ _ _ hw hl ⟨⟨_, rfl, by unfold opShl; rw [i32_of, i32_of]⟩, hs2⟩)
theorem so_30 (C0 : Ctx p R s m args c cells slots A own bytes nL D w sa sv) (hc : dqB bytes pc .iushr 1 len = true) (K : Sim p l e R s m args below meth c cells slots Z A D w sa sb nL lp (pc + len) L (.inl (opUshr x y) :: st) h) : Sim p l e R s m args below meth c cells slots Z A D w sa sb nL lp pc L (.inl y :: .inl x :: st) h := by
  obtain ⟨hx, hb, hml, hown, hts, hnw, hK, hstr, hvs, hA, hroom⟩ := C0
  obtain ⟨hdg, rfl⟩ := dqB_spec hc
  intro H locs ls jst hw hl hs
  obtain ⟨b, t1, rfl, rfl, hs1⟩ := hs.int
  obtain ⟨a, t, rfl, rfl, hs2⟩ := hs1.int
  exact lv_iushr hx hb hdg rfl (K _ _ _ _ hw hl ⟨⟨_, rfl, by unfold opUshr; rw [i32_of, i32_of]⟩, hs2⟩)
theorem so_25 (C0 : Ctx p R s m args c cells slots A own bytes nL D w sa sv) (hc : dqB bytes pc .ineg 1 len = true) (K : Sim p l e R s m args below meth c cells slots Z A D w sa sb nL lp (pc + len) L (.inl (wr (-x)) :: st) h) : Sim p l e R s m args below meth c cells slots Z A D w sa sb nL lp pc L (.inl x :: st) h := by
  obtain ⟨hx, hb, hml, hown, hts, hnw, hK, hstr, hvs, hA, hroom⟩ := C0
  obtain ⟨hdg, rfl⟩ := dqB_spec hc
  intro H locs ls jst hw hl hs
  obtain ⟨a, t, rfl, rfl, hs2⟩ := hs.int
  exact lv_ineg hx hb hdg (K _ _ _ _ hw hl ⟨⟨_, rfl, Int32.toInt_neg a⟩, hs2⟩)
theorem so_31 (C0 : Ctx p R s m args c cells slots A own bytes nL D w sa sv) (hc : dqB bytes pc .i2l 1 len = true) (K : Sim p l e R s m args below meth c cells slots Z A D w sa sb nL lp (pc + len) L (.inr (.inl x) :: st) h) : Sim p l e R s m args below meth c cells slots Z A D w sa sb nL lp pc L (.inl x :: st) h := by
  obtain ⟨hx, hb, hml, hown, hts, hnw, hK, hstr, hvs, hA, hroom⟩ := C0
  obtain ⟨hdg, rfl⟩ := dqB_spec hc
  intro H locs ls jst hw hl hs
  obtain ⟨a, t, rfl, rfl, hs2⟩ := hs.int
  exact lv_i2l hx hb hdg rfl (K _ _ _ _ hw hl ⟨⟨_, rfl, Int32.toInt_toInt64 a⟩, hs2⟩)
theorem so_32 (C0 : Ctx p R s m args c cells slots A own bytes nL D w sa sv) (hc : dqB bytes pc .l2i 1 len = true) (K : Sim p l e R s m args below meth c cells slots Z A D w sa sb nL lp (pc + len) L (.inl (wr x) :: st) h) : Sim p l e R s m args below meth c cells slots Z A D w sa sb nL lp pc L (.inr (.inl x) :: st) h := by
  obtain ⟨hx, hb, hml, hown, hts, hnw, hK, hstr, hvs, hA, hroom⟩ := C0
  obtain ⟨hdg, rfl⟩ := dqB_spec hc
  intro H locs ls jst hw hl hs
  obtain ⟨a, t, rfl, rfl, hs2⟩ := hs.lng
  exact lv_l2i hx hb hdg rfl (K _ _ _ _ hw hl ⟨⟨_, rfl, Int64.toInt_toInt32 a⟩, hs2⟩)
theorem so_33 (C0 : Ctx p R s m args c cells slots A own bytes nL D w sa sv) (hc : dqB bytes pc .i2b 1 len = true) (K : Sim p l e R s m args below meth c cells slots Z A D w sa sb nL lp (pc + len) L (.inl (opB x) :: st) h) : Sim p l e R s m args below meth c cells slots Z A D w sa sb nL lp pc L (.inl x :: st) h := by
  obtain ⟨hx, hb, hml, hown, hts, hnw, hK, hstr, hvs, hA, hroom⟩ := C0
  obtain ⟨hdg, rfl⟩ := dqB_spec hc
  intro H locs ls jst hw hl hs
  obtain ⟨a, t, rfl, rfl, hs2⟩ := hs.int
  exact lv_i2b hx hb hdg rfl (K _ _ _ _ hw hl ⟨⟨_, rfl, by rw [Int8.toInt_toInt32, Int32.toInt_toInt8]; rfl⟩, hs2⟩)
theorem so_34 (C0 : Ctx p R s m args c cells slots A own bytes nL D w sa sv) (hc : dqB bytes pc .i2s 1 len = true) (K : Sim p l e R s m args below meth c cells slots Z A D w sa sb nL lp (pc + len) L (.inl (opS x) :: st) h) : Sim p l e R s m args below meth c cells slots Z A D w sa sb nL lp pc L (.inl x :: st) h := by
  obtain ⟨hx, hb, hml, hown, hts, hnw, hK, hstr, hvs, hA, hroom⟩ := C0
  obtain ⟨hdg, rfl⟩ := dqB_spec hc
  intro H locs ls jst hw hl hs
  obtain ⟨a, t, rfl, rfl, hs2⟩ := hs.int
  exact lv_i2s hx hb hdg rfl (K _ _ _ _ hw hl ⟨⟨_, rfl, by rw [Int16.toInt_toInt32, Int32.toInt_toInt16]; rfl⟩, hs2⟩)
theorem lg_cmp_int (a b : Int64) : (lg_cmp a b).toInt = opCmp a.toInt b.toInt := by
  unfold lg_cmp opCmp
  by_cases h1 : b < a
  · have h2 : b.toInt < a.toInt := Int64.lt_iff_toInt_lt.mp h1
    rw [if_pos h1, if_neg (by omega), if_neg (by omega)]; rfl
  · have h2 : ¬ b.toInt < a.toInt := fun q => h1 (Int64.lt_iff_toInt_lt.mpr q)
    rw [if_neg h1]
    by_cases h3 : a = b
    · subst h3; simp
    · have h4 : ¬ a.toInt = b.toInt := fun q => h3 (Int64.toInt_inj.mp q)
      rw [if_neg h3, if_pos (by omega)]; rfl
theorem so_35 (C0 : Ctx p R s m args c cells slots A own bytes nL D w sa sv) (hc : dqB bytes pc .lcmp 1 len = true) (K : Sim p l e R s m args below meth c cells slots Z A D w sa sb nL lp (pc + len) L (.inl (opCmp x y) :: st) h) : Sim p l e R s m args below meth c cells slots Z A D w sa sb nL lp pc L (.inr (.inl y) :: .inr (.inl x) :: st) h := by
  obtain ⟨hx, hb, hml, hown, hts, hnw, hK, hstr, hvs, hA, hroom⟩ := C0
  obtain ⟨hdg, rfl⟩ := dqB_spec hc
  intro H locs ls jst hw hl hs
  obtain ⟨b, t1, rfl, rfl, hs1⟩ := hs.lng
  obtain ⟨a, t, rfl, rfl, hs2⟩ := hs1.lng
  exact W.lcmp hx hb hdg (K _ _ _ _ hw hl ⟨⟨_, rfl, lg_cmp_int a b⟩, hs2⟩)
theorem so_36 (C0 : Ctx p R s m args c cells slots A own bytes nL D w sa sv) (hc : dqB bytes pc .land 1 len = true) (K : Sim p l e R s m args below meth c cells slots Z A D w sa sb nL lp (pc + len) L (.inr (.inl (opLand x y)) :: st) h) : Sim p l e R s m args below meth c cells slots Z A D w sa sb nL lp pc L (.inr (.inl y) :: .inr (.inl x) :: st) h := by
  obtain ⟨hx, hb, hml, hown, hts, hnw, hK, hstr, hvs, hA, hroom⟩ := C0
  obtain ⟨hdg, rfl⟩ := dqB_spec hc
  intro H locs ls jst hw hl hs
  obtain ⟨b, t1, rfl, rfl, hs1⟩ := hs.lng
  obtain ⟨a, t, rfl, rfl, hs2⟩ := hs1.lng
  exact lv_land hx hb hdg (K _ _ _ _ hw hl ⟨⟨_, rfl, by unfold opLand; rw [i64_of, i64_of]⟩, hs2⟩)
theorem so_37 (C0 : Ctx p R s m args c cells slots A own bytes nL D w sa sv) (hc : dqB bytes pc .lor 1 len = true) (K : Sim p l e R s m args below meth c cells slots Z A D w sa sb nL lp (pc + len) L (.inr (.inl (opLor x y)) :: st) h) : Sim p l e R s m args below meth c cells slots Z A D w sa sb nL lp pc L (.inr (.inl y) :: .inr (.inl x) :: st) h := by
  obtain ⟨hx, hb, hml, hown, hts, hnw, hK, hstr, hvs, hA, hroom⟩ := C0
  obtain ⟨hdg, rfl⟩ := dqB_spec hc
  intro H locs ls jst hw hl hs
  obtain ⟨b, t1, rfl, rfl, hs1⟩ := hs.lng
  obtain ⟨a, t, rfl, rfl, hs2⟩ := hs1.lng
  exact lv_lor hx hb hdg (K _ _ _ _ hw hl ⟨⟨_, rfl, by unfold opLor; rw [i64_of, i64_of]⟩, hs2⟩)
theorem so_38 (C0 : Ctx p R s m args c cells slots A own bytes nL D w sa sv) (hc : dqB bytes pc .lshl 1 len = true) (K : Sim p l e R s m args below meth c cells slots Z A D w sa sb nL lp (pc + len) L (.inr (.inl (opLshl x y)) :: st) h) : Sim p l e R s m args below meth c cells slots Z A D w sa sb nL lp pc L (.inl y :: .inr (.inl x) :: st) h := by
  obtain ⟨hx, hb, hml, hown, hts, hnw, hK, hstr, hvs, hA, hroom⟩ := C0
  obtain ⟨hdg, rfl⟩ := dqB_spec hc
  intro H locs ls jst hw hl hs
  obtain ⟨b, t1, rfl, rfl, hs1⟩ := hs.int
  obtain ⟨a, t, rfl, rfl, hs2⟩ := hs1.lng
  exact lv_lshl hx hb hdg rfl (K _ _ _ _ hw hl ⟨⟨_, rfl, by unfold opLshl; rw [i64_of, i32_of]⟩, hs2⟩)
theorem so_39 (C0 : Ctx p R s m args c cells slots A own bytes nL D w sa sv) (hc : dqB bytes pc .ladd 1 len = true) (K : Sim p l e R s m args below meth c cells slots Z A D w sa sb nL lp (pc + len) L (.inr (.inl (wl (x + y))) :: st) h) : Sim p l e R s m args below meth c cells slots Z A D w sa sb nL lp pc L (.inr (.inl y) :: .inr (.inl x) :: st) h := by
  obtain ⟨hx, hb, hml, hown, hts, hnw, hK, hstr, hvs, hA, hroom⟩ := C0
  obtain ⟨hdg, rfl⟩ := dqB_spec hc
  intro H locs ls jst hw hl hs
  obtain ⟨b, t1, rfl, rfl, hs1⟩ := hs.lng
  obtain ⟨a, t, rfl, rfl, hs2⟩ := hs1.lng
  exact lv_ladd hx hb hdg (K _ _ _ _ hw hl ⟨⟨_, rfl, Int64.toInt_add a b⟩, hs2⟩)
theorem so_40 (C0 : Ctx p R s m args c cells slots A own bytes nL D w sa sv) (hc : dqB bytes pc .dup 1 len = true) (K : Sim p l e R s m args below meth c cells slots Z A D w sa sb nL lp (pc + len) L (.inl x :: .inl x :: st) h) : Sim p l e R s m args below meth c cells slots Z A D w sa sb nL lp pc L (.inl x :: st) h := by
  obtain ⟨hx, hb, hml, hown, hts, hnw, hK, hstr, hvs, hA, hroom⟩ := C0
  obtain ⟨hdg, rfl⟩ := dqB_spec hc
  intro H locs ls jst hw hl hs
  obtain ⟨a, t, rfl, hv, hs2⟩ := hs.cons
  obtain ⟨u, rfl, hu⟩ := id hv
  exact lv_dup hx hb hdg rfl (K _ _ _ _ hw hl ⟨hv, hv, hs2⟩)
theorem so_40r (C0 : Ctx p R s m args c cells slots A own bytes nL D w sa sv) (hc : dqB bytes pc .dup 1 len = true) (K : Sim p l e R s m args below meth c cells slots Z A D w sa sb nL lp (pc + len) L (.inr (.inr z) :: .inr (.inr z) :: st) h) : Sim p l e R s m args below meth c cells slots Z A D w sa sb nL lp pc L (.inr (.inr z) :: st) h := by
  obtain ⟨hx, hb, hml, hown, hts, hnw, hK, hstr, hvs, hA, hroom⟩ := C0
  obtain ⟨hdg, rfl⟩ := dqB_spec hc
  intro H locs ls jst hw hl hs
  obtain ⟨a, t, rfl, hv, hs2⟩ := hs.cons
  exact lv_dup hx hb hdg hv.cat1 (K _ _ _ _ hw hl ⟨hv, hv, hs2⟩)
theorem so_41 (C0 : Ctx p R s m args c cells slots A own bytes nL D w sa sv) (hc : dqB bytes pc .dup2 1 len = true) (K : Sim p l e R s m args below meth c cells slots Z A D w sa sb nL lp (pc + len) L (.inl x :: .inr (.inr z) :: .inl x :: .inr (.inr z) :: st) h) : Sim p l e R s m args below meth c cells slots Z A D w sa sb nL lp pc L (.inl x :: .inr (.inr z) :: st) h := by
  obtain ⟨hx, hb, hml, hown, hts, hnw, hK, hstr, hvs, hA, hroom⟩ := C0
  obtain ⟨hdg, rfl⟩ := dqB_spec hc
  intro H locs ls jst hw hl hs
  obtain ⟨a, t, rfl, hv, hs2⟩ := hs.cons
  obtain ⟨u, rfl, hu⟩ := id hv
  obtain ⟨b, t2, rfl, hv2, hs3⟩ := hs2.cons
  exact lv_dup2_11 hx hb hdg rfl hv2.cat1 (K _ _ _ _ hw hl ⟨hv, hv2, hv, hv2, hs3⟩)
theorem so_42 (C0 : Ctx p R s m args c cells slots A own bytes nL D w sa sv) (hc : dqB bytes pc .dup_x1 1 len = true) (K : Sim p l e R s m args below meth c cells slots Z A D w sa sb nL lp (pc + len) L (.inl x :: .inr (.inr z) :: .inl x :: st) h) : Sim p l e R s m args below meth c cells slots Z A D w sa sb nL lp pc L (.inl x :: .inr (.inr z) :: st) h := by
  obtain ⟨hx, hb, hml, hown, hts, hnw, hK, hstr, hvs, hA, hroom⟩ := C0
  obtain ⟨hdg, rfl⟩ := dqB_spec hc
  intro H locs ls jst hw hl hs
  obtain ⟨a, t, rfl, hv, hs2⟩ := hs.cons
  obtain ⟨u, rfl, hu⟩ := id hv
  obtain ⟨b, t2, rfl, hv2, hs3⟩ := hs2.cons
  exact lv_dup_x1 hx hb hdg rfl hv2.cat1 (K _ _ _ _ hw hl ⟨hv, hv2, hv, hs3⟩)
theorem so_43 (C0 : Ctx p R s m args c cells slots A own bytes nL D w sa sv) (hc : dqB bytes pc .pop 1 len = true) (K : Sim p l e R s m args below meth c cells slots Z A D w sa sb nL lp (pc + len) L st h) : Sim p l e R s m args below meth c cells slots Z A D w sa sb nL lp pc L (.inl x :: st) h := by
  obtain ⟨hx, hb, hml, hown, hts, hnw, hK, hstr, hvs, hA, hroom⟩ := C0
  obtain ⟨hdg, rfl⟩ := dqB_spec hc
  intro H locs ls jst hw hl hs
  obtain ⟨a, t, rfl, rfl, hs2⟩ := hs.int
  exact lv_pop hx hb hdg rfl (K _ _ _ _ hw hl hs2)
theorem so_45 (C0 : Ctx p R s m args c cells slots A own bytes nL D w sa sv) (hc : ifB bytes pc len .goto x = true) (K : Sim p l e R s m args below meth c cells slots Z A D w sa sb nL lp x.toNat L st h) : Sim p l e R s m args below meth c cells slots Z A D w sa sb nL lp pc L st h := by
  obtain ⟨hx, hb, hml, hown, hts, hnw, hK, hstr, hvs, hA, hroom⟩ := C0
  unfold ifB at hc
  simp only [Bool.and_eq_true, decide_eq_true_eq] at hc
  obtain ⟨h0, hc⟩ := hc
  obtain ⟨hdg, rfl⟩ := dqB_spec hc
  have ht : (pc : Int) + (x - pc) = (x.toNat : Int) := by omega
  intro H locs ls jst hw hl hs
  exact lv_goto hx hb hdg ht (K _ _ _ _ hw hl hs)
theorem so_46 (C0 : Ctx p R s m args c cells slots A own bytes nL D w sa sv) (hc : ifB bytes pc len (.ifCond .eq) x = true) (K : Sim p l e R s m args below meth c cells slots Z A D w sa sb nL lp (if y = 0 then x.toNat else pc + len) L st h) : Sim p l e R s m args below meth c cells slots Z A D w sa sb nL lp pc L (.inl y :: st) h := by
  obtain ⟨hx, hb, hml, hown, hts, hnw, hK, hstr, hvs, hA, hroom⟩ := C0
  unfold ifB at hc
  simp only [Bool.and_eq_true, decide_eq_true_eq] at hc
  obtain ⟨h0, hc⟩ := hc
  obtain ⟨hdg, rfl⟩ := dqB_spec hc
  have ht : (pc : Int) + (x - pc) = (x.toNat : Int) := by omega
  intro H locs ls jst hw hl hs
  obtain ⟨a, t, rfl, rfl, hs2⟩ := hs.int
  refine lv_if_eq hx hb hdg ht (fun hq => ?_) (fun hq => ?_)
  · have hn := K _ _ _ _ hw hl hs2
    rw [if_pos (by first | (rw [hq]; rfl) | exact fun q => hq (i32_inj q))] at hn
    exact hn
  · have hn := K _ _ _ _ hw hl hs2
    rw [if_neg (by first | (rw [hq]; rfl) | exact fun q => hq (i32_inj q))] at hn
    exact hn

theorem so_47 (C0 : Ctx p R s m args c cells slots A own bytes nL D w sa sv) (hc : ifB bytes pc len (.ifCond .ne) x = true) (K : Sim p l e R s m args below meth c cells slots Z A D w sa sb nL lp (if y = 0 then pc + len else x.toNat) L st h) : Sim p l e R s m args below meth c cells slots Z A D w sa sb nL lp pc L (.inl y :: st) h := by
  obtain ⟨hx, hb, hml, hown, hts, hnw, hK, hstr, hvs, hA, hroom⟩ := C0
  unfold ifB at hc
  simp only [Bool.and_eq_true, decide_eq_true_eq] at hc
  obtain ⟨h0, hc⟩ := hc
  obtain ⟨hdg, rfl⟩ := dqB_spec hc
  have ht : (pc : Int) + (x - pc) = (x.toNat : Int) := by omega
  intro H locs ls jst hw hl hs
  obtain ⟨a, t, rfl, rfl, hs2⟩ := hs.int
  refine lv_if_ne hx hb hdg ht (fun hq => ?_) (fun hq => ?_)
  · have hn := K _ _ _ _ hw hl hs2
    rw [if_neg (by first | (rw [hq]; rfl) | exact fun q => hq (i32_inj q))] at hn
    exact hn
  · have hn := K _ _ _ _ hw hl hs2
    rw [if_pos (by first | (rw [hq]; rfl) | exact fun q => hq (i32_inj q))] at hn
    exact hn

theorem so_48 (C0 : Ctx p R s m args c cells slots A own bytes nL D w sa sv) (hc : ifB bytes pc len (.ifCond .lt) x = true) (K : Sim p l e R s m args below meth c cells slots Z A D w sa sb nL lp (if y < 0 then x.toNat else pc + len) L st h) : Sim p l e R s m args below meth c cells slots Z A D w sa sb nL lp pc L (.inl y :: st) h := by
  obtain ⟨hx, hb, hml, hown, hts, hnw, hK, hstr, hvs, hA, hroom⟩ := C0
  unfold ifB at hc
  simp only [Bool.and_eq_true, decide_eq_true_eq] at hc
  obtain ⟨h0, hc⟩ := hc
  obtain ⟨hdg, rfl⟩ := dqB_spec hc
  have ht : (pc : Int) + (x - pc) = (x.toNat : Int) := by omega
  intro H locs ls jst hw hl hs
  obtain ⟨a, t, rfl, rfl, hs2⟩ := hs.int
  refine lv_if_lt hx hb hdg ht (fun hq => ?_) (fun hq => ?_)
  · have hn := K _ _ _ _ hw hl hs2
    rw [if_pos (by first | exact Int32.lt_iff_toInt_lt.mp hq | exact fun q => hq (Int32.lt_iff_toInt_lt.mpr q) | exact Int.not_lt.mpr (Int32.le_iff_toInt_le.mp hq) | exact Int.not_le.mp (fun q => hq (Int32.le_iff_toInt_le.mpr q)))] at hn
    exact hn
  · have hn := K _ _ _ _ hw hl hs2
    rw [if_neg (by first | exact Int32.lt_iff_toInt_lt.mp hq | exact fun q => hq (Int32.lt_iff_toInt_lt.mpr q) | exact Int.not_lt.mpr (Int32.le_iff_toInt_le.mp hq) | exact Int.not_le.mp (fun q => hq (Int32.le_iff_toInt_le.mpr q)))] at hn
    exact hn

theorem so_49 (C0 : Ctx p R s m args c cells slots A own bytes nL D w sa sv) (hc : ifB bytes pc len (.ifCond .ge) x = true) (K : Sim p l e R s m args below meth c cells slots Z A D w sa sb nL lp (if y < 0 then pc + len else x.toNat) L st h) : Sim p l e R s m args below meth c cells slots Z A D w sa sb nL lp pc L (.inl y :: st) h := by
  obtain ⟨hx, hb, hml, hown, hts, hnw, hK, hstr, hvs, hA, hroom⟩ := C0
  unfold ifB at hc
  simp only [Bool.and_eq_true, decide_eq_true_eq] at hc
  obtain ⟨h0, hc⟩ := hc
  obtain ⟨hdg, rfl⟩ := dqB_spec hc
  have ht : (pc : Int) + (x - pc) = (x.toNat : Int) := by omega
  intro H locs ls jst hw hl hs
  obtain ⟨a, t, rfl, rfl, hs2⟩ := hs.int
  refine lv_if_ge hx hb hdg ht (fun hq => ?_) (fun hq => ?_)
  · have hn := K _ _ _ _ hw hl hs2
    rw [if_neg (by first | exact Int32.lt_iff_toInt_lt.mp hq | exact fun q => hq (Int32.lt_iff_toInt_lt.mpr q) | exact Int.not_lt.mpr (Int32.le_iff_toInt_le.mp hq) | exact Int.not_le.mp (fun q => hq (Int32.le_iff_toInt_le.mpr q)))] at hn
    exact hn
  · have hn := K _ _ _ _ hw hl hs2
    rw [if_pos (by first | exact Int32.lt_iff_toInt_lt.mp hq | exact fun q => hq (Int32.lt_iff_toInt_lt.mpr q) | exact Int.not_lt.mpr (Int32.le_iff_toInt_le.mp hq) | exact Int.not_le.mp (fun q => hq (Int32.le_iff_toInt_le.mpr q)))] at hn
    exact hn

theorem so_50 (C0 : Ctx p R s m args c cells slots A own bytes nL D w sa sv) (hc : ifB bytes pc len (.ifCond .gt) x = true) (K : Sim p l e R s m args below meth c cells slots Z A D w sa sb nL lp (if 0 < y then x.toNat else pc + len) L st h) : Sim p l e R s m args below meth c cells slots Z A D w sa sb nL lp pc L (.inl y :: st) h := by
  obtain ⟨hx, hb, hml, hown, hts, hnw, hK, hstr, hvs, hA, hroom⟩ := C0
  unfold ifB at hc
  simp only [Bool.and_eq_true, decide_eq_true_eq] at hc
  obtain ⟨h0, hc⟩ := hc
  obtain ⟨hdg, rfl⟩ := dqB_spec hc
  have ht : (pc : Int) + (x - pc) = (x.toNat : Int) := by omega
  intro H locs ls jst hw hl hs
  obtain ⟨a, t, rfl, rfl, hs2⟩ := hs.int
  refine lv_if_gt hx hb hdg ht (fun hq => ?_) (fun hq => ?_)
  · have hn := K _ _ _ _ hw hl hs2
    rw [if_pos (by first | exact Int32.lt_iff_toInt_lt.mp hq | exact fun q => hq (Int32.lt_iff_toInt_lt.mpr q) | exact Int.not_lt.mpr (Int32.le_iff_toInt_le.mp hq) | exact Int.not_le.mp (fun q => hq (Int32.le_iff_toInt_le.mpr q)))] at hn
    exact hn
  · have hn := K _ _ _ _ hw hl hs2
    rw [if_neg (by first | exact Int32.lt_iff_toInt_lt.mp hq | exact fun q => hq (Int32.lt_iff_toInt_lt.mpr q) | exact Int.not_lt.mpr (Int32.le_iff_toInt_le.mp hq) | exact Int.not_le.mp (fun q => hq (Int32.le_iff_toInt_le.mpr q)))] at hn
    exact hn

theorem so_51 (C0 : Ctx p R s m args c cells slots A own bytes nL D w sa sv) (hc : ifB bytes pc len (.ifCond .le) x = true) (K : Sim p l e R s m args below meth c cells slots Z A D w sa sb nL lp (if 0 < y then pc + len else x.toNat) L st h) : Sim p l e R s m args below meth c cells slots Z A D w sa sb nL lp pc L (.inl y :: st) h := by
  obtain ⟨hx, hb, hml, hown, hts, hnw, hK, hstr, hvs, hA, hroom⟩ := C0
  unfold ifB at hc
  simp only [Bool.and_eq_true, decide_eq_true_eq] at hc
  obtain ⟨h0, hc⟩ := hc
  obtain ⟨hdg, rfl⟩ := dqB_spec hc
  have ht : (pc : Int) + (x - pc) = (x.toNat : Int) := by omega
  intro H locs ls jst hw hl hs
  obtain ⟨a, t, rfl, rfl, hs2⟩ := hs.int
  refine lv_if_le hx hb hdg ht (fun hq => ?_) (fun hq => ?_)
  · have hn := K _ _ _ _ hw hl hs2
    rw [if_neg (by first | exact Int32.lt_iff_toInt_lt.mp hq | exact fun q => hq (Int32.lt_iff_toInt_lt.mpr q) | exact Int.not_lt.mpr (Int32.le_iff_toInt_le.mp hq) | exact Int.not_le.mp (fun q => hq (Int32.le_iff_toInt_le.mpr q)))] at hn
    exact hn
  · have hn := K _ _ _ _ hw hl hs2
    rw [if_pos (by first | exact Int32.lt_iff_toInt_lt.mp hq | exact fun q => hq (Int32.lt_iff_toInt_lt.mpr q) | exact Int.not_lt.mpr (Int32.le_iff_toInt_le.mp hq) | exact Int.not_le.mp (fun q => hq (Int32.le_iff_toInt_le.mpr q)))] at hn
    exact hn

theorem so_52 (C0 : Ctx p R s m args c cells slots A own bytes nL D w sa sv) {u : Int} (hc : ifB bytes pc len (.if_icmp .eq) x = true) (K : Sim p l e R s m args below meth c cells slots Z A D w sa sb nL lp (if y = u then x.toNat else pc + len) L st h) : Sim p l e R s m args below meth c cells slots Z A D w sa sb nL lp pc L (.inl u :: .inl y :: st) h := by
  obtain ⟨hx, hb, hml, hown, hts, hnw, hK, hstr, hvs, hA, hroom⟩ := C0
  unfold ifB at hc
  simp only [Bool.and_eq_true, decide_eq_true_eq] at hc
  obtain ⟨h0, hc⟩ := hc
  obtain ⟨hdg, rfl⟩ := dqB_spec hc
  have ht : (pc : Int) + (x - pc) = (x.toNat : Int) := by omega
  intro H locs ls jst hw hl hs
  obtain ⟨b, t1, rfl, rfl, hs1⟩ := hs.int
  obtain ⟨a, t, rfl, rfl, hs2⟩ := hs1.int
  refine lv_icmp_eq hx hb hdg ht (fun hq => ?_) (fun hq => ?_)
  · have hn := K _ _ _ _ hw hl hs2
    rw [if_pos (by first | (rw [hq]) | exact fun q => hq (i32_inj q))] at hn
    exact hn
  · have hn := K _ _ _ _ hw hl hs2
    rw [if_neg (by first | (rw [hq]) | exact fun q => hq (i32_inj q))] at hn
    exact hn

theorem so_53 (C0 : Ctx p R s m args c cells slots A own bytes nL D w sa sv) {u : Int} (hc : ifB bytes pc len (.if_icmp .ne) x = true) (K : Sim p l e R s m args below meth c cells slots Z A D w sa sb nL lp (if y = u then pc + len else x.toNat) L st h) : Sim p l e R s m args below meth c cells slots Z A D w sa sb nL lp pc L (.inl u :: .inl y :: st) h := by
  obtain ⟨hx, hb, hml, hown, hts, hnw, hK, hstr, hvs, hA, hroom⟩ := C0
  unfold ifB at hc
  simp only [Bool.and_eq_true, decide_eq_true_eq] at hc
  obtain ⟨h0, hc⟩ := hc
  obtain ⟨hdg, rfl⟩ := dqB_spec hc
  have ht : (pc : Int) + (x - pc) = (x.toNat : Int) := by omega
  intro H locs ls jst hw hl hs
  obtain ⟨b, t1, rfl, rfl, hs1⟩ := hs.int
  obtain ⟨a, t, rfl, rfl, hs2⟩ := hs1.int
  refine lv_icmp_ne hx hb hdg ht (fun hq => ?_) (fun hq => ?_)
  · have hn := K _ _ _ _ hw hl hs2
    rw [if_neg (by first | (rw [hq]) | exact fun q => hq (i32_inj q))] at hn
    exact hn
  · have hn := K _ _ _ _ hw hl hs2
    rw [if_pos (by first | (rw [hq]) | exact fun q => hq (i32_inj q))] at hn
    exact hn

theorem so_54 (C0 : Ctx p R s m args c cells slots A own bytes nL D w sa sv) {u : Int} (hc : ifB bytes pc len (.if_icmp .lt) x = true) (K : Sim p l e R s m args below meth c cells slots Z A D w sa sb nL lp (if y < u then x.toNat else pc + len) L st h) : Sim p l e R s m args below meth c cells slots Z A D w sa sb nL lp pc L (.inl u :: .inl y :: st) h := by
  obtain ⟨hx, hb, hml, hown, hts, hnw, hK, hstr, hvs, hA, hroom⟩ := C0
  unfold ifB at hc
  simp only [Bool.and_eq_true, decide_eq_true_eq] at hc
  obtain ⟨h0, hc⟩ := hc
  obtain ⟨hdg, rfl⟩ := dqB_spec hc
  have ht : (pc : Int) + (x - pc) = (x.toNat : Int) := by omega
  intro H locs ls jst hw hl hs
  obtain ⟨b, t1, rfl, rfl, hs1⟩ := hs.int
  obtain ⟨a, t, rfl, rfl, hs2⟩ := hs1.int
  refine lv_icmp_lt hx hb hdg ht (fun hq => ?_) (fun hq => ?_)
  · have hn := K _ _ _ _ hw hl hs2
    rw [if_pos (by first | exact Int32.lt_iff_toInt_lt.mp hq | exact fun q => hq (Int32.lt_iff_toInt_lt.mpr q) | exact Int.not_lt.mpr (Int32.le_iff_toInt_le.mp hq) | exact Int.not_le.mp (fun q => hq (Int32.le_iff_toInt_le.mpr q)))] at hn
    exact hn
  · have hn := K _ _ _ _ hw hl hs2
    rw [if_neg (by first | exact Int32.lt_iff_toInt_lt.mp hq | exact fun q => hq (Int32.lt_iff_toInt_lt.mpr q) | exact Int.not_lt.mpr (Int32.le_iff_toInt_le.mp hq) | exact Int.not_le.mp (fun q => hq (Int32.le_iff_toInt_le.mpr q)))] at hn
    exact hn

theorem so_55 (C0 : Ctx p R s m args c cells slots A own bytes nL D w sa sv) {u : Int} (hc : ifB bytes pc len (.if_icmp .ge) x = true) (K : Sim p l e R s m args below meth c cells slots Z A D w sa sb nL lp (if y < u then pc + len else x.toNat) L st h) : Sim p l e R s m args below meth c cells slots Z A D w sa sb nL lp pc L (.inl u :: .inl y :: st) h := by
  obtain ⟨hx, hb, hml, hown, hts, hnw, hK, hstr, hvs, hA, hroom⟩ := C0
  unfold ifB at hc
  simp only [Bool.and_eq_true, decide_eq_true_eq] at hc
  obtain ⟨h0, hc⟩ := hc
  obtain ⟨hdg, rfl⟩ := dqB_spec hc
  have ht : (pc : Int) + (x - pc) = (x.toNat : Int) := by omega
  intro H locs ls jst hw hl hs
  obtain ⟨b, t1, rfl, rfl, hs1⟩ := hs.int
  obtain ⟨a, t, rfl, rfl, hs2⟩ := hs1.int
  refine lv_icmp_ge hx hb hdg ht (fun hq => ?_) (fun hq => ?_)
  · have hn := K _ _ _ _ hw hl hs2
    rw [if_neg (by first | exact Int32.lt_iff_toInt_lt.mp hq | exact fun q => hq (Int32.lt_iff_toInt_lt.mpr q) | exact Int.not_lt.mpr (Int32.le_iff_toInt_le.mp hq) | exact Int.not_le.mp (fun q => hq (Int32.le_iff_toInt_le.mpr q)))] at hn
    exact hn
  · have hn := K _ _ _ _ hw hl hs2
    rw [if_pos (by first | exact Int32.lt_iff_toInt_lt.mp hq | exact fun q => hq (Int32.lt_iff_toInt_lt.mpr q) | exact Int.not_lt.mpr (Int32.le_iff_toInt_le.mp hq) | exact Int.not_le.mp (fun q => hq (Int32.le_iff_toInt_le.mpr q)))] at hn
    exact hn

theorem so_56 (C0 : Ctx p R s m args c cells slots A own bytes nL D w sa sv) {u : Int} (hc : ifB bytes pc len (.if_icmp .gt) x = true) (K : Sim p l e R s m args below meth c cells slots Z A D w sa sb nL lp (if u < y then x.toNat else pc + len) L st h) : Sim p l e R s m args below meth c cells slots Z A D w sa sb nL lp pc L (.inl u :: .inl y :: st) h := by
  obtain ⟨hx, hb, hml, hown, hts, hnw, hK, hstr, hvs, hA, hroom⟩ := C0
  unfold ifB at hc
  simp only [Bool.and_eq_true, decide_eq_true_eq] at hc
  obtain ⟨h0, hc⟩ := hc
  obtain ⟨hdg, rfl⟩ := dqB_spec hc
  have ht : (pc : Int) + (x - pc) = (x.toNat : Int) := by omega
  intro H locs ls jst hw hl hs
  obtain ⟨b, t1, rfl, rfl, hs1⟩ := hs.int
  obtain ⟨a, t, rfl, rfl, hs2⟩ := hs1.int
  refine lv_icmp_gt hx hb hdg ht (fun hq => ?_) (fun hq => ?_)
  · have hn := K _ _ _ _ hw hl hs2
    rw [if_pos (by first | exact Int32.lt_iff_toInt_lt.mp hq | exact fun q => hq (Int32.lt_iff_toInt_lt.mpr q) | exact Int.not_lt.mpr (Int32.le_iff_toInt_le.mp hq) | exact Int.not_le.mp (fun q => hq (Int32.le_iff_toInt_le.mpr q)))] at hn
    exact hn
  · have hn := K _ _ _ _ hw hl hs2
    rw [if_neg (by first | exact Int32.lt_iff_toInt_lt.mp hq | exact fun q => hq (Int32.lt_iff_toInt_lt.mpr q) | exact Int.not_lt.mpr (Int32.le_iff_toInt_le.mp hq) | exact Int.not_le.mp (fun q => hq (Int32.le_iff_toInt_le.mpr q)))] at hn
    exact hn

theorem so_57 (C0 : Ctx p R s m args c cells slots A own bytes nL D w sa sv) {u : Int} (hc : ifB bytes pc len (.if_icmp .le) x = true) (K : Sim p l e R s m args below meth c cells slots Z A D w sa sb nL lp (if u < y then pc + len else x.toNat) L st h) : Sim p l e R s m args below meth c cells slots Z A D w sa sb nL lp pc L (.inl u :: .inl y :: st) h := by
  obtain ⟨hx, hb, hml, hown, hts, hnw, hK, hstr, hvs, hA, hroom⟩ := C0
  unfold ifB at hc
  simp only [Bool.and_eq_true, decide_eq_true_eq] at hc
  obtain ⟨h0, hc⟩ := hc
  obtain ⟨hdg, rfl⟩ := dqB_spec hc
  have ht : (pc : Int) + (x - pc) = (x.toNat : Int) := by omega
  intro H locs ls jst hw hl hs
  obtain ⟨b, t1, rfl, rfl, hs1⟩ := hs.int
  obtain ⟨a, t, rfl, rfl, hs2⟩ := hs1.int
  refine lv_icmp_le hx hb hdg ht (fun hq => ?_) (fun hq => ?_)
  · have hn := K _ _ _ _ hw hl hs2
    rw [if_neg (by first | exact Int32.lt_iff_toInt_lt.mp hq | exact fun q => hq (Int32.lt_iff_toInt_lt.mpr q) | exact Int.not_lt.mpr (Int32.le_iff_toInt_le.mp hq) | exact Int.not_le.mp (fun q => hq (Int32.le_iff_toInt_le.mpr q)))] at hn
    exact hn
  · have hn := K _ _ _ _ hw hl hs2
    rw [if_pos (by first | exact Int32.lt_iff_toInt_lt.mp hq | exact fun q => hq (Int32.lt_iff_toInt_lt.mpr q) | exact Int.not_lt.mpr (Int32.le_iff_toInt_le.mp hq) | exact Int.not_le.mp (fun q => hq (Int32.le_iff_toInt_le.mpr q)))] at hn
    exact hn

theorem so_58 (C0 : Ctx p R s m args c cells slots A own bytes nL D w sa sv) {q : Nat × Nat} (hc : ifB bytes pc len .ifnull x = true) (K : Sim p l e R s m args below meth c cells slots Z A D w sa sb nL lp (pc + len) L st h) : Sim p l e R s m args below meth c cells slots Z A D w sa sb nL lp pc L (.inr (.inr (.inl q)) :: st) h := by
  obtain ⟨hx, hb, hml, hown, hts, hnw, hK, hstr, hvs, hA, hroom⟩ := C0
  unfold ifB at hc
  simp only [Bool.and_eq_true, decide_eq_true_eq] at hc
  obtain ⟨h0, hc⟩ := hc
  obtain ⟨hdg, rfl⟩ := dqB_spec hc
  have ht : (pc : Int) + (x - pc) = (x.toNat : Int) := by omega
  intro H locs ls jst hw hl hs
  obtain ⟨v, t, rfl, hv, hs2⟩ := hs.cons
  rcases hv with ⟨-, rfl⟩ | ⟨-, b, -, rfl⟩ <;> exact lv_ifnull hx hb hdg (K _ _ _ _ hw hl hs2)
theorem so_58n (C0 : Ctx p R s m args c cells slots A own bytes nL D w sa sv) (hc : ifB bytes pc len .ifnull x = true) (K : Sim p l e R s m args below meth c cells slots Z A D w sa sb nL lp x.toNat L st h) : Sim p l e R s m args below meth c cells slots Z A D w sa sb nL lp pc L (.inr (.inr (.inr 0)) :: st) h := by
  obtain ⟨hx, hb, hml, hown, hts, hnw, hK, hstr, hvs, hA, hroom⟩ := C0
  unfold ifB at hc
  simp only [Bool.and_eq_true, decide_eq_true_eq] at hc
  obtain ⟨h0, hc⟩ := hc
  obtain ⟨hdg, rfl⟩ := dqB_spec hc
  have ht : (pc : Int) + (x - pc) = (x.toNat : Int) := by omega
  intro H locs ls jst hw hl hs
  obtain ⟨v, t, rfl, hv, hs2⟩ := hs.cons
  cases hv
  exact lv_ifnullN hx hb hdg ht (K _ _ _ _ hw hl hs2)
theorem so_59 (C0 : Ctx p R s m args c cells slots A own bytes nL D w sa sv) {q : Nat × Nat} (hc : ifB bytes pc len .ifnonnull x = true) (K : Sim p l e R s m args below meth c cells slots Z A D w sa sb nL lp x.toNat L st h) : Sim p l e R s m args below meth c cells slots Z A D w sa sb nL lp pc L (.inr (.inr (.inl q)) :: st) h := by
  obtain ⟨hx, hb, hml, hown, hts, hnw, hK, hstr, hvs, hA, hroom⟩ := C0
  unfold ifB at hc
  simp only [Bool.and_eq_true, decide_eq_true_eq] at hc
  obtain ⟨h0, hc⟩ := hc
  obtain ⟨hdg, rfl⟩ := dqB_spec hc
  have ht : (pc : Int) + (x - pc) = (x.toNat : Int) := by omega
  intro H locs ls jst hw hl hs
  obtain ⟨v, t, rfl, hv, hs2⟩ := hs.cons
  rcases hv with ⟨-, rfl⟩ | ⟨-, b, -, rfl⟩ <;> exact lv_ifnonnull hx hb hdg ht (K _ _ _ _ hw hl hs2)
theorem so_59n (C0 : Ctx p R s m args c cells slots A own bytes nL D w sa sv) (hc : ifB bytes pc len .ifnonnull x = true) (K : Sim p l e R s m args below meth c cells slots Z A D w sa sb nL lp (pc + len) L st h) : Sim p l e R s m args below meth c cells slots Z A D w sa sb nL lp pc L (.inr (.inr (.inr 0)) :: st) h := by
  obtain ⟨hx, hb, hml, hown, hts, hnw, hK, hstr, hvs, hA, hroom⟩ := C0
  unfold ifB at hc
  simp only [Bool.and_eq_true, decide_eq_true_eq] at hc
  obtain ⟨h0, hc⟩ := hc
  obtain ⟨hdg, rfl⟩ := dqB_spec hc
  have ht : (pc : Int) + (x - pc) = (x.toNat : Int) := by omega
  intro H locs ls jst hw hl hs
  obtain ⟨v, t, rfl, hv, hs2⟩ := hs.cons
  cases hv
  exact lv_ifnonnullN hx hb hdg (K _ _ _ _ hw hl hs2)
end SOP
