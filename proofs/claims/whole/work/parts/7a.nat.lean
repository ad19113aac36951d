/-! SOUNDNESS: the script's length, Math, arraycopy -/
theorem T_math : Jvm.Cond.static Lib.Math.max.name ∈ TBL ∧ Jvm.Cond.code Lib.Math.max.name Lib.Math.max.code 2 (some .int) ∈ TBL ∧ Jvm.Cond.static Lib.Math.min.name ∈ TBL ∧ Jvm.Cond.code Lib.Math.min.name Lib.Math.min.code 2 (some .int) ∈ TBL ∧ Jvm.Cond.initialized "java/lang/Math" ∈ TBL := by decide +kernel
theorem T_copy : Jvm.Cond.native arraycopyName ∈ TBL ∧ Jvm.Cond.static arraycopyName ∈ TBL ∧ Jvm.Cond.initialized "java/lang/System" ∈ TBL := by decide +kernel
theorem wsP_swap {D : va_G} {cl : List vw_C} {ws : va_W} {q a : Nat} {e1 e2 : va_E} {H : Heap} (hl : q < ws.length) (he : va_at D cl (a, e1) H → va_at D cl (a, e2) H) (h : va_P D cl (ws.set q (a, e1)) H) : va_P D cl (ws.set q (a, e2)) H := by
  intro k r hk
  by_cases hq : k = q
  · subst hq
    rw [List.getElem?_set_self hl] at hk
    cases hk
    exact he (h k (a, e1) (List.getElem?_set_self hl))
  · rw [List.getElem?_set_ne (Ne.symm hq)] at hk
    exact h k r (by rw [List.getElem?_set_ne (Ne.symm hq)]; exact hk)
theorem arrV_ext {c : ClassId} {n : Nat} {f f' : Nat → Value} (h : ∀ j, j < n → f j = f' j) : arrV c n f = arrV c n f' := by
  unfold arrV
  have : (Array.ofFn (n := n) fun j => f j.val) = (Array.ofFn (n := n) fun j => f' j.val) := by
    congr 1
    funext j
    exact h j.val j.isLt
  rw [this]
theorem alen_k : ∀ m, m < 37 → akind m < 2 → 0 < alenN m ∧ alenN m ≤ 1280 := by decide +kernel
section SOE
variable {p : Program} {l : Launch} {e : Env} {R : Room} {s : State} {m : MethodId} {args : Array Value} {below : List Frame} {meth : Method} {c : Code} {cells slots : Nat} {Z : State → Prop} {A : Nat → Prop}
variable {own : String} {bytes : ByteArray} {nL : Nat} {lp : List Nat} {D : va_G} {w : AW} {sa sv : Nat → Nat} {sb : SB}
variable {pc len : Nat} {L st : List AV} {h h' : AH} {x y z : Int} {g m' g1 m1 : Nat}
theorem so_80 (C0 : Ctx p R s m args c cells slots A own bytes nL D w sa sv) (hc : dqB bytes pc .arraylength 1 len = true) (K : Sim p l e R s m args below meth c cells slots Z A D w sa sb nL lp (pc + len) L (.inl (h 18 38 0) :: st) h) : Sim p l e R s m args below meth c cells slots Z A D w sa sb nL lp pc L (.inr (.inr (.inl (g, 37))) :: st) h := by
  obtain ⟨hx, hb, hml, hown, hts, hnw, hK, hstr, hvs, hA, hroom⟩ := C0
  obtain ⟨hdg, rfl⟩ := dqB_spec hc
  intro H locs ls jst hw hl hs
  obtain ⟨v, t, rfl, hv, hs2⟩ := hs.cons
  obtain ⟨hP, hD, hS, hC, hSc, hScF⟩ := id hw
  rcases hv with ⟨hin, -⟩ | ⟨-, b, hb1, rfl⟩
  · have := LOCS_37 _ hin; simp only at this; omega
  · obtain ⟨r4, r5, r6⟩ := hSc b hb1
    obtain ⟨⟨scr, a1, a2, a3, a4, a5⟩, r2, r3⟩ := hScF b hb1
    refine W.alen (ty := .int) hx hb ((hS.2.1 _ r2 r3).trans a1) a2 rfl rfl rfl hdg (K _ _ _ _ hw hl ⟨⟨_, rfl, ?_⟩, hs2⟩)
    rw [a4, r4]
    exact nI_toInt (by omega)
theorem so_90 (C0 : Ctx p R s m args c cells slots A own bytes nL D w sa sv) {i : Int} (hc : (dqB bytes pc (.invokestatic i.toNat) 3 len && decide (Jvm.Cond.methodLink own i.toNat Lib.Math.max.name ∈ TBL)) = true) (hr : st.length ≤ 4) (K : Sim p l e R s m args below meth c cells slots Z A D w sa sb nL lp (pc + len) L (.inl (amax x y) :: st) h) : Sim p l e R s m args below meth c cells slots Z A D w sa sb nL lp pc L (.inl y :: .inl x :: st) h := by
  obtain ⟨hx, hb, hml, hown, hts, hnw, hK, hstr, hvs, hA, hroom⟩ := C0
  simp only [Bool.and_eq_true, decide_eq_true_eq] at hc
  obtain ⟨hdg, rfl⟩ := dqB_spec hc.1
  intro H locs ls jst hw hl hs
  obtain ⟨b, t1, rfl, rfl, hs1⟩ := hs.int
  obtain ⟨a, t, rfl, rfl, hs2⟩ := hs1.int
  have hrm := SR.room hs2
  have hsize : ls.size = nL := by obtain ⟨-, -, lv, h3, -⟩ := hl; exact h3.1
  refine va_mmax hx hb (hml.trans hsize.symm) hown (hts _ hc.2) (hts _ T_math.1) (hts _ T_math.2.2.2.2) (hts _ T_math.2.1) (by omega) (by omega) hroom.1 hroom.2.1 hdg (K _ _ _ _ hw hl ⟨⟨_, rfl, ?_⟩, hs2⟩)
  unfold amax
  by_cases hq : a < b
  · rw [if_pos hq, if_pos (Int32.lt_iff_toInt_lt.mp hq)]
  · rw [if_neg hq, if_neg (fun q => hq (Int32.lt_iff_toInt_lt.mpr q))]
theorem so_91 (C0 : Ctx p R s m args c cells slots A own bytes nL D w sa sv) {i : Int} (hc : (dqB bytes pc (.invokestatic i.toNat) 3 len && decide (Jvm.Cond.methodLink own i.toNat Lib.Math.min.name ∈ TBL)) = true) (hr : st.length ≤ 4) (K : Sim p l e R s m args below meth c cells slots Z A D w sa sb nL lp (pc + len) L (.inl (amin x y) :: st) h) : Sim p l e R s m args below meth c cells slots Z A D w sa sb nL lp pc L (.inl y :: .inl x :: st) h := by
  obtain ⟨hx, hb, hml, hown, hts, hnw, hK, hstr, hvs, hA, hroom⟩ := C0
  simp only [Bool.and_eq_true, decide_eq_true_eq] at hc
  obtain ⟨hdg, rfl⟩ := dqB_spec hc.1
  intro H locs ls jst hw hl hs
  obtain ⟨b, t1, rfl, rfl, hs1⟩ := hs.int
  obtain ⟨a, t, rfl, rfl, hs2⟩ := hs1.int
  have hrm := SR.room hs2
  have hsize : ls.size = nL := by obtain ⟨-, -, lv, h3, -⟩ := hl; exact h3.1
  refine va_mmin hx hb (hml.trans hsize.symm) hown (hts _ hc.2) (hts _ T_math.2.2.1) (hts _ T_math.2.2.2.2) (hts _ T_math.2.2.2.1) (by omega) (by omega) hroom.1 hroom.2.1 hdg (K _ _ _ _ hw hl ⟨⟨_, rfl, ?_⟩, hs2⟩)
  unfold amin
  by_cases hq : b < a
  · rw [if_pos hq, if_pos (Int32.lt_iff_toInt_lt.mp hq)]
  · rw [if_neg hq, if_neg (fun q => hq (Int32.lt_iff_toInt_lt.mpr q))]
theorem acopy_o {sp dp n m : Nat} (g' m' : Nat) (hn : ¬ (g' = g1 ∧ m' = m1)) : acopy h g m g1 m1 sp dp n g' m' = h g' m' := by
  unfold acopy
  by_cases h1 : g' = g1
  · subst h1
    rw [fup_same, fup_ne _ _ (fun q => hn ⟨rfl, q⟩)]
  · rw [fup_ne _ _ h1]
theorem acopy_at {sp dp n m : Nat} : acopy h g m g1 m1 sp dp n g1 m1 = (if sp = 0 ∧ dp = 0 ∧ n = alenN m ∧ n = alenN m1 then h g m else arow (h g m) (h g1 m1) sp dp n) := by
  unfold acopy; rw [fup_same, fup_same]
theorem acopy_val {sp dp n m : Nat} (k' : Nat) : (∃ k1, acopy h g m g1 m1 sp dp n g1 m1 k' = h g m k1) ∨ acopy h g m g1 m1 sp dp n g1 m1 k' = h g1 m1 k' := by
  rw [acopy_at]
  by_cases hq : sp = 0 ∧ dp = 0 ∧ n = alenN m ∧ n = alenN m1
  · rw [if_pos hq]; exact Or.inl ⟨k', rfl⟩
  · rw [if_neg hq]
    unfold arow
    by_cases hr : dp ≤ k' ∧ k' < dp + n
    · rw [if_pos hr]; exact Or.inl ⟨_, rfl⟩
    · rw [if_neg hr]; exact Or.inr rfl
theorem acopy_canon {sp dp n m : Nat} (hC : Canon h) (hk : akind m = akind m1) : Canon (acopy h g m g1 m1 sp dp n) := by
  intro g' m' k'
  by_cases hn : g' = g1 ∧ m' = m1
  · obtain ⟨rfl, rfl⟩ := hn
    rcases acopy_val (h := h) (g := g) (g1 := g') (m1 := m') (sp := sp) (dp := dp) (n := n) (m := m) k' with ⟨k1, e⟩ | e
    · rw [e, ← hk]; exact hC g m k1
    · rw [e]; exact hC g' m' k'
  · rw [acopy_o g' m' hn]; exact hC _ _ _
theorem acopy_in {sp dp n m : Nat} (j : Nat) (hj : j < alenN m1) (h1 : dp + n ≤ alenN m1) : acopy h g m g1 m1 sp dp n g1 m1 j = if dp ≤ j ∧ j < dp + n then h g m (sp + (j - dp)) else h g1 m1 j := by
  rw [acopy_at]
  split
  · next hq =>
    obtain ⟨rfl, rfl, h2, h3⟩ := hq
    rw [if_pos (by omega)]
    simp
  · rfl
theorem so_92 (C0 : Ctx p R s m args c cells slots A own bytes nL D w sa sv) {i : Int} (hc : (dqB bytes pc (.invokestatic i.toNat) 3 len && decide (Jvm.Cond.methodLink own i.toNat arraycopyName ∈ TBL)) = true) (hr : st.length ≤ 4 ∧ akind m' = akind m1 ∧ akind m' < 2 ∧ m' ≠ 37 ∧ m1 ≠ 37 ∧ 0 ≤ z ∧ 0 ≤ x ∧ 0 ≤ y ∧ x + z ≤ alenN m' ∧ y + z ≤ alenN m1) (K : Sim p l e R s m args below meth c cells slots Z A D w sa sb nL lp (pc + len) L st (acopy h g m' g1 m1 x.toNat y.toNat z.toNat)) : Sim p l e R s m args below meth c cells slots Z A D w sa sb nL lp pc L (.inl z :: .inl y :: .inr (.inr (.inl (g1, m1))) :: .inl x :: .inr (.inr (.inl (g, m'))) :: st) h := by
  obtain ⟨hx, hb, hml, hown, hts, hnw, hK, hstr, hvs, hA, hroom⟩ := C0
  simp only [Bool.and_eq_true, decide_eq_true_eq] at hc
  obtain ⟨hdg, rfl⟩ := dqB_spec hc.1
  obtain ⟨hlen, hak, hak2, h37, h371, hz0, hx0, hy0, hb1, hb2⟩ := hr
  intro H locs ls jst hw hl hs
  obtain ⟨n, t1, rfl, rfl, hs1⟩ := hs.int
  obtain ⟨dp, t2, rfl, rfl, hs2⟩ := hs1.int
  obtain ⟨v1, t3, rfl, hv1, hs3⟩ := hs2.cons
  obtain ⟨sp, t4, rfl, rfl, hs4⟩ := hs3.int
  obtain ⟨v0, t5, rfl, hv0, hs5⟩ := hs4.cons
  obtain ⟨hin0, rfl⟩ := hv0.loc h37
  obtain ⟨hin1, rfl⟩ := hv1.loc h371
  obtain ⟨hP, hD, hS, hC, hSc, hScF⟩ := id hw
  have hrm := SR.room hs5
  have hsize : ls.size = nL := by obtain ⟨-, -, lv, h3, -⟩ := hl; exact h3.1
  obtain ⟨q0, hq0, hq0'⟩ := ws_get (w := w) (h := h) hin0
  obtain ⟨q1, hq1, hq1'⟩ := ws_get (w := w) (h := h) hin1
  have e1 := nat_cl sp
  have e2 := nat_cl dp
  have e3 := nat_cl n
  have hlq : q1 < (wsOf w h).length := by
    unfold wsOf
    rw [List.length_map]
    exact (List.getElem?_eq_some_iff.mp hq1).1
  have hl18 : acopy h g m' g1 m1 sp.toInt.toNat dp.toInt.toNat n.toInt.toNat 18 = h 18 := by
    unfold acopy
    exact fup_ne _ _ (fun q => LOCS_18 _ hin1 q.symm)
  have ns : ¬ sp < 0 := fun q => by have := Int32.lt_iff_toInt_lt.mp q; simp at this; omega
  have nd : ¬ dp < 0 := fun q => by have := Int32.lt_iff_toInt_lt.mp q; simp at this; omega
  have nn : ¬ n < 0 := fun q => by have := Int32.lt_iff_toInt_lt.mp q; simp at this; omega
  have hlocs : (List.map (fun v => v.category) t5).sum + (nativeFrameWords "java/lang/System" "arraycopy" 5 + 11) ≤ R.locals := by
    have : nativeFrameWords "java/lang/System" "arraycopy" 5 = 7 := by decide
    omega
  by_cases hk0 : akind m' = 0
  · have hk1 : akind m1 = 0 := by omega
    rw [ent_int hk0] at hq0'
    rw [ent_int hk1] at hq1'
    refine va_copyi hx hb (hml.trans hsize.symm) hown (hts _ hc.2) (hts _ T_copy.1) (hts _ T_copy.2.1) (hts _ T_copy.2.2) hK hP hD hS q0 q1 0 0 hq0' hq1' rfl rfl rfl ns nd nn (by omega) (by omega) (fun _ _ => rfl) (by omega) hlocs hdg (fun H1 locs1 a1 a2 a3 => ?_)
    have hset : (wsOf w h).set q1 (w.2 g1 m1, ent w (acopy h g m' g1 m1 sp.toInt.toNat dp.toInt.toNat n.toInt.toNat) g1 m1) = wsOf w (acopy h g m' g1 m1 sp.toInt.toNat dp.toInt.toNat n.toInt.toNat) := ws_set hq1 acopy_o rfl
    have hP1 : va_P D wCl (wsOf w (acopy h g m' g1 m1 sp.toInt.toNat dp.toInt.toNat n.toInt.toNat)) H1 := by
      rw [← hset]
      refine wsP_swap hlq (fun hq => ?_) a1
      rw [ent_int hk1]
      refine Eq.trans hq ?_
      rw [vp_cell_i, vp_cell_i]
      refine congrArg some (arrV_ext fun j hj => ?_)
      simp only [e1, e2, e3]
      rw [acopy_in j hj (by omega)]
      unfold va_cpy
      split <;> rfl
    have hD1 : va_D A (wsOf w (acopy h g m' g1 m1 sp.toInt.toNat dp.toInt.toNat n.toInt.toNat)) := by
      rw [← hset]
      exact hD.set hq1'
    exact K H1 locs1 ls t5 (hw.scr hP1 hD1 a3 (acopy_canon hC hak) hl18) hl hs5
  · have hk0' : akind m' = 1 := by omega
    have hk1 : akind m1 = 1 := by omega
    rw [ent_lng hk0'] at hq0'
    rw [ent_lng hk1] at hq1'
    refine va_copyl hx hb (hml.trans hsize.symm) hown (hts _ hc.2) (hts _ T_copy.1) (hts _ T_copy.2.1) (hts _ T_copy.2.2) hK hP hD hS q0 q1 1 1 hq0' hq1' rfl rfl rfl ns nd nn (by omega) (by omega) (fun _ _ => rfl) (by omega) hlocs hdg (fun H1 locs1 a1 a2 a3 => ?_)
    have hset : (wsOf w h).set q1 (w.2 g1 m1, ent w (acopy h g m' g1 m1 sp.toInt.toNat dp.toInt.toNat n.toInt.toNat) g1 m1) = wsOf w (acopy h g m' g1 m1 sp.toInt.toNat dp.toInt.toNat n.toInt.toNat) := ws_set hq1 acopy_o rfl
    have hP1 : va_P D wCl (wsOf w (acopy h g m' g1 m1 sp.toInt.toNat dp.toInt.toNat n.toInt.toNat)) H1 := by
      rw [← hset]
      refine wsP_swap hlq (fun hq => ?_) a1
      rw [ent_lng hk1]
      refine Eq.trans hq ?_
      rw [vp_cell_l, vp_cell_l]
      refine congrArg some (arrV_ext fun j hj => ?_)
      simp only [e1, e2, e3]
      rw [acopy_in j hj (by omega)]
      unfold va_cpy
      split <;> rfl
    have hD1 : va_D A (wsOf w (acopy h g m' g1 m1 sp.toInt.toNat dp.toInt.toNat n.toInt.toNat)) := by
      rw [← hset]
      exact hD.set hq1'
    exact K H1 locs1 ls t5 (hw.scr hP1 hD1 a3 (acopy_canon hC hak) hl18) hl hs5
end SOE
