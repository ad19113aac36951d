/-! SOUNDNESS: the fields' kinds, arrays, natives -/
theorem LOCS_self : ∀ q ∈ LOCS, q.2 < 8 → ∀ j, j < 8 → (q.1, j) ∈ LOCS := by decide +kernel
theorem LOCS_sh : ∀ i, i < 8 → (8 + i, 9) ∈ LOCS := by decide +kernel
theorem LOCS_va : ∀ i, i < 8 → (i, 7) ∈ LOCS := by decide +kernel
theorem LOCS_9 : ∀ q ∈ LOCS, q.2 = 9 → 8 ≤ q.1 ∧ q.1 < 16 := by decide +kernel
theorem LOCS_7 : ∀ q ∈ LOCS, q.2 = 7 → q.1 < 8 := by decide +kernel
section SOX
variable {p : Program} {l : Launch} {e : Env} {R : Room} {s : State} {m : MethodId} {args : Array Value} {below : List Frame} {meth : Method} {c : Code} {cells slots : Nat} {Z : State → Prop} {A : Nat → Prop}
variable {own : String} {bytes : ByteArray} {nL : Nat} {lp : List Nat} {D : va_G} {w : AW} {sa sv : Nat → Nat} {sb : SB}
variable {pc len : Nat} {L st : List AV} {h : AH} {x y : Int} {z z2 : (Nat × Nat) ⊕ Nat} {g m' j kd e' g1 m1 : Nat}
theorem so_65 (C0 : Ctx p R s m args c cells slots A own bytes nL D w sa sv) (hc : fB own bytes pc len false m' j 0 e' = true) (K : Sim p l e R s m args below meth c cells slots Z A D w sa sb nL lp (pc + len) L (.inl (h g m' j) :: st) h) : Sim p l e R s m args below meth c cells slots Z A D w sa sb nL lp pc L (.inr (.inr (.inl (g, m'))) :: st) h := by
  have hak : akind m' = 2 := by
    unfold fB at hc
    split at hc
    · simp only [Bool.and_eq_true, decide_eq_true_eq] at hc; exact hc.1.1.1.2
    · cases hc
  refine so_get C0 hc (fun H locs ls t hin hw hl hs => K H locs ls _ hw hl ⟨⟨_, rfl, of32 ?_⟩, hs⟩)
  have := hw.2.2.2.1 g m' j
  rw [if_neg (by omega)] at this
  exact this
theorem so_66 (C0 : Ctx p R s m args c cells slots A own bytes nL D w sa sv) (hc : (fB own bytes pc len false m' j 1 e' && decide (∀ q ∈ LOCS, q.2 = m' → (q.1, j) ∈ LOCS)) = true) (K : Sim p l e R s m args below meth c cells slots Z A D w sa sb nL lp (pc + len) L (vR g j :: st) h) : Sim p l e R s m args below meth c cells slots Z A D w sa sb nL lp pc L (.inr (.inr (.inl (g, m'))) :: st) h := by
  simp only [Bool.and_eq_true, decide_eq_true_eq] at hc
  exact so_get C0 hc.1 (fun H locs ls t hin hw hl hs => K H locs ls _ hw hl ⟨Or.inl ⟨hc.2 _ hin rfl, rfl⟩, hs⟩)
theorem so_67 (C0 : Ctx p R s m args c cells slots A own bytes nL D w sa sv) (hc : (fB own bytes pc len false m' (g1 * 64 + j) 2 e' && decide (j < 64) && decide ((g1, j) ∈ LOCS)) = true) (K : Sim p l e R s m args below meth c cells slots Z A D w sa sb nL lp (pc + len) L (vR g1 j :: st) h) : Sim p l e R s m args below meth c cells slots Z A D w sa sb nL lp pc L (.inr (.inr (.inl (g, m'))) :: st) h := by
  simp only [Bool.and_eq_true, decide_eq_true_eq] at hc
  obtain ⟨⟨hc, hj⟩, hin⟩ := hc
  refine so_get C0 hc (fun H locs ls t _ hw hl hs => K H locs ls _ hw hl ⟨Or.inl ⟨hin, ?_⟩, hs⟩)
  show Value.ref (w.2 ((g1 * 64 + j) / 64) ((g1 * 64 + j) % 64)) = _
  rw [show (g1 * 64 + j) / 64 = g1 by omega, show (g1 * 64 + j) % 64 = j by omega]
theorem so_68 (C0 : Ctx p R s m args c cells slots A own bytes nL D w sa sv) (hc : fB own bytes pc len false m' j 3 e' = true) (K : (0 ≤ h g m' j ∧ h g m' j < 8 → Sim p l e R s m args below meth c cells slots Z A D w sa sb nL lp (pc + len) L (vR (8 + (h g m' j).toNat) 9 :: st) h) ∧ (¬ (0 ≤ h g m' j ∧ h g m' j < 8) → Sim p l e R s m args below meth c cells slots Z A D w sa sb nL lp (pc + len) L (vN :: st) h)) : Sim p l e R s m args below meth c cells slots Z A D w sa sb nL lp pc L (.inr (.inr (.inl (g, m'))) :: st) h := by
  refine so_get C0 hc (fun H locs ls t _ hw hl hs => ?_)
  by_cases hq : 0 ≤ h g m' j ∧ h g m' j < 8
  · refine K.1 hq H locs ls _ hw hl ⟨Or.inl ⟨LOCS_sh _ (by omega), ?_⟩, hs⟩
    show (if 0 ≤ h g m' j ∧ h g m' j < 8 then Value.ref (w.2 (8 + (h g m' j).toNat) 9) else .null) = _
    rw [if_pos hq]
  · refine K.2 hq H locs ls _ hw hl ⟨?_, hs⟩
    show (if 0 ≤ h g m' j ∧ h g m' j < 8 then Value.ref (w.2 (8 + (h g m' j).toNat) 9) else .null) = _
    rw [if_neg hq]
theorem so_69 (C0 : Ctx p R s m args c cells slots A own bytes nL D w sa sv) (hc : fB own bytes pc len false m' j 4 e' = true) (K : (0 ≤ h g m' j ∧ h g m' j < 8 → Sim p l e R s m args below meth c cells slots Z A D w sa sb nL lp (pc + len) L (vR (h g m' j).toNat 7 :: st) h) ∧ (¬ (0 ≤ h g m' j ∧ h g m' j < 8) → Sim p l e R s m args below meth c cells slots Z A D w sa sb nL lp (pc + len) L (vN :: st) h)) : Sim p l e R s m args below meth c cells slots Z A D w sa sb nL lp pc L (.inr (.inr (.inl (g, m'))) :: st) h := by
  refine so_get C0 hc (fun H locs ls t _ hw hl hs => ?_)
  by_cases hq : 0 ≤ h g m' j ∧ h g m' j < 8
  · refine K.1 hq H locs ls _ hw hl ⟨Or.inl ⟨LOCS_va _ (by omega), ?_⟩, hs⟩
    show (if 0 ≤ h g m' j ∧ h g m' j < 8 then Value.ref (w.2 (h g m' j).toNat 7) else .null) = _
    rw [if_pos hq]
  · refine K.2 hq H locs ls _ hw hl ⟨?_, hs⟩
    show (if 0 ≤ h g m' j ∧ h g m' j < 8 then Value.ref (w.2 (h g m' j).toNat 7) else .null) = _
    rw [if_neg hq]
theorem so_70 (C0 : Ctx p R s m args c cells slots A own bytes nL D w sa sv) (hc : (fB own bytes pc len true m' j 0 e' && (match FLT[e']? with | some (_, _, ci, k, _) => decide (((clsOf ci).2.1 k).2.2 = ("I", false)) | none => false)) = true) (K : Sim p l e R s m args below meth c cells slots Z A D w sa sb nL lp (pc + len) L st (up3 h g m' j x)) : Sim p l e R s m args below meth c cells slots Z A D w sa sb nL lp pc L (.inl x :: .inr (.inr (.inl (g, m'))) :: st) h := by
  rw [Bool.and_eq_true] at hc
  intro H locs ls jst hw hl hs
  obtain ⟨u, t, rfl, rfl, hs1⟩ := hs.int
  obtain ⟨v, t2, rfl, hv, hs2⟩ := hs1.cons
  refine so_put C0 (ty := .int) (x := u.toInt) hc.1 hc.2 (by decide) (by decide +kernel) rfl rfl ?_ (i32_in u) K hw hl hs2 hv
  show Value.int (Int32.ofInt (up3 h g m' j u.toInt g m' j)) = _
  rw [up3_at, fup_same, i32_of]
theorem so_71 (C0 : Ctx p R s m args c cells slots A own bytes nL D w sa sv) (hc : (fB own bytes pc len true m' j 0 e' && (match FLT[e']? with | some (_, _, ci, k, _) => decide (((clsOf ci).2.1 k).2.2 = ("Z", false)) | none => false)) = true) (hx : x = 0 ∨ x = 1) (K : Sim p l e R s m args below meth c cells slots Z A D w sa sb nL lp (pc + len) L st (up3 h g m' j x)) : Sim p l e R s m args below meth c cells slots Z A D w sa sb nL lp pc L (.inl x :: .inr (.inr (.inl (g, m'))) :: st) h := by
  rw [Bool.and_eq_true] at hc
  intro H locs ls jst hw hl hs
  obtain ⟨u, t, rfl, rfl, hs1⟩ := hs.int
  obtain ⟨v, t2, rfl, hv, hs2⟩ := hs1.cons
  have hu : u = 0 ∨ u = 1 := by
    rcases hx with q | q
    · exact Or.inl (i32_inj q)
    · exact Or.inr (i32_inj q)
  refine so_put C0 (ty := .boolean) (x := u.toInt) hc.1 hc.2 (by decide) (by decide +kernel) ?_ ?_ ?_ (i32_in u) K hw hl hs2 hv
  · rcases hu with rfl | rfl <;> rfl
  · rcases hu with rfl | rfl <;> rfl
  · show Value.int (Int32.ofInt (up3 h g m' j u.toInt g m' j)) = _
    rw [up3_at, fup_same, i32_of]
theorem so_72 (C0 : Ctx p R s m args c cells slots A own bytes nL D w sa sv) (hc : (fB own bytes pc len true m' j 3 e' && (match FLT[e']? with | some (_, _, ci, k, _) => decide (((clsOf ci).2.1 k).2.2 = ("LPaidInFog$Shelf;", false)) | none => false)) = true) (K : Sim p l e R s m args below meth c cells slots Z A D w sa sb nL lp (pc + len) L st (up3 h g m' j ((g1 : Int) - 8))) : Sim p l e R s m args below meth c cells slots Z A D w sa sb nL lp pc L (.inr (.inr (.inl (g1, 9))) :: .inr (.inr (.inl (g, m'))) :: st) h := by
  rw [Bool.and_eq_true] at hc
  intro H locs ls jst hw hl hs
  obtain ⟨u, t, rfl, hu, hs1⟩ := hs.cons
  obtain ⟨v, t2, rfl, hv, hs2⟩ := hs1.cons
  obtain ⟨hin, rfl⟩ := hu.loc (by omega)
  have h9 := LOCS_9 _ hin rfl
  simp only at h9
  refine so_put C0 (ty := .object "PaidInFog$Shelf") (x := (g1 : Int) - 8) hc.1 hc.2 (by decide) (by decide +kernel) rfl rfl ?_ ⟨by omega, by omega⟩ K hw hl hs2 hv
  show (if 0 ≤ up3 h g m' j ((g1 : Int) - 8) g m' j ∧ up3 h g m' j ((g1 : Int) - 8) g m' j < 8 then Value.ref (w.2 (8 + (up3 h g m' j ((g1 : Int) - 8) g m' j).toNat) 9) else .null) = _
  rw [up3_at, fup_same, if_pos (by omega), show 8 + ((g1 : Int) - 8).toNat = g1 by omega]
theorem so_72n (C0 : Ctx p R s m args c cells slots A own bytes nL D w sa sv) (hc : (fB own bytes pc len true m' j 3 e' && (match FLT[e']? with | some (_, _, ci, k, _) => decide (((clsOf ci).2.1 k).2.2 = ("LPaidInFog$Shelf;", false)) | none => false)) = true) (K : Sim p l e R s m args below meth c cells slots Z A D w sa sb nL lp (pc + len) L st (up3 h g m' j (-1))) : Sim p l e R s m args below meth c cells slots Z A D w sa sb nL lp pc L (.inr (.inr (.inr 0)) :: .inr (.inr (.inl (g, m'))) :: st) h := by
  rw [Bool.and_eq_true] at hc
  intro H locs ls jst hw hl hs
  obtain ⟨u, t, rfl, hu, hs1⟩ := hs.cons
  obtain ⟨v, t2, rfl, hv, hs2⟩ := hs1.cons
  cases hu
  refine so_put C0 (ty := .object "PaidInFog$Shelf") (x := -1) hc.1 hc.2 (by decide) (by decide +kernel) rfl rfl ?_ ⟨by omega, by omega⟩ K hw hl hs2 hv
  show (if 0 ≤ up3 h g m' j (-1) g m' j ∧ up3 h g m' j (-1) g m' j < 8 then Value.ref (w.2 (8 + (up3 h g m' j (-1) g m' j).toNat) 9) else .null) = _
  rw [up3_at, fup_same, if_neg (by omega)]
theorem so_73 (C0 : Ctx p R s m args c cells slots A own bytes nL D w sa sv) (hc : (fB own bytes pc len true m' j 4 e' && (match FLT[e']? with | some (_, _, ci, k, _) => decide (((clsOf ci).2.1 k).2.2 = ("LPaidInFog$Valley;", false)) | none => false)) = true) (K : Sim p l e R s m args below meth c cells slots Z A D w sa sb nL lp (pc + len) L st (up3 h g m' j (g1 : Int))) : Sim p l e R s m args below meth c cells slots Z A D w sa sb nL lp pc L (.inr (.inr (.inl (g1, 7))) :: .inr (.inr (.inl (g, m'))) :: st) h := by
  rw [Bool.and_eq_true] at hc
  intro H locs ls jst hw hl hs
  obtain ⟨u, t, rfl, hu, hs1⟩ := hs.cons
  obtain ⟨v, t2, rfl, hv, hs2⟩ := hs1.cons
  obtain ⟨hin, rfl⟩ := hu.loc (by omega)
  have h9 := LOCS_7 _ hin rfl
  simp only at h9
  refine so_put C0 (ty := .object "PaidInFog$Valley") (x := (g1 : Int)) hc.1 hc.2 (by decide) (by decide +kernel) rfl rfl ?_ ⟨by omega, by omega⟩ K hw hl hs2 hv
  show (if 0 ≤ up3 h g m' j (g1 : Int) g m' j ∧ up3 h g m' j (g1 : Int) g m' j < 8 then Value.ref (w.2 (up3 h g m' j (g1 : Int) g m' j).toNat 7) else .null) = _
  rw [up3_at, fup_same, if_pos (by omega), Int.toNat_natCast]
theorem so_73n (C0 : Ctx p R s m args c cells slots A own bytes nL D w sa sv) (hc : (fB own bytes pc len true m' j 4 e' && (match FLT[e']? with | some (_, _, ci, k, _) => decide (((clsOf ci).2.1 k).2.2 = ("LPaidInFog$Valley;", false)) | none => false)) = true) (K : Sim p l e R s m args below meth c cells slots Z A D w sa sb nL lp (pc + len) L st (up3 h g m' j (-1))) : Sim p l e R s m args below meth c cells slots Z A D w sa sb nL lp pc L (.inr (.inr (.inr 0)) :: .inr (.inr (.inl (g, m'))) :: st) h := by
  rw [Bool.and_eq_true] at hc
  intro H locs ls jst hw hl hs
  obtain ⟨u, t, rfl, hu, hs1⟩ := hs.cons
  obtain ⟨v, t2, rfl, hv, hs2⟩ := hs1.cons
  cases hu
  refine so_put C0 (ty := .object "PaidInFog$Valley") (x := -1) hc.1 hc.2 (by decide) (by decide +kernel) rfl rfl ?_ ⟨by omega, by omega⟩ K hw hl hs2 hv
  show (if 0 ≤ up3 h g m' j (-1) g m' j ∧ up3 h g m' j (-1) g m' j < 8 then Value.ref (w.2 (up3 h g m' j (-1) g m' j).toNat 7) else .null) = _
  rw [up3_at, fup_same, if_neg (by omega)]
/-- places -/
theorem nat_cl (i : Int32) : i.toNatClampNeg = i.toInt.toNat := by
  unfold Int32.toNatClampNeg Int32.toInt; rfl
theorem vp_in_of2 {i : Int32} {n : Nat} (h0 : 0 ≤ i.toInt) (h1 : i.toInt < (n : Int)) : vp_in i n := vp_in_iff.mpr ⟨h0, h1⟩
theorem so_75 (C0 : Ctx p R s m args c cells slots A own bytes nL D w sa sv) (hc : dqB bytes pc .iaload 1 len = true) (hi : inA h m' 0 x) (K : Sim p l e R s m args below meth c cells slots Z A D w sa sb nL lp (pc + len) L (.inl (h g m' x.toNat) :: st) h) : Sim p l e R s m args below meth c cells slots Z A D w sa sb nL lp pc L (.inl x :: .inr (.inr (.inl (g, m'))) :: st) h := by
  obtain ⟨hx, hb, hml, hown, hts, hnw, hK, hstr, hvs, hA, hroom⟩ := C0
  obtain ⟨hdg, rfl⟩ := dqB_spec hc
  obtain ⟨hak, h0, h1⟩ := hi
  intro H locs ls jst hw hl hs
  obtain ⟨u, t, rfl, rfl, hs1⟩ := hs.int
  obtain ⟨v, t2, rfl, hv, hs2⟩ := hs1.cons
  obtain ⟨hP, hD, hS, hC, hSc, hScF⟩ := id hw
  have hcan := hC g m' u.toInt.toNat
  rw [if_neg (by omega)] at hcan
  rcases hv with ⟨hin, rfl⟩ | ⟨hq, b, hb1, rfl⟩
  · have h37 : m' ≠ 37 := by have := LOCS_37 _ hin; simp only at this; omega
    rw [if_neg h37] at h1
    obtain ⟨q0, hq0, hq1⟩ := ws_get (w := w) (h := h) hin
    rw [ent_int hak] at hq1
    exact va_iald hx hb hK hP q0 0 hq1 rfl (vp_in_of2 h0 h1) hdg (K _ _ _ _ hw hl ⟨⟨_, rfl, by rw [nat_cl]; exact of32 hcan⟩, hs2⟩)
  · cases hq
    obtain ⟨r4, r5, r6⟩ := hSc b hb1
    obtain ⟨r1, r2, r3⟩ := hScF b hb1
    rw [if_pos rfl, r4] at h1
    refine va_sld hx hb r1 r2 r3 hS (vp_in_of2 h0 h1) hdg (K _ _ _ _ hw hl ⟨⟨_, rfl, ?_⟩, hs2⟩)
    rw [nat_cl, r6 _ (by omega)]
theorem so_76 (C0 : Ctx p R s m args c cells slots A own bytes nL D w sa sv) (hc : dqB bytes pc .iastore 1 len = true) (hi : inA h m' 0 x ∧ m' ≠ 37) (K : Sim p l e R s m args below meth c cells slots Z A D w sa sb nL lp (pc + len) L st (up3 h g m' x.toNat y)) : Sim p l e R s m args below meth c cells slots Z A D w sa sb nL lp pc L (.inl y :: .inl x :: .inr (.inr (.inl (g, m'))) :: st) h := by
  obtain ⟨hx, hb, hml, hown, hts, hnw, hK, hstr, hvs, hA, hroom⟩ := C0
  obtain ⟨hdg, rfl⟩ := dqB_spec hc
  obtain ⟨⟨hak, h0, h1⟩, h37⟩ := hi
  intro H locs ls jst hw hl hs
  obtain ⟨v0, t0, rfl, rfl, hs0⟩ := hs.int
  obtain ⟨u, t, rfl, rfl, hs1⟩ := hs0.int
  obtain ⟨v, t2, rfl, hv, hs2⟩ := hs1.cons
  obtain ⟨hP, hD, hS, hC, hSc, hScF⟩ := id hw
  obtain ⟨hin, rfl⟩ := hv.loc h37
  rw [if_neg h37] at h1
  obtain ⟨q0, hq0, hq1⟩ := ws_get (w := w) (h := h) hin
  rw [ent_int hak] at hq1
  have hset : (wsOf w h).set q0 (w.2 g m', .inl (w.1.1, alenN m', .inl (upd (fun j => Int32.ofInt (h g m' j)) u.toNatClampNeg v0))) = wsOf w (up3 h g m' u.toInt.toNat v0.toInt) := by
    refine ws_set hq0 up3_o ?_
    rw [ent_int hak, up3_at]
    have : (fun j => Int32.ofInt (fup (h g m') u.toInt.toNat v0.toInt j)) = upd (fun j => Int32.ofInt (h g m' j)) u.toNatClampNeg v0 := by
      funext j
      rw [nat_cl]
      unfold fup upd
      split
      · rw [i32_of]
      · rfl
    rw [this]
  refine va_iast hx hb hK hP hD hS q0 0 hq1 rfl (vp_in_of2 h0 h1) hdg (fun H1 locs1 a1 a2 a3 => ?_)
  rw [hset] at a1 a2
  exact K H1 locs1 ls t2 (hw.scr a1 a2 a3 (hC.up (by rw [if_neg (by omega)]; exact i32_in v0)) (up3_scr hin)) hl hs2
theorem so_77 (C0 : Ctx p R s m args c cells slots A own bytes nL D w sa sv) (hc : dqB bytes pc .laload 1 len = true) (hi : inA h m' 1 x) (K : Sim p l e R s m args below meth c cells slots Z A D w sa sb nL lp (pc + len) L (.inr (.inl (h g m' x.toNat)) :: st) h) : Sim p l e R s m args below meth c cells slots Z A D w sa sb nL lp pc L (.inl x :: .inr (.inr (.inl (g, m'))) :: st) h := by
  obtain ⟨hx, hb, hml, hown, hts, hnw, hK, hstr, hvs, hA, hroom⟩ := C0
  obtain ⟨hdg, rfl⟩ := dqB_spec hc
  obtain ⟨hak, h0, h1⟩ := hi
  intro H locs ls jst hw hl hs
  obtain ⟨u, t, rfl, rfl, hs1⟩ := hs.int
  obtain ⟨v, t2, rfl, hv, hs2⟩ := hs1.cons
  obtain ⟨hP, hD, hS, hC, hSc, hScF⟩ := id hw
  have hcan := hC g m' u.toInt.toNat
  rw [if_pos hak] at hcan
  have h37 : m' ≠ 37 := by rintro rfl; simp [akind] at hak
  obtain ⟨hin, rfl⟩ := hv.loc h37
  rw [if_neg h37] at h1
  obtain ⟨q0, hq0, hq1⟩ := ws_get (w := w) (h := h) hin
  rw [ent_lng hak] at hq1
  exact va_lald hx hb hK hP q0 1 hq1 rfl (vp_in_of2 h0 h1) hdg (K _ _ _ _ hw hl ⟨⟨_, rfl, by rw [nat_cl]; exact of64 hcan⟩, hs2⟩)
theorem so_78 (C0 : Ctx p R s m args c cells slots A own bytes nL D w sa sv) (hc : dqB bytes pc .lastore 1 len = true) (hi : inA h m' 1 x) (K : Sim p l e R s m args below meth c cells slots Z A D w sa sb nL lp (pc + len) L st (up3 h g m' x.toNat y)) : Sim p l e R s m args below meth c cells slots Z A D w sa sb nL lp pc L (.inr (.inl y) :: .inl x :: .inr (.inr (.inl (g, m'))) :: st) h := by
  obtain ⟨hx, hb, hml, hown, hts, hnw, hK, hstr, hvs, hA, hroom⟩ := C0
  obtain ⟨hdg, rfl⟩ := dqB_spec hc
  obtain ⟨hak, h0, h1⟩ := hi
  intro H locs ls jst hw hl hs
  obtain ⟨v0, t0, rfl, rfl, hs0⟩ := hs.lng
  obtain ⟨u, t, rfl, rfl, hs1⟩ := hs0.int
  obtain ⟨v, t2, rfl, hv, hs2⟩ := hs1.cons
  obtain ⟨hP, hD, hS, hC, hSc, hScF⟩ := id hw
  have h37 : m' ≠ 37 := by rintro rfl; simp [akind] at hak
  obtain ⟨hin, rfl⟩ := hv.loc h37
  rw [if_neg h37] at h1
  obtain ⟨q0, hq0, hq1⟩ := ws_get (w := w) (h := h) hin
  rw [ent_lng hak] at hq1
  have hset : (wsOf w h).set q0 (w.2 g m', .inl (w.1.2.1, alenN m', .inr (.inl (vp_updL (fun j => Int64.ofInt (h g m' j)) u.toNatClampNeg v0)))) = wsOf w (up3 h g m' u.toInt.toNat v0.toInt) := by
    refine ws_set hq0 up3_o ?_
    rw [ent_lng hak, up3_at]
    have : (fun j => Int64.ofInt (fup (h g m') u.toInt.toNat v0.toInt j)) = vp_updL (fun j => Int64.ofInt (h g m' j)) u.toNatClampNeg v0 := by
      funext j
      rw [nat_cl]
      unfold fup vp_updL
      split
      · rw [i64_of]
      · rfl
    rw [this]
  refine va_last hx hb hK hP hD hS q0 1 hq1 rfl (vp_in_of2 h0 h1) hdg (fun H1 locs1 a1 a2 a3 => ?_)
  rw [hset] at a1 a2
  exact K H1 locs1 ls t2 (hw.scr a1 a2 a3 (hC.up (by rw [if_pos hak]; exact i64_in v0)) (up3_scr hin)) hl hs2
theorem so_79 (C0 : Ctx p R s m args c cells slots A own bytes nL D w sa sv) (hc : dqB bytes pc .aaload 1 len = true) (hi : 0 ≤ x ∧ x < 8) (K : Sim p l e R s m args below meth c cells slots Z A D w sa sb nL lp (pc + len) L (vR (8 + x.toNat) 9 :: st) h) : Sim p l e R s m args below meth c cells slots Z A D w sa sb nL lp pc L (.inl x :: .inr (.inr (.inl (g, 18))) :: st) h := by
  obtain ⟨hx, hb, hml, hown, hts, hnw, hK, hstr, hvs, hA, hroom⟩ := C0
  obtain ⟨hdg, rfl⟩ := dqB_spec hc
  intro H locs ls jst hw hl hs
  obtain ⟨u, t, rfl, rfl, hs1⟩ := hs.int
  obtain ⟨v, t2, rfl, hv, hs2⟩ := hs1.cons
  obtain ⟨hP, hD, hS, hC, hSc, hScF⟩ := id hw
  obtain ⟨hin, rfl⟩ := hv.loc (by omega)
  obtain ⟨q0, hq0, hq1⟩ := ws_get (w := w) (h := h) hin
  refine va_aldq hx hb hK hP q0 2 hq1 rfl (vp_in_of2 hi.1 hi.2) hdg (K _ _ _ _ hw hl ⟨Or.inl ⟨LOCS_sh _ (by omega), ?_⟩, hs2⟩)
  rw [nat_cl, if_pos (by omega)]
  rfl
theorem so_79s (C0 : Ctx p R s m args c cells slots A own bytes nL D w sa sv) (hc : dqB bytes pc .aaload 1 len = true) (hi : 0 ≤ x ∧ x < 5) (K : Sim p l e R s m args below meth c cells slots Z A D w sa sb nL lp (pc + len) L (vR (3 + x.toNat) 7 :: st) h) : Sim p l e R s m args below meth c cells slots Z A D w sa sb nL lp pc L (.inl x :: .inr (.inr (.inl (g, 19))) :: st) h := by
  obtain ⟨hx, hb, hml, hown, hts, hnw, hK, hstr, hvs, hA, hroom⟩ := C0
  obtain ⟨hdg, rfl⟩ := dqB_spec hc
  intro H locs ls jst hw hl hs
  obtain ⟨u, t, rfl, rfl, hs1⟩ := hs.int
  obtain ⟨v, t2, rfl, hv, hs2⟩ := hs1.cons
  obtain ⟨hP, hD, hS, hC, hSc, hScF⟩ := id hw
  obtain ⟨hin, rfl⟩ := hv.loc (by omega)
  obtain ⟨q0, hq0, hq1⟩ := ws_get (w := w) (h := h) hin
  refine va_aldq hx hb hK hP q0 3 hq1 rfl (vp_in_of2 hi.1 hi.2) hdg (K _ _ _ _ hw hl ⟨Or.inl ⟨LOCS_va _ (by omega), ?_⟩, hs2⟩)
  rw [nat_cl, if_pos (by omega)]
  rfl
end SOX
