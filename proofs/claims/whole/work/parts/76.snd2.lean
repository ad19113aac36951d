/-! SOUNDNESS: switches, fields, arrays -/
theorem swT_out (x : Int) : ∀ (ts : List Int) (k : Int) (d : Nat), (x < k ∨ k + ts.length ≤ x) → swT x k ts d = d
  | [], _, _, _ => rfl
  | t :: ts, k, d, h => by
    simp only [List.length_cons, Int.natCast_add, Int.cast_ofNat_Int] at h
    unfold swT
    rw [if_neg (by omega)]
    exact swT_out x ts (k + 1) d (by omega)
theorem swT_in (x : Int) : ∀ (ts : List Int) (k : Int) (d : Nat), k ≤ x → x < k + ts.length → ∃ t, ts[(x - k).toNat]? = some t ∧ swT x k ts d = t.toNat
  | [], k, _, h1, h2 => by simp at h2; omega
  | t :: ts, k, d, h1, h2 => by
    simp only [List.length_cons, Int.natCast_add, Int.cast_ofNat_Int] at h2
    unfold swT
    by_cases h : x = k
    · rw [if_pos h]
      have : (x - k).toNat = 0 := by omega
      rw [this]
      exact ⟨t, rfl, rfl⟩
    · rw [if_neg h]
      obtain ⟨t', a, b⟩ := swT_in x ts (k + 1) d (by omega) (by omega)
      have : (x - k).toNat = (x - (k + 1)).toNat + 1 := by omega
      rw [this, List.getElem?_cons_succ]
      exact ⟨t', a, b⟩
theorem swL_off (x : Int) (pc : Nat) : ∀ (ts : List Int) (d : Int), 0 ≤ d → (∀ t ∈ ts, 0 ≤ t) → (pc : Int) + Op.lookupswitch.offset (pairsOf ts pc) (d - pc) x = ((swL x ts d.toNat : Nat) : Int)
  | [], d, h, _ => by
    unfold swL pairsOf
    rw [Op.lookupswitch.offset_nil]
    omega
  | [_], d, h, _ => by
    unfold swL pairsOf
    rw [Op.lookupswitch.offset_nil]
    omega
  | k :: t :: ts, d, h, ht => by
    unfold swL pairsOf
    rw [Op.lookupswitch.offset_cons]
    have h1 := ht t (by simp)
    by_cases hk : x = k
    · rw [if_pos hk, if_pos hk.symm]; omega
    · rw [if_neg hk, if_neg (fun q => hk q.symm)]
      exact swL_off x pc ts d h (fun t ht' => ht t (by simp [ht']))
theorem clsOf_get {ci k : Nat} (h : k < (clsOf ci).2.2) : wCl[ci]? = some ((clsOf ci).1, (clsOf ci).2.1, (clsOf ci).2.2) ∧ ci < 7 := by
  match ci, h with
  | 0, _ => exact ⟨rfl, by omega⟩
  | 1, _ => exact ⟨rfl, by omega⟩
  | 2, _ => exact ⟨rfl, by omega⟩
  | 3, _ => exact ⟨rfl, by omega⟩
  | 4, _ => exact ⟨rfl, by omega⟩
  | 5, _ => exact ⟨rfl, by omega⟩
  | 6, _ => exact ⟨rfl, by omega⟩
  | n + 7, h => exact absurd h (by simp [clsOf])
set_option maxRecDepth 20000 in
theorem cls_in : ∀ ci, ci < 7 → ∀ q ∈ u_ws (clsOf ci).1 (clsOf ci).2.1 (clsOf ci).2.2, q ∈ TBL := by decide +kernel
theorem cls_same : ∀ ci, ci < 7 → ∀ k, k < (clsOf ci).2.2 → ((clsOf ci).2.1 k).1 = (clsOf ci).1 := by decide +kernel
theorem cls_nm : ∀ ci, ci < 7 → ∀ a, a < (clsOf ci).2.2 → ∀ b, b < (clsOf ci).2.2 → a ≠ b → ((clsOf ci).2.1 a).2.1 ≠ ((clsOf ci).2.1 b).2.1 := by decide +kernel
def tyOf (ci k : Nat) : FieldType := (parseFieldDescriptor ((clsOf ci).2.1 k).2.2.1).getD .int
theorem cls_ty : ∀ ci, ci < 7 → ∀ k, k < (clsOf ci).2.2 → parseFieldDescriptor ((clsOf ci).2.1 k).2.2.1 = some (tyOf ci k) := by decide +kernel
set_option maxRecDepth 20000 in
theorem FLT_ok : ∀ q ∈ FLT, wField q ∈ (if q.2.2.2.2 then NWS else TBL) := by decide +kernel
theorem LOCS_18 : ∀ q ∈ LOCS, q.1 ≠ 18 := by decide +kernel
theorem LOCS_37 : ∀ q ∈ LOCS, q.2 < 37 := by decide +kernel
section SOQ
variable {p : Program} {l : Launch} {e : Env} {R : Room} {s : State} {m : MethodId} {args : Array Value} {below : List Frame} {meth : Method} {c : Code} {cells slots : Nat} {Z : State → Prop} {A : Nat → Prop}
variable {own : String} {bytes : ByteArray} {nL : Nat} {lp : List Nat} {D : va_G} {w : AW} {sa sv : Nat → Nat} {sb : SB}
variable {pc len : Nat} {L st : List AV} {h : AH} {x y : Int} {z z2 : (Nat × Nat) ⊕ Nat} {g m' j kd e' : Nat}
theorem so_60 (C0 : Ctx p R s m args c cells slots A own bytes nL D w sa sv) {d : Int} {ts : List Int} (hc : (dqB bytes pc (.tableswitch (d - pc) x (x + ts.length - 1) (offs ts pc).toArray) len len && decide (0 ≤ d) && ts.all (fun t => decide (0 ≤ t))) = true) (K : Sim p l e R s m args below meth c cells slots Z A D w sa sb nL lp (swT y x ts d.toNat) L st h) : Sim p l e R s m args below meth c cells slots Z A D w sa sb nL lp pc L (.inl y :: st) h := by
  obtain ⟨hx, hb, hml, hown, hts, hnw, hK, hstr, hvs, hA, hroom⟩ := C0
  simp only [Bool.and_eq_true, decide_eq_true_eq, List.all_eq_true] at hc
  obtain ⟨⟨hc, hd⟩, hall⟩ := hc
  obtain ⟨hdg, -⟩ := dqB_spec hc
  intro H locs ls jst hw hl hs
  obtain ⟨a, t, rfl, rfl, hs2⟩ := hs.int
  have hn := K _ _ _ _ hw hl hs2
  by_cases h1 : a.toInt < x ∨ x + ts.length ≤ a.toInt
  · rw [swT_out _ _ _ _ h1] at hn
    exact lv_tableOut hx hb hdg (by omega) (by omega) hn
  · obtain ⟨t', q1, q2⟩ := swT_in a.toInt ts x d.toNat (by omega) (by omega)
    rw [q2] at hn
    have h0 := hall t' (List.mem_of_getElem? q1)
    refine lv_tableIn (off := t' - pc) hx hb hdg (by omega) (by omega) ?_ (by omega) hn
    rw [List.getElem?_toArray]
    unfold offs
    rw [List.getElem?_map, q1]
    rfl
theorem so_61 (C0 : Ctx p R s m args c cells slots A own bytes nL D w sa sv) {d : Int} {ts : List Int} (hc : (dqB bytes pc (.lookupswitch (d - pc) (pairsOf ts pc).toArray) len len && decide (0 ≤ d) && ts.all (fun t => decide (0 ≤ t)) && (((pairsOf ts pc).zip ((pairsOf ts pc).drop 1)).all (fun (a, next) => decide (a.1 < next.1)))) = true) (K : Sim p l e R s m args below meth c cells slots Z A D w sa sb nL lp (swL y ts d.toNat) L st h) : Sim p l e R s m args below meth c cells slots Z A D w sa sb nL lp pc L (.inl y :: st) h := by
  obtain ⟨hx, hb, hml, hown, hts, hnw, hK, hstr, hvs, hA, hroom⟩ := C0
  simp only [Bool.and_eq_true, decide_eq_true_eq] at hc
  obtain ⟨⟨⟨hc, hd⟩, hall⟩, hsort⟩ := hc
  simp only [List.all_eq_true, decide_eq_true_eq] at hall
  obtain ⟨hdg, -⟩ := dqB_spec hc
  intro H locs ls jst hw hl hs
  obtain ⟨a, t, rfl, rfl, hs2⟩ := hs.int
  have hn := K _ _ _ _ hw hl hs2
  refine lv_lookup hx hb hdg (by simpa using hsort) rfl ?_ hn
  exact swL_off a.toInt pc ts d hd hall
/-- a reference on the stack that is an object's or an array's of the class -/
theorem VR.loc {v : Value} (hv : VR w sa sb (.inr (.inr (.inl (g, m')))) v) (hm : m' ≠ 37) : (g, m') ∈ LOCS ∧ v = .ref (w.2 g m') := by
  rcases hv with hv | ⟨hq, -⟩
  · exact hv
  · cases hq; exact absurd rfl hm
theorem so_get (C0 : Ctx p R s m args c cells slots A own bytes nL D w sa sv) (hc : fB own bytes pc len false m' j kd e' = true) (K : ∀ (H : Heap) (locs : List Loc) (ls : Array Slot) (t : List Value), (g, m') ∈ LOCS → Wld s A D w sb h H locs → LR w sa sb nL lp ls L → SR w sa sb st t → W p l e R s m args below meth c H locs cells slots Z (F0 m (pc + len) ls (fval w.2 h g m' (kd, j) :: t))) : Sim p l e R s m args below meth c cells slots Z A D w sa sb nL lp pc L (.inr (.inr (.inl (g, m'))) :: st) h := by
  obtain ⟨hx, hb, hml, hown, hts, hnw, hK, hstr, hvs, hA, hroom⟩ := C0
  unfold fB at hc
  split at hc
  · next own' idx ci k nest he =>
    simp only [Bool.and_eq_true, decide_eq_true_eq, Bool.false_eq_true, if_false] at hc
    obtain ⟨⟨⟨⟨⟨⟨⟨rfl, hc⟩, hoc⟩, hsp⟩, hak⟩, h18⟩, h19⟩, hkN⟩ := hc
    obtain ⟨hdg, rfl⟩ := dqB_spec hc
    intro H locs ls jst hw hl hs
    obtain ⟨v, t, rfl, hv, hs2⟩ := hs.cons
    obtain ⟨hin, rfl⟩ := hv.loc (by rintro rfl; simp [akind] at hak)
    have kk := K H locs ls t hin hw hl hs2
    obtain ⟨hP, hD, hS, hC, hSc, hScF⟩ := hw
    obtain ⟨q0, hq0, hq1⟩ := ws_get (w := w) (h := h) hin
    rw [ent_obj hak h18 h19, hoc] at hq1
    obtain ⟨hcl, hci⟩ := clsOf_get hkN
    have hF := FLT_ok _ (List.mem_of_getElem? he)
    have hfs : ((fspec m').map (fval w.2 h g m'))[k]? = some (fval w.2 h g m' (kd, j)) := by rw [List.getElem?_map, hsp]; rfl
    cases nest with
    | false =>
      exact va_get hx hb hts (cls_in ci hci) hown hK hP q0 hq1 hcl k hkN (hts _ hF) (fun y hy => by rw [cls_same ci hci k hkN] at hy; exact hy) hfs hdg kk
    | true =>
      exact va_getN hx hb hts (cls_in ci hci) hown hK hP q0 hq1 hcl k hkN (va_Nw.use rfl (hnw _ hF)) (fun y hy => by rw [cls_same ci hci k hkN] at hy; exact hy) hfs hdg kk
  · cases hc
theorem Wld.scr {s : State} {h' : AH} {H H' : Heap} {locs locs' : List Loc} (hw : Wld s A D w sb h H locs) (h1 : va_P D wCl (wsOf w h') H') (h2 : va_D A (wsOf w h')) (h3 : va_S A s.heap H' locs') (h4 : Canon h') (h5 : h' 18 = h 18) : Wld s A D w sb h' H' locs' := by
  obtain ⟨-, -, -, -, hS, hF⟩ := hw
  exact ⟨h1, h2, h3, h4, fun b hb => by rw [h5]; exact hS b hb, hF⟩
theorem up3_scr {h : AH} {g m k : Nat} {x : Int} (hin : (g, m) ∈ LOCS) : up3 h g m k x 18 = h 18 := by
  unfold up3
  exact fup_ne _ _ (fun q => LOCS_18 _ hin q.symm)
theorem so_put (C0 : Ctx p R s m args c cells slots A own bytes nL D w sa sv) {dsc : String} {ty : FieldType} {u : Value} (hc : fB own bytes pc len true m' j kd e' = true) (hF : (match FLT[e']? with | some (_, _, ci, k, _) => decide (((clsOf ci).2.1 k).2.2 = (dsc, false)) | none => false) = true) (hkd : kd ≠ 1 ∧ kd ≠ 2) (hd : parseFieldDescriptor dsc = some ty) (hn : narrow ty u = u) (hfit : fits ty u = true) (hval : fval w.2 (up3 h g m' j x) g m' (kd, j) = u) (hx32 : in32 x)
    (K : Sim p l e R s m args below meth c cells slots Z A D w sa sb nL lp (pc + len) L st (up3 h g m' j x)) {H : Heap} {locs : List Loc} {ls : Array Slot} {t : List Value} {v : Value} (hw : Wld s A D w sb h H locs) (hl : LR w sa sb nL lp ls L) (hs : SR w sa sb st t) (hv : VR w sa sb (.inr (.inr (.inl (g, m')))) v) : W p l e R s m args below meth c H locs cells slots Z (F0 m pc ls (u :: v :: t)) := by
  obtain ⟨hx, hb, hml, hown, hts, hnw, hK, hstr, hvs, hA, hroom⟩ := C0
  unfold fB at hc
  split at hc
  · next own' idx ci k nest he =>
    rw [he] at hF
    simp only [decide_eq_true_eq] at hF
    simp only [Bool.and_eq_true, decide_eq_true_eq, if_true] at hc
    obtain ⟨⟨⟨⟨⟨⟨⟨rfl, hc⟩, hoc⟩, hsp⟩, hak⟩, h18⟩, h19⟩, hkN⟩ := hc
    obtain ⟨hdg, rfl⟩ := dqB_spec hc
    obtain ⟨hin, rfl⟩ := hv.loc (by rintro rfl; simp [akind] at hak)
    obtain ⟨hP, hD, hS, hC, hSc, hScF⟩ := id hw
    obtain ⟨q0, hq0, hq1⟩ := ws_get (w := w) (h := h) hin
    rw [ent_obj hak h18 h19, hoc] at hq1
    obtain ⟨hcl, hci⟩ := clsOf_get hkN
    have hFl := FLT_ok _ (List.mem_of_getElem? he)
    have hset : (wsOf w h).set q0 (w.2 g m', .inr (ci, ((fspec m').map (fval w.2 h g m')).set k u)) = wsOf w (up3 h g m' j x) := by
      refine ws_set hq0 up3_o ?_
      rw [ent_obj hak h18 h19, hoc, ← hval, fset hsp hkd]
    have kk : ∀ (H1 : Heap) (locs1 : List Loc), va_P D wCl ((wsOf w h).set q0 (w.2 g m', .inr (ci, ((fspec m').map (fval w.2 h g m')).set k u))) H1 → va_D A ((wsOf w h).set q0 (w.2 g m', .inr (ci, ((fspec m').map (fval w.2 h g m')).set k u))) → va_S A s.heap H1 locs1 → W p l e R s m args below meth c H1 locs1 cells slots Z (F0 m (pc + 3) ls t) := by
      intro H1 locs1 a1 a2 a3
      rw [hset] at a1 a2
      exact K H1 locs1 ls t (hw.scr a1 a2 a3 (hC.up (by rw [if_neg (by omega)]; exact hx32)) (up3_scr hin)) hl hs
    have hkl : k < ((fspec m').map (fval w.2 h g m')).length := by rw [List.length_map]; exact (List.getElem?_eq_some_iff.mp hsp).1
    have hd' : parseFieldDescriptor ((clsOf ci).2.1 k).2.2.1 = some ty := by rw [hF]; exact hd
    have hf' : ((clsOf ci).2.1 k).2.2.2 = false := by rw [hF]
    cases nest with
    | false =>
      exact va_put hx hb hts (cls_in ci hci) (tyOf ci) (cls_ty ci hci) (cls_nm ci hci) hown hK hP hD hS q0 hq1 hcl k hkN (hts _ hFl) (fun y hy => by rw [cls_same ci hci k hkN] at hy; exact hy) hf' hd' hn hfit hkl hdg kk
    | true =>
      exact va_putN hx hb hts (cls_in ci hci) (tyOf ci) (cls_ty ci hci) (cls_nm ci hci) hown hK hP hD hS q0 hq1 hcl k hkN (va_Nw.use rfl (hnw _ hFl)) (fun y hy => by rw [cls_same ci hci k hkN] at hy; exact hy) hf' hd' hn hfit hkl hdg kk
  · cases hc
end SOQ
