/-! SOUNDNESS: calls -/
def rmD (d : Nat) : Room := { frames := d + 8, cells := 0, slots := 0, locals := 64 * (d + 8) }
def wsM (k : Nat) : List Jvm.Cond := .code (mName k) (mBytes k) (maxLA k) (mRet k) :: TBL
theorem M_misc : ∀ k, k < nMeth → ((mName k).cls ≠ "java/lang/invoke/MethodHandle" ∧ (mName k).cls ≠ "java/lang/invoke/VarHandle" ∧ plainName (mName k).cls = true ∧ maxLA k ≤ 12 ∧ (parseMethodDescriptor (mName k).desc).map (fun d => d.parameters.length) = some (mArgs k) ∧ mArgT k = mArgs k + (if mStat k then 0 else 1) ∧ (mStat k = false → recvM k ≠ 0 ∧ (clsOf (ocls (recvM k))).1 = (mName k).cls ∧ ocls (recvM k) < 7 ∧ akind (recvM k) = 2 ∧ recvM k ≠ 18 ∧ recvM k ≠ 19)) := by decide +kernel
theorem goodTBL : ∀ q ∈ TBL, q ∈ TBL ∧ ((q.onTables && q.keeps) = true ∨ ∃ ty, q = .arrayClass ty) := fun q hq => ⟨hq, good_of_word (List.mem_filter.mp hq).2⟩
theorem goodM {k : Nat} (hk : k < nMeth) : GoodIn TBL (wsM k) := by
  intro q hq
  rcases List.mem_cons.mp hq with rfl | hq
  · exact goodTBL _ (mChk_spec hk).1
  · exact goodTBL _ hq
def VRo (w : AW) (sa : Nat → Nat) (sb : SB) : Option AV → Option Value → Prop
  | none, none => True
  | some a, some v => VR w sa sb a v
  | _, _ => False
/-- a method's start, and its end -/
def CalleeP (D : va_G) (w : AW) (sa sv : Nat → Nat) (sb : SB) (h : AH) (sz : Nat) (U : State) : Prop :=
  U.heap.size = sz ∧ va_P D wCl (wsOf w h) U.heap ∧ va_K D wCl (tysOf w) U ∧ va_D (fun _ => True) (wsOf w h) ∧ Canon h ∧ ScrH sb h ∧ (∀ q ∈ NWS, va_Nw q U) ∧ (∀ q ∈ SLT, vk_R q.1 q.2.1 (strTx q.2.2) (sa q.2.2) U) ∧ StrF sa sv (va_A (wsOf w h) sz) U U.heap ∧ ScrF sb (va_A (wsOf w h) sz) U U.heap
def CalleeQ (D : va_G) (w : AW) (sa : Nat → Nat) (sb : SB) (h : AH) (sz : Nat) (v : Option AV) (h' : AH) : Array Value → State → Outcome → State → Prop := fun _ st o t =>
  (∃ r, o = .returned r ∧ VRo w sa sb v r ∧ va_P D wCl (wsOf w h') t.heap ∧ va_D (va_A (wsOf w h) sz) (wsOf w h') ∧ Canon h' ∧ ScrH sb h') ∧ va_F (va_A (wsOf w h) sz) st t
def MetOf (l : Launch) (d k : Nat) (as : List AV) (h : AH) (v : Option AV) (h' : AH) : Prop :=
  ∀ (D : va_G) (w : AW) (sa sv : Nat → Nat) (sb : SB) (sz : Nat) (vs : List Value), SR w sa sb as vs → Met l (mName k) (wsM k) (rmD d) (va_Pc vs (CalleeP D w sa sv sb h sz)) (CalleeQ D w sa sb h sz v h') 0 0 (va_A (wsOf w h) sz)
theorem NWS_warm {s U : State} (hW : s.WarmedH U.vm) (h : ∀ q ∈ NWS, va_Nw q s) : ∀ q ∈ NWS, va_Nw q U := by
  intro q hq
  have h1 := h q hq
  have h2 : isNest q = true := (List.mem_filter.mp hq).2
  cases q <;> first | (simp [isNest] at h2; done) | exact va_Nw.warmM hW h1 | exact va_Nw.warmF hW h1
theorem NWS_same {u U : State} (hv : u.vm = U.vm) (h : ∀ q ∈ NWS, va_Nw q u) : ∀ q ∈ NWS, va_Nw q U := by
  intro q hq
  have h1 := h q hq
  have h2 : isNest q = true := (List.mem_filter.mp hq).2
  cases q <;> first | (simp [isNest] at h2; done) | exact va_Nw.same rfl hv h1
theorem StrF.moved {sa sv : Nat → Nat} {A : Nat → Prop} {u U : State} {H : Heap} (hvm : u.vm.Alike U.vm) (h : StrF sa sv A u H) : StrF sa sv A U H := ⟨vk_S.moved hvm h.1, va_Z.moved hvm h.2.1, va_Zq.moved hvm h.2.2⟩
theorem StrF.kept {sa sv : Nat → Nat} {A : Nat → Prop} {U : State} {H H1 : Heap} (h : StrF sa sv A U H) (hq : ∀ a : Nat, a < H.size → ¬ A a → H1[a]? = H[a]?) : StrF sa sv A U H1 := ⟨h.1.kept hq, h.2.1.kept hq, h.2.2.kept hq⟩
theorem StrF.narrow {sa sv : Nat → Nat} {A B : Nat → Prop} {U : State} {H : Heap} (h : StrF sa sv A U H) (hAB : ∀ q, B q → A q) : StrF sa sv B U H := ⟨h.1.narrow hAB, h.2.1.narrow hAB, h.2.2.narrow hAB⟩
theorem ScrF.moved {sb : SB} {A : Nat → Prop} {u U : State} {H : Heap} (hvm : u.vm.Alike U.vm) (h : ScrF sb A u H) : ScrF sb A U H := fun b hb => ⟨(h b hb).1.moved hvm, (h b hb).2⟩
theorem ScrF.kept {sb : SB} {A : Nat → Prop} {U : State} {H H1 : Heap} (h : ScrF sb A U H) (hz : H.size ≤ H1.size) (hq : ∀ a : Nat, a < H.size → ¬ A a → H1[a]? = H[a]?) : ScrF sb A U H1 := fun b hb => ⟨(h b hb).1.kept (hq _ (h b hb).2.1 (h b hb).2.2), Nat.lt_of_lt_of_le (h b hb).2.1 hz, (h b hb).2.2⟩
theorem ScrF.narrow {sb : SB} {A B : Nat → Prop} {U : State} {H : Heap} (h : ScrF sb A U H) (hAB : ∀ q, B q → A q) : ScrF sb B U H := fun b hb => ⟨(h b hb).1, (h b hb).2.1, fun q => (h b hb).2.2 (hAB _ q)⟩
theorem CalleeP.blind {D : va_G} {w : AW} {sa sv : Nat → Nat} {sb : SB} {h : AH} {sz : Nat} {vs : List Value} : FrameBlind (va_Pc vs (CalleeP D w sa sv sb h sz)) := by
  intro a U g mk ⟨q, h0, h1, h2, h3, h4, h5, h6, h7, h8, h9⟩
  exact ⟨q, h0, h1, va_K.moved (u := U) (U := U.calling g mk a) (Vm.Alike.refl U.vm) h2, h3, h4, h5, NWS_same (u := U) (U := U.calling g mk a) rfl h6, fun q hq => vk_R.same (u := U) (U := U.calling g mk a) rfl (h7 q hq), StrF.moved (u := U) (U := U.calling g mk a) (Vm.Alike.refl U.vm) h8, ScrF.moved (u := U) (U := U.calling g mk a) (Vm.Alike.refl U.vm) h9⟩
section SOC
variable {p : Program} {l : Launch} {e : Env} {R : Room} {s : State} {m : MethodId} {args : Array Value} {below : List Frame} {meth : Method} {c : Code} {cells slots : Nat} {Z : State → Prop} {A : Nat → Prop}
variable {own : String} {bytes : ByteArray} {nL : Nat} {lp : List Nat} {D : va_G} {w : AW} {sa sv : Nat → Nat} {sb : SB}
variable {pc len : Nat} {L st : List AV} {h h' : AH} {H H0 : Heap} {locs : List Loc} {rest st0 : List Value} {a : Array Value} {A0 A1 : Nat → Prop} {mc ms : Nat} {free : Addr → Prop} {ls : Array Slot} {Q : State → Prop}
theorem va_callG {Qa : State → Outcome → State → Prop} (hr : va_Run p l e R s m args below meth c H locs cells slots mc ms (F0 m pc ls st0) rest Qa free) (hS : va_S A0 H0 H locs) (hA : ∀ q, q < H.size → A1 q → A0 q) (hf : ∀ q, free q → A0 q) (hQ : ∀ st o t, Qa st o t → va_F A1 st t)
    (kk : ∀ (v : Option Value) (st t : State) (H1 : Heap) (locs1 : List Loc), st.heap = H → t.heap = H1 → s.vm.Alike t.vm → Qa st (.returned v) t → H.size ≤ H1.size → (∀ q : Nat, q < H.size → ¬ A1 q → H1[q]? = H[q]?) → va_S A0 H0 H1 locs1 → W p l e R s m args below meth c H1 locs1 (cells + mc) (slots + ms) Q (F0 m (pc + 3) ls (v.toList ++ rest))) : W p l e R s m args below meth c H locs cells slots Q (F0 m pc ls st0) := by
  intro T hT X
  obtain ⟨v, st₀, t, T', L, h0, X', hL, e1, e2, hq, st⟩ := hr T hT X
  obtain ⟨hz, hk⟩ := hQ _ _ _ hq
  rw [h0] at hz hk
  obtain ⟨t2, a1, b1⟩ := kk v st₀ t T'.heap (locs ++ L) h0 e1.symm (by rw [← e2]; exact X'.warmed.alike) hq (by rw [e1]; exact hz) (fun q h1 h2 => by rw [e1]; exact hk q h1 h2)
    ⟨Nat.le_trans hS.1 (by rw [e1]; exact hz), fun q h1 h2 => by rw [e1, hk q (Nat.lt_of_lt_of_le h1 hS.1) (fun z => h2 (hA q (Nat.lt_of_lt_of_le h1 hS.1) z))]; exact hS.2.1 q h1 h2, fun q hq => by
      rcases List.mem_append.mp hq with h | h
      · exact hS.2.2 q h
      · exact hf _ (hL q h)⟩ T' rfl X'
  exact ⟨t2, st t2 a1, b1⟩
/-- the caller's world, as the callee has it -/
theorem callee_start (C0 : Ctx p R s m args c cells slots A own bytes nL D w sa sv) (hw : Wld s A D w sb h H locs) {U : State} (hU : U.heap = H) (hW : s.WarmedH U.vm) : CalleeP D w sa sv sb h H.size U ∧ (∀ q, va_A (wsOf w h) H.size q → A q) := by
  obtain ⟨hx, hb, hml, hown, hts, hnw, hK, hstr, hvs, hA, hroom⟩ := C0
  obtain ⟨hP, hD, hS, hC, hSc, hScF⟩ := hw
  have hFc : ∀ q, va_A (wsOf w h) H.size q → A q := by
    intro q hq
    rcases hq with ⟨k, e, hq⟩ | hq
    · exact hD.2 k _ hq
    · exact hA q (Nat.le_trans hS.1 hq)
  refine ⟨⟨by rw [hU], by rw [hU]; exact hP, va_K.moved hW.alike hK, hD.weaken (fun _ _ _ _ => trivial), hC, hSc, NWS_warm hW hnw, fun q hq => vk_R.warm hW (hstr q hq), ?_, ?_⟩, hFc⟩
  · rw [hU]
    exact ((StrF.moved hW.alike hvs).kept hS.2.1).narrow hFc
  · rw [hU]
    exact ((ScrF.moved hW.alike hScF).kept hS.1 hS.2.1).narrow hFc
theorem fC {w : AW} {h : AH} {g m' : Nat} (hk : ocls m' < 7) (hak : akind m' = 2) (h18 : m' ≠ 18) (h19 : m' ≠ 19) (hin : (g, m') ∈ LOCS) (hK : va_K D wCl (tysOf w) s) (hP : va_P D wCl (wsOf w h) H) : ∃ cell : Cell, H[w.2 g m']? = some cell ∧ cell.vm.isStatics = false ∧ s.vm.findClass (clsOf (ocls m')).1 = some cell.cls := by
  obtain ⟨q0, hq0, hq1⟩ := ws_get (w := w) (h := h) hin
  rw [ent_obj hak h18 h19] at hq1
  have hc : wCl[ocls m']? = some (clsOf (ocls m')) := by
    generalize ocls m' = i at hk
    match i, hk with
    | 0, _ => rfl
    | 1, _ => rfl
    | 2, _ => rfl
    | 3, _ => rfl
    | 4, _ => rfl
    | 5, _ => rfl
    | 6, _ => rfl
  exact va_recv hK hP hc hq1
/-- behind the call -/
theorem callee_end {v : Option AV} (C0 : Ctx p R s m args c cells slots A own bytes nL D w sa sv) (hw : Wld s A D w sb h H locs) (hFc : ∀ q, va_A (wsOf w h) H.size q → A q)
    (hr : va_Run p l e R s m args below meth c H locs cells slots 0 0 (F0 m pc ls st0) rest (CalleeQ D w sa sb h H.size v h' a) (va_A (wsOf w h) H.size))
    (kk : ∀ (r : Option Value) (H1 : Heap) (locs1 : List Loc), VRo w sa sb v r → Wld s A D w sb h' H1 locs1 → W p l e R s m args below meth c H1 locs1 cells slots Z (F0 m (pc + 3) ls (r.toList ++ rest))) : W p l e R s m args below meth c H locs cells slots Z (F0 m pc ls st0) := by
  obtain ⟨hx, hb, hml, hown, hts, hnw, hK, hstr, hvs, hA, hroom⟩ := C0
  obtain ⟨hP, hD, hS, hC, hSc, hScF⟩ := hw
  refine va_callG hr hS (fun q _ hq => hFc q hq) hFc (fun st o t hq => hq.2) (fun r st t H1 locs1 hst ht hvm hq hz hk hS1 => ?_)
  obtain ⟨⟨r', hr', hv, hP1, hD1, hC1, hSc1⟩, -⟩ := hq
  cases hr'
  rw [ht] at hP1
  exact kk r H1 locs1 hv ⟨hP1, hD1.weaken (fun _ _ _ hq => hFc _ hq), hS1, hC1, hSc1, hScF⟩
end SOC
