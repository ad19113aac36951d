theorem jstart {s U : State} {sa sv : Nat → Nat} {A : Nat → Prop} {H : Heap} {locs : List Loc} (h : StrF sa sv A s s.heap) (hS : va_S A s.heap H locs) (hU : U.heap = H) (hW : s.WarmedH U.vm) : JP sa sv A U := by
  unfold JP
  rw [hU]
  exact (StrF.moved hW.alike h).kept hS.2.1
set_option maxHeartbeats 4000000 in
theorem j_check (l : Launch) (sa sv : Nat → Nat) (A : Nat → Prop) (i n : Int32) (h0 : ¬ i < 0) (h1 : i < n) : Met l jyCheck (jws jyCheck jbCheck 2 none) (rmJ 2) (va_Pc [.int i, .int n] (JP sa sv A)) (JQ none) 0 0 (fun _ => False) := by
  refine Met.ofW (cc := jbCheck) (maxL := 2) (ret := none) (by decide) rfl ?_
  intro p e s m args below meth c s₁ B hml hv
  obtain ⟨rfl, hstr, hcs, hfm⟩ := hv
  have hx := B.exec
  have hb := B.bytes
  have hr := B.returns
  have hts0 := atoms_spec (ws := jws jyCheck jbCheck 2 none) B.pre
  have hts : ∀ q ∈ TBL, q.before _ s = true := fun q hq => hts0 q (List.mem_cons_of_mem _ hq)
  have hown : s.vm.findClass "java/lang/String" = some m.cls := findClass_of_methodNamed B.named
  have hlocks := B.notSynchronized
  have hS : va_S A s.heap s.heap [] := va_S.rf
  have hl := lv_entry ([.int i, .int n]) (n := 2) (Nat.le_of_ble_eq_true rfl)
  rw [lg_entry_eq]
  generalize (lg_sl ([.int i, .int n]) ++ List.replicate (2 - (lg_sl ([.int i, .int n])).length) Slot.unset).toArray = ls at hl ⊢
  have hl : lv_has ls 2 [(0, .int i), (1, .int n)] := hl
  have hP : ∀ U : State, U.heap = s.heap → s.WarmedH U.vm → JP sa sv A U := fun U hU hW => jstart (H := s.heap) (locs := []) ⟨hstr, hcs, hfm⟩ hS hU hW
  refine lv_iload_n hx hb (pc := 0) (k := 0) (by decide +kernel) rfl (lv_at hl 0 rfl) ?_
  refine lv_iload_n hx hb (pc := 1) (k := 1) (by decide +kernel) rfl (lv_at hl 1 rfl) ?_
  have key : ∀ f : Option Nat, va_Z "jdk/internal/util/Preconditions" "SIOOBE_FORMATTER" "Ljava/util/function/BiFunction;" (va_rf f) A s s.heap → W p l e (headSpec (jws jyCheck jbCheck 2 none) (rmJ 2)).room s m [.int i, .int n].toArray below meth c s.heap [] 0 0 (MQ below (JQ none) [.int i, .int n].toArray s 0 0 (fun _ => False)) (F0 m 2 ls [.int n, .int i]) := by
    intro f hf
    refine va_gets hx hb hf hS hown (hts _ jT_f.2.2.2) (fun x hx => hx) (pc := 2) (by decide +kernel) ?_
    refine jcall (A0 := A) (r := some (.int i)) (va_runS (As := [.int i, .int n, va_rf f]) (rest := []) (bytes := jbPre) (maxL := 3) (ret := some .int) (n := 3) ⟨hx, hb, hml, hown, hts⟩ (j_pre l sa sv A i n f h0 h1) ⟨⟨rfl, rfl, Nat.le_of_ble_eq_true rfl, Nat.le_of_ble_eq_true rfl, pay_in hts (jgood jT_c.2.2.2.1), List.mem_cons_self, hts _ jT_c.2.2.2.1, hts _ jT_ini.2.2, ⟨by decide, by decide⟩, fun sig h => ?_, hts _ jT_l.2.2.2.1⟩, hts _ jT_k.2.2.2.2.2.1⟩ ⟨JP.blind, fun U hU hW => ⟨rfl, hP U hU hW⟩⟩ rfl rfl hl.1 rfl (lv_room (Nat.le_of_ble_eq_true rfl)) (by decide +kernel : decode jbCheck 5 = .ok (.invokestatic 1059, 3)) ⟨Nat.le_refl _, Nat.le_refl _⟩) hS (fun locs1 hsub hS1 => ?_)
    · have h2 : (parseMethodDescriptor jyPre.desc).map (fun d => d.parameters.length) = some 3 := by decide +kernel
      rw [h] at h2
      exact (Option.some.inj h2).symm
    · refine lv_pop hx hb (pc := 8) (by decide +kernel) rfl ?_
      exact W.vret hx hb hr (fun t ht hW => ⟨rfl, ht⟩) (fun q h => by cases hsub q h) (by decide +kernel) hlocks
  rcases hfm with hf | ⟨t, hf⟩
  · exact key none hf
  · exact key (some t) hf
theorem schI : ∀ k, k < 10 → ∀ i, i < lenS.getD k 0 → (((((bytS.getD k []).getD i 0) &&& 255).toUInt32 % 65536).toInt32).toInt = sch k i ∧ narrow .char (.int (((((bytS.getD k []).getD i 0) &&& 255).toUInt32 % 65536).toInt32)) = .int (((((bytS.getD k []).getD i 0) &&& 255).toUInt32 % 65536).toInt32) := by decide +kernel
theorem lenS_small : ∀ k, k < 10 → lenS.getD k 0 < 2147483648 ∧ slen k = (lenS.getD k 0 : Int) := by decide +kernel
/-- the char at a place, as the machine has it -/
def chI (k i : Nat) : Int32 := (((((bytS.getD k []).getD i 0) &&& 255).toUInt32 % 65536).toInt32)
set_option maxHeartbeats 4000000 in
theorem j_l1 (l : Launch) (sa sv : Nat → Nat) (A : Nat → Prop) (k : Nat) (hk : k < 10) (i : Int32) (h0 : 0 ≤ i.toInt) (h1 : i.toInt < (lenS.getD k 0 : Int)) : Met l jyL1 (jws jyL1 jbL1 2 (some .char)) (rmJ 3) (va_Pc [.ref (sv k), .int i] (JP sa sv A)) (JQ (some (.int (chI k i.toInt.toNat)))) 0 0 (fun _ => False) := by
  refine Met.ofW (cc := jbL1) (maxL := 2) (ret := some .char) (by decide) rfl ?_
  intro p e s m args below meth c s₁ B hml hv
  obtain ⟨rfl, hstr, hcs, hfm⟩ := hv
  have hx := B.exec
  have hb := B.bytes
  have hr := B.returns
  have hts0 := atoms_spec (ws := jws jyL1 jbL1 2 (some .char)) B.pre
  have hts : ∀ q ∈ TBL, q.before _ s = true := fun q hq => hts0 q (List.mem_cons_of_mem _ hq)
  have hown : s.vm.findClass "java/lang/StringLatin1" = some m.cls := findClass_of_methodNamed B.named
  have hlocks := B.notSynchronized
  have hS : va_S A s.heap s.heap [] := va_S.rf
  have hl := lv_entry ([.ref (sv k), .int i]) (n := 2) (Nat.le_of_ble_eq_true rfl)
  rw [lg_entry_eq]
  generalize (lg_sl ([.ref (sv k), .int i]) ++ List.replicate (2 - (lg_sl ([.ref (sv k), .int i])).length) Slot.unset).toArray = ls at hl ⊢
  have hl : lv_has ls 2 [(0, .ref (sv k)), (1, .int i)] := hl
  have hP : ∀ U : State, U.heap = s.heap → s.WarmedH U.vm → JP sa sv A U := fun U hU hW => jstart (H := s.heap) (locs := []) ⟨hstr, hcs, hfm⟩ hS hU hW
  obtain ⟨hsm, -⟩ := lenS_small k hk
  have hn0 : ¬ i < 0 := fun q => by have := Int32.lt_iff_toInt_lt.mp q; simp at this; omega
  have hlt : i < Int32.ofNat (lenS.getD k 0) := by
    rw [Int32.lt_iff_toInt_lt]
    have : (Int32.ofNat (lenS.getD k 0)).toInt = (lenS.getD k 0 : Int) := nI_toInt (by omega)
    omega
  have hT := (hstr.1 k hk).2.2.2
  refine lv_iload_n hx hb (pc := 0) (k := 1) (by decide +kernel) rfl (lv_at hl 1 rfl) ?_
  refine lv_aload_n hx hb (pc := 1) (k := 0) (by decide +kernel) rfl (lv_at hl 0 rfl) ?_
  refine va_tlen hx hb hT hS rfl (pc := 2) (by decide +kernel) ?_
  refine jcall (A0 := A) (r := none) (va_runS (As := [.int i, .int (Int32.ofNat (lenS.getD k 0))]) (rest := []) (bytes := jbCheck) (maxL := 2) (ret := none) (n := 2) ⟨hx, hb, hml, hown, hts⟩ (j_check l sa sv A i _ hn0 hlt) ⟨⟨rfl, rfl, Nat.le_of_ble_eq_true rfl, Nat.le_of_ble_eq_true rfl, pay_in hts (jgood jT_c.2.2.2.2.1), List.mem_cons_self, hts _ jT_c.2.2.2.2.1, hts _ jT_ini.1, ⟨by decide, by decide⟩, fun sig h => ?_, hts _ jT_l.2.2.2.2⟩, hts _ jT_k.2.2.2.2.2.2.1⟩ ⟨JP.blind, fun U hU hW => ⟨rfl, hP U hU hW⟩⟩ rfl rfl hl.1 rfl (lv_room (Nat.le_of_ble_eq_true rfl)) (by decide +kernel : decode jbL1 3 = .ok (.invokestatic 9, 3)) ⟨Nat.le_refl _, Nat.le_refl _⟩) hS (fun locs1 hsub hS1 => ?_)
  · have h2 : (parseMethodDescriptor jyCheck.desc).map (fun d => d.parameters.length) = some 2 := by decide +kernel
    rw [h] at h2
    exact (Option.some.inj h2).symm
  · refine lv_aload_n hx hb (pc := 6) (k := 0) (by decide +kernel) rfl (lv_at hl 0 rfl) ?_
    refine lv_iload_n hx hb (pc := 7) (k := 1) (by decide +kernel) rfl (lv_at hl 1 rfl) ?_
    refine va_tb hx hb hT hS1 (vp_in_of2 h0 h1) rfl (pc := 8) (by decide +kernel) ?_
    refine lv_sipush hx hb (pc := 9) (n := 255) (v := 255) (by decide +kernel) (by decide) ?_
    refine lv_iand hx hb (pc := 12) (by decide +kernel) ?_
    refine lv_i2c hx hb (pc := 13) (by decide +kernel) rfl ?_
    have hch := schI k hk i.toInt.toNat (by omega)
    rw [nat_cl]
    exact W.zret hx hb hr hch.2 (fun t ht hW => ⟨rfl, ht⟩) (fun q h => by cases hsub q h) (by decide +kernel : decode jbL1 14 = .ok (.ireturn, 1)) hlocks
set_option maxHeartbeats 4000000 in
theorem j_len (l : Launch) (sa sv : Nat → Nat) (A : Nat → Prop) (k : Nat) (hk : k < 10) : Met l jyLen (jws jyLen jbLen 1 (some .int)) (rmJ 2) (va_Pc [.ref (sa k)] (JP sa sv A)) (JQ (some (.int (Int32.ofNat (lenS.getD k 0))))) 0 0 (fun _ => False) := by
  refine Met.ofW (cc := jbLen) (maxL := 1) (ret := some .int) (by decide) rfl ?_
  intro p e s m args below meth c s₁ B hml hv
  obtain ⟨rfl, hstr, hcs, hfm⟩ := hv
  have hx := B.exec
  have hb := B.bytes
  have hr := B.returns
  have hts0 := atoms_spec (ws := jws jyLen jbLen 1 (some .int)) B.pre
  have hts : ∀ q ∈ TBL, q.before _ s = true := fun q hq => hts0 q (List.mem_cons_of_mem _ hq)
  have hown : s.vm.findClass "java/lang/String" = some m.cls := findClass_of_methodNamed B.named
  have hlocks := B.notSynchronized
  have hS : va_S A s.heap s.heap [] := va_S.rf
  have hl := lv_entry ([.ref (sa k)]) (n := 1) (Nat.le_of_ble_eq_true rfl)
  rw [lg_entry_eq]
  generalize (lg_sl ([.ref (sa k)]) ++ List.replicate (1 - (lg_sl ([.ref (sa k)])).length) Slot.unset).toArray = ls at hl ⊢
  have hl : lv_has ls 1 [(0, .ref (sa k))] := hl
  have hP : ∀ U : State, U.heap = s.heap → s.WarmedH U.vm → JP sa sv A U := fun U hU hW => jstart (H := s.heap) (locs := []) ⟨hstr, hcs, hfm⟩ hS hU hW
  refine lv_aload_n hx hb (pc := 0) (k := 0) (by decide +kernel) rfl (lv_at hl 0 rfl) ?_
  refine vk_getf hx hb (hstr.1 k hk).2.2.1 hS hown (hts _ jT_f.2.2.1) (fun x hx => hx) (pc := 1) (by decide +kernel) ?_
  refine va_tlen hx hb (hstr.1 k hk).2.2.2 hS rfl (pc := 4) (by decide +kernel) ?_
  refine lv_aload_n hx hb (pc := 5) (k := 0) (by decide +kernel) rfl (lv_at hl 0 rfl) ?_
  refine jcall (A0 := A) (r := some (.int 0)) (va_runV (C := "java/lang/String") (As := []) (rest := [.int (Int32.ofNat (lenS.getD k 0))]) (bytes := jbCoder) (maxL := 1) (ret := some .byte) (n := 0) ⟨hx, hb, hml, hown, hts⟩ (j_coder l sa sv A k hk) ⟨⟨rfl, rfl, Nat.le_of_ble_eq_true rfl, Nat.le_of_ble_eq_true rfl, pay_in hts (jgood jT_c.1), List.mem_cons_self, hts _ jT_c.1, hts _ jT_ini.1, ⟨by decide, by decide⟩, fun sig h => ?_, hts _ jT_l.1⟩, hts _ jT_k.1, hts _ jT_k.2.1⟩ ⟨JP.blind, vk_recv hstr hk hS, fun U hU hW => ⟨rfl, hP U hU hW⟩⟩ rfl rfl hl.1 rfl (lv_room (Nat.le_of_ble_eq_true rfl)) (by decide +kernel : decode jbLen 6 = .ok (.invokevirtual 335, 3)) ⟨Nat.le_refl _, Nat.le_refl _⟩) hS (fun locs1 hsub hS1 => ?_)
  · have h2 : (parseMethodDescriptor jyCoder.desc).map (fun d => d.parameters.length) = some 0 := by decide +kernel
    rw [h] at h2
    exact (Option.some.inj h2).symm
  · refine lv_ishr hx hb (pc := 9) (by decide +kernel) ?_
    rw [sb_shr0]
    exact W.iret hx hb hr (fun t ht hW => ⟨rfl, ht⟩) (fun q h => by cases hsub q h) (by decide +kernel : decode jbLen 10 = .ok (.ireturn, 1)) hlocks
set_option maxHeartbeats 4000000 in
theorem j_charAt (l : Launch) (sa sv : Nat → Nat) (A : Nat → Prop) (k : Nat) (hk : k < 10) (i : Int32) (h0 : 0 ≤ i.toInt) (h1 : i.toInt < (lenS.getD k 0 : Int)) : Met l jyCharAt (jws jyCharAt jbCharAt 2 (some .char)) (rmJ 4) (va_Pc [.ref (sa k), .int i] (JP sa sv A)) (JQ (some (.int (chI k i.toInt.toNat)))) 0 0 (fun _ => False) := by
  refine Met.ofW (cc := jbCharAt) (maxL := 2) (ret := some .char) (by decide) rfl ?_
  intro p e s m args below meth c s₁ B hml hv
  obtain ⟨rfl, hstr, hcs, hfm⟩ := hv
  have hx := B.exec
  have hb := B.bytes
  have hr := B.returns
  have hts0 := atoms_spec (ws := jws jyCharAt jbCharAt 2 (some .char)) B.pre
  have hts : ∀ q ∈ TBL, q.before _ s = true := fun q hq => hts0 q (List.mem_cons_of_mem _ hq)
  have hown : s.vm.findClass "java/lang/String" = some m.cls := findClass_of_methodNamed B.named
  have hlocks := B.notSynchronized
  have hS : va_S A s.heap s.heap [] := va_S.rf
  have hl := lv_entry ([.ref (sa k), .int i]) (n := 2) (Nat.le_of_ble_eq_true rfl)
  rw [lg_entry_eq]
  generalize (lg_sl ([.ref (sa k), .int i]) ++ List.replicate (2 - (lg_sl ([.ref (sa k), .int i])).length) Slot.unset).toArray = ls at hl ⊢
  have hl : lv_has ls 2 [(0, .ref (sa k)), (1, .int i)] := hl
  have hP : ∀ U : State, U.heap = s.heap → s.WarmedH U.vm → JP sa sv A U := fun U hU hW => jstart (H := s.heap) (locs := []) ⟨hstr, hcs, hfm⟩ hS hU hW
  refine lv_aload_n hx hb (pc := 0) (k := 0) (by decide +kernel) rfl (lv_at hl 0 rfl) ?_
  refine jcall (A0 := A) (r := some (.int 1)) (va_runV (C := "java/lang/String") (As := []) (rest := []) (bytes := jbLat) (maxL := 1) (ret := some .boolean) (n := 0) ⟨hx, hb, hml, hown, hts⟩ (j_lat l sa sv A k hk) ⟨⟨rfl, rfl, Nat.le_of_ble_eq_true rfl, Nat.le_of_ble_eq_true rfl, pay_in hts (jgood jT_c.2.1), List.mem_cons_self, hts _ jT_c.2.1, hts _ jT_ini.1, ⟨by decide, by decide⟩, fun sig h => ?_, hts _ jT_l.2.1⟩, hts _ jT_k.2.2.1, hts _ jT_k.2.2.2.1⟩ ⟨JP.blind, vk_recv hstr hk hS, fun U hU hW => ⟨rfl, hP U hU hW⟩⟩ rfl rfl hl.1 rfl (lv_room (Nat.le_of_ble_eq_true rfl)) (by decide +kernel : decode jbCharAt 1 = .ok (.invokevirtual 492, 3)) ⟨Nat.le_refl _, Nat.le_refl _⟩) hS (fun locs1 hsub hS1 => ?_)
  · have h2 : (parseMethodDescriptor jyLat.desc).map (fun d => d.parameters.length) = some 0 := by decide +kernel
    rw [h] at h2
    exact (Option.some.inj h2).symm
  · refine lv_if_eq (tgt := 16) hx hb (pc := 4) (off := 12) (by decide +kernel) (by decide) (fun q => absurd q (by decide)) (fun _ => ?_)
    refine lv_aload_n hx hb (pc := 7) (k := 0) (by decide +kernel) rfl (lv_at hl 0 rfl) ?_
    refine vk_getf hx hb (hstr.1 k hk).2.2.1 hS1 hown (hts _ jT_f.2.2.1) (fun x hx => hx) (pc := 8) (by decide +kernel) ?_
    refine lv_iload_n hx hb (pc := 11) (k := 1) (by decide +kernel) rfl (lv_at hl 1 rfl) ?_
    refine jcall (A0 := A) (r := some (.int (chI k i.toInt.toNat))) (va_runS (As := [.ref (sv k), .int i]) (rest := []) (bytes := jbL1) (maxL := 2) (ret := some .char) (n := 2) ⟨hx, hb, hml, hown, hts⟩ (j_l1 l sa sv A k hk i h0 h1) ⟨⟨rfl, rfl, Nat.le_of_ble_eq_true rfl, Nat.le_of_ble_eq_true rfl, pay_in hts (jgood jT_c.2.2.1), List.mem_cons_self, hts _ jT_c.2.2.1, hts _ jT_ini.2.1, ⟨by decide, by decide⟩, fun sig h => ?_, hts _ jT_l.2.2.1⟩, hts _ jT_k.2.2.2.2.1⟩ ⟨JP.blind, fun U hU hW => ⟨rfl, hP U hU hW⟩⟩ rfl rfl hl.1 rfl (lv_room (Nat.le_of_ble_eq_true rfl)) (by decide +kernel : decode jbCharAt 12 = .ok (.invokestatic 495, 3)) ⟨Nat.le_refl _, Nat.le_refl _⟩) hS1 (fun locs2 hsub2 hS2 => ?_)
    · have h2 : (parseMethodDescriptor jyL1.desc).map (fun d => d.parameters.length) = some 2 := by decide +kernel
      rw [h] at h2
      exact (Option.some.inj h2).symm
    · have hch := schI k hk i.toInt.toNat (by omega)
      exact W.zret hx hb hr hch.2 (fun t ht hW => ⟨rfl, ht⟩) (fun q h => by cases hsub q (hsub2 q h)) (by decide +kernel : decode jbCharAt 15 = .ok (.ireturn, 1)) hlocks
section SJ2
variable {p : Program} {l : Launch} {e : Env} {R : Room} {s : State} {m : MethodId} {args : Array Value} {below : List Frame} {meth : Method} {c : Code} {cells slots : Nat} {Z : State → Prop} {A : Nat → Prop}
variable {own : String} {bytes : ByteArray} {nL : Nat} {lp : List Nat} {D : va_G} {w : AW} {sa sv : Nat → Nat} {sb : SB}
variable {pc len k : Nat} {L st : List AV} {h h' : AH} {x y z : Int}
theorem so_93 (C0 : Ctx p R s m args c cells slots A own bytes nL D w sa sv) {i : Int} (hc : (dqB bytes pc (.invokevirtual i.toNat) 3 len && decide (Jvm.Cond.methodLink own i.toNat ⟨"java/lang/String", "length", "()I"⟩ ∈ TBL)) = true) (hr : st.length ≤ 4) (K : Sim p l e R s m args below meth c cells slots Z A D w sa sb nL lp (pc + len) L (.inl (slen k) :: st) h) : Sim p l e R s m args below meth c cells slots Z A D w sa sb nL lp pc L (.inr (.inr (.inr (k + 2))) :: st) h := by
  obtain ⟨hx, hb, hml, hown, hts, hnw, hK, hstr, hvs, hA, hroom⟩ := C0
  simp only [Bool.and_eq_true, decide_eq_true_eq] at hc
  obtain ⟨hdg, rfl⟩ := dqB_spec hc.1
  intro H locs ls jst hw hl hs
  obtain ⟨v, t, rfl, ⟨hk, rfl⟩, hs2⟩ := hs.cons
  have hrm := SR.room hs2
  have hsize : ls.size = nL := by obtain ⟨-, -, lv, h3, -⟩ := hl; exact h3.1
  obtain ⟨hP, hD, hS, hC, hSc, hScF⟩ := id hw
  refine jcall (A0 := A) (r := some (.int (Int32.ofNat (lenS.getD k 0)))) (va_runV (C := "java/lang/String") (As := []) (rest := t) (bytes := jbLen) (maxL := 1) (ret := some .int) (n := 0) ⟨hx, hb, hml, hown, hts⟩ (j_len l sa sv A k hk) ⟨⟨rfl, rfl, by show 2 + 1 ≤ R.frames; omega, by show 8 + (1 + 11) + 64 ≤ R.locals; omega, pay_in hts (jgood jT_c.2.2.2.2.2.1), List.mem_cons_self, hts _ jT_c.2.2.2.2.2.1, hts _ jT_ini.1, ⟨by decide, by decide⟩, fun sig h => ?_, hts _ hc.2⟩, hts _ jT_k.2.2.2.2.2.2.2.1, hts _ jT_k.2.2.2.2.2.2.2.2.1⟩ ⟨JP.blind, vk_recv hvs.1 hk hS, fun U hU hW => ⟨rfl, jstart hvs hS hU hW⟩⟩ rfl rfl hsize rfl (lv_room (by omega)) hdg ⟨hroom.1, hroom.2.1⟩) hS (fun locs1 hsub hS1 => ?_)
  · have h2 : (parseMethodDescriptor jyLen.desc).map (fun d => d.parameters.length) = some 0 := by decide +kernel
    rw [h] at h2
    exact (Option.some.inj h2).symm
  · refine K _ _ _ _ (hw.scr hP hD hS1 hC rfl) hl ⟨⟨_, rfl, ?_⟩, hs2⟩
    obtain ⟨h1, h2⟩ := lenS_small k hk
    rw [h2]
    exact nI_toInt (by omega)
theorem so_94 (C0 : Ctx p R s m args c cells slots A own bytes nL D w sa sv) {i : Int} (hc : (dqB bytes pc (.invokevirtual i.toNat) 3 len && decide (Jvm.Cond.methodLink own i.toNat ⟨"java/lang/String", "charAt", "(I)C"⟩ ∈ TBL)) = true) (hr : st.length ≤ 4 ∧ 0 ≤ x ∧ x < slen k) (K : Sim p l e R s m args below meth c cells slots Z A D w sa sb nL lp (pc + len) L (.inl (sch k x) :: st) h) : Sim p l e R s m args below meth c cells slots Z A D w sa sb nL lp pc L (.inl x :: .inr (.inr (.inr (k + 2))) :: st) h := by
  obtain ⟨hx, hb, hml, hown, hts, hnw, hK, hstr, hvs, hA, hroom⟩ := C0
  simp only [Bool.and_eq_true, decide_eq_true_eq] at hc
  obtain ⟨hdg, rfl⟩ := dqB_spec hc.1
  intro H locs ls jst hw hl hs
  obtain ⟨u, t1, rfl, rfl, hs1⟩ := hs.int
  obtain ⟨v, t, rfl, ⟨hk, rfl⟩, hs2⟩ := hs1.cons
  have hrm := SR.room hs2
  have hsize : ls.size = nL := by obtain ⟨-, -, lv, h3, -⟩ := hl; exact h3.1
  obtain ⟨hP, hD, hS, hC, hSc, hScF⟩ := id hw
  obtain ⟨h1, h2⟩ := lenS_small k hk
  have hlt : u.toInt < (lenS.getD k 0 : Int) := by rw [← h2]; exact hr.2.2
  refine jcall (A0 := A) (r := some (.int (chI k u.toInt.toNat))) (va_runV (C := "java/lang/String") (As := [.int u]) (rest := t) (bytes := jbCharAt) (maxL := 2) (ret := some .char) (n := 1) ⟨hx, hb, hml, hown, hts⟩ (j_charAt l sa sv A k hk u hr.2.1 hlt) ⟨⟨rfl, rfl, by show 4 + 1 ≤ R.frames; omega, by show 8 + (2 + 11) + 128 ≤ R.locals; omega, pay_in hts (jgood jT_c.2.2.2.2.2.2), List.mem_cons_self, hts _ jT_c.2.2.2.2.2.2, hts _ jT_ini.1, ⟨by decide, by decide⟩, fun sig h => ?_, hts _ hc.2⟩, hts _ jT_k.2.2.2.2.2.2.2.2.2.1, hts _ jT_k.2.2.2.2.2.2.2.2.2.2⟩ ⟨JP.blind, vk_recv hvs.1 hk hS, fun U hU hW => ⟨rfl, jstart hvs hS hU hW⟩⟩ rfl rfl hsize rfl (lv_room (by omega)) hdg ⟨hroom.1, hroom.2.1⟩) hS (fun locs1 hsub hS1 => ?_)
  · have h2 : (parseMethodDescriptor jyCharAt.desc).map (fun d => d.parameters.length) = some 1 := by decide +kernel
    rw [h] at h2
    exact (Option.some.inj h2).symm
  · refine K _ _ _ _ (hw.scr hP hD hS1 hC rfl) hl ⟨⟨_, rfl, ?_⟩, hs2⟩
    have hsch := (schI k hk u.toInt.toNat (by have := hr.2.1; omega)).1
    have e : sch k u.toInt = sch k (u.toInt.toNat : Int) := by unfold sch; rw [Int.toNat_natCast]
    rw [e]
    exact hsch
end SJ2
