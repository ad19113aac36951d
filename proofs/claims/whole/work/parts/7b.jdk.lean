/-! SOUNDNESS: String.length and String.charAt over the claim's constants -/
def jyCoder : MethodName := ⟨"java/lang/String", "coder", "()B"⟩
def jyLen : MethodName := ⟨"java/lang/String", "length", "()I"⟩
def jyLat : MethodName := ⟨"java/lang/String", "isLatin1", "()Z"⟩
def jyCharAt : MethodName := ⟨"java/lang/String", "charAt", "(I)C"⟩
def jyCheck : MethodName := ⟨"java/lang/String", "checkIndex", "(II)V"⟩
def jyL1 : MethodName := ⟨"java/lang/StringLatin1", "charAt", "([BI)C"⟩
def jyPre : MethodName := ⟨"jdk/internal/util/Preconditions", "checkIndex", "(IILjava/util/function/BiFunction;)I"⟩
abbrev jbCoder : ByteArray := prog_11_method_152_code
abbrev jbLen : ByteArray := prog_11_method_54_code
abbrev jbLat : ByteArray := prog_11_method_154_code
abbrev jbCharAt : ByteArray := prog_11_method_56_code
abbrev jbCheck : ByteArray := prog_11_method_155_code
abbrev jbL1 : ByteArray := prog_12_method_2_code
abbrev jbPre : ByteArray := prog_15_method_11_code
def jws (y : MethodName) (b : ByteArray) (n : Nat) (r : Option FieldType) : List Jvm.Cond := .code y b n r :: TBL
theorem jT_ini : Jvm.Cond.initialized "java/lang/String" ∈ TBL ∧ Jvm.Cond.initialized "java/lang/StringLatin1" ∈ TBL ∧ Jvm.Cond.initialized "jdk/internal/util/Preconditions" ∈ TBL := by decide +kernel
theorem jT_f : Jvm.Cond.fieldLink "java/lang/String" 38 "java/lang/String" "COMPACT_STRINGS" "Z" ∈ TBL ∧ Jvm.Cond.fieldLink "java/lang/String" 15 "java/lang/String" "coder" "B" ∈ TBL ∧ Jvm.Cond.fieldLink "java/lang/String" 9 "java/lang/String" "value" "[B" ∈ TBL ∧ Jvm.Cond.fieldLink "java/lang/String" 1053 "jdk/internal/util/Preconditions" "SIOOBE_FORMATTER" "Ljava/util/function/BiFunction;" ∈ TBL := by decide +kernel
theorem jT_l : Jvm.Cond.methodLink "java/lang/String" 335 jyCoder ∈ TBL ∧ Jvm.Cond.methodLink "java/lang/String" 492 jyLat ∈ TBL ∧ Jvm.Cond.methodLink "java/lang/String" 495 jyL1 ∈ TBL ∧ Jvm.Cond.methodLink "java/lang/String" 1059 jyPre ∈ TBL ∧ Jvm.Cond.methodLink "java/lang/StringLatin1" 9 jyCheck ∈ TBL := by decide +kernel
theorem jT_k : Jvm.Cond.instanceMethod jyCoder ∈ TBL ∧ Jvm.Cond.selects "java/lang/String" jyCoder jyCoder ∈ TBL ∧ Jvm.Cond.instanceMethod jyLat ∈ TBL ∧ Jvm.Cond.selects "java/lang/String" jyLat jyLat ∈ TBL ∧ Jvm.Cond.static jyL1 ∈ TBL ∧ Jvm.Cond.static jyPre ∈ TBL ∧ Jvm.Cond.static jyCheck ∈ TBL ∧ Jvm.Cond.instanceMethod jyLen ∈ TBL ∧ Jvm.Cond.selects "java/lang/String" jyLen jyLen ∈ TBL ∧ Jvm.Cond.instanceMethod jyCharAt ∈ TBL ∧ Jvm.Cond.selects "java/lang/String" jyCharAt jyCharAt ∈ TBL := by decide +kernel
theorem jT_c : Jvm.Cond.code jyCoder jbCoder 1 (some .byte) ∈ TBL ∧ Jvm.Cond.code jyLat jbLat 1 (some .boolean) ∈ TBL ∧ Jvm.Cond.code jyL1 jbL1 2 (some .char) ∈ TBL ∧ Jvm.Cond.code jyPre jbPre 3 (some .int) ∈ TBL ∧ Jvm.Cond.code jyCheck jbCheck 2 none ∈ TBL ∧ Jvm.Cond.code jyLen jbLen 1 (some .int) ∈ TBL ∧ Jvm.Cond.code jyCharAt jbCharAt 2 (some .char) ∈ TBL := by decide +kernel
theorem jgood {y : MethodName} {b : ByteArray} {n : Nat} {r : Option FieldType} (h : Jvm.Cond.code y b n r ∈ TBL) : GoodIn TBL (jws y b n r) := by
  intro q hq
  rcases List.mem_cons.mp hq with rfl | hq
  · exact goodTBL _ h
  · exact goodTBL _ hq
def rmJ (d : Nat) : Room := { frames := d, cells := 0, slots := 0, locals := 32 * d }
def JP (sa sv : Nat → Nat) (A : Nat → Prop) (U : State) : Prop := StrF sa sv A U U.heap
def JQ (r : Option Value) : Array Value → State → Outcome → State → Prop := fun _ st o t => o = .returned r ∧ t.heap = st.heap
theorem JP.blind {sa sv : Nat → Nat} {A : Nat → Prop} {vs : List Value} : FrameBlind (va_Pc vs (JP sa sv A)) := by
  intro a U g mk ⟨q, h⟩
  exact ⟨q, StrF.moved (u := U) (U := U.calling g mk a) (Vm.Alike.refl U.vm) h⟩
section SJ
variable {p : Program} {l : Launch} {e : Env} {R : Room} {s : State} {m : MethodId} {args : Array Value} {below : List Frame} {meth : Method} {c : Code} {cells slots : Nat}
variable {pc : Nat} {H H0 : Heap} {locs : List Loc} {rest st0 : List Value} {a : Array Value} {A A0 : Nat → Prop} {free : Addr → Prop} {ls : Array Slot} {Q : State → Prop}
/-- behind a call that changes nothing -/
theorem jcall {r : Option Value} (hr : va_Run p l e R s m args below meth c H locs cells slots 0 0 (F0 m pc ls st0) rest (JQ r a) (fun _ => False)) (hS : va_S A0 H0 H locs)
    (kk : ∀ (locs1 : List Loc), (∀ q ∈ locs1, q ∈ locs) → va_S A0 H0 H locs1 → W p l e R s m args below meth c H locs1 cells slots Q (F0 m (pc + 3) ls (r.toList ++ rest))) : W p l e R s m args below meth c H locs cells slots Q (F0 m pc ls st0) := by
  intro T hT X
  obtain ⟨v, st₀, t, T', L, h0, X', hL, e1, e2, ⟨hv, hh⟩, st⟩ := hr T hT X
  cases hv
  have hT' : T'.heap = H := by rw [e1, hh, h0]
  obtain ⟨t2, a1, b1⟩ := kk (locs ++ L) (fun q hq => by
      rcases List.mem_append.mp hq with h | h
      · exact h
      · exact (hL q h).elim) ⟨hS.1, hS.2.1, fun q hq => by
      rcases List.mem_append.mp hq with h | h
      · exact hS.2.2 q h
      · exact (hL q h).elim⟩ T' hT' X'
  exact ⟨t2, st t2 a1, b1⟩
end SJ
set_option maxHeartbeats 4000000 in
theorem j_coder (l : Launch) (sa sv : Nat → Nat) (A : Nat → Prop) (k : Nat) (hk : k < 10) : Met l jyCoder (jws jyCoder jbCoder 1 (some .byte)) (rmJ 1) (va_Pc [.ref (sa k)] (JP sa sv A)) (JQ (some (.int 0))) 0 0 (fun _ => False) := by
  refine Met.ofW (cc := jbCoder) (maxL := 1) (ret := some .byte) (by decide) rfl ?_
  intro p e s m args below meth c s₁ B hml hv
  obtain ⟨rfl, hstr, hcs, hfm⟩ := hv
  have hx := B.exec
  have hb := B.bytes
  have hr := B.returns
  have hts0 := atoms_spec (ws := jws jyCoder jbCoder 1 (some .byte)) B.pre
  have hts : ∀ q ∈ TBL, q.before _ s = true := fun q hq => hts0 q (List.mem_cons_of_mem _ hq)
  have hown : s.vm.findClass "java/lang/String" = some m.cls := findClass_of_methodNamed B.named
  have hlocks := B.notSynchronized
  have hS : va_S A s.heap s.heap [] := va_S.rf
  have hl := lv_entry ([.ref (sa k)]) (n := 1) (Nat.le_of_ble_eq_true rfl)
  rw [lg_entry_eq]
  generalize (lg_sl ([.ref (sa k)]) ++ List.replicate (1 - (lg_sl ([.ref (sa k)])).length) Slot.unset).toArray = ls at hl ⊢
  have hl : lv_has ls 1 [(0, .ref (sa k))] := hl
  refine va_gets hx hb hcs hS hown (hts _ jT_f.1) (fun x hx => hx) (by decide +kernel) ?_
  refine lv_if_eq (tgt := 13) hx hb (pc := 3) (off := 10) (by decide +kernel) (by decide) (fun q => absurd q (by decide)) (fun _ => ?_)
  refine lv_aload_n hx hb (pc := 6) (k := 0) (by decide +kernel) rfl (lv_at hl 0 rfl) ?_
  refine vk_getf hx hb (hstr.1 k hk).2.1 hS hown (hts _ jT_f.2.1) (fun x hx => hx) (pc := 7) (by decide +kernel) ?_
  refine lv_goto (tgt := 14) hx hb (pc := 10) (off := 4) (by decide +kernel) (by decide) ?_
  refine W.zret hx hb hr rfl (fun t ht hW => ⟨rfl, ht⟩) (fun q h => by cases h) (by decide +kernel) hlocks
set_option maxHeartbeats 4000000 in
theorem j_lat (l : Launch) (sa sv : Nat → Nat) (A : Nat → Prop) (k : Nat) (hk : k < 10) : Met l jyLat (jws jyLat jbLat 1 (some .boolean)) (rmJ 1) (va_Pc [.ref (sa k)] (JP sa sv A)) (JQ (some (.int 1))) 0 0 (fun _ => False) := by
  refine Met.ofW (cc := jbLat) (maxL := 1) (ret := some .boolean) (by decide) rfl ?_
  intro p e s m args below meth c s₁ B hml hv
  obtain ⟨rfl, hstr, hcs, hfm⟩ := hv
  have hx := B.exec
  have hb := B.bytes
  have hr := B.returns
  have hts0 := atoms_spec (ws := jws jyLat jbLat 1 (some .boolean)) B.pre
  have hts : ∀ q ∈ TBL, q.before _ s = true := fun q hq => hts0 q (List.mem_cons_of_mem _ hq)
  have hown : s.vm.findClass "java/lang/String" = some m.cls := findClass_of_methodNamed B.named
  have hlocks := B.notSynchronized
  have hS : va_S A s.heap s.heap [] := va_S.rf
  have hl := lv_entry ([.ref (sa k)]) (n := 1) (Nat.le_of_ble_eq_true rfl)
  rw [lg_entry_eq]
  generalize (lg_sl ([.ref (sa k)]) ++ List.replicate (1 - (lg_sl ([.ref (sa k)])).length) Slot.unset).toArray = ls at hl ⊢
  have hl : lv_has ls 1 [(0, .ref (sa k))] := hl
  refine va_gets hx hb hcs hS hown (hts _ jT_f.1) (fun x hx => hx) (by decide +kernel) ?_
  refine lv_if_eq (tgt := 17) hx hb (pc := 3) (off := 14) (by decide +kernel) (by decide) (fun q => absurd q (by decide)) (fun _ => ?_)
  refine lv_aload_n hx hb (pc := 6) (k := 0) (by decide +kernel) rfl (lv_at hl 0 rfl) ?_
  refine vk_getf hx hb (hstr.1 k hk).2.1 hS hown (hts _ jT_f.2.1) (fun x hx => hx) (pc := 7) (by decide +kernel) ?_
  refine lv_if_ne (tgt := 17) hx hb (pc := 10) (off := 7) (by decide +kernel) (by decide) (fun q => absurd rfl q) (fun _ => ?_)
  refine lv_iconst (v := 1) hx hb (pc := 13) (n := 1) (by decide +kernel) (by decide) ?_
  refine lv_goto (tgt := 18) hx hb (pc := 14) (off := 4) (by decide +kernel) (by decide) ?_
  refine W.zret hx hb hr rfl (fun t ht hW => ⟨rfl, ht⟩) (fun q h => by cases h) (by decide +kernel) hlocks
set_option maxHeartbeats 4000000 in
theorem j_pre (l : Launch) (sa sv : Nat → Nat) (A : Nat → Prop) (i n : Int32) (f : Option Nat) (h0 : ¬ i < 0) (h1 : i < n) : Met l jyPre (jws jyPre jbPre 3 (some .int)) (rmJ 1) (va_Pc [.int i, .int n, va_rf f] (JP sa sv A)) (JQ (some (.int i))) 0 0 (fun _ => False) := by
  refine Met.ofW (cc := jbPre) (maxL := 3) (ret := some .int) (by decide) rfl ?_
  intro p e s m args below meth c s₁ B hml hv
  obtain ⟨rfl, hstr, hcs, hfm⟩ := hv
  have hx := B.exec
  have hb := B.bytes
  have hr := B.returns
  have hlocks := B.notSynchronized
  have hcat : (va_rf f).category = 1 := by cases f <;> rfl
  have hlen : (lg_sl [.int i, .int n, va_rf f]).length = 3 := by cases f <;> rfl
  have hl := lv_entry ([.int i, .int n, va_rf f]) (n := 3) (by rw [hlen]; exact Nat.le_refl _)
  rw [lg_entry_eq]
  generalize (lg_sl ([.int i, .int n, va_rf f]) ++ List.replicate (3 - (lg_sl ([.int i, .int n, va_rf f])).length) Slot.unset).toArray = ls at hl ⊢
  have hl : lv_has ls 3 [(0, .int i), (1, .int n), (2, va_rf f)] := hl
  refine lv_iload_n hx hb (pc := 0) (k := 0) (by decide +kernel) rfl (lv_at hl 0 rfl) ?_
  refine lv_if_lt (tgt := 9) hx hb (pc := 1) (off := 8) (by decide +kernel) (by decide) (fun q => absurd q h0) (fun _ => ?_)
  refine lv_iload_n hx hb (pc := 4) (k := 0) (by decide +kernel) rfl (lv_at hl 0 rfl) ?_
  refine lv_iload_n hx hb (pc := 5) (k := 1) (by decide +kernel) rfl (lv_at hl 1 rfl) ?_
  refine lv_icmp_lt (tgt := 16) hx hb (pc := 6) (off := 10) (by decide +kernel) (by decide) (fun _ => ?_) (fun q => absurd h1 q)
  refine lv_iload_n hx hb (pc := 16) (k := 0) (by decide +kernel) rfl (lv_at hl 0 rfl) ?_
  exact W.iret hx hb hr (fun t ht hW => ⟨rfl, ht⟩) (fun q h => by cases h) (by decide +kernel) hlocks
