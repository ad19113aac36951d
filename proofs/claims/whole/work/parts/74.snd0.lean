/-! SOUNDNESS: values, locals, stack, world -/
def strTx (k : Nat) : String := ["place", "west", "calm", "east", "sun", "tender", "price", "fog", "bottle", "hour"].getD k ""
def lenS : List Nat := strs.map List.length
def bytS : List (List Int32) := strs.map (fun t => t.map Int32.ofInt)
/-- the script: its address, its length, its numbers -/
abbrev SB : Type := Option (Nat × Nat × (Nat → Int32))
def VR (w : AW) (sa : Nat → Nat) (sb : SB) (a : AV) (v : Value) : Prop := match a with
  | .inl x => ∃ y : Int32, v = .int y ∧ y.toInt = x
  | .inr (.inl x) => ∃ y : Int64, v = .long y ∧ y.toInt = x
  | .inr (.inr (.inl q)) => (q ∈ LOCS ∧ v = .ref (w.2 q.1 q.2)) ∨ (q = (18, 37) ∧ ∃ b, sb = some b ∧ v = .ref b.1)
  | .inr (.inr (.inr 0)) => v = .null
  | .inr (.inr (.inr 1)) => False
  | .inr (.inr (.inr (k + 2))) => k < 10 ∧ v = .ref (sa k)
def SR (w : AW) (sa : Nat → Nat) (sb : SB) : List AV → List Value → Prop
  | [], [] => True
  | a :: st, v :: jst => VR w sa sb a v ∧ SR w sa sb st jst
  | _, _ => False
def LR (w : AW) (sa : Nat → Nat) (sb : SB) (nL : Nat) (lp : List Nat) (ls : Array Slot) (L : List AV) : Prop :=
  L.length = nL ∧ (∀ (i : Nat) (x : Int), L[i]? = some (.inr (.inl x)) → i ∈ lp) ∧ ∃ lv : List (Nat × Value), lv_has ls nL lv ∧ ∀ (i : Nat) (a : AV), L[i]? = some a → a = vU ∨ ∃ v, VR w sa sb a v ∧ (i, v) ∈ lv
theorem VR.ref {w : AW} {sa : Nat → Nat} {sb : SB} {z : (Nat × Nat) ⊕ Nat} {v : Value} (h : VR w sa sb (.inr (.inr z)) v) : v = .null ∨ ∃ a, v = .ref a := by
  rcases z with q | k
  · rcases h with ⟨-, h⟩ | ⟨-, b, -, h⟩
    · exact Or.inr ⟨_, h⟩
    · exact Or.inr ⟨_, h⟩
  · match k, h with
    | 0, h => exact Or.inl h
    | 1, h => exact h.elim
    | k + 2, h => exact Or.inr ⟨_, h.2⟩
theorem VR.cat1 {w : AW} {sa : Nat → Nat} {sb : SB} {z : (Nat × Nat) ⊕ Nat} {v : Value} (h : VR w sa sb (.inr (.inr z)) v) : v.category = 1 := by
  rcases h.ref with rfl | ⟨a, rfl⟩ <;> rfl
theorem VR.cat {w : AW} {sa : Nat → Nat} {sb : SB} {a : AV} {v : Value} (h : VR w sa sb a v) : v.category ≤ 2 := by
  cases v <;> simp [Value.category]
theorem SR.nil {w : AW} {sa : Nat → Nat} {sb : SB} {jst : List Value} (h : SR w sa sb [] jst) : jst = [] := by
  cases jst with
  | nil => rfl
  | cons v t => exact h.elim
theorem SR.cons {w : AW} {sa : Nat → Nat} {sb : SB} {a : AV} {st : List AV} {jst : List Value} (h : SR w sa sb (a :: st) jst) : ∃ v t, jst = v :: t ∧ VR w sa sb a v ∧ SR w sa sb st t := by
  cases jst with
  | nil => exact h.elim
  | cons v t => exact ⟨v, t, rfl, h.1, h.2⟩
theorem SR.int {w : AW} {sa : Nat → Nat} {sb : SB} {x : Int} {st : List AV} {jst : List Value} (h : SR w sa sb (.inl x :: st) jst) : ∃ (y : Int32) (t : List Value), jst = .int y :: t ∧ x = y.toInt ∧ SR w sa sb st t := by
  obtain ⟨v, t, rfl, ⟨y, rfl, e⟩, h2⟩ := h.cons
  exact ⟨y, t, rfl, e.symm, h2⟩
theorem SR.lng {w : AW} {sa : Nat → Nat} {sb : SB} {x : Int} {st : List AV} {jst : List Value} (h : SR w sa sb (.inr (.inl x) :: st) jst) : ∃ (y : Int64) (t : List Value), jst = .long y :: t ∧ x = y.toInt ∧ SR w sa sb st t := by
  obtain ⟨v, t, rfl, ⟨y, rfl, e⟩, h2⟩ := h.cons
  exact ⟨y, t, rfl, e.symm, h2⟩
theorem SR.len {w : AW} {sa : Nat → Nat} {sb : SB} : ∀ {st : List AV} {jst : List Value}, SR w sa sb st jst → jst.length = st.length
  | [], [], _ => rfl
  | a :: st, v :: t, h => by simp [SR.len h.2]
  | [], _ :: _, h => h.elim
  | _ :: _, [], h => h.elim
theorem SR.room {w : AW} {sa : Nat → Nat} {sb : SB} : ∀ {st : List AV} {jst : List Value}, SR w sa sb st jst → (jst.map fun v => v.category).sum ≤ 2 * st.length
  | [], [], _ => by simp
  | a :: st, v :: t, h => by
    have h1 := SR.room h.2
    have h2 := h.1.cat
    simp only [List.map_cons, List.sum_cons, List.length_cons]
    omega
  | [], _ :: _, h => h.elim
  | _ :: _, [], h => h.elim
theorem SR.take {w : AW} {sa : Nat → Nat} {sb : SB} : ∀ (n : Nat) {st : List AV} {jst : List Value}, SR w sa sb st jst → SR w sa sb (st.take n) (jst.take n)
  | 0, _, _, _ => trivial
  | _ + 1, [], [], _ => trivial
  | n + 1, a :: st, v :: t, h => ⟨h.1, SR.take n h.2⟩
  | _ + 1, [], _ :: _, h => h.elim
  | _ + 1, _ :: _, [], h => h.elim
theorem SR.drop {w : AW} {sa : Nat → Nat} {sb : SB} : ∀ (n : Nat) {st : List AV} {jst : List Value}, SR w sa sb st jst → SR w sa sb (st.drop n) (jst.drop n)
  | 0, _, _, h => h
  | _ + 1, [], [], _ => trivial
  | n + 1, a :: st, v :: t, h => SR.drop n h.2
  | _ + 1, [], _ :: _, h => h.elim
  | _ + 1, _ :: _, [], h => h.elim
theorem SR.app {w : AW} {sa : Nat → Nat} {sb : SB} : ∀ {st : List AV} {jst : List Value} {st' : List AV} {jst' : List Value}, SR w sa sb st jst → SR w sa sb st' jst' → SR w sa sb (st ++ st') (jst ++ jst')
  | [], [], _, _, _, h => h
  | a :: st, v :: t, _, _, h, h' => ⟨h.1, SR.app h.2 h'⟩
  | [], _ :: _, _, _, h, _ => h.elim
  | _ :: _, [], _, _, h, _ => h.elim
theorem SR.rev {w : AW} {sa : Nat → Nat} {sb : SB} : ∀ {st : List AV} {jst : List Value}, SR w sa sb st jst → SR w sa sb st.reverse jst.reverse
  | [], [], _ => trivial
  | a :: st, v :: t, h => by
    rw [List.reverse_cons, List.reverse_cons]
    exact SR.app (SR.rev h.2) ⟨h.1, trivial⟩
  | [], _ :: _, h => h.elim
  | _ :: _, [], h => h.elim
/-- storing one word -/
theorem LR.store {w : AW} {sa : Nat → Nat} {sb : SB} {nL : Nat} {lp : List Nat} {ls' : Array Slot} {L : List AV} {i : Nat} {a : AV} {v : Value} {lv : List (Nat × Value)} (h1 : L.length = nL) (h2 : ∀ (i : Nat) (x : Int), L[i]? = some (.inr (.inl x)) → i ∈ lp) (h3 : ∀ (i : Nat) (a : AV), L[i]? = some a → a = vU ∨ ∃ v, VR w sa sb a v ∧ (i, v) ∈ lv)
    (hi : i < nL) (hlp : ∀ j ∈ lp, j + 1 ≠ i) (hv : VR w sa sb a v) (hna : ∀ x, a ≠ .inr (.inl x)) (hls : lv_has ls' nL ((i, v) :: lv.filter (fun q => !(q.1 == i) && !(q.1 + 1 == i && q.2.category == 2)))) : LR w sa sb nL lp ls' (L.set i a) := by
  refine ⟨by rw [List.length_set]; exact h1, fun j x hj => ?_, _, hls, fun j b hj => ?_⟩
  · by_cases hji : j = i
    · subst hji
      rw [List.getElem?_set_self (by omega)] at hj
      exact absurd (Option.some.inj hj) (hna x)
    · rw [List.getElem?_set_ne (Ne.symm hji)] at hj
      exact h2 j x hj
  · by_cases hji : j = i
    · subst hji
      rw [List.getElem?_set_self (by omega)] at hj
      cases hj
      exact Or.inr ⟨v, hv, List.mem_cons_self⟩
    · rw [List.getElem?_set_ne (Ne.symm hji)] at hj
      rcases h3 j b hj with e | ⟨u, hu, hm⟩
      · exact Or.inl e
      · refine Or.inr ⟨u, hu, List.mem_cons_of_mem _ (List.mem_filter.mpr ⟨hm, ?_⟩)⟩
        simp only [Bool.and_eq_true, Bool.not_eq_true', beq_eq_false_iff_ne, ne_eq, Bool.and_eq_false_iff]
        refine ⟨hji, ?_⟩
        by_cases hq : j + 1 = i
        · right
          intro hcat
          have : j ∈ lp := by
            rcases b with x | x | z
            · obtain ⟨y, rfl, -⟩ := hu
              simp [Value.category] at hcat
            · exact h2 j x hj
            · have := VR.cat1 hu
              omega
          exact hlp j this hq
        · exact Or.inl hq
/-- what stands at a local -/
theorem LR.at {w : AW} {sa : Nat → Nat} {sb : SB} {nL : Nat} {lp : List Nat} {ls : Array Slot} {L : List AV} (h : LR w sa sb nL lp ls L) {i : Nat} {a : AV} (hi : L[i]? = some a) (hu : a ≠ vU) : ∃ v, VR w sa sb a v ∧ ls[i]? = some (.val v) := by
  obtain ⟨-, -, lv, h1, h2⟩ := h
  rcases h2 i a hi with e | ⟨v, hv, hm⟩
  · exact absurd e hu
  · exact ⟨v, hv, h1.2.2 (i, v) hm⟩
/-- what is known of the JDK's texts -/
def StrF (sa sv : Nat → Nat) (A : Nat → Prop) (s : State) (H : Heap) : Prop := vk_S 10 lenS bytS sa sv A s H ∧ va_Z "java/lang/String" "COMPACT_STRINGS" "Z" (.int 1) A s H ∧ va_Zq "jdk/internal/util/Preconditions" "SIOOBE_FORMATTER" "Ljava/util/function/BiFunction;" A s H
/-- what the abstract heap says of the script -/
def ScrH (sb : SB) (h : AH) : Prop := ∀ b, sb = some b → h 18 38 0 = (b.2.1 : Int) ∧ b.2.1 < 2147483648 ∧ ∀ j : Nat, j < b.2.1 → h 18 37 j = (b.2.2 j).toInt
def ScrF (sb : SB) (A : Nat → Prop) (s : State) (H : Heap) : Prop := ∀ b, sb = some b → va_X b.1 b.2.1 b.2.2 s H ∧ b.1 < H.size ∧ ¬ A b.1
/-- a method's surroundings -/
def Ctx (p : Program) (R : Room) (s : State) (m : MethodId) (args : Array Value) (c : Code) (cells slots : Nat) (A : Nat → Prop) (own : String) (bytes : ByteArray) (nL : Nat) (D : va_G) (w : AW) (sa sv : Nat → Nat) : Prop :=
  p.tables.exec = Jvm.exec ∧ c.code = bytes ∧ c.maxLocals = nL ∧ s.vm.findClass own = some m.cls ∧ (∀ q ∈ TBL, q.before args s = true) ∧ (∀ q ∈ NWS, va_Nw q s) ∧ va_K D wCl (tysOf w) s ∧ (∀ q ∈ SLT, vk_R q.1 q.2.1 (strTx q.2.2) (sa q.2.2) s) ∧ StrF sa sv A s s.heap ∧ (∀ q : Nat, s.heap.size ≤ q → A q) ∧ (cells ≤ R.cells ∧ slots ≤ R.slots ∧ 8 ≤ R.frames ∧ 512 ≤ R.locals)
/-- the world at a place of the walk -/
def Wld (s : State) (A : Nat → Prop) (D : va_G) (w : AW) (sb : SB) (h : AH) (H : Heap) (locs : List Loc) : Prop :=
  va_P D wCl (wsOf w h) H ∧ va_D A (wsOf w h) ∧ va_S A s.heap H locs ∧ Canon h ∧ ScrH sb h ∧ ScrF sb A s s.heap
def Sim (p : Program) (l : Launch) (e : Env) (R : Room) (s : State) (m : MethodId) (args : Array Value) (below : List Frame) (meth : Method) (c : Code) (cells slots : Nat) (Z : State → Prop) (A : Nat → Prop) (D : va_G) (w : AW) (sa : Nat → Nat) (sb : SB) (nL : Nat) (lp : List Nat) (pc : Nat) (L st : List AV) (h : AH) : Prop :=
  ∀ (H : Heap) (locs : List Loc) (ls : Array Slot) (jst : List Value), Wld s A D w sb h H locs → LR w sa sb nL lp ls L → SR w sa sb st jst → W p l e R s m args below meth c H locs cells slots Z (F0 m pc ls jst)
theorem dqB_spec {bytes : ByteArray} {pc n len : Nat} {i : Instr} (h : dqB bytes pc i n len = true) : decode bytes pc = .ok (i, n) ∧ len = n := by
  unfold dqB at h
  simp only [Bool.and_eq_true, decide_eq_true_eq] at h
  exact h
