/-! THE ABSTRACT MACHINE: the class's and the reference's code over whole numbers and a heap of fixed shape -/
abbrev AV : Type := Int ⊕ Int ⊕ (Nat × Nat) ⊕ Nat
abbrev AH : Type := Nat → Nat → Nat → Int
abbrev AI : Type := Nat × Nat × Int × List Int
abbrev ACfg : Type := Nat × List AV × List AV × AH
abbrev AOut : Type := Option (ACfg ⊕ (Option AV × AH) ⊕ (Nat × List AV × Bool × ACfg))
abbrev vI (x : Int) : AV := .inl x
abbrev vJ (x : Int) : AV := .inr (.inl x)
abbrev vR (g m : Nat) : AV := .inr (.inr (.inl (g, m)))
abbrev vN : AV := .inr (.inr (.inr 0))
abbrev vU : AV := .inr (.inr (.inr 1))
abbrev vS (k : Nat) : AV := .inr (.inr (.inr (k + 2)))
/-- a function changed at one place -/
def fup {α : Type} (f : Nat → α) (k : Nat) (v : α) : Nat → α := fun j => if j = k then v else f j
theorem fup_same {α : Type} (f : Nat → α) (k : Nat) (v : α) : fup f k v k = v := by simp [fup]
theorem fup_ne {α : Type} (f : Nat → α) {k j : Nat} (v : α) (h : j ≠ k) : fup f k v j = f j := by simp [fup, h]
theorem fup_fup {α : Type} (f : Nat → α) (k : Nat) (v w : α) : fup (fup f k v) k w = fup f k w := by funext j; unfold fup; split <;> rfl
theorem fup_id {α : Type} (f : Nat → α) (k : Nat) : fup f k (f k) = f := by funext j; unfold fup; split <;> simp_all
theorem fup_comm {α : Type} (f : Nat → α) {k l : Nat} (v w : α) (h : k ≠ l) : fup (fup f k v) l w = fup (fup f l w) k v := by
  funext j; unfold fup
  by_cases h1 : j = k
  · subst h1; simp [h]
  · by_cases h2 : j = l
    · subst h2; simp [h1]
    · simp [h1, h2]
def up3 (h : AH) (g m k : Nat) (x : Int) : AH := fup h g (fup (h g) m (fup (h g m) k x))
/-! numbers -/
def wr (x : Int) : Int := Int.bmod x 4294967296
def wl (x : Int) : Int := Int.bmod x 18446744073709551616
theorem wr_id {x : Int} (h1 : -2147483648 ≤ x) (h2 : x < 2147483648) : wr x = x := by
  unfold wr; rw [Int.bmod_def]; omega
def opAnd (x y : Int) : Int := (Int32.ofInt x &&& Int32.ofInt y).toInt
def opOr (x y : Int) : Int := (Int32.ofInt x ||| Int32.ofInt y).toInt
def opXor (x y : Int) : Int := (Int32.ofInt x ^^^ Int32.ofInt y).toInt
def opDiv (x y : Int) : Int := (Int32.ofInt x / Int32.ofInt y).toInt
def opRem (x y : Int) : Int := (Int32.ofInt x - Int32.ofInt x / Int32.ofInt y * Int32.ofInt y).toInt
def opShl (x y : Int) : Int := (Int32.ofInt x <<< (Int32.ofInt y &&& 31)).toInt
def opUshr (x y : Int) : Int := ((Int32.ofInt x).toUInt32 >>> ((Int32.ofInt y).toUInt32 &&& Int32.toUInt32 31)).toInt32.toInt
def opLand (x y : Int) : Int := (Int64.ofInt x &&& Int64.ofInt y).toInt
def opLor (x y : Int) : Int := (Int64.ofInt x ||| Int64.ofInt y).toInt
def opLshl (x y : Int) : Int := (Int64.ofInt x <<< ((Int32.ofInt y).toInt64 &&& 63)).toInt
def opB (x : Int) : Int := Int.bmod x 256
def opS (x : Int) : Int := Int.bmod x 65536
def opCmp (x y : Int) : Int := if x < y then -1 else if x = y then 0 else 1
def amax (x y : Int) : Int := if x < y then y else x
def amin (x y : Int) : Int := if y < x then y else x
/-! the shape of the heap: arrays of ints 0, of longs 1; else 2 -/
def akind (m : Nat) : Nat := match m with
  | 0 => 0 | 1 => 0 | 2 => 0 | 3 => 0 | 4 => 0 | 5 => 0 | 6 => 0
  | 8 => 1 | 11 => 0 | 14 => 0 | 15 => 0 | 17 => 0
  | 20 => 0 | 21 => 0 | 22 => 0 | 23 => 0 | 24 => 0 | 25 => 0 | 26 => 0 | 28 => 0 | 29 => 0 | 30 => 1 | 31 => 0 | 32 => 0 | 33 => 0 | 34 => 0 | 35 => 0 | 36 => 0
  | 37 => 0
  | _ => 2
def alenN (m : Nat) : Nat := match m with
  | 0 => 8 | 1 => 8 | 2 => 8 | 3 => 8 | 4 => 12 | 5 => 12 | 6 => 4
  | 8 => 160 | 11 => 8 | 14 => 4 | 15 => 4 | 17 => 20
  | 20 => 8 | 21 => 8 | 22 => 8 | 23 => 9 | 24 => 12 | 25 => 12 | 26 => 4 | 28 => 8 | 29 => 8 | 30 => 1280 | 31 => 8 | 32 => 20 | 33 => 61 | 34 => 61 | 35 => 61 | 36 => 3
  | _ => 0
/-- a place of an array: of its kind, in its bounds (the script's length stands in the heap) -/
abbrev inA (h : AH) (m k : Nat) (i : Int) : Prop := akind m = k ∧ 0 ≤ i ∧ i < (if m = 37 then h 18 38 0 else (alenN m : Int))
/-! strings -/
def strs : List (List Int) := [[112, 108, 97, 99, 101], [119, 101, 115, 116], [99, 97, 108, 109], [101, 97, 115, 116], [115, 117, 110], [116, 101, 110, 100, 101, 114], [112, 114, 105, 99, 101], [102, 111, 103], [98, 111, 116, 116, 108, 101], [104, 111, 117, 114]]
def slen (k : Nat) : Int := ((strs.getD k []).length : Int)
def sch (k : Nat) (i : Int) : Int := (strs.getD k []).getD i.toNat 0
/-! one instruction -/
def nthA : List AI → Nat → AI
  | [], _ => (999, 0, 0, [])
  | a :: _, 0 => a
  | _ :: l, n + 1 => nthA l n
def swT (x : Int) : Int → List Int → Nat → Nat
  | _, [], d => d
  | k, t :: ts, d => if x = k then t.toNat else swT x (k + 1) ts d
def swL (x : Int) : List Int → Nat → Nat
  | k :: t :: ts, d => if x = k then t.toNat else swL x ts d
  | _, d => d
def nxt (pc : Nat) (L st : List AV) (h : AH) : AOut := some (.inl (pc, L, st, h))
def arow (f g : Nat → Int) (sp dp n : Nat) : Nat → Int := fun i => if dp ≤ i ∧ i < dp + n then f (sp + (i - dp)) else g i
/-- System.arraycopy: a whole row of one length is taken as it is -/
def acopy (h : AH) (g m g' m' sp dp n : Nat) : AH := fup h g' (fup (h g') m' (if sp = 0 ∧ dp = 0 ∧ n = alenN m ∧ n = alenN m' then h g m else arow (h g m) (h g' m') sp dp n))
def stepR (ai : AI) (pc : Nat) (L st : List AV) (h : AH) : AOut :=
  match ai with
  | (op, len, x, l) => match op with
    | 0 | 1 | 2 | 3 | 4 => nxt (pc + len) L (.inl x :: st) h
    | 5 | 6 => nxt (pc + len) L (.inr (.inl x) :: st) h
    | 7 => nxt (pc + len) L (vN :: st) h
    | 8 => nxt (pc + len) L (vS x.toNat :: st) h
    | 10 => match L[x.toNat]? with | some (.inl y) => nxt (pc + len) L (.inl y :: st) h | _ => none
    | 11 => match L[x.toNat]? with | some (.inr (.inl y)) => nxt (pc + len) L (.inr (.inl y) :: st) h | _ => none
    | 12 => match L[x.toNat]? with | some (.inr (.inr (.inl y))) => nxt (pc + len) L (.inr (.inr (.inl y)) :: st) h | some (.inr (.inr (.inr 0))) => nxt (pc + len) L (.inr (.inr (.inr 0)) :: st) h | some (.inr (.inr (.inr (k + 2)))) => nxt (pc + len) L (.inr (.inr (.inr (k + 2))) :: st) h | _ => none
    | 13 => match st with | .inl y :: r => nxt (pc + len) (L.set x.toNat (.inl y)) r h | _ => none
    | 14 => match st with | .inr (.inr y) :: r => nxt (pc + len) (L.set x.toNat (.inr (.inr y))) r h | _ => none
    | 15 => match l with | [i] => (match L[i.toNat]? with | some (.inl y) => nxt (pc + len) (L.set i.toNat (.inl (wr (y + x)))) st h | _ => none) | _ => none
    | 20 => match st with | .inl b :: .inl a :: r => nxt (pc + len) L (.inl (wr (a + b)) :: r) h | _ => none
    | 21 => match st with | .inl b :: .inl a :: r => nxt (pc + len) L (.inl (wr (a - b)) :: r) h | _ => none
    | 22 => match st with | .inl b :: .inl a :: r => nxt (pc + len) L (.inl (wr (a * b)) :: r) h | _ => none
    | 23 => match st with | .inl b :: .inl a :: r => if b ≠ 0 then nxt (pc + len) L (.inl (opDiv a b) :: r) h else none | _ => none
    | 24 => match st with | .inl b :: .inl a :: r => if b ≠ 0 then nxt (pc + len) L (.inl (opRem a b) :: r) h else none | _ => none
    | 25 => match st with | .inl a :: r => nxt (pc + len) L (.inl (wr (-a)) :: r) h | _ => none
    | 26 => match st with | .inl b :: .inl a :: r => nxt (pc + len) L (.inl (opXor a b) :: r) h | _ => none
    | 27 => match st with | .inl b :: .inl a :: r => nxt (pc + len) L (.inl (opOr a b) :: r) h | _ => none
    | 28 => match st with | .inl b :: .inl a :: r => nxt (pc + len) L (.inl (opAnd a b) :: r) h | _ => none
    | 29 => match st with | .inl b :: .inl a :: r => nxt (pc + len) L (.inl (opShl a b) :: r) h | _ => none
    | 30 => match st with | .inl b :: .inl a :: r => nxt (pc + len) L (.inl (opUshr a b) :: r) h | _ => none
    | 31 => match st with | .inl a :: r => nxt (pc + len) L (.inr (.inl a) :: r) h | _ => none
    | 32 => match st with | .inr (.inl a) :: r => nxt (pc + len) L (.inl (wr a) :: r) h | _ => none
    | 33 => match st with | .inl a :: r => nxt (pc + len) L (.inl (opB a) :: r) h | _ => none
    | 34 => match st with | .inl a :: r => nxt (pc + len) L (.inl (opS a) :: r) h | _ => none
    | 35 => match st with | .inr (.inl b) :: .inr (.inl a) :: r => nxt (pc + len) L (.inl (opCmp a b) :: r) h | _ => none
    | 36 => match st with | .inr (.inl b) :: .inr (.inl a) :: r => nxt (pc + len) L (.inr (.inl (opLand a b)) :: r) h | _ => none
    | 37 => match st with | .inr (.inl b) :: .inr (.inl a) :: r => nxt (pc + len) L (.inr (.inl (opLor a b)) :: r) h | _ => none
    | 38 => match st with | .inl b :: .inr (.inl a) :: r => nxt (pc + len) L (.inr (.inl (opLshl a b)) :: r) h | _ => none
    | 39 => match st with | .inr (.inl b) :: .inr (.inl a) :: r => nxt (pc + len) L (.inr (.inl (wl (a + b))) :: r) h | _ => none
    | 40 => match st with | .inl a :: r => nxt (pc + len) L (.inl a :: .inl a :: r) h | .inr (.inr a) :: r => nxt (pc + len) L (.inr (.inr a) :: .inr (.inr a) :: r) h | _ => none
    | 41 => match st with | .inl b :: .inr (.inr a) :: r => nxt (pc + len) L (.inl b :: .inr (.inr a) :: .inl b :: .inr (.inr a) :: r) h | _ => none
    | 42 => match st with | .inl b :: .inr (.inr a) :: r => nxt (pc + len) L (.inl b :: .inr (.inr a) :: .inl b :: r) h | _ => none
    | 43 => match st with | .inl _ :: r => nxt (pc + len) L r h | _ => none
    | 45 => nxt x.toNat L st h
    | 46 => match st with | .inl a :: r => nxt (if a = 0 then x.toNat else pc + len) L r h | _ => none
    | 47 => match st with | .inl a :: r => nxt (if a = 0 then pc + len else x.toNat) L r h | _ => none
    | 48 => match st with | .inl a :: r => nxt (if a < 0 then x.toNat else pc + len) L r h | _ => none
    | 49 => match st with | .inl a :: r => nxt (if a < 0 then pc + len else x.toNat) L r h | _ => none
    | 50 => match st with | .inl a :: r => nxt (if 0 < a then x.toNat else pc + len) L r h | _ => none
    | 51 => match st with | .inl a :: r => nxt (if 0 < a then pc + len else x.toNat) L r h | _ => none
    | 52 => match st with | .inl b :: .inl a :: r => nxt (if a = b then x.toNat else pc + len) L r h | _ => none
    | 53 => match st with | .inl b :: .inl a :: r => nxt (if a = b then pc + len else x.toNat) L r h | _ => none
    | 54 => match st with | .inl b :: .inl a :: r => nxt (if a < b then x.toNat else pc + len) L r h | _ => none
    | 55 => match st with | .inl b :: .inl a :: r => nxt (if a < b then pc + len else x.toNat) L r h | _ => none
    | 56 => match st with | .inl b :: .inl a :: r => nxt (if b < a then x.toNat else pc + len) L r h | _ => none
    | 57 => match st with | .inl b :: .inl a :: r => nxt (if b < a then pc + len else x.toNat) L r h | _ => none
    | 58 => match st with | .inr (.inr (.inl _)) :: r => nxt (pc + len) L r h | .inr (.inr (.inr 0)) :: r => nxt x.toNat L r h | _ => none
    | 59 => match st with | .inr (.inr (.inl _)) :: r => nxt x.toNat L r h | .inr (.inr (.inr 0)) :: r => nxt (pc + len) L r h | _ => none
    | 60 => match st, l with | .inl a :: r, d :: ts => nxt (swT a x ts d.toNat) L r h | _, _ => none
    | 61 => match st, l with | .inl a :: r, d :: ts => nxt (swL a ts d.toNat) L r h | _, _ => none
    | 65 => match l with | [m', j, _] => (match st with | .inr (.inr (.inl (g, m))) :: r => if m = m'.toNat then nxt (pc + len) L (.inl (h g m j.toNat) :: r) h else none | _ => none) | _ => none
    | 66 => match l with | [m', j, _] => (match st with | .inr (.inr (.inl (g, m))) :: r => if m = m'.toNat then nxt (pc + len) L (vR g j.toNat :: r) h else none | _ => none) | _ => none
    | 67 => match l with | [m', j, _] => (match st with | .inr (.inr (.inl (_, m))) :: r => if m = m'.toNat then nxt (pc + len) L (vR x.toNat j.toNat :: r) h else none | _ => none) | _ => none
    | 68 => match l with | [m', j, _] => (match st with | .inr (.inr (.inl (g, m))) :: r => if m = m'.toNat then (if 0 ≤ h g m j.toNat ∧ h g m j.toNat < 8 then nxt (pc + len) L (vR (8 + (h g m j.toNat).toNat) 9 :: r) h else nxt (pc + len) L (vN :: r) h) else none | _ => none) | _ => none
    | 69 => match l with | [m', j, _] => (match st with | .inr (.inr (.inl (g, m))) :: r => if m = m'.toNat then (if 0 ≤ h g m j.toNat ∧ h g m j.toNat < 8 then nxt (pc + len) L (vR (h g m j.toNat).toNat 7 :: r) h else nxt (pc + len) L (vN :: r) h) else none | _ => none) | _ => none
    | 70 => match l with | [m', j, _] => (match st with | .inl v :: .inr (.inr (.inl (g, m))) :: r => if m = m'.toNat then nxt (pc + len) L r (up3 h g m j.toNat v) else none | _ => none) | _ => none
    | 71 => match l with | [m', j, _] => (match st with | .inl v :: .inr (.inr (.inl (g, m))) :: r => if m = m'.toNat ∧ (v = 0 ∨ v = 1) then nxt (pc + len) L r (up3 h g m j.toNat v) else none | _ => none) | _ => none
    | 72 => match l with | [m', j, _] => (match st with | .inr (.inr (.inl (g1, 9))) :: .inr (.inr (.inl (g, m))) :: r => if m = m'.toNat then nxt (pc + len) L r (up3 h g m j.toNat ((g1 : Int) - 8)) else none | .inr (.inr (.inr 0)) :: .inr (.inr (.inl (g, m))) :: r => if m = m'.toNat then nxt (pc + len) L r (up3 h g m j.toNat (-1)) else none | _ => none) | _ => none
    | 73 => match l with | [m', j, _] => (match st with | .inr (.inr (.inl (g1, 7))) :: .inr (.inr (.inl (g, m))) :: r => if m = m'.toNat then nxt (pc + len) L r (up3 h g m j.toNat (g1 : Int)) else none | .inr (.inr (.inr 0)) :: .inr (.inr (.inl (g, m))) :: r => if m = m'.toNat then nxt (pc + len) L r (up3 h g m j.toNat (-1)) else none | _ => none) | _ => none
    | 75 => match st with | .inl i :: .inr (.inr (.inl (g, m))) :: r => if inA h m 0 i then nxt (pc + len) L (.inl (h g m i.toNat) :: r) h else none | _ => none
    | 76 => match st with | .inl v :: .inl i :: .inr (.inr (.inl (g, m))) :: r => if inA h m 0 i ∧ m ≠ 37 then nxt (pc + len) L r (up3 h g m i.toNat v) else none | _ => none
    | 77 => match st with | .inl i :: .inr (.inr (.inl (g, m))) :: r => if inA h m 1 i then nxt (pc + len) L (.inr (.inl (h g m i.toNat)) :: r) h else none | _ => none
    | 78 => match st with | .inr (.inl v) :: .inl i :: .inr (.inr (.inl (g, m))) :: r => if inA h m 1 i then nxt (pc + len) L r (up3 h g m i.toNat v) else none | _ => none
    | 79 => match st with | .inl i :: .inr (.inr (.inl (_, 18))) :: r => if 0 ≤ i ∧ i < 8 then nxt (pc + len) L (vR (8 + i.toNat) 9 :: r) h else none | .inl i :: .inr (.inr (.inl (_, 19))) :: r => if 0 ≤ i ∧ i < 5 then nxt (pc + len) L (vR (3 + i.toNat) 7 :: r) h else none | _ => none
    | 80 => match st with | .inr (.inr (.inl (_, 37))) :: r => nxt (pc + len) L (.inl (h 18 38 0) :: r) h | _ => none
    | 85 | 86 | 87 | 88 => match l with | [n, v, _] => if (st.drop n.toNat).length ≤ 4 then some (.inr (.inr (x.toNat, (st.take n.toNat).reverse, v = 1, (pc + len, L, st.drop n.toNat, h)))) else none | _ => none
    | 90 => match st with | .inl b :: .inl a :: r => if r.length ≤ 4 then nxt (pc + len) L (.inl (amax a b) :: r) h else none | _ => none
    | 91 => match st with | .inl b :: .inl a :: r => if r.length ≤ 4 then nxt (pc + len) L (.inl (amin a b) :: r) h else none | _ => none
    | 92 => match st with | .inl n :: .inl dp :: .inr (.inr (.inl (g', m'))) :: .inl sp :: .inr (.inr (.inl (g, m))) :: r => if r.length ≤ 4 ∧ akind m = akind m' ∧ akind m < 2 ∧ m ≠ 37 ∧ m' ≠ 37 ∧ 0 ≤ n ∧ 0 ≤ sp ∧ 0 ≤ dp ∧ sp + n ≤ alenN m ∧ dp + n ≤ alenN m' then nxt (pc + len) L r (acopy h g m g' m' sp.toNat dp.toNat n.toNat) else none | _ => none
    | 93 => match st with | .inr (.inr (.inr (k + 2))) :: r => if r.length ≤ 4 then nxt (pc + len) L (.inl (slen k) :: r) h else none | _ => none
    | 94 => match st with | .inl i :: .inr (.inr (.inr (k + 2))) :: r => if r.length ≤ 4 ∧ 0 ≤ i ∧ i < slen k then nxt (pc + len) L (.inl (sch k i) :: r) h else none | _ => none
    | 95 => match st with | [.inl v] => some (.inr (.inl (some (.inl v), h))) | _ => none
    | 96 => match st with | [.inl v] => if v = 0 ∨ v = 1 then some (.inr (.inl (some (.inl v), h))) else none | _ => none
    | 97 => match st with | [.inr (.inl v)] => some (.inr (.inl (some (.inr (.inl v)), h))) | _ => none
    | 98 => match st with | [.inr (.inr v)] => some (.inr (.inl (some (.inr (.inr v)), h))) | _ => none
    | 99 => match st with | [] => some (.inr (.inl (none, h))) | _ => none
    | _ => none
/-! runs -/
abbrev ACall : Type := Nat → List AV → AH → Option AV → AH → Prop
def ExecP (call : ACall) (C : Nat → AI) (Q : Option AV → AH → Prop) : Nat → Nat → List AV → List AV → AH → Prop
  | 0, _, _, _, _ => False
  | n + 1, pc, L, st, h => match stepR (C pc) pc L st h with
    | none => False
    | some (.inl (pc', L', st', h')) => ExecP call C Q n pc' L' st' h'
    | some (.inr (.inl (v, h'))) => Q v h'
    | some (.inr (.inr (k, as, true, (pc', L', st', h')))) => ∃ h1, call k as h' none h1 ∧ ExecP call C Q n pc' L' st' h1
    | some (.inr (.inr (k, as, false, (pc', L', st', h')))) => ∃ v h1, call k as h' (some v) h1 ∧ ExecP call C Q n pc' L' (v :: st') h1
def At (call : ACall) (C : Nat → AI) (pc : Nat) (L st : List AV) (h : AH) (Q : Option AV → AH → Prop) : Prop := ∃ n, ExecP call C Q n pc L st h
section ATS
variable {call : ACall} {C : Nat → AI} {pc pc' : Nat} {L L' st st' : List AV} {h h' : AH} {Q : Option AV → AH → Prop}
theorem At_next (e : stepR (C pc) pc L st h = some (.inl (pc', L', st', h'))) : At call C pc L st h Q ↔ At call C pc' L' st' h' Q := by
  constructor
  · rintro ⟨n, hn⟩
    cases n with
    | zero => exact hn.elim
    | succ n => simp only [ExecP, e] at hn; exact ⟨n, hn⟩
  · rintro ⟨n, hn⟩
    exact ⟨n + 1, by simp only [ExecP, e]; exact hn⟩
theorem At_ret {v : Option AV} (e : stepR (C pc) pc L st h = some (.inr (.inl (v, h')))) : At call C pc L st h Q ↔ Q v h' := by
  constructor
  · rintro ⟨n, hn⟩
    cases n with
    | zero => exact hn.elim
    | succ n => simp only [ExecP, e] at hn; exact hn
  · intro hq
    exact ⟨1, by simp only [ExecP, e]; exact hq⟩
theorem At_callv {k : Nat} {as : List AV} (e : stepR (C pc) pc L st h = some (.inr (.inr (k, as, true, (pc', L', st', h'))))) : At call C pc L st h Q ↔ ∃ h1, call k as h' none h1 ∧ At call C pc' L' st' h1 Q := by
  constructor
  · rintro ⟨n, hn⟩
    cases n with
    | zero => exact hn.elim
    | succ n =>
      simp only [ExecP, e] at hn
      obtain ⟨h1, a, b⟩ := hn
      exact ⟨h1, a, n, b⟩
  · rintro ⟨h1, a, n, b⟩
    exact ⟨n + 1, by simp only [ExecP, e]; exact ⟨h1, a, b⟩⟩
theorem At_call {k : Nat} {as : List AV} (e : stepR (C pc) pc L st h = some (.inr (.inr (k, as, false, (pc', L', st', h'))))) : At call C pc L st h Q ↔ ∃ v h1, call k as h' (some v) h1 ∧ At call C pc' L' (v :: st') h1 Q := by
  constructor
  · rintro ⟨n, hn⟩
    cases n with
    | zero => exact hn.elim
    | succ n =>
      simp only [ExecP, e] at hn
      obtain ⟨v, h1, a, b⟩ := hn
      exact ⟨v, h1, a, n, b⟩
  · rintro ⟨v, h1, a, n, b⟩
    exact ⟨n + 1, by simp only [ExecP, e]; exact ⟨v, h1, a, b⟩⟩
theorem At_stuck (e : stepR (C pc) pc L st h = none) : ¬ At call C pc L st h Q := by
  rintro ⟨n, hn⟩
  cases n with
  | zero => exact hn.elim
  | succ n => simp only [ExecP, e] at hn
theorem At_br {c : Prop} [Decidable c] {t f : Nat} (e : stepR (C pc) pc L st h = some (.inl ((if c then t else f), L', st', h'))) : At call C pc L st h Q ↔ (if c then At call C t L' st' h' Q else At call C f L' st' h' Q) := by
  rw [At_next e]; split <;> exact Iff.rfl
theorem At_guard {c : Prop} [Decidable c] (e : stepR (C pc) pc L st h = if c then some (.inl (pc', L', st', h')) else none) : At call C pc L st h Q ↔ c ∧ At call C pc' L' st' h' Q := by
  by_cases hc : c
  · rw [if_pos hc] at e; rw [At_next e]; exact ⟨fun a => ⟨hc, a⟩, fun a => a.2⟩
  · rw [if_neg hc] at e; exact ⟨fun a => absurd a (At_stuck e), fun a => absurd a.1 hc⟩
theorem At_guardR {c : Prop} [Decidable c] {v : Option AV} (e : stepR (C pc) pc L st h = if c then some (.inr (.inl (v, h'))) else none) : At call C pc L st h Q ↔ c ∧ Q v h' := by
  by_cases hc : c
  · rw [if_pos hc] at e; rw [At_ret e]; exact ⟨fun a => ⟨hc, a⟩, fun a => a.2⟩
  · rw [if_neg hc] at e; exact ⟨fun a => absurd a (At_stuck e), fun a => absurd a.1 hc⟩
theorem At_gcallv {c : Prop} [Decidable c] {k : Nat} {as : List AV} (e : stepR (C pc) pc L st h = if c then some (.inr (.inr (k, as, true, (pc', L', st', h')))) else none) : At call C pc L st h Q ↔ c ∧ ∃ h1, call k as h' none h1 ∧ At call C pc' L' st' h1 Q := by
  by_cases hc : c
  · rw [if_pos hc] at e; rw [At_callv e]; exact ⟨fun a => ⟨hc, a⟩, fun a => a.2⟩
  · rw [if_neg hc] at e; exact ⟨fun a => absurd a (At_stuck e), fun a => absurd a.1 hc⟩
theorem At_gcall {c : Prop} [Decidable c] {k : Nat} {as : List AV} (e : stepR (C pc) pc L st h = if c then some (.inr (.inr (k, as, false, (pc', L', st', h')))) else none) : At call C pc L st h Q ↔ c ∧ ∃ v h1, call k as h' (some v) h1 ∧ At call C pc' L' (v :: st') h1 Q := by
  by_cases hc : c
  · rw [if_pos hc] at e; rw [At_call e]; exact ⟨fun a => ⟨hc, a⟩, fun a => a.2⟩
  · rw [if_neg hc] at e; exact ⟨fun a => absurd a (At_stuck e), fun a => absurd a.1 hc⟩
theorem At_br2 {c : Prop} [Decidable c] {pc1 pc2 : Nat} {L1 L2 st1 st2 : List AV} {h1 h2 : AH} (e : stepR (C pc) pc L st h = if c then some (.inl (pc1, L1, st1, h1)) else some (.inl (pc2, L2, st2, h2))) : At call C pc L st h Q ↔ (if c then At call C pc1 L1 st1 h1 Q else At call C pc2 L2 st2 h2 Q) := by
  by_cases hc : c
  · rw [if_pos hc] at e ⊢; exact At_next e
  · rw [if_neg hc] at e ⊢; exact At_next e
/-- switches: a chain of cases -/
def swTP (P : Nat → Prop) (x : Int) : Int → List Int → Nat → Prop
  | _, [], d => P d
  | k, t :: ts, d => if x = k then P t.toNat else swTP P x (k + 1) ts d
def swLP (P : Nat → Prop) (x : Int) : List Int → Nat → Prop
  | k :: t :: ts, d => if x = k then P t.toNat else swLP P x ts d
  | _, d => P d
theorem swTP_iff (P : Nat → Prop) (x : Int) : ∀ (ts : List Int) (k : Int) (d : Nat), P (swT x k ts d) ↔ swTP P x k ts d
  | [], _, _ => Iff.rfl
  | t :: ts, k, d => by
    unfold swT swTP
    split
    · exact Iff.rfl
    · exact swTP_iff P x ts (k + 1) d
theorem swLP_iff (P : Nat → Prop) (x : Int) : ∀ (ts : List Int) (d : Nat), P (swL x ts d) ↔ swLP P x ts d
  | [], _ => by unfold swL swLP; exact Iff.rfl
  | [_], _ => by unfold swL swLP; exact Iff.rfl
  | k :: t :: ts, d => by
    unfold swL swLP
    split
    · exact Iff.rfl
    · exact swLP_iff P x ts d
theorem At_swT {x k : Int} {ts : List Int} {d : Nat} (e : stepR (C pc) pc L st h = some (.inl (swT x k ts d, L', st', h'))) : At call C pc L st h Q ↔ swTP (fun p => At call C p L' st' h' Q) x k ts d := (At_next e).trans (swTP_iff (fun p => At call C p L' st' h' Q) _ _ _ _)
theorem At_swL {x : Int} {ts : List Int} {d : Nat} (e : stepR (C pc) pc L st h = some (.inl (swL x ts d, L', st', h'))) : At call C pc L st h Q ↔ swLP (fun p => At call C p L' st' h' Q) x ts d := (At_next e).trans (swLP_iff (fun p => At call C p L' st' h' Q) _ _ _)
theorem At_mono {Q' : Option AV → AH → Prop} (hq : ∀ v h, Q v h → Q' v h) (a : At call C pc L st h Q) : At call C pc L st h Q' := by
  obtain ⟨n, hn⟩ := a
  refine ⟨n, ?_⟩
  induction n generalizing pc L st h with
  | zero => exact hn.elim
  | succ n ih =>
    simp only [ExecP] at hn ⊢
    split at hn
    · exact hn.elim
    · exact ih hn
    · exact hq _ _ hn
    · obtain ⟨h1, a, b⟩ := hn; exact ⟨h1, a, ih b⟩
    · obtain ⟨v, h1, a, b⟩ := hn; exact ⟨v, h1, a, ih b⟩
/-- a run is one -/
theorem At_det (hcall : ∀ k as h v h1 v' h1', call k as h v h1 → call k as h v' h1' → v = v' ∧ h1 = h1') {Q' : Option AV → AH → Prop} (a : At call C pc L st h Q) (b : At call C pc L st h Q') : ∃ v h1, Q v h1 ∧ Q' v h1 := by
  obtain ⟨n, hn⟩ := a
  induction n generalizing pc L st h with
  | zero => exact hn.elim
  | succ n ih =>
    simp only [ExecP] at hn
    split at hn
    · exact hn.elim
    · next e => exact ih ((At_next e).mp b) hn
    · next e => exact ⟨_, _, hn, (At_ret e).mp b⟩
    · next e =>
      obtain ⟨h1, q1, q2⟩ := hn
      obtain ⟨h2, r1, r2⟩ := (At_callv e).mp b
      obtain ⟨-, rfl⟩ := hcall _ _ _ _ _ _ _ q1 r1
      exact ih r2 q2
    · next e =>
      obtain ⟨v, h1, q1, q2⟩ := hn
      obtain ⟨v2, h2, r1, r2⟩ := (At_call e).mp b
      obtain ⟨hv, rfl⟩ := hcall _ _ _ _ _ _ _ q1 r1
      cases hv
      exact ih r2 q2
end ATS
/-- a method's first locals -/
def spreadA : List AV → List AV
  | [] => []
  | .inr (.inl x) :: r => .inr (.inl x) :: vU :: spreadA r
  | a :: r => a :: spreadA r
def initL (n : Nat) (as : List AV) : List AV := spreadA as ++ List.replicate (n - (spreadA as).length) vU
