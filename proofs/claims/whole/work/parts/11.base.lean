/-! PURE: helpers -/
abbrev VS : Type := Nat → Nat → Int
def bI (c : Prop) [Decidable c] : Int := if c then 1 else 0
theorem bI_0 {c : Prop} [Decidable c] : bI c = 0 ↔ ¬ c := by unfold bI; split <;> simp_all
theorem bI_or {c : Prop} [Decidable c] : (bI c = 0 ∨ bI c = 1) ↔ True := by unfold bI; split <;> simp
theorem wr_s {i : Nat} (h : i < 2147483647) : wr ((i : Int) + 1) = ((i + 1 : Nat) : Int) := by
  rw [wr_id (by omega) (by omega)]; rfl
theorem if_iff {c A B A' B' : Prop} [Decidable c] (h1 : c → (A ↔ A')) (h2 : ¬ c → (B ↔ B')) : (if c then A else B) ↔ (if c then A' else B') := by split <;> simp_all
/-- a row's sum, a row's number -/
def sumN (f : Nat → Int) : Nat → Int
  | 0 => 0
  | n + 1 => sumN f n + f n
/-- bounds that never change -/
def BD (V : VS) : Prop := 0 ≤ V 7 7 ∧ V 7 7 ≤ 8 ∧ 0 ≤ V 7 8 ∧ V 7 8 ≤ 12
def hp (V : VS) (p : Int) : Prop := 0 ≤ p ∧ p < V 7 7 ∧ p < 8
def hpB (V : VS) (p : Int) : Bool := decide (0 ≤ p ∧ p < V 7 7 ∧ p < 8)
theorem hpB_iff {V : VS} {p : Int} : hpB V p = true ↔ (0 ≤ p ∧ p < V 7 7 ∧ p < 8) := by unfold hpB; exact decide_eq_true_iff
def b01 (b : Bool) : Int := if b then 1 else 0
theorem b01_0 {b : Bool} : b01 b = 0 ↔ b = false := by cases b <;> simp [b01]
theorem b01_or {b : Bool} : (b01 b = 0 ∨ b01 b = 1) ↔ True := by cases b <;> simp [b01]
theorem az_0 : ((alenN 0 : Nat) : Int) = 8 := rfl
theorem az_1 : ((alenN 1 : Nat) : Int) = 8 := rfl
theorem az_2 : ((alenN 2 : Nat) : Int) = 8 := rfl
theorem az_3 : ((alenN 3 : Nat) : Int) = 8 := rfl
theorem az_4 : ((alenN 4 : Nat) : Int) = 12 := rfl
theorem az_5 : ((alenN 5 : Nat) : Int) = 12 := rfl
theorem az_6 : ((alenN 6 : Nat) : Int) = 4 := rfl
theorem az_8 : ((alenN 8 : Nat) : Int) = 160 := rfl
theorem az_11 : ((alenN 11 : Nat) : Int) = 8 := rfl
theorem az_14 : ((alenN 14 : Nat) : Int) = 4 := rfl
theorem az_15 : ((alenN 15 : Nat) : Int) = 4 := rfl
theorem az_17 : ((alenN 17 : Nat) : Int) = 20 := rfl
theorem az_20 : ((alenN 20 : Nat) : Int) = 8 := rfl
theorem az_21 : ((alenN 21 : Nat) : Int) = 8 := rfl
theorem az_22 : ((alenN 22 : Nat) : Int) = 8 := rfl
theorem az_23 : ((alenN 23 : Nat) : Int) = 9 := rfl
theorem az_24 : ((alenN 24 : Nat) : Int) = 12 := rfl
theorem az_25 : ((alenN 25 : Nat) : Int) = 12 := rfl
theorem az_26 : ((alenN 26 : Nat) : Int) = 4 := rfl
theorem az_28 : ((alenN 28 : Nat) : Int) = 8 := rfl
theorem az_29 : ((alenN 29 : Nat) : Int) = 8 := rfl
theorem az_30 : ((alenN 30 : Nat) : Int) = 1280 := rfl
theorem az_31 : ((alenN 31 : Nat) : Int) = 8 := rfl
theorem az_32 : ((alenN 32 : Nat) : Int) = 20 := rfl
theorem az_33 : ((alenN 33 : Nat) : Int) = 61 := rfl
theorem az_34 : ((alenN 34 : Nat) : Int) = 61 := rfl
theorem az_35 : ((alenN 35 : Nat) : Int) = 61 := rfl
theorem az_36 : ((alenN 36 : Nat) : Int) = 3 := rfl
theorem ak_0 : akind 0 = 0 := rfl
theorem ak_1 : akind 1 = 0 := rfl
theorem ak_2 : akind 2 = 0 := rfl
theorem ak_3 : akind 3 = 0 := rfl
theorem ak_4 : akind 4 = 0 := rfl
theorem ak_5 : akind 5 = 0 := rfl
theorem ak_6 : akind 6 = 0 := rfl
theorem ak_8 : akind 8 = 1 := rfl
theorem ak_11 : akind 11 = 0 := rfl
theorem ak_14 : akind 14 = 0 := rfl
theorem ak_15 : akind 15 = 0 := rfl
theorem ak_17 : akind 17 = 0 := rfl
theorem ak_20 : akind 20 = 0 := rfl
theorem ak_21 : akind 21 = 0 := rfl
theorem ak_22 : akind 22 = 0 := rfl
theorem ak_23 : akind 23 = 0 := rfl
theorem ak_24 : akind 24 = 0 := rfl
theorem ak_25 : akind 25 = 0 := rfl
theorem ak_26 : akind 26 = 0 := rfl
theorem ak_28 : akind 28 = 0 := rfl
theorem ak_29 : akind 29 = 0 := rfl
theorem ak_30 : akind 30 = 1 := rfl
theorem ak_31 : akind 31 = 0 := rfl
theorem ak_32 : akind 32 = 0 := rfl
theorem ak_33 : akind 33 = 0 := rfl
theorem ak_34 : akind 34 = 0 := rfl
theorem ak_35 : akind 35 = 0 := rfl
theorem ak_36 : akind 36 = 0 := rfl
theorem ak_37 : akind 37 = 0 := rfl
/-! the valley's numbers, clean -/
def nP (V : VS) : Nat := (V 7 7).toNat
def nB (V : VS) : Nat := (V 7 8).toNat
def upV (V : VS) : Bool := decide (V 7 14 ≤ V 7 11 ∧ V 7 11 ≤ 17)
def leakK (V : VS) (k a : Int) : Int := if k = 1 then 2 else if k = 3 then (if V 7 11 < a then 0 else 1) else if k = 4 ∨ k = 6 then 6 else 4
def leakF (V : VS) (s : Int) : Int := (if hpB V s then leakK V (V 0 s.toNat) (V 1 s.toNat) else 3) * (if upV V then 2 else 1)
def sunT (V : VS) (p : Nat) : Int := if V 0 p = 1 ∨ V 0 p = 3 then 0 else if V 0 p = 4 then 10 else if V 0 p = 6 then 10 + V 1 p else if V 0 p = 5 then 3 else 5
def windT (V : VS) (p : Nat) : Int := if V 0 p = 2 ∨ V 0 p = 5 then V 2 p / 8 else V 2 p / 4
def clsF (s : Int) : Int := if s < 10 then 0 else if s < 40 then 1 else if s < 70 then 2 else 3
def underB (k w : Int) : Bool := decide (0 ≤ k ∧ (k = w ∨ w = 0 ∨ (w = 1 ∧ k = 3) ∨ (w = 2 ∧ k = 5) ∨ (w = 4 ∧ k = 6)))
/-- what always holds of a valley -/
def WF (V : VS) : Prop := BD V ∧ (0 ≤ V 7 9 ∧ (V 7 9 < V 7 7 ∨ (V 7 7 = 0 ∧ V 7 9 = 0))) ∧ (0 ≤ V 7 10 ∧ V 7 10 ≤ 99999) ∧ (0 ≤ V 7 11 ∧ V 7 11 ≤ 23) ∧ (-1 ≤ V 7 13 ∧ V 7 13 ≤ 1) ∧ (0 ≤ V 7 14 ∧ V 7 14 ≤ 18) ∧ (0 ≤ V 7 15 ∧ V 7 15 ≤ 23)
  ∧ (∀ p : Nat, p < 8 → 0 ≤ V 0 p ∧ V 0 p ≤ 6 ∧ 0 ≤ V 1 p ∧ V 1 p ≤ 9 ∧ 0 ≤ V 2 p ∧ V 2 p ≤ 99)
  ∧ (∀ b : Nat, (b : Int) < V 7 8 → (V 5 b = 200 ∧ V 4 b = 0) ∨ ((V 5 b = 100 ∨ (0 ≤ V 5 b ∧ V 5 b < V 7 7)) ∧ 1 ≤ V 4 b ∧ V 4 b ≤ 99))
  ∧ (V 6 0 = 0 ∧ ∀ c : Nat, c < 4 → 0 ≤ V 6 c ∧ V 6 c ≤ 99) ∧ (V 7 7 = 0 → V 7 8 = 0)
  ∧ (∀ k : Nat, 8 ≤ k → V 0 k = 0 ∧ V 1 k = 0 ∧ V 2 k = 0) ∧ (∀ k : Nat, 12 ≤ k → V 4 k = 0 ∧ V 5 k = 0) ∧ (∀ k : Nat, 4 ≤ k → V 6 k = 0)
theorem WF.bd {V : VS} (h : WF V) : BD V := h.1
theorem WF.you {V : VS} (h : WF V) : 0 ≤ V 7 9 ∧ (V 7 9 < V 7 7 ∨ (V 7 7 = 0 ∧ V 7 9 = 0)) := h.2.1
theorem WF.coins {V : VS} (h : WF V) : 0 ≤ V 7 10 ∧ V 7 10 ≤ 99999 := h.2.2.1
theorem WF.hour {V : VS} (h : WF V) : 0 ≤ V 7 11 ∧ V 7 11 ≤ 23 := h.2.2.2.1
theorem WF.wind {V : VS} (h : WF V) : -1 ≤ V 7 13 ∧ V 7 13 ≤ 1 := h.2.2.2.2.1
theorem WF.sun {V : VS} (h : WF V) : 0 ≤ V 7 14 ∧ V 7 14 ≤ 18 := h.2.2.2.2.2.1
theorem WF.tender {V : VS} (h : WF V) : 0 ≤ V 7 15 ∧ V 7 15 ≤ 23 := h.2.2.2.2.2.2.1
theorem WF.pl {V : VS} (h : WF V) : ∀ p : Nat, p < 8 → 0 ≤ V 0 p ∧ V 0 p ≤ 6 ∧ 0 ≤ V 1 p ∧ V 1 p ≤ 9 ∧ 0 ≤ V 2 p ∧ V 2 p ≤ 99 := h.2.2.2.2.2.2.2.1
theorem WF.bt {V : VS} (h : WF V) : ∀ b : Nat, (b : Int) < V 7 8 → (V 5 b = 200 ∧ V 4 b = 0) ∨ ((V 5 b = 100 ∨ (0 ≤ V 5 b ∧ V 5 b < V 7 7)) ∧ 1 ≤ V 4 b ∧ V 4 b ≤ 99) := h.2.2.2.2.2.2.2.2.1
theorem WF.pr {V : VS} (h : WF V) : V 6 0 = 0 ∧ ∀ c : Nat, c < 4 → 0 ≤ V 6 c ∧ V 6 c ≤ 99 := h.2.2.2.2.2.2.2.2.2.1
theorem WF.emp {V : VS} (h : WF V) : V 7 7 = 0 → V 7 8 = 0 := h.2.2.2.2.2.2.2.2.2.2.1
/-! small facts of the machine's operations -/
theorem opDiv_pos {x y : Int} (hx : 0 ≤ x) (hx2 : x < 2147483648) (hy : 0 < y) (hy2 : y < 2147483648) : opDiv x y = x / y := by
  unfold opDiv
  rw [Int32.toInt_div, Int32.toInt_ofInt, Int32.toInt_ofInt]
  have e1 : x.bmod (2 ^ 32) = x := wr_id (by omega) (by omega)
  have e2 : y.bmod (2 ^ 32) = y := wr_id (by omega) (by omega)
  rw [show Int.bmod x Int32.size = x from e1, show Int.bmod y Int32.size = y from e2]
  rw [Int.tdiv_eq_ediv_of_nonneg hx]
  have h1 : 0 ≤ x / y := Int.ediv_nonneg hx (by omega)
  have h2 : x / y ≤ x := Int.ediv_le_self _ hx
  exact wr_id (by omega) (by omega)
theorem sumN_bd {f : Nat → Int} {B : Int} : ∀ (n : Nat), (∀ j, j < n → 0 ≤ f j ∧ f j ≤ B) → 0 ≤ sumN f n ∧ sumN f n ≤ B * n
  | 0, _ => by simp [sumN]
  | n + 1, h => by
    have h1 := sumN_bd n (fun j hj => h j (by omega))
    have h2 := h n (by omega)
    simp only [sumN]
    have : B * ((n + 1 : Nat) : Int) = B * n + B := by rw [Int.natCast_add, Int.mul_add]; simp
    omega
theorem sumN_congr {f f' : Nat → Int} : ∀ (n : Nat), (∀ j, j < n → f j = f' j) → sumN f n = sumN f' n
  | 0, _ => rfl
  | n + 1, h => by simp only [sumN]; rw [sumN_congr n (fun j hj => h j (by omega)), h n (by omega)]
theorem clsF_bd (s : Int) : 0 ≤ clsF s ∧ clsF s < 4 := by unfold clsF; (repeat' split) <;> omega
def priceB (V : VS) (b : Nat) : Int := V 6 (clsF (V 4 b)).toNat
theorem WF.priceB {V : VS} (h : WF V) (b : Nat) : 0 ≤ priceB V b ∧ priceB V b ≤ 99 := by
  have := clsF_bd (V 4 b)
  exact h.pr.2 _ (by omega)
theorem WF.nB12 {V : VS} (h : BD V) : nB V ≤ 12 := by have := h.2.2.2; unfold nB; omega
theorem WF.nP8 {V : VS} (h : BD V) : nP V ≤ 8 := by have := h.2.1; unfold nP; omega
theorem WF.str {V : VS} (h : WF V) {b : Nat} (hb : b < nB V) : 0 ≤ V 4 b ∧ V 4 b ≤ 99 := by
  have h0 := h.bd.2.2.1
  have := h.bt b (by unfold nB at hb; omega)
  omega
/-- bits of the bottles at a spot, and their number -/
def bitsF (V : VS) (s : Int) : Nat → Int
  | 0 => 0
  | n + 1 => if V 5 n = s then opOr (bitsF V s n) (opShl 1 n) else bitsF V s n
def cntF (V : VS) (s : Int) (n : Nat) : Int := sumN (fun b => if V 5 b = s then 1 else 0) n
def strC (V : VS) : Int := sumN (fun b => if V 5 b = 100 then V 4 b else 0) (nB V)
def worthA (V : VS) (s : Int) : Int := sumN (fun b => if V 5 b = s then priceB V b else 0) (nB V)
def worthV (V : VS) : Int := sumN (priceB V) (nB V)
def fogSum (V : VS) : Int := sumN (V 2) (nP V)
/-- the strongest so far: its number, its strength -/
def stg (V : VS) (s : Int) : Nat → Int × Int
  | 0 => (-1, 0)
  | n + 1 => if V 5 n = s ∧ (stg V s n).2 < V 4 n then ((n : Int), V 4 n) else stg V s n
def strongV (V : VS) (s : Int) : Int := (stg V s (nB V)).1
def bcI (x : Int) : Int :=
  let x1 := wr (x - opAnd (opUshr x 1) 1431655765)
  let x2 := wr (opAnd x1 858993459 + opAnd (opUshr x1 2) 858993459)
  let x3 := opAnd (wr (x2 + opUshr x2 4)) 252645135
  let x4 := wr (x3 + opUshr x3 8)
  let x5 := wr (x4 + opUshr x4 16)
  opAnd x5 63
def kindV (V : VS) (p : Int) : Int := if hpB V p then V 0 p.toNat else -1
def traitV (V : VS) (p : Int) : Int := if hpB V p then V 1 p.toNat else 0
def fogV (V : VS) (p : Int) : Int := if hpB V p then V 2 p.toNat else 0
def setFogV (V : VS) (p f : Int) : VS := if hpB V p then fup V 2 (fup (V 2) p.toNat f) else V
def setPriceV (V : VS) (r x : Int) : VS := if 1 ≤ r ∧ r < 4 then fup V 6 (fup (V 6) r.toNat x) else V
def layV (V : VS) (b s : Int) : VS := if 0 ≤ b ∧ b < V 7 8 ∧ b < 12 then fup V 5 (fup (V 5) b.toNat s) else V
def drainV (V : VS) (b : Int) : VS := if 0 ≤ b ∧ b < 12 then fup (fup V 4 (fup (V 4) b.toNat 0)) 5 (fup (V 5) b.toNat 200) else V
def addPlV (V : VS) (k a f : Int) : VS := fup (fup (fup (fup V 0 (fup (V 0) (V 7 7).toNat k)) 1 (fup (V 1) (V 7 7).toNat a)) 2 (fup (V 2) (V 7 7).toNat f)) 7 (fup (V 7) 7 (V 7 7 + 1))
/-- the first empty one from i on, else a new one -/
def freeF (V : VS) : Nat → Nat → Int
  | 0, _ => if V 7 8 < 12 then V 7 8 else -1
  | k + 1, i => if V 5 i = 200 then (i : Int) else freeF V k (i + 1)
/-! rows changed from the left -/
def rowN (f r : Nat → Int) (i : Nat) : Nat → Int := fun j => if j < i then f j else r j
theorem rowN_0 (f r : Nat → Int) : rowN f r 0 = r := by funext j; simp [rowN]
theorem rowN_at (f r : Nat → Int) (i : Nat) : rowN f r i i = r i := by simp [rowN]
theorem rowN_s (f r : Nat → Int) (i : Nat) : fup (rowN f r i) i (f i) = rowN f r (i + 1) := by
  funext j
  unfold fup rowN
  by_cases h : j = i
  · subst h; simp
  · by_cases h2 : j < i
    · simp [h, h2, show j < i + 1 by omega]
    · simp [h, h2, show ¬ j < i + 1 by omega]
theorem rowN_k (f r : Nat → Int) (i : Nat) (h : f i = r i) : rowN f r (i + 1) = rowN f r i := by
  funext j
  unfold rowN
  by_cases h1 : j = i
  · subst h1; simp [h]
  · by_cases h2 : j < i
    · simp [h2, show j < i + 1 by omega]
    · simp [h2, show ¬ j < i + 1 by omega]
def strAt (V : VS) (b : Int) : Int := if 0 ≤ b ∧ b < 12 then V 4 b.toNat else 0
def freeV (V : VS) : Int := freeF V (nB V) 0
def fillV (V : VS) (s x : Int) : VS :=
  let b := freeV V
  let V1 := fup (fup V 4 (fup (V 4) b.toNat x)) 5 (fup (V 5) b.toNat s)
  if V 7 8 ≤ b then fup V1 7 (fup (V 7) 8 (b + 1)) else V1
def cntV (V : VS) : Int := cntF V 100 (nB V)
def spendB (V : VS) : Bool := decide (V 7 11 < V 7 15 ∧ 0 < clsF (strAt V (strongV V 100)))
/-- which acts may be -/
def mayV (V : VS) (a : Int) : Bool :=
  if a = 0 then true
  else if a = 1 then decide (10 ≤ fogV V (V 7 9) ∧ cntV V < 6 ∧ freeV V ≠ -1)
  else if a = 2 then hpB V (V 7 9 + 1)
  else if a = 3 then hpB V (V 7 9 - 1)
  else if a = 4 then spendB V
  else if a = 5 then hpB V (V 7 9) && decide (cntV V ≠ 0)
  else if a = 6 then decide (cntV V < 6 ∧ strongV V (V 7 9) ≠ -1)
  else false
def youV (V : VS) (x : Int) : VS := fup V 7 (fup (V 7) 9 x)
def spendV (V : VS) : VS := drainV (fup V 7 (fup (V 7) 10 (amin 99999 (V 7 10 + V 6 (clsF (strAt V (strongV V 100))).toNat)))) (strongV V 100)
def putV (V : VS) : VS := fup V 5 (rowN (fun j => if V 5 j = 100 then V 7 9 else V 5 j) (V 5) (nB V))
def gatherV (V : VS) : VS := setFogV (fillV V 100 (fogV V (V 7 9))) (V 7 9) (fogV V (V 7 9) - 10)
def actV (V : VS) (a : Int) : VS :=
  if a = 1 then gatherV V
  else if a = 2 then youV V (V 7 9 + 1)
  else if a = 3 then youV V (V 7 9 - 1)
  else if a = 4 then spendV V
  else if a = 5 then putV V
  else if a = 6 then layV V (strongV V (V 7 9)) 100
  else V
def leakS (V : VS) (b : Nat) : Int := V 4 b - leakF V (V 5 b)
def leakV (V : VS) : VS := fup (fup V 4 (rowN (fun b => if V 5 b = 200 then V 4 b else if leakS V b ≤ 0 then 0 else leakS V b) (V 4) (nB V))) 5 (rowN (fun b => if V 5 b = 200 then 200 else if leakS V b ≤ 0 then 200 else V 5 b) (V 5) (nB V))
def thinV (V : VS) : VS := fup V 2 (rowN (fun p => amax 0 (V 2 p - sunT V p)) (V 2) (nP V))
def comesV (V : VS) (p : Nat) : Int := if hpB V (p - V 7 13) then windT V ((p : Int) - V 7 13).toNat else 0
def blowV (V : VS) : VS := fup (fup V 3 (rowN (windT V) (V 3) (nP V))) 2 (rowN (fun p => amin 99 (V 2 p - windT V p + comesV V p)) (V 2) (nP V))
def marshV (V : VS) : VS := fup V 2 (rowN (fun p => if V 0 p = 5 then amin 99 (V 2 p + V 1 p) else V 2 p) (V 2) (nP V))
def hourV (V : VS) : VS := if 23 < V 7 11 + 1 then fup V 7 (fup (fup (V 7) 11 0) 12 (wr (V 7 12 + 1))) else fup V 7 (fup (V 7) 11 (V 7 11 + 1))
def thinIf (V : VS) : VS := if upV V then thinV V else V
def blowIf (V : VS) : VS := if V 7 13 = 0 then V else blowV V
def passV (V : VS) (a : Int) : VS := hourV (marshV (blowIf (thinIf (leakV (actV V a)))))
