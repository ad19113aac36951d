/-! PURE: helpers -/
abbrev VS : Type := Nat → Nat → Int
def bI (c : Prop) [Decidable c] : Int := if c then 1 else 0
theorem bI_0 {c : Prop} [Decidable c] : bI c = 0 ↔ ¬ c := by unfold bI; split <;> simp_all
theorem bI_or {c : Prop} [Decidable c] : (bI c = 0 ∨ bI c = 1) ↔ True := by unfold bI; split <;> simp
theorem wr_s {i : Nat} (h : i < 2147483647) : wr ((i : Int) + 1) = ((i + 1 : Nat) : Int) := by
  rw [wr_id (by omega) (by omega)]; rfl
theorem if_iff {c A B A' B' : Prop} [Decidable c] (h1 : c → (A ↔ A')) (h2 : ¬ c → (B ↔ B')) : (if c then A else B) ↔ (if c then A' else B') := by split <;> simp_all
/-- a row's sum, a row's number -/
def sumN (f : Nat → Int) : Nat → Int
  | 0 => 0
  | n + 1 => sumN f n + f n
/-- bounds that never change -/
def BD (V : VS) : Prop := 0 ≤ V 7 7 ∧ V 7 7 ≤ 8 ∧ 0 ≤ V 7 8 ∧ V 7 8 ≤ 12
def hp (V : VS) (p : Int) : Prop := 0 ≤ p ∧ p < V 7 7 ∧ p < 8
def hpB (V : VS) (p : Int) : Bool := decide (0 ≤ p ∧ p < V 7 7 ∧ p < 8)
theorem hpB_iff {V : VS} {p : Int} : hpB V p = true ↔ (0 ≤ p ∧ p < V 7 7 ∧ p < 8) := by unfold hpB; exact decide_eq_true_iff
def b01 (b : Bool) : Int := if b then 1 else 0
theorem b01_0 {b : Bool} : b01 b = 0 ↔ b = false := by cases b <;> simp [b01]
theorem b01_or {b : Bool} : (b01 b = 0 ∨ b01 b = 1) ↔ True := by cases b <;> simp [b01]
theorem az_0 : ((alenN 0 : Nat) : Int) = 8 := rfl
theorem az_1 : ((alenN 1 : Nat) : Int) = 8 := rfl
theorem az_2 : ((alenN 2 : Nat) : Int) = 8 := rfl
theorem az_3 : ((alenN 3 : Nat) : Int) = 8 := rfl
theorem az_4 : ((alenN 4 : Nat) : Int) = 12 := rfl
theorem az_5 : ((alenN 5 : Nat) : Int) = 12 := rfl
theorem az_6 : ((alenN 6 : Nat) : Int) = 4 := rfl
theorem az_8 : ((alenN 8 : Nat) : Int) = 160 := rfl
theorem az_11 : ((alenN 11 : Nat) : Int) = 8 := rfl
theorem az_14 : ((alenN 14 : Nat) : Int) = 4 := rfl
theorem az_15 : ((alenN 15 : Nat) : Int) = 4 := rfl
theorem az_17 : ((alenN 17 : Nat) : Int) = 20 := rfl
theorem az_20 : ((alenN 20 : Nat) : Int) = 8 := rfl
theorem az_21 : ((alenN 21 : Nat) : Int) = 8 := rfl
theorem az_22 : ((alenN 22 : Nat) : Int) = 8 := rfl
theorem az_23 : ((alenN 23 : Nat) : Int) = 9 := rfl
theorem az_24 : ((alenN 24 : Nat) : Int) = 12 := rfl
theorem az_25 : ((alenN 25 : Nat) : Int) = 12 := rfl
theorem az_26 : ((alenN 26 : Nat) : Int) = 4 := rfl
theorem az_28 : ((alenN 28 : Nat) : Int) = 8 := rfl
theorem az_29 : ((alenN 29 : Nat) : Int) = 8 := rfl
theorem az_30 : ((alenN 30 : Nat) : Int) = 1280 := rfl
theorem az_31 : ((alenN 31 : Nat) : Int) = 8 := rfl
theorem az_32 : ((alenN 32 : Nat) : Int) = 20 := rfl
theorem az_33 : ((alenN 33 : Nat) : Int) = 61 := rfl
theorem az_34 : ((alenN 34 : Nat) : Int) = 61 := rfl
theorem az_35 : ((alenN 35 : Nat) : Int) = 61 := rfl
theorem az_36 : ((alenN 36 : Nat) : Int) = 3 := rfl
theorem ak_0 : akind 0 = 0 := rfl
theorem ak_1 : akind 1 = 0 := rfl
theorem ak_2 : akind 2 = 0 := rfl
theorem ak_3 : akind 3 = 0 := rfl
theorem ak_4 : akind 4 = 0 := rfl
theorem ak_5 : akind 5 = 0 := rfl
theorem ak_6 : akind 6 = 0 := rfl
theorem ak_8 : akind 8 = 1 := rfl
theorem ak_11 : akind 11 = 0 := rfl
theorem ak_14 : akind 14 = 0 := rfl
theorem ak_15 : akind 15 = 0 := rfl
theorem ak_17 : akind 17 = 0 := rfl
theorem ak_20 : akind 20 = 0 := rfl
theorem ak_21 : akind 21 = 0 := rfl
theorem ak_22 : akind 22 = 0 := rfl
theorem ak_23 : akind 23 = 0 := rfl
theorem ak_24 : akind 24 = 0 := rfl
theorem ak_25 : akind 25 = 0 := rfl
theorem ak_26 : akind 26 = 0 := rfl
theorem ak_28 : akind 28 = 0 := rfl
theorem ak_29 : akind 29 = 0 := rfl
theorem ak_30 : akind 30 = 1 := rfl
theorem ak_31 : akind 31 = 0 := rfl
theorem ak_32 : akind 32 = 0 := rfl
theorem ak_33 : akind 33 = 0 := rfl
theorem ak_34 : akind 34 = 0 := rfl
theorem ak_35 : akind 35 = 0 := rfl
theorem ak_36 : akind 36 = 0 := rfl
theorem ak_37 : akind 37 = 0 := rfl
