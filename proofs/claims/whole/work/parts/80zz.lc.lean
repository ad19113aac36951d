/-! the law's own code, held against the tables, piece by piece -/
theorem chk_cut {own : String} {bytes : ByteArray} {nL : Nat} {lp : List Nat} {ret : Option FieldType} : ∀ (n : Nat) (l : List AI) (b : Nat), chkAll own bytes nL lp ret b (l.take n) = true → chkAll own bytes nL lp ret (b + n) (l.drop n) = true → chkAll own bytes nL lp ret b l = true
  | 0, l, b, _, h => h
  | n + 1, [], b, _, _ => rfl
  | n + 1, a :: l, b, h1, h2 => by
    simp only [List.take_succ_cons, chkAll, Bool.and_eq_true] at h1
    rw [List.drop_succ_cons, show b + (n + 1) = b + 1 + n by omega] at h2
    simp only [chkAll, Bool.and_eq_true]
    exact ⟨h1.1, chk_cut n l (b + 1) h1.2 h2⟩
def lawP (b : Nat) : Bool := chkAll "PaidInFogLaw" code 4 [] ret b ((al_237.drop b).take 60)
set_option maxRecDepth 100000 in
theorem chk_law_0 : lawP 0 = true := by decide +kernel
set_option maxRecDepth 100000 in
theorem chk_law_60 : lawP 60 = true := by decide +kernel
set_option maxRecDepth 100000 in
theorem chk_law_120 : lawP 120 = true := by decide +kernel
set_option maxRecDepth 100000 in
theorem chk_law_180 : lawP 180 = true := by decide +kernel
set_option maxRecDepth 100000 in
theorem chk_law_240 : lawP 240 = true := by decide +kernel
set_option maxRecDepth 100000 in
theorem chk_law_300 : lawP 300 = true := by decide +kernel
set_option maxRecDepth 100000 in
theorem chk_law_360 : lawP 360 = true := by decide +kernel
set_option maxRecDepth 100000 in
theorem chk_law_420 : lawP 420 = true := by decide +kernel
set_option maxRecDepth 100000 in
theorem chk_law_480 : lawP 480 = true := by decide +kernel
set_option maxRecDepth 100000 in
theorem chk_law_540 : lawP 540 = true := by decide +kernel
set_option maxRecDepth 100000 in
theorem chk_law_600 : lawP 600 = true := by decide +kernel
set_option maxRecDepth 100000 in
theorem chk_law_660 : lawP 660 = true := by decide +kernel
set_option maxRecDepth 100000 in
theorem chk_law_720 : lawP 720 = true := by decide +kernel
set_option maxRecDepth 100000 in
theorem chk_law_780 : lawP 780 = true := by decide +kernel
set_option maxRecDepth 100000 in
theorem chk_law_840 : lawP 840 = true := by decide +kernel
set_option maxRecDepth 100000 in
theorem chk_law_900 : lawP 900 = true := by decide +kernel
set_option maxRecDepth 100000 in
theorem chk_law_960 : lawP 960 = true := by decide +kernel
set_option maxRecDepth 100000 in
theorem chk_law_1020 : lawP 1020 = true := by decide +kernel
set_option maxRecDepth 100000 in
theorem chk_law_1080 : lawP 1080 = true := by decide +kernel
set_option maxRecDepth 100000 in
theorem chk_law_1140 : lawP 1140 = true := by decide +kernel
set_option maxRecDepth 100000 in
theorem chk_law_1200 : lawP 1200 = true := by decide +kernel
set_option maxRecDepth 100000 in
theorem chk_law_1260 : lawP 1260 = true := by decide +kernel
set_option maxRecDepth 100000 in
theorem chk_law_1320 : lawP 1320 = true := by decide +kernel
set_option maxRecDepth 100000 in
theorem chk_law_1380 : lawP 1380 = true := by decide +kernel
set_option maxRecDepth 100000 in
theorem chk_law_1440 : lawP 1440 = true := by decide +kernel
set_option maxRecDepth 100000 in
theorem chk_law_1500 : lawP 1500 = true := by decide +kernel
