/-! SOUNDNESS: all instructions, runs, calls -/
section SOM
variable {p : Program} {l : Launch} {e : Env} {R : Room} {s : State} {m : MethodId} {args : Array Value} {below : List Frame} {meth : Method} {c : Code} {cells slots : Nat} {Z : State → Prop} {A : Nat → Prop}
variable {own : String} {bytes : ByteArray} {nL : Nat} {lp : List Nat} {D : va_G} {w : AW} {sa sv : Nat → Nat} {sb : SB}
variable {pc len : Nat} {L st : List AV} {h : AH} {x : Int} {l0 : List Int} {ret : Option FieldType} {pc' : Nat} {L' st' : List AV} {h' : AH}

theorem so_next (C0 : Ctx p R s m args c cells slots A own bytes nL D w sa sv) {ai : AI} (hc : chkB own bytes nL lp ret pc ai = true) (he : stepR ai pc L st h = some (.inl (pc', L', st', h'))) (K : Sim p l e R s m args below meth c cells slots Z A D w sa sb nL lp pc' L' st' h') : Sim p l e R s m args below meth c cells slots Z A D w sa sb nL lp pc L st h := by
  obtain ⟨op, len, x, l0⟩ := ai
  by_cases h0 : op = 0
  · subst h0; exact sn_0 C0 hc he K
  by_cases h1 : op = 1
  · subst h1; exact sn_1 C0 hc he K
  by_cases h2 : op = 2
  · subst h2; exact sn_2 C0 hc he K
  by_cases h3 : op = 3
  · subst h3; exact sn_3 C0 hc he K
  by_cases h4 : op = 4
  · subst h4; exact sn_4 C0 hc he K
  by_cases h5 : op = 5
  · subst h5; exact sn_5 C0 hc he K
  by_cases h6 : op = 6
  · subst h6; exact sn_6 C0 hc he K
  by_cases h7 : op = 7
  · subst h7; exact sn_7 C0 hc he K
  by_cases h8 : op = 8
  · subst h8; exact sn_8 C0 hc he K
  by_cases h10 : op = 10
  · subst h10; exact sn_10 C0 hc he K
  by_cases h11 : op = 11
  · subst h11; exact sn_11 C0 hc he K
  by_cases h12 : op = 12
  · subst h12; exact sn_12 C0 hc he K
  by_cases h13 : op = 13
  · subst h13; exact sn_13 C0 hc he K
  by_cases h14 : op = 14
  · subst h14; exact sn_14 C0 hc he K
  by_cases h15 : op = 15
  · subst h15; exact sn_15 C0 hc he K
  by_cases h20 : op = 20
  · subst h20; exact sn_20 C0 hc he K
  by_cases h21 : op = 21
  · subst h21; exact sn_21 C0 hc he K
  by_cases h22 : op = 22
  · subst h22; exact sn_22 C0 hc he K
  by_cases h23 : op = 23
  · subst h23; exact sn_23 C0 hc he K
  by_cases h24 : op = 24
  · subst h24; exact sn_24 C0 hc he K
  by_cases h25 : op = 25
  · subst h25; exact sn_25 C0 hc he K
  by_cases h26 : op = 26
  · subst h26; exact sn_26 C0 hc he K
  by_cases h27 : op = 27
  · subst h27; exact sn_27 C0 hc he K
  by_cases h28 : op = 28
  · subst h28; exact sn_28 C0 hc he K
  by_cases h29 : op = 29
  · subst h29; exact sn_29 C0 hc he K
  by_cases h30 : op = 30
  · subst h30; exact sn_30 C0 hc he K
  by_cases h31 : op = 31
  · subst h31; exact sn_31 C0 hc he K
  by_cases h32 : op = 32
  · subst h32; exact sn_32 C0 hc he K
  by_cases h33 : op = 33
  · subst h33; exact sn_33 C0 hc he K
  by_cases h34 : op = 34
  · subst h34; exact sn_34 C0 hc he K
  by_cases h35 : op = 35
  · subst h35; exact sn_35 C0 hc he K
  by_cases h36 : op = 36
  · subst h36; exact sn_36 C0 hc he K
  by_cases h37 : op = 37
  · subst h37; exact sn_37 C0 hc he K
  by_cases h38 : op = 38
  · subst h38; exact sn_38 C0 hc he K
  by_cases h39 : op = 39
  · subst h39; exact sn_39 C0 hc he K
  by_cases h40 : op = 40
  · subst h40; exact sn_40 C0 hc he K
  by_cases h41 : op = 41
  · subst h41; exact sn_41 C0 hc he K
  by_cases h42 : op = 42
  · subst h42; exact sn_42 C0 hc he K
  by_cases h43 : op = 43
  · subst h43; exact sn_43 C0 hc he K
  by_cases h45 : op = 45
  · subst h45; exact sn_45 C0 hc he K
  by_cases h46 : op = 46
  · subst h46; exact sn_46 C0 hc he K
  by_cases h47 : op = 47
  · subst h47; exact sn_47 C0 hc he K
  by_cases h48 : op = 48
  · subst h48; exact sn_48 C0 hc he K
  by_cases h49 : op = 49
  · subst h49; exact sn_49 C0 hc he K
  by_cases h50 : op = 50
  · subst h50; exact sn_50 C0 hc he K
  by_cases h51 : op = 51
  · subst h51; exact sn_51 C0 hc he K
  by_cases h52 : op = 52
  · subst h52; exact sn_52 C0 hc he K
  by_cases h53 : op = 53
  · subst h53; exact sn_53 C0 hc he K
  by_cases h54 : op = 54
  · subst h54; exact sn_54 C0 hc he K
  by_cases h55 : op = 55
  · subst h55; exact sn_55 C0 hc he K
  by_cases h56 : op = 56
  · subst h56; exact sn_56 C0 hc he K
  by_cases h57 : op = 57
  · subst h57; exact sn_57 C0 hc he K
  by_cases h58 : op = 58
  · subst h58; exact sn_58 C0 hc he K
  by_cases h59 : op = 59
  · subst h59; exact sn_59 C0 hc he K
  by_cases h60 : op = 60
  · subst h60; exact sn_60 C0 hc he K
  by_cases h61 : op = 61
  · subst h61; exact sn_61 C0 hc he K
  by_cases h65 : op = 65
  · subst h65; exact sn_65 C0 hc he K
  by_cases h66 : op = 66
  · subst h66; exact sn_66 C0 hc he K
  by_cases h67 : op = 67
  · subst h67; exact sn_67 C0 hc he K
  by_cases h68 : op = 68
  · subst h68; exact sn_68 C0 hc he K
  by_cases h69 : op = 69
  · subst h69; exact sn_69 C0 hc he K
  by_cases h70 : op = 70
  · subst h70; exact sn_70 C0 hc he K
  by_cases h71 : op = 71
  · subst h71; exact sn_71 C0 hc he K
  by_cases h72 : op = 72
  · subst h72; exact sn_72 C0 hc he K
  by_cases h73 : op = 73
  · subst h73; exact sn_73 C0 hc he K
  by_cases h75 : op = 75
  · subst h75; exact sn_75 C0 hc he K
  by_cases h76 : op = 76
  · subst h76; exact sn_76 C0 hc he K
  by_cases h77 : op = 77
  · subst h77; exact sn_77 C0 hc he K
  by_cases h78 : op = 78
  · subst h78; exact sn_78 C0 hc he K
  by_cases h79 : op = 79
  · subst h79; exact sn_79 C0 hc he K
  by_cases h80 : op = 80
  · subst h80; exact sn_80 C0 hc he K
  by_cases h90 : op = 90
  · subst h90; exact sn_90 C0 hc he K
  by_cases h91 : op = 91
  · subst h91; exact sn_91 C0 hc he K
  by_cases h92 : op = 92
  · subst h92; exact sn_92 C0 hc he K
  by_cases h93 : op = 93
  · subst h93; exact sn_93 C0 hc he K
  by_cases h94 : op = 94
  · subst h94; exact sn_94 C0 hc he K
  by_cases h85 : op = 85
  · subst h85; match l0, he with
    | [], he => cases he
    | [_], he => cases he
    | [_, _], he => cases he
    | _ :: _ :: _ :: _ :: _, he => cases he
    | [n, v, e'], he => simp only [stepR] at he; split at he <;> cases he
  by_cases h86 : op = 86
  · subst h86; match l0, he with
    | [], he => cases he
    | [_], he => cases he
    | [_, _], he => cases he
    | _ :: _ :: _ :: _ :: _, he => cases he
    | [n, v, e'], he => simp only [stepR] at he; split at he <;> cases he
  by_cases h87 : op = 87
  · subst h87; match l0, he with
    | [], he => cases he
    | [_], he => cases he
    | [_, _], he => cases he
    | _ :: _ :: _ :: _ :: _, he => cases he
    | [n, v, e'], he => simp only [stepR] at he; split at he <;> cases he
  by_cases h88 : op = 88
  · subst h88; match l0, he with
    | [], he => cases he
    | [_], he => cases he
    | [_, _], he => cases he
    | _ :: _ :: _ :: _ :: _, he => cases he
    | [n, v, e'], he => simp only [stepR] at he; split at he <;> cases he
  by_cases h95 : op = 95
  · subst h95; simp only [stepR] at he; (repeat' split at he) <;> cases he
  by_cases h96 : op = 96
  · subst h96; simp only [stepR] at he; (repeat' split at he) <;> cases he
  by_cases h97 : op = 97
  · subst h97; simp only [stepR] at he; (repeat' split at he) <;> cases he
  by_cases h98 : op = 98
  · subst h98; simp only [stepR] at he; (repeat' split at he) <;> cases he
  by_cases h99 : op = 99
  · subst h99; simp only [stepR] at he; (repeat' split at he) <;> cases he
  by_cases h999 : op = 999
  · subst h999; cases he
  exfalso
  unfold chkB at hc
  dsimp only at hc
  split at hc <;> first | exact (Bool.false_ne_true hc).elim | omega

def retF (bytes : ByteArray) (pc : Nat) (ret : Option FieldType) (v : Option AV) : Prop :=
  (ret = none ∧ v = none ∧ decode bytes pc = .ok (.return_, 1)) ∨ (ret = some .int ∧ decode bytes pc = .ok (.ireturn, 1) ∧ ∃ x, v = some (.inl x)) ∨ (ret = some .boolean ∧ decode bytes pc = .ok (.ireturn, 1) ∧ ∃ x, v = some (.inl x) ∧ (x = 0 ∨ x = 1)) ∨ (ret = some .long ∧ decode bytes pc = .ok (.lreturn, 1) ∧ ∃ x, v = some (.inr (.inl x))) ∨ (∃ cn, ret = some (.object cn) ∧ decode bytes pc = .ok (.areturn, 1) ∧ ∃ z, v = some (.inr (.inr z)))
theorem nr_0 {r : (Option AV × AH) ⊕ (Nat × List AV × Bool × ACfg)} : ¬ stepR (0, len, x, l0) pc L st h = some (.inr r) := by intro q; cases q
theorem nr_1 {r : (Option AV × AH) ⊕ (Nat × List AV × Bool × ACfg)} : ¬ stepR (1, len, x, l0) pc L st h = some (.inr r) := by intro q; cases q
theorem nr_2 {r : (Option AV × AH) ⊕ (Nat × List AV × Bool × ACfg)} : ¬ stepR (2, len, x, l0) pc L st h = some (.inr r) := by intro q; cases q
theorem nr_3 {r : (Option AV × AH) ⊕ (Nat × List AV × Bool × ACfg)} : ¬ stepR (3, len, x, l0) pc L st h = some (.inr r) := by intro q; cases q
theorem nr_4 {r : (Option AV × AH) ⊕ (Nat × List AV × Bool × ACfg)} : ¬ stepR (4, len, x, l0) pc L st h = some (.inr r) := by intro q; cases q
theorem nr_5 {r : (Option AV × AH) ⊕ (Nat × List AV × Bool × ACfg)} : ¬ stepR (5, len, x, l0) pc L st h = some (.inr r) := by intro q; cases q
theorem nr_6 {r : (Option AV × AH) ⊕ (Nat × List AV × Bool × ACfg)} : ¬ stepR (6, len, x, l0) pc L st h = some (.inr r) := by intro q; cases q
theorem nr_7 {r : (Option AV × AH) ⊕ (Nat × List AV × Bool × ACfg)} : ¬ stepR (7, len, x, l0) pc L st h = some (.inr r) := by intro q; cases q
theorem nr_8 {r : (Option AV × AH) ⊕ (Nat × List AV × Bool × ACfg)} : ¬ stepR (8, len, x, l0) pc L st h = some (.inr r) := by intro q; cases q
theorem nr_10 {r : (Option AV × AH) ⊕ (Nat × List AV × Bool × ACfg)} : ¬ stepR (10, len, x, l0) pc L st h = some (.inr r) := by intro q; simp only [stepR] at q; (repeat' split at q) <;> cases q
theorem nr_11 {r : (Option AV × AH) ⊕ (Nat × List AV × Bool × ACfg)} : ¬ stepR (11, len, x, l0) pc L st h = some (.inr r) := by intro q; simp only [stepR] at q; (repeat' split at q) <;> cases q
theorem nr_12 {r : (Option AV × AH) ⊕ (Nat × List AV × Bool × ACfg)} : ¬ stepR (12, len, x, l0) pc L st h = some (.inr r) := by intro q; simp only [stepR] at q; (repeat' split at q) <;> cases q
theorem nr_13 {r : (Option AV × AH) ⊕ (Nat × List AV × Bool × ACfg)} : ¬ stepR (13, len, x, l0) pc L st h = some (.inr r) := by intro q; simp only [stepR] at q; (repeat' split at q) <;> cases q
theorem nr_14 {r : (Option AV × AH) ⊕ (Nat × List AV × Bool × ACfg)} : ¬ stepR (14, len, x, l0) pc L st h = some (.inr r) := by intro q; simp only [stepR] at q; (repeat' split at q) <;> cases q
theorem nr_15 {r : (Option AV × AH) ⊕ (Nat × List AV × Bool × ACfg)} : ¬ stepR (15, len, x, l0) pc L st h = some (.inr r) := by intro q; simp only [stepR] at q; (repeat' split at q) <;> cases q
theorem nr_20 {r : (Option AV × AH) ⊕ (Nat × List AV × Bool × ACfg)} : ¬ stepR (20, len, x, l0) pc L st h = some (.inr r) := by intro q; simp only [stepR] at q; (repeat' split at q) <;> cases q
theorem nr_21 {r : (Option AV × AH) ⊕ (Nat × List AV × Bool × ACfg)} : ¬ stepR (21, len, x, l0) pc L st h = some (.inr r) := by intro q; simp only [stepR] at q; (repeat' split at q) <;> cases q
theorem nr_22 {r : (Option AV × AH) ⊕ (Nat × List AV × Bool × ACfg)} : ¬ stepR (22, len, x, l0) pc L st h = some (.inr r) := by intro q; simp only [stepR] at q; (repeat' split at q) <;> cases q
theorem nr_23 {r : (Option AV × AH) ⊕ (Nat × List AV × Bool × ACfg)} : ¬ stepR (23, len, x, l0) pc L st h = some (.inr r) := by intro q; simp only [stepR] at q; (repeat' split at q) <;> cases q
theorem nr_24 {r : (Option AV × AH) ⊕ (Nat × List AV × Bool × ACfg)} : ¬ stepR (24, len, x, l0) pc L st h = some (.inr r) := by intro q; simp only [stepR] at q; (repeat' split at q) <;> cases q
theorem nr_25 {r : (Option AV × AH) ⊕ (Nat × List AV × Bool × ACfg)} : ¬ stepR (25, len, x, l0) pc L st h = some (.inr r) := by intro q; simp only [stepR] at q; (repeat' split at q) <;> cases q
theorem nr_26 {r : (Option AV × AH) ⊕ (Nat × List AV × Bool × ACfg)} : ¬ stepR (26, len, x, l0) pc L st h = some (.inr r) := by intro q; simp only [stepR] at q; (repeat' split at q) <;> cases q
theorem nr_27 {r : (Option AV × AH) ⊕ (Nat × List AV × Bool × ACfg)} : ¬ stepR (27, len, x, l0) pc L st h = some (.inr r) := by intro q; simp only [stepR] at q; (repeat' split at q) <;> cases q
theorem nr_28 {r : (Option AV × AH) ⊕ (Nat × List AV × Bool × ACfg)} : ¬ stepR (28, len, x, l0) pc L st h = some (.inr r) := by intro q; simp only [stepR] at q; (repeat' split at q) <;> cases q
theorem nr_29 {r : (Option AV × AH) ⊕ (Nat × List AV × Bool × ACfg)} : ¬ stepR (29, len, x, l0) pc L st h = some (.inr r) := by intro q; simp only [stepR] at q; (repeat' split at q) <;> cases q
theorem nr_30 {r : (Option AV × AH) ⊕ (Nat × List AV × Bool × ACfg)} : ¬ stepR (30, len, x, l0) pc L st h = some (.inr r) := by intro q; simp only [stepR] at q; (repeat' split at q) <;> cases q
theorem nr_31 {r : (Option AV × AH) ⊕ (Nat × List AV × Bool × ACfg)} : ¬ stepR (31, len, x, l0) pc L st h = some (.inr r) := by intro q; simp only [stepR] at q; (repeat' split at q) <;> cases q
theorem nr_32 {r : (Option AV × AH) ⊕ (Nat × List AV × Bool × ACfg)} : ¬ stepR (32, len, x, l0) pc L st h = some (.inr r) := by intro q; simp only [stepR] at q; (repeat' split at q) <;> cases q
theorem nr_33 {r : (Option AV × AH) ⊕ (Nat × List AV × Bool × ACfg)} : ¬ stepR (33, len, x, l0) pc L st h = some (.inr r) := by intro q; simp only [stepR] at q; (repeat' split at q) <;> cases q
theorem nr_34 {r : (Option AV × AH) ⊕ (Nat × List AV × Bool × ACfg)} : ¬ stepR (34, len, x, l0) pc L st h = some (.inr r) := by intro q; simp only [stepR] at q; (repeat' split at q) <;> cases q
theorem nr_35 {r : (Option AV × AH) ⊕ (Nat × List AV × Bool × ACfg)} : ¬ stepR (35, len, x, l0) pc L st h = some (.inr r) := by intro q; simp only [stepR] at q; (repeat' split at q) <;> cases q
theorem nr_36 {r : (Option AV × AH) ⊕ (Nat × List AV × Bool × ACfg)} : ¬ stepR (36, len, x, l0) pc L st h = some (.inr r) := by intro q; simp only [stepR] at q; (repeat' split at q) <;> cases q
theorem nr_37 {r : (Option AV × AH) ⊕ (Nat × List AV × Bool × ACfg)} : ¬ stepR (37, len, x, l0) pc L st h = some (.inr r) := by intro q; simp only [stepR] at q; (repeat' split at q) <;> cases q
theorem nr_38 {r : (Option AV × AH) ⊕ (Nat × List AV × Bool × ACfg)} : ¬ stepR (38, len, x, l0) pc L st h = some (.inr r) := by intro q; simp only [stepR] at q; (repeat' split at q) <;> cases q
theorem nr_39 {r : (Option AV × AH) ⊕ (Nat × List AV × Bool × ACfg)} : ¬ stepR (39, len, x, l0) pc L st h = some (.inr r) := by intro q; simp only [stepR] at q; (repeat' split at q) <;> cases q
theorem nr_40 {r : (Option AV × AH) ⊕ (Nat × List AV × Bool × ACfg)} : ¬ stepR (40, len, x, l0) pc L st h = some (.inr r) := by intro q; simp only [stepR] at q; (repeat' split at q) <;> cases q
theorem nr_41 {r : (Option AV × AH) ⊕ (Nat × List AV × Bool × ACfg)} : ¬ stepR (41, len, x, l0) pc L st h = some (.inr r) := by intro q; simp only [stepR] at q; (repeat' split at q) <;> cases q
theorem nr_42 {r : (Option AV × AH) ⊕ (Nat × List AV × Bool × ACfg)} : ¬ stepR (42, len, x, l0) pc L st h = some (.inr r) := by intro q; simp only [stepR] at q; (repeat' split at q) <;> cases q
theorem nr_43 {r : (Option AV × AH) ⊕ (Nat × List AV × Bool × ACfg)} : ¬ stepR (43, len, x, l0) pc L st h = some (.inr r) := by intro q; simp only [stepR] at q; (repeat' split at q) <;> cases q
theorem nr_45 {r : (Option AV × AH) ⊕ (Nat × List AV × Bool × ACfg)} : ¬ stepR (45, len, x, l0) pc L st h = some (.inr r) := by intro q; cases q
theorem nr_46 {r : (Option AV × AH) ⊕ (Nat × List AV × Bool × ACfg)} : ¬ stepR (46, len, x, l0) pc L st h = some (.inr r) := by intro q; simp only [stepR] at q; (repeat' split at q) <;> cases q
theorem nr_47 {r : (Option AV × AH) ⊕ (Nat × List AV × Bool × ACfg)} : ¬ stepR (47, len, x, l0) pc L st h = some (.inr r) := by intro q; simp only [stepR] at q; (repeat' split at q) <;> cases q
theorem nr_48 {r : (Option AV × AH) ⊕ (Nat × List AV × Bool × ACfg)} : ¬ stepR (48, len, x, l0) pc L st h = some (.inr r) := by intro q; simp only [stepR] at q; (repeat' split at q) <;> cases q
theorem nr_49 {r : (Option AV × AH) ⊕ (Nat × List AV × Bool × ACfg)} : ¬ stepR (49, len, x, l0) pc L st h = some (.inr r) := by intro q; simp only [stepR] at q; (repeat' split at q) <;> cases q
theorem nr_50 {r : (Option AV × AH) ⊕ (Nat × List AV × Bool × ACfg)} : ¬ stepR (50, len, x, l0) pc L st h = some (.inr r) := by intro q; simp only [stepR] at q; (repeat' split at q) <;> cases q
theorem nr_51 {r : (Option AV × AH) ⊕ (Nat × List AV × Bool × ACfg)} : ¬ stepR (51, len, x, l0) pc L st h = some (.inr r) := by intro q; simp only [stepR] at q; (repeat' split at q) <;> cases q
theorem nr_52 {r : (Option AV × AH) ⊕ (Nat × List AV × Bool × ACfg)} : ¬ stepR (52, len, x, l0) pc L st h = some (.inr r) := by intro q; simp only [stepR] at q; (repeat' split at q) <;> cases q
theorem nr_53 {r : (Option AV × AH) ⊕ (Nat × List AV × Bool × ACfg)} : ¬ stepR (53, len, x, l0) pc L st h = some (.inr r) := by intro q; simp only [stepR] at q; (repeat' split at q) <;> cases q
theorem nr_54 {r : (Option AV × AH) ⊕ (Nat × List AV × Bool × ACfg)} : ¬ stepR (54, len, x, l0) pc L st h = some (.inr r) := by intro q; simp only [stepR] at q; (repeat' split at q) <;> cases q
theorem nr_55 {r : (Option AV × AH) ⊕ (Nat × List AV × Bool × ACfg)} : ¬ stepR (55, len, x, l0) pc L st h = some (.inr r) := by intro q; simp only [stepR] at q; (repeat' split at q) <;> cases q
theorem nr_56 {r : (Option AV × AH) ⊕ (Nat × List AV × Bool × ACfg)} : ¬ stepR (56, len, x, l0) pc L st h = some (.inr r) := by intro q; simp only [stepR] at q; (repeat' split at q) <;> cases q
theorem nr_57 {r : (Option AV × AH) ⊕ (Nat × List AV × Bool × ACfg)} : ¬ stepR (57, len, x, l0) pc L st h = some (.inr r) := by intro q; simp only [stepR] at q; (repeat' split at q) <;> cases q
theorem nr_58 {r : (Option AV × AH) ⊕ (Nat × List AV × Bool × ACfg)} : ¬ stepR (58, len, x, l0) pc L st h = some (.inr r) := by intro q; simp only [stepR] at q; (repeat' split at q) <;> cases q
theorem nr_59 {r : (Option AV × AH) ⊕ (Nat × List AV × Bool × ACfg)} : ¬ stepR (59, len, x, l0) pc L st h = some (.inr r) := by intro q; simp only [stepR] at q; (repeat' split at q) <;> cases q
theorem nr_60 {r : (Option AV × AH) ⊕ (Nat × List AV × Bool × ACfg)} : ¬ stepR (60, len, x, l0) pc L st h = some (.inr r) := by intro q; simp only [stepR] at q; (repeat' split at q) <;> cases q
theorem nr_61 {r : (Option AV × AH) ⊕ (Nat × List AV × Bool × ACfg)} : ¬ stepR (61, len, x, l0) pc L st h = some (.inr r) := by intro q; simp only [stepR] at q; (repeat' split at q) <;> cases q
theorem nr_65 {r : (Option AV × AH) ⊕ (Nat × List AV × Bool × ACfg)} : ¬ stepR (65, len, x, l0) pc L st h = some (.inr r) := by intro q; simp only [stepR] at q; (repeat' split at q) <;> cases q
theorem nr_66 {r : (Option AV × AH) ⊕ (Nat × List AV × Bool × ACfg)} : ¬ stepR (66, len, x, l0) pc L st h = some (.inr r) := by intro q; simp only [stepR] at q; (repeat' split at q) <;> cases q
theorem nr_67 {r : (Option AV × AH) ⊕ (Nat × List AV × Bool × ACfg)} : ¬ stepR (67, len, x, l0) pc L st h = some (.inr r) := by intro q; simp only [stepR] at q; (repeat' split at q) <;> cases q
theorem nr_68 {r : (Option AV × AH) ⊕ (Nat × List AV × Bool × ACfg)} : ¬ stepR (68, len, x, l0) pc L st h = some (.inr r) := by intro q; simp only [stepR] at q; (repeat' split at q) <;> cases q
theorem nr_69 {r : (Option AV × AH) ⊕ (Nat × List AV × Bool × ACfg)} : ¬ stepR (69, len, x, l0) pc L st h = some (.inr r) := by intro q; simp only [stepR] at q; (repeat' split at q) <;> cases q
theorem nr_70 {r : (Option AV × AH) ⊕ (Nat × List AV × Bool × ACfg)} : ¬ stepR (70, len, x, l0) pc L st h = some (.inr r) := by intro q; simp only [stepR] at q; (repeat' split at q) <;> cases q
theorem nr_71 {r : (Option AV × AH) ⊕ (Nat × List AV × Bool × ACfg)} : ¬ stepR (71, len, x, l0) pc L st h = some (.inr r) := by intro q; simp only [stepR] at q; (repeat' split at q) <;> cases q
theorem nr_72 {r : (Option AV × AH) ⊕ (Nat × List AV × Bool × ACfg)} : ¬ stepR (72, len, x, l0) pc L st h = some (.inr r) := by intro q; simp only [stepR] at q; (repeat' split at q) <;> cases q
theorem nr_73 {r : (Option AV × AH) ⊕ (Nat × List AV × Bool × ACfg)} : ¬ stepR (73, len, x, l0) pc L st h = some (.inr r) := by intro q; simp only [stepR] at q; (repeat' split at q) <;> cases q
theorem nr_75 {r : (Option AV × AH) ⊕ (Nat × List AV × Bool × ACfg)} : ¬ stepR (75, len, x, l0) pc L st h = some (.inr r) := by intro q; simp only [stepR] at q; (repeat' split at q) <;> cases q
theorem nr_76 {r : (Option AV × AH) ⊕ (Nat × List AV × Bool × ACfg)} : ¬ stepR (76, len, x, l0) pc L st h = some (.inr r) := by intro q; simp only [stepR] at q; (repeat' split at q) <;> cases q
theorem nr_77 {r : (Option AV × AH) ⊕ (Nat × List AV × Bool × ACfg)} : ¬ stepR (77, len, x, l0) pc L st h = some (.inr r) := by intro q; simp only [stepR] at q; (repeat' split at q) <;> cases q
theorem nr_78 {r : (Option AV × AH) ⊕ (Nat × List AV × Bool × ACfg)} : ¬ stepR (78, len, x, l0) pc L st h = some (.inr r) := by intro q; simp only [stepR] at q; (repeat' split at q) <;> cases q
theorem nr_79 {r : (Option AV × AH) ⊕ (Nat × List AV × Bool × ACfg)} : ¬ stepR (79, len, x, l0) pc L st h = some (.inr r) := by intro q; simp only [stepR] at q; (repeat' split at q) <;> cases q
theorem nr_80 {r : (Option AV × AH) ⊕ (Nat × List AV × Bool × ACfg)} : ¬ stepR (80, len, x, l0) pc L st h = some (.inr r) := by intro q; simp only [stepR] at q; (repeat' split at q) <;> cases q
theorem nr_90 {r : (Option AV × AH) ⊕ (Nat × List AV × Bool × ACfg)} : ¬ stepR (90, len, x, l0) pc L st h = some (.inr r) := by intro q; simp only [stepR] at q; (repeat' split at q) <;> cases q
theorem nr_91 {r : (Option AV × AH) ⊕ (Nat × List AV × Bool × ACfg)} : ¬ stepR (91, len, x, l0) pc L st h = some (.inr r) := by intro q; simp only [stepR] at q; (repeat' split at q) <;> cases q
theorem nr_92 {r : (Option AV × AH) ⊕ (Nat × List AV × Bool × ACfg)} : ¬ stepR (92, len, x, l0) pc L st h = some (.inr r) := by intro q; simp only [stepR] at q; (repeat' split at q) <;> cases q
theorem nr_93 {r : (Option AV × AH) ⊕ (Nat × List AV × Bool × ACfg)} : ¬ stepR (93, len, x, l0) pc L st h = some (.inr r) := by intro q; simp only [stepR] at q; (repeat' split at q) <;> cases q
theorem nr_94 {r : (Option AV × AH) ⊕ (Nat × List AV × Bool × ACfg)} : ¬ stepR (94, len, x, l0) pc L st h = some (.inr r) := by intro q; simp only [stepR] at q; (repeat' split at q) <;> cases q
theorem so_ret {ai : AI} {v : Option AV} (hc : chkB own bytes nL lp ret pc ai = true) (he : stepR ai pc L st h = some (.inr (.inl (v, h')))) : h' = h ∧ st = v.toList ∧ retF bytes pc ret v := by
  obtain ⟨op, len, x, l0⟩ := ai
  by_cases h95 : op = 95
  · subst h95; 
    have hc2 : (dqB bytes pc .ireturn 1 len && decide (ret = some .int)) = true := hc
    rw [Bool.and_eq_true, decide_eq_true_eq] at hc2
    obtain ⟨hc1, hc2⟩ := hc2
    obtain ⟨hdg, -⟩ := dqB_spec hc1
    simp only [stepR] at he
    split at he
    · cases he; exact ⟨rfl, rfl, Or.inr (Or.inl ⟨hc2, hdg, _, rfl⟩)⟩
    · cases he
  by_cases h96 : op = 96
  · subst h96; 
    have hc2 : (dqB bytes pc .ireturn 1 len && decide (ret = some .boolean)) = true := hc
    rw [Bool.and_eq_true, decide_eq_true_eq] at hc2
    obtain ⟨hc1, hc2⟩ := hc2
    obtain ⟨hdg, -⟩ := dqB_spec hc1
    simp only [stepR] at he
    split at he
    · split at he
      · next hx => cases he; exact ⟨rfl, rfl, Or.inr (Or.inr (Or.inl ⟨hc2, hdg, _, rfl, hx⟩))⟩
      · cases he
    · cases he
  by_cases h97 : op = 97
  · subst h97; 
    have hc2 : (dqB bytes pc .lreturn 1 len && decide (ret = some .long)) = true := hc
    rw [Bool.and_eq_true, decide_eq_true_eq] at hc2
    obtain ⟨hc1, hc2⟩ := hc2
    obtain ⟨hdg, -⟩ := dqB_spec hc1
    simp only [stepR] at he
    split at he
    · cases he; exact ⟨rfl, rfl, Or.inr (Or.inr (Or.inr (Or.inl ⟨hc2, hdg, _, rfl⟩)))⟩
    · cases he
  by_cases h98 : op = 98
  · subst h98; 
    have hc2 := hc
    simp only [chkB, Bool.and_eq_true] at hc2
    obtain ⟨hc1, hc2⟩ := hc2
    obtain ⟨hdg, -⟩ := dqB_spec hc1
    simp only [stepR] at he
    split at he
    · cases he
      split at hc2
      · exact ⟨rfl, rfl, Or.inr (Or.inr (Or.inr (Or.inr ⟨_, rfl, hdg, _, rfl⟩)))⟩
      · cases hc2
    · cases he
  by_cases h99 : op = 99
  · subst h99; 
    have hc2 : (dqB bytes pc .return_ 1 len && decide (ret = none)) = true := hc
    rw [Bool.and_eq_true, decide_eq_true_eq] at hc2
    obtain ⟨hc1, hc2⟩ := hc2
    obtain ⟨hdg, -⟩ := dqB_spec hc1
    simp only [stepR] at he
    split at he
    · cases he; exact ⟨rfl, rfl, Or.inl ⟨hc2, rfl, hdg⟩⟩
    · cases he
  by_cases h0 : op = 0
  · subst h0; exfalso; revert he; exact nr_0
  by_cases h1 : op = 1
  · subst h1; exfalso; revert he; exact nr_1
  by_cases h2 : op = 2
  · subst h2; exfalso; revert he; exact nr_2
  by_cases h3 : op = 3
  · subst h3; exfalso; revert he; exact nr_3
  by_cases h4 : op = 4
  · subst h4; exfalso; revert he; exact nr_4
  by_cases h5 : op = 5
  · subst h5; exfalso; revert he; exact nr_5
  by_cases h6 : op = 6
  · subst h6; exfalso; revert he; exact nr_6
  by_cases h7 : op = 7
  · subst h7; exfalso; revert he; exact nr_7
  by_cases h8 : op = 8
  · subst h8; exfalso; revert he; exact nr_8
  by_cases h10 : op = 10
  · subst h10; exfalso; revert he; exact nr_10
  by_cases h11 : op = 11
  · subst h11; exfalso; revert he; exact nr_11
  by_cases h12 : op = 12
  · subst h12; exfalso; revert he; exact nr_12
  by_cases h13 : op = 13
  · subst h13; exfalso; revert he; exact nr_13
  by_cases h14 : op = 14
  · subst h14; exfalso; revert he; exact nr_14
  by_cases h15 : op = 15
  · subst h15; exfalso; revert he; exact nr_15
  by_cases h20 : op = 20
  · subst h20; exfalso; revert he; exact nr_20
  by_cases h21 : op = 21
  · subst h21; exfalso; revert he; exact nr_21
  by_cases h22 : op = 22
  · subst h22; exfalso; revert he; exact nr_22
  by_cases h23 : op = 23
  · subst h23; exfalso; revert he; exact nr_23
  by_cases h24 : op = 24
  · subst h24; exfalso; revert he; exact nr_24
  by_cases h25 : op = 25
  · subst h25; exfalso; revert he; exact nr_25
  by_cases h26 : op = 26
  · subst h26; exfalso; revert he; exact nr_26
  by_cases h27 : op = 27
  · subst h27; exfalso; revert he; exact nr_27
  by_cases h28 : op = 28
  · subst h28; exfalso; revert he; exact nr_28
  by_cases h29 : op = 29
  · subst h29; exfalso; revert he; exact nr_29
  by_cases h30 : op = 30
  · subst h30; exfalso; revert he; exact nr_30
  by_cases h31 : op = 31
  · subst h31; exfalso; revert he; exact nr_31
  by_cases h32 : op = 32
  · subst h32; exfalso; revert he; exact nr_32
  by_cases h33 : op = 33
  · subst h33; exfalso; revert he; exact nr_33
  by_cases h34 : op = 34
  · subst h34; exfalso; revert he; exact nr_34
  by_cases h35 : op = 35
  · subst h35; exfalso; revert he; exact nr_35
  by_cases h36 : op = 36
  · subst h36; exfalso; revert he; exact nr_36
  by_cases h37 : op = 37
  · subst h37; exfalso; revert he; exact nr_37
  by_cases h38 : op = 38
  · subst h38; exfalso; revert he; exact nr_38
  by_cases h39 : op = 39
  · subst h39; exfalso; revert he; exact nr_39
  by_cases h40 : op = 40
  · subst h40; exfalso; revert he; exact nr_40
  by_cases h41 : op = 41
  · subst h41; exfalso; revert he; exact nr_41
  by_cases h42 : op = 42
  · subst h42; exfalso; revert he; exact nr_42
  by_cases h43 : op = 43
  · subst h43; exfalso; revert he; exact nr_43
  by_cases h45 : op = 45
  · subst h45; exfalso; revert he; exact nr_45
  by_cases h46 : op = 46
  · subst h46; exfalso; revert he; exact nr_46
  by_cases h47 : op = 47
  · subst h47; exfalso; revert he; exact nr_47
  by_cases h48 : op = 48
  · subst h48; exfalso; revert he; exact nr_48
  by_cases h49 : op = 49
  · subst h49; exfalso; revert he; exact nr_49
  by_cases h50 : op = 50
  · subst h50; exfalso; revert he; exact nr_50
  by_cases h51 : op = 51
  · subst h51; exfalso; revert he; exact nr_51
  by_cases h52 : op = 52
  · subst h52; exfalso; revert he; exact nr_52
  by_cases h53 : op = 53
  · subst h53; exfalso; revert he; exact nr_53
  by_cases h54 : op = 54
  · subst h54; exfalso; revert he; exact nr_54
  by_cases h55 : op = 55
  · subst h55; exfalso; revert he; exact nr_55
  by_cases h56 : op = 56
  · subst h56; exfalso; revert he; exact nr_56
  by_cases h57 : op = 57
  · subst h57; exfalso; revert he; exact nr_57
  by_cases h58 : op = 58
  · subst h58; exfalso; revert he; exact nr_58
  by_cases h59 : op = 59
  · subst h59; exfalso; revert he; exact nr_59
  by_cases h60 : op = 60
  · subst h60; exfalso; revert he; exact nr_60
  by_cases h61 : op = 61
  · subst h61; exfalso; revert he; exact nr_61
  by_cases h65 : op = 65
  · subst h65; exfalso; revert he; exact nr_65
  by_cases h66 : op = 66
  · subst h66; exfalso; revert he; exact nr_66
  by_cases h67 : op = 67
  · subst h67; exfalso; revert he; exact nr_67
  by_cases h68 : op = 68
  · subst h68; exfalso; revert he; exact nr_68
  by_cases h69 : op = 69
  · subst h69; exfalso; revert he; exact nr_69
  by_cases h70 : op = 70
  · subst h70; exfalso; revert he; exact nr_70
  by_cases h71 : op = 71
  · subst h71; exfalso; revert he; exact nr_71
  by_cases h72 : op = 72
  · subst h72; exfalso; revert he; exact nr_72
  by_cases h73 : op = 73
  · subst h73; exfalso; revert he; exact nr_73
  by_cases h75 : op = 75
  · subst h75; exfalso; revert he; exact nr_75
  by_cases h76 : op = 76
  · subst h76; exfalso; revert he; exact nr_76
  by_cases h77 : op = 77
  · subst h77; exfalso; revert he; exact nr_77
  by_cases h78 : op = 78
  · subst h78; exfalso; revert he; exact nr_78
  by_cases h79 : op = 79
  · subst h79; exfalso; revert he; exact nr_79
  by_cases h80 : op = 80
  · subst h80; exfalso; revert he; exact nr_80
  by_cases h90 : op = 90
  · subst h90; exfalso; revert he; exact nr_90
  by_cases h91 : op = 91
  · subst h91; exfalso; revert he; exact nr_91
  by_cases h92 : op = 92
  · subst h92; exfalso; revert he; exact nr_92
  by_cases h93 : op = 93
  · subst h93; exfalso; revert he; exact nr_93
  by_cases h94 : op = 94
  · subst h94; exfalso; revert he; exact nr_94
  by_cases h85 : op = 85
  · subst h85; match l0, he with
    | [], he => cases he
    | [_], he => cases he
    | [_, _], he => cases he
    | _ :: _ :: _ :: _ :: _, he => cases he
    | [n, v, e'], he => simp only [stepR] at he; split at he <;> cases he
  by_cases h86 : op = 86
  · subst h86; match l0, he with
    | [], he => cases he
    | [_], he => cases he
    | [_, _], he => cases he
    | _ :: _ :: _ :: _ :: _, he => cases he
    | [n, v, e'], he => simp only [stepR] at he; split at he <;> cases he
  by_cases h87 : op = 87
  · subst h87; match l0, he with
    | [], he => cases he
    | [_], he => cases he
    | [_, _], he => cases he
    | _ :: _ :: _ :: _ :: _, he => cases he
    | [n, v, e'], he => simp only [stepR] at he; split at he <;> cases he
  by_cases h88 : op = 88
  · subst h88; match l0, he with
    | [], he => cases he
    | [_], he => cases he
    | [_, _], he => cases he
    | _ :: _ :: _ :: _ :: _, he => cases he
    | [n, v, e'], he => simp only [stepR] at he; split at he <;> cases he
  by_cases h999 : op = 999
  · subst h999; cases he
  exfalso
  unfold chkB at hc
  dsimp only at hc
  split at hc <;> first | exact (Bool.false_ne_true hc).elim | omega

theorem so_callx (C0 : Ctx p R s m args c cells slots A own bytes nL D w sa sv) {ai : AI} {d k : Nat} {as : List AV} {b : Bool} {rv : Option AV} {h0 h1 : AH} (hc : chkB own bytes nL lp ret pc ai = true) (he : stepR ai pc L st h = some (.inr (.inr (k, as, b, (pc', L', st', h0))))) (hM : MetOf l d k as h0 rv h1) (hok : recvOk k as = true) (hR : d + 9 ≤ R.frames ∧ 64 * (d + 8) + 31 ≤ R.locals) (K : Sim p l e R s m args below meth c cells slots Z A D w sa sb nL lp pc' L' (rv.toList ++ st') h1) : Sim p l e R s m args below meth c cells slots Z A D w sa sb nL lp pc L st h := by
  obtain ⟨op, len, x, l0⟩ := ai
  by_cases h85 : op = 85
  · subst h85; 
    match l0, he, hc with
    | [], he, _ => cases he
    | [_], he, _ => cases he
    | [_, _], he, _ => cases he
    | _ :: _ :: _ :: _ :: _, he, _ => cases he
    | [n, v, e'], he, hc =>
      have hc2 : (mB own bytes pc len x.toNat n.toNat v.toNat e'.toNat false false && decide (0 ≤ n ∧ 0 ≤ v)) = true := hc
      rw [Bool.and_eq_true] at hc2
      simp only [stepR] at he
      split at he
      · next hlen =>
        simp only [Option.some.injEq, Sum.inr.injEq, Prod.mk.injEq] at he
        obtain ⟨rfl, rfl, -, rfl, rfl, rfl, rfl⟩ := he
        exact so_call C0 hc2.1 hM hok rfl hlen hR K
      · cases he
  by_cases h86 : op = 86
  · subst h86; 
    match l0, he, hc with
    | [], he, _ => cases he
    | [_], he, _ => cases he
    | [_, _], he, _ => cases he
    | _ :: _ :: _ :: _ :: _, he, _ => cases he
    | [n, v, e'], he, hc =>
      have hc2 : (mB own bytes pc len x.toNat n.toNat v.toNat e'.toNat false true && decide (0 ≤ n ∧ 0 ≤ v)) = true := hc
      rw [Bool.and_eq_true] at hc2
      simp only [stepR] at he
      split at he
      · next hlen =>
        simp only [Option.some.injEq, Sum.inr.injEq, Prod.mk.injEq] at he
        obtain ⟨rfl, rfl, -, rfl, rfl, rfl, rfl⟩ := he
        exact so_call C0 hc2.1 hM hok rfl hlen hR K
      · cases he
  by_cases h87 : op = 87
  · subst h87; 
    match l0, he, hc with
    | [], he, _ => cases he
    | [_], he, _ => cases he
    | [_, _], he, _ => cases he
    | _ :: _ :: _ :: _ :: _, he, _ => cases he
    | [n, v, e'], he, hc =>
      have hc2 : (mB own bytes pc len x.toNat n.toNat v.toNat e'.toNat true false && decide (0 ≤ n ∧ 0 ≤ v)) = true := hc
      rw [Bool.and_eq_true] at hc2
      simp only [stepR] at he
      split at he
      · next hlen =>
        simp only [Option.some.injEq, Sum.inr.injEq, Prod.mk.injEq] at he
        obtain ⟨rfl, rfl, -, rfl, rfl, rfl, rfl⟩ := he
        exact so_call C0 hc2.1 hM hok rfl hlen hR K
      · cases he
  by_cases h88 : op = 88
  · subst h88; 
    match l0, he, hc with
    | [], he, _ => cases he
    | [_], he, _ => cases he
    | [_, _], he, _ => cases he
    | _ :: _ :: _ :: _ :: _, he, _ => cases he
    | [n, v, e'], he, hc =>
      have hc2 : (mB own bytes pc len x.toNat n.toNat v.toNat e'.toNat true true && decide (0 ≤ n ∧ 0 ≤ v)) = true := hc
      rw [Bool.and_eq_true] at hc2
      simp only [stepR] at he
      split at he
      · next hlen =>
        simp only [Option.some.injEq, Sum.inr.injEq, Prod.mk.injEq] at he
        obtain ⟨rfl, rfl, -, rfl, rfl, rfl, rfl⟩ := he
        exact so_call C0 hc2.1 hM hok rfl hlen hR K
      · cases he
  by_cases h0 : op = 0
  · subst h0; exfalso; revert he; exact nr_0
  by_cases h1 : op = 1
  · subst h1; exfalso; revert he; exact nr_1
  by_cases h2 : op = 2
  · subst h2; exfalso; revert he; exact nr_2
  by_cases h3 : op = 3
  · subst h3; exfalso; revert he; exact nr_3
  by_cases h4 : op = 4
  · subst h4; exfalso; revert he; exact nr_4
  by_cases h5 : op = 5
  · subst h5; exfalso; revert he; exact nr_5
  by_cases h6 : op = 6
  · subst h6; exfalso; revert he; exact nr_6
  by_cases h7 : op = 7
  · subst h7; exfalso; revert he; exact nr_7
  by_cases h8 : op = 8
  · subst h8; exfalso; revert he; exact nr_8
  by_cases h10 : op = 10
  · subst h10; exfalso; revert he; exact nr_10
  by_cases h11 : op = 11
  · subst h11; exfalso; revert he; exact nr_11
  by_cases h12 : op = 12
  · subst h12; exfalso; revert he; exact nr_12
  by_cases h13 : op = 13
  · subst h13; exfalso; revert he; exact nr_13
  by_cases h14 : op = 14
  · subst h14; exfalso; revert he; exact nr_14
  by_cases h15 : op = 15
  · subst h15; exfalso; revert he; exact nr_15
  by_cases h20 : op = 20
  · subst h20; exfalso; revert he; exact nr_20
  by_cases h21 : op = 21
  · subst h21; exfalso; revert he; exact nr_21
  by_cases h22 : op = 22
  · subst h22; exfalso; revert he; exact nr_22
  by_cases h23 : op = 23
  · subst h23; exfalso; revert he; exact nr_23
  by_cases h24 : op = 24
  · subst h24; exfalso; revert he; exact nr_24
  by_cases h25 : op = 25
  · subst h25; exfalso; revert he; exact nr_25
  by_cases h26 : op = 26
  · subst h26; exfalso; revert he; exact nr_26
  by_cases h27 : op = 27
  · subst h27; exfalso; revert he; exact nr_27
  by_cases h28 : op = 28
  · subst h28; exfalso; revert he; exact nr_28
  by_cases h29 : op = 29
  · subst h29; exfalso; revert he; exact nr_29
  by_cases h30 : op = 30
  · subst h30; exfalso; revert he; exact nr_30
  by_cases h31 : op = 31
  · subst h31; exfalso; revert he; exact nr_31
  by_cases h32 : op = 32
  · subst h32; exfalso; revert he; exact nr_32
  by_cases h33 : op = 33
  · subst h33; exfalso; revert he; exact nr_33
  by_cases h34 : op = 34
  · subst h34; exfalso; revert he; exact nr_34
  by_cases h35 : op = 35
  · subst h35; exfalso; revert he; exact nr_35
  by_cases h36 : op = 36
  · subst h36; exfalso; revert he; exact nr_36
  by_cases h37 : op = 37
  · subst h37; exfalso; revert he; exact nr_37
  by_cases h38 : op = 38
  · subst h38; exfalso; revert he; exact nr_38
  by_cases h39 : op = 39
  · subst h39; exfalso; revert he; exact nr_39
  by_cases h40 : op = 40
  · subst h40; exfalso; revert he; exact nr_40
  by_cases h41 : op = 41
  · subst h41; exfalso; revert he; exact nr_41
  by_cases h42 : op = 42
  · subst h42; exfalso; revert he; exact nr_42
  by_cases h43 : op = 43
  · subst h43; exfalso; revert he; exact nr_43
  by_cases h45 : op = 45
  · subst h45; exfalso; revert he; exact nr_45
  by_cases h46 : op = 46
  · subst h46; exfalso; revert he; exact nr_46
  by_cases h47 : op = 47
  · subst h47; exfalso; revert he; exact nr_47
  by_cases h48 : op = 48
  · subst h48; exfalso; revert he; exact nr_48
  by_cases h49 : op = 49
  · subst h49; exfalso; revert he; exact nr_49
  by_cases h50 : op = 50
  · subst h50; exfalso; revert he; exact nr_50
  by_cases h51 : op = 51
  · subst h51; exfalso; revert he; exact nr_51
  by_cases h52 : op = 52
  · subst h52; exfalso; revert he; exact nr_52
  by_cases h53 : op = 53
  · subst h53; exfalso; revert he; exact nr_53
  by_cases h54 : op = 54
  · subst h54; exfalso; revert he; exact nr_54
  by_cases h55 : op = 55
  · subst h55; exfalso; revert he; exact nr_55
  by_cases h56 : op = 56
  · subst h56; exfalso; revert he; exact nr_56
  by_cases h57 : op = 57
  · subst h57; exfalso; revert he; exact nr_57
  by_cases h58 : op = 58
  · subst h58; exfalso; revert he; exact nr_58
  by_cases h59 : op = 59
  · subst h59; exfalso; revert he; exact nr_59
  by_cases h60 : op = 60
  · subst h60; exfalso; revert he; exact nr_60
  by_cases h61 : op = 61
  · subst h61; exfalso; revert he; exact nr_61
  by_cases h65 : op = 65
  · subst h65; exfalso; revert he; exact nr_65
  by_cases h66 : op = 66
  · subst h66; exfalso; revert he; exact nr_66
  by_cases h67 : op = 67
  · subst h67; exfalso; revert he; exact nr_67
  by_cases h68 : op = 68
  · subst h68; exfalso; revert he; exact nr_68
  by_cases h69 : op = 69
  · subst h69; exfalso; revert he; exact nr_69
  by_cases h70 : op = 70
  · subst h70; exfalso; revert he; exact nr_70
  by_cases h71 : op = 71
  · subst h71; exfalso; revert he; exact nr_71
  by_cases h72 : op = 72
  · subst h72; exfalso; revert he; exact nr_72
  by_cases h73 : op = 73
  · subst h73; exfalso; revert he; exact nr_73
  by_cases h75 : op = 75
  · subst h75; exfalso; revert he; exact nr_75
  by_cases h76 : op = 76
  · subst h76; exfalso; revert he; exact nr_76
  by_cases h77 : op = 77
  · subst h77; exfalso; revert he; exact nr_77
  by_cases h78 : op = 78
  · subst h78; exfalso; revert he; exact nr_78
  by_cases h79 : op = 79
  · subst h79; exfalso; revert he; exact nr_79
  by_cases h80 : op = 80
  · subst h80; exfalso; revert he; exact nr_80
  by_cases h90 : op = 90
  · subst h90; exfalso; revert he; exact nr_90
  by_cases h91 : op = 91
  · subst h91; exfalso; revert he; exact nr_91
  by_cases h92 : op = 92
  · subst h92; exfalso; revert he; exact nr_92
  by_cases h93 : op = 93
  · subst h93; exfalso; revert he; exact nr_93
  by_cases h94 : op = 94
  · subst h94; exfalso; revert he; exact nr_94
  by_cases h95 : op = 95
  · subst h95; simp only [stepR] at he; (repeat' split at he) <;> cases he
  by_cases h96 : op = 96
  · subst h96; simp only [stepR] at he; (repeat' split at he) <;> cases he
  by_cases h97 : op = 97
  · subst h97; simp only [stepR] at he; (repeat' split at he) <;> cases he
  by_cases h98 : op = 98
  · subst h98; simp only [stepR] at he; (repeat' split at he) <;> cases he
  by_cases h99 : op = 99
  · subst h99; simp only [stepR] at he; (repeat' split at he) <;> cases he
  by_cases h999 : op = 999
  · subst h999; cases he
  exfalso
  unfold chkB at hc
  dsimp only at hc
  split at hc <;> first | exact (Bool.false_ne_true hc).elim | omega

theorem sound_exec (C0 : Ctx p R s m args c cells slots A own bytes nL D w sa sv) {call : ACall} {C : Nat → AI} {Q : Option AV → AH → Prop} {d : Nat} (hC : ∀ pc : Nat, chkB own bytes nL lp ret pc (C pc) = true) (hcall : ∀ (k : Nat) (as : List AV) (h : AH) (v : Option AV) (h' : AH), call k as h v h' → recvOk k as = true ∧ MetOf l d k as h v h') (hR : d + 9 ≤ R.frames ∧ 64 * (d + 8) + 31 ≤ R.locals)
    (Kret : ∀ (v : Option AV) (h' : AH) (pc : Nat) (H : Heap) (locs : List Loc) (ls : Array Slot) (rv : Option Value), Q v h' → Wld s A D w sb h' H locs → VRo w sa sb v rv → retF bytes pc ret v → W p l e R s m args below meth c H locs cells slots Z (F0 m pc ls rv.toList)) :
    ∀ (n pc : Nat) (L st : List AV) (h : AH), ExecP call C Q n pc L st h → Sim p l e R s m args below meth c cells slots Z A D w sa sb nL lp pc L st h
  | 0, _, _, _, _, q => q.elim
  | n + 1, pc, L, st, h, q => by
    unfold ExecP at q
    split at q
    · exact q.elim
    · next pc' L' st' h' he => exact so_next C0 (hC pc) he (sound_exec C0 hC hcall hR Kret n pc' L' st' h' q)
    · next v h' he =>
      obtain ⟨rfl, rfl, hrf⟩ := so_ret (hC pc) he
      intro H locs ls jst hw hl hs
      match v, jst, hs with
      | none, [], _ => exact Kret none h' pc H locs ls none q hw trivial hrf
      | some a, [u], hs => exact Kret (some a) h' pc H locs ls (some u) q hw hs.1 hrf
      | none, _ :: _, hs => exact hs.elim
      | some a, [], hs => exact hs.elim
      | some a, _ :: _ :: _, hs => exact hs.2.elim
    · next k as pc' L' st' h' he =>
      obtain ⟨h1, q1, q2⟩ := q
      obtain ⟨hok, hM⟩ := hcall _ _ _ _ _ q1
      exact so_callx C0 (hC pc) he hM hok hR (sound_exec C0 hC hcall hR Kret n pc' L' st' h1 q2)
    · next k as pc' L' st' h' he =>
      obtain ⟨v, h1, q1, q2⟩ := q
      obtain ⟨hok, hM⟩ := hcall _ _ _ _ _ q1
      exact so_callx C0 (hC pc) he hM hok hR (sound_exec C0 hC hcall hR Kret n pc' L' (v :: st') h1 q2)
end SOM
