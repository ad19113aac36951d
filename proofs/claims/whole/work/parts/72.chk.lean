/-! WHAT IS CHECKED of each instruction of a method (closed, by kernel) -/
/-- strings: the class, its entry, the string's number -/
def SLT : List (String × Nat × Nat) := [("PaidInFog$LawReader", 87, 0), ("PaidInFog$LawReader", 89, 1), ("PaidInFog$LawReader", 91, 2), ("PaidInFog$LawReader", 93, 3), ("PaidInFog$LawReader", 95, 4), ("PaidInFog$LawReader", 96, 5), ("PaidInFog$LawReader", 97, 6), ("PaidInFog$LawReader", 99, 7), ("PaidInFog$LawReader", 101, 8), ("PaidInFog$LawReader", 103, 9), ("PaidInFogModel", 172, 6), ("PaidInFogModel", 176, 0), ("PaidInFogModel", 181, 1), ("PaidInFogModel", 183, 2), ("PaidInFogModel", 185, 3), ("PaidInFogModel", 187, 4), ("PaidInFogModel", 188, 5), ("PaidInFogModel", 189, 7), ("PaidInFogModel", 190, 8), ("PaidInFogModel", 192, 9)]
def clsOf (ci : Nat) : vw_C := wCl.getD ci ("", fun _ => ("", "", "", false), 0)
def wField (e : String × Nat × Nat × Nat × Bool) : Jvm.Cond := match e with
  | (own, idx, ci, k, nest) => match clsOf ci with
    | (C, T, _) => if nest then .fieldLinkNest own idx C (T k).2.1 (T k).2.2.1 "PaidInFog" else .fieldLink own idx C (T k).2.1 (T k).2.2.1
def dqB (bytes : ByteArray) (pc : Nat) (i : Instr) (n len : Nat) : Bool := decide (decode bytes pc = .ok (i, n)) && decide (len = n)
def fB (own : String) (bytes : ByteArray) (pc len : Nat) (put : Bool) (m j kd e : Nat) : Bool := match FLT[e]? with
  | some (own', idx, ci, k, _) => decide (own' = own) && dqB bytes pc (if put then .putfield idx else .getfield idx) 3 len && decide (ocls m = ci) && decide ((fspec m)[k]? = some (kd, j)) && decide (akind m = 2) && decide (m ≠ 18) && decide (m ≠ 19) && decide (k < (clsOf ci).2.2)
  | none => false
def mB (own : String) (bytes : ByteArray) (pc len k n v e : Nat) (st nest : Bool) : Bool := match MLT[e]? with
  | some (own', idx, k', nest') => decide (own' = own) && decide (k' = k) && decide (nest' = nest) && decide (mStat k = st) && decide (k < nMeth) && dqB bytes pc (if st then .invokestatic idx else .invokevirtual idx) 3 len && decide (n = mArgs k + (if st then 0 else 1)) && decide ((mRet k = none) ↔ v = 1)
  | none => false
def offs : List Int → Nat → List Int
  | ts, pc => ts.map (fun t => t - pc)
def pairsOf : List Int → Nat → List (Int × Int)
  | k :: t :: ts, pc => (k, t - pc) :: pairsOf ts pc
  | _, _ => []
def ifB (bytes : ByteArray) (pc len : Nat) (i : Int → Instr) (x : Int) : Bool := decide (0 ≤ x) && dqB bytes pc (i (x - pc)) 3 len
def ldB (bytes : ByteArray) (pc len : Nat) (a : Fin 4 → Instr) (b : Nat → Instr) (x : Int) : Bool := decide (0 ≤ x) && ((decide (len = 1) && decide (∃ k : Fin 4, (k : Nat) = x.toNat ∧ decode bytes pc = .ok (a k, 1))) || dqB bytes pc (b x.toNat) 2 len)
def chkB (own : String) (bytes : ByteArray) (nL : Nat) (lp : List Nat) (ret : Option FieldType) (pc : Nat) (ai : AI) : Bool := match ai with
  | (op, len, x, l) => match op with
    | 0 => dqB bytes pc (.iconst x) 1 len && decide (wr x = x)
    | 1 => dqB bytes pc (.bipush x) 2 len && decide ((Int8.ofInt x).toInt32.toInt = x)
    | 2 => dqB bytes pc (.sipush x) 3 len && decide ((Int16.ofInt x).toInt32.toInt = x)
    | 3 => match l with | [i] => dqB bytes pc (.ldc i.toNat) 2 len && decide (wr x = x) && decide (Jvm.Cond.constant own i.toNat (Int32.ofInt x) ∈ TBL) | _ => false
    | 4 => match l with | [i] => dqB bytes pc (.ldc_w i.toNat) 3 len && decide (wr x = x) && decide (Jvm.Cond.constant own i.toNat (Int32.ofInt x) ∈ TBL) | _ => false
    | 5 => (decide (x = 0) && dqB bytes pc (.lconst 0) 1 len) || (decide (x = 1) && dqB bytes pc (.lconst 1) 1 len)
    | 6 => match l with | [i] => dqB bytes pc (.ldc2_w i.toNat) 3 len && decide (wl x = x) && decide (Jvm.Cond.constantLong own i.toNat (Int64.ofInt x) ∈ TBL) | _ => false
    | 7 => dqB bytes pc .aconst_null 1 len
    | 8 => match l with | [i] => dqB bytes pc (.ldc i.toNat) 2 len && decide ((own, i.toNat, x.toNat) ∈ SLT) && decide (x.toNat < 10) | _ => false
    | 10 => ldB bytes pc len .iload_n .iload x
    | 11 => ldB bytes pc len .lload_n .lload x
    | 12 => ldB bytes pc len .aload_n .aload x
    | 13 => ldB bytes pc len .istore_n .istore x && decide (x.toNat < nL) && lp.all (fun j => decide (j + 1 ≠ x.toNat))
    | 14 => ldB bytes pc len .astore_n .astore x && decide (x.toNat < nL) && lp.all (fun j => decide (j + 1 ≠ x.toNat))
    | 15 => match l with | [i] => decide (0 ≤ i) && dqB bytes pc (.iinc i.toNat x) 3 len && decide (i.toNat < nL) && lp.all (fun j => decide (j + 1 ≠ i.toNat)) && decide (wr x = x) | _ => false
    | 20 => dqB bytes pc .iadd 1 len
    | 21 => dqB bytes pc .isub 1 len
    | 22 => dqB bytes pc .imul 1 len
    | 23 => dqB bytes pc .idiv 1 len
    | 24 => dqB bytes pc .irem 1 len
    | 25 => dqB bytes pc .ineg 1 len
    | 26 => dqB bytes pc .ixor 1 len
    | 27 => dqB bytes pc .ior 1 len
    | 28 => dqB bytes pc .iand 1 len
    | 29 => dqB bytes pc .ishl 1 len
    | 30 => dqB bytes pc .iushr 1 len
    | 31 => dqB bytes pc .i2l 1 len
    | 32 => dqB bytes pc .l2i 1 len
    | 33 => dqB bytes pc .i2b 1 len
    | 34 => dqB bytes pc .i2s 1 len
    | 35 => dqB bytes pc .lcmp 1 len
    | 36 => dqB bytes pc .land 1 len
    | 37 => dqB bytes pc .lor 1 len
    | 38 => dqB bytes pc .lshl 1 len
    | 39 => dqB bytes pc .ladd 1 len
    | 40 => dqB bytes pc .dup 1 len
    | 41 => dqB bytes pc .dup2 1 len
    | 42 => dqB bytes pc .dup_x1 1 len
    | 43 => dqB bytes pc .pop 1 len
    | 45 => ifB bytes pc len .goto x
    | 46 => ifB bytes pc len (.ifCond .eq) x
    | 47 => ifB bytes pc len (.ifCond .ne) x
    | 48 => ifB bytes pc len (.ifCond .lt) x
    | 49 => ifB bytes pc len (.ifCond .ge) x
    | 50 => ifB bytes pc len (.ifCond .gt) x
    | 51 => ifB bytes pc len (.ifCond .le) x
    | 52 => ifB bytes pc len (.if_icmp .eq) x
    | 53 => ifB bytes pc len (.if_icmp .ne) x
    | 54 => ifB bytes pc len (.if_icmp .lt) x
    | 55 => ifB bytes pc len (.if_icmp .ge) x
    | 56 => ifB bytes pc len (.if_icmp .gt) x
    | 57 => ifB bytes pc len (.if_icmp .le) x
    | 58 => ifB bytes pc len .ifnull x
    | 59 => ifB bytes pc len .ifnonnull x
    | 60 => match l with | d :: ts => dqB bytes pc (.tableswitch (d - pc) x (x + ts.length - 1) (offs ts pc).toArray) len len && decide (0 ≤ d) && ts.all (fun t => decide (0 ≤ t)) | _ => false
    | 61 => match l with | d :: ts => dqB bytes pc (.lookupswitch (d - pc) (pairsOf ts pc).toArray) len len && decide (0 ≤ d) && ts.all (fun t => decide (0 ≤ t)) && (((pairsOf ts pc).zip ((pairsOf ts pc).drop 1)).all (fun (a, next) => decide (a.1 < next.1))) | _ => false
    | 65 => match l with | [m, j, e] => fB own bytes pc len false m.toNat j.toNat 0 e.toNat | _ => false
    | 66 => match l with | [m, j, e] => fB own bytes pc len false m.toNat j.toNat 1 e.toNat && decide (∀ q ∈ LOCS, q.2 = m.toNat → (q.1, j.toNat) ∈ LOCS) | _ => false
    | 67 => match l with | [m, j, e] => fB own bytes pc len false m.toNat (x.toNat * 64 + j.toNat) 2 e.toNat && decide (j.toNat < 64) && decide ((x.toNat, j.toNat) ∈ LOCS) | _ => false
    | 68 => match l with | [m, j, e] => fB own bytes pc len false m.toNat j.toNat 3 e.toNat | _ => false
    | 69 => match l with | [m, j, e] => fB own bytes pc len false m.toNat j.toNat 4 e.toNat | _ => false
    | 70 => match l with | [m, j, e] => fB own bytes pc len true m.toNat j.toNat 0 e.toNat && (match FLT[e.toNat]? with | some (_, _, ci, k, _) => decide (((clsOf ci).2.1 k).2.2 = ("I", false)) | none => false) | _ => false
    | 71 => match l with | [m, j, e] => fB own bytes pc len true m.toNat j.toNat 0 e.toNat && (match FLT[e.toNat]? with | some (_, _, ci, k, _) => decide (((clsOf ci).2.1 k).2.2 = ("Z", false)) | none => false) | _ => false
    | 72 => match l with | [m, j, e] => fB own bytes pc len true m.toNat j.toNat 3 e.toNat && (match FLT[e.toNat]? with | some (_, _, ci, k, _) => decide (((clsOf ci).2.1 k).2.2 = ("LPaidInFog$Shelf;", false)) | none => false) | _ => false
    | 73 => match l with | [m, j, e] => fB own bytes pc len true m.toNat j.toNat 4 e.toNat && (match FLT[e.toNat]? with | some (_, _, ci, k, _) => decide (((clsOf ci).2.1 k).2.2 = ("LPaidInFog$Valley;", false)) | none => false) | _ => false
    | 75 => dqB bytes pc .iaload 1 len
    | 76 => dqB bytes pc .iastore 1 len
    | 77 => dqB bytes pc .laload 1 len
    | 78 => dqB bytes pc .lastore 1 len
    | 79 => dqB bytes pc .aaload 1 len
    | 80 => dqB bytes pc .arraylength 1 len
    | 85 => match l with | [n, v, e] => mB own bytes pc len x.toNat n.toNat v.toNat e.toNat false false && decide (0 ≤ n ∧ 0 ≤ v) | _ => false
    | 86 => match l with | [n, v, e] => mB own bytes pc len x.toNat n.toNat v.toNat e.toNat false true && decide (0 ≤ n ∧ 0 ≤ v) | _ => false
    | 87 => match l with | [n, v, e] => mB own bytes pc len x.toNat n.toNat v.toNat e.toNat true false && decide (0 ≤ n ∧ 0 ≤ v) | _ => false
    | 88 => match l with | [n, v, e] => mB own bytes pc len x.toNat n.toNat v.toNat e.toNat true true && decide (0 ≤ n ∧ 0 ≤ v) | _ => false
    | 90 => match l with | [i] => dqB bytes pc (.invokestatic i.toNat) 3 len && decide (Jvm.Cond.methodLink own i.toNat Lib.Math.max.name ∈ TBL) | _ => false
    | 91 => match l with | [i] => dqB bytes pc (.invokestatic i.toNat) 3 len && decide (Jvm.Cond.methodLink own i.toNat Lib.Math.min.name ∈ TBL) | _ => false
    | 92 => match l with | [i] => dqB bytes pc (.invokestatic i.toNat) 3 len && decide (Jvm.Cond.methodLink own i.toNat arraycopyName ∈ TBL) | _ => false
    | 93 => match l with | [i] => dqB bytes pc (.invokevirtual i.toNat) 3 len && decide (Jvm.Cond.methodLink own i.toNat ⟨"java/lang/String", "length", "()I"⟩ ∈ TBL) | _ => false
    | 94 => match l with | [i] => dqB bytes pc (.invokevirtual i.toNat) 3 len && decide (Jvm.Cond.methodLink own i.toNat ⟨"java/lang/String", "charAt", "(I)C"⟩ ∈ TBL) | _ => false
    | 95 => dqB bytes pc .ireturn 1 len && decide (ret = some .int)
    | 96 => dqB bytes pc .ireturn 1 len && decide (ret = some .boolean)
    | 97 => dqB bytes pc .lreturn 1 len && decide (ret = some .long)
    | 98 => dqB bytes pc .areturn 1 len && (match ret with | some (.object _) => true | _ => false)
    | 99 => dqB bytes pc .return_ 1 len && decide (ret = none)
    | 999 => true
    | _ => false
def chkAll (own : String) (bytes : ByteArray) (nL : Nat) (lp : List Nat) (ret : Option FieldType) : Nat → List AI → Bool
  | _, [] => true
  | pc, a :: l => chkB own bytes nL lp ret pc a && chkAll own bytes nL lp ret (pc + 1) l
theorem chkAll_at {own : String} {bytes : ByteArray} {nL : Nat} {lp : List Nat} {ret : Option FieldType} : ∀ (l : List AI) (b : Nat), chkAll own bytes nL lp ret b l = true → ∀ pc : Nat, chkB own bytes nL lp ret (b + pc) (nthA l pc) = true
  | [], b, _, pc => by cases pc <;> rfl
  | a :: l, b, h, pc => by
    simp only [chkAll, Bool.and_eq_true] at h
    cases pc with
    | zero => exact h.1
    | succ pc =>
      have h2 := chkAll_at l (b + 1) h.2 pc
      rw [Nat.add_right_comm] at h2
      exact h2
def chkM (k : Nat) : Bool := chkAll (mName k).cls (mBytes k) (maxLA k) (mLong k) (mRet k) 0 (codeL k)
