/-! SOUNDNESS: any instruction that goes on -/
section SON
variable {p : Program} {l : Launch} {e : Env} {R : Room} {s : State} {m : MethodId} {args : Array Value} {below : List Frame} {meth : Method} {c : Code} {cells slots : Nat} {Z : State → Prop} {A : Nat → Prop}
variable {own : String} {bytes : ByteArray} {nL : Nat} {lp : List Nat} {D : va_G} {w : AW} {sa sv : Nat → Nat} {sb : SB}
variable {pc len : Nat} {L st : List AV} {h : AH} {x : Int} {l0 : List Int} {ret : Option FieldType} {pc' : Nat} {L' st' : List AV} {h' : AH}

theorem sn_0 (C0 : Ctx p R s m args c cells slots A own bytes nL D w sa sv) (hc : chkB own bytes nL lp ret pc (0, len, x, l0) = true) (he : stepR (0, len, x, l0) pc L st h = some (.inl (pc', L', st', h'))) (K : Sim p l e R s m args below meth c cells slots Z A D w sa sb nL lp pc' L' st' h') : Sim p l e R s m args below meth c cells slots Z A D w sa sb nL lp pc L st h := by
  simp only [stepR] at he
  simp only [nxt, Option.some.injEq, Sum.inl.injEq, Prod.mk.injEq] at he
  obtain ⟨rfl, rfl, rfl, rfl⟩ := he
  exact so_0 C0 hc K
theorem sn_1 (C0 : Ctx p R s m args c cells slots A own bytes nL D w sa sv) (hc : chkB own bytes nL lp ret pc (1, len, x, l0) = true) (he : stepR (1, len, x, l0) pc L st h = some (.inl (pc', L', st', h'))) (K : Sim p l e R s m args below meth c cells slots Z A D w sa sb nL lp pc' L' st' h') : Sim p l e R s m args below meth c cells slots Z A D w sa sb nL lp pc L st h := by
  simp only [stepR] at he
  simp only [nxt, Option.some.injEq, Sum.inl.injEq, Prod.mk.injEq] at he
  obtain ⟨rfl, rfl, rfl, rfl⟩ := he
  exact so_1 C0 hc K
theorem sn_2 (C0 : Ctx p R s m args c cells slots A own bytes nL D w sa sv) (hc : chkB own bytes nL lp ret pc (2, len, x, l0) = true) (he : stepR (2, len, x, l0) pc L st h = some (.inl (pc', L', st', h'))) (K : Sim p l e R s m args below meth c cells slots Z A D w sa sb nL lp pc' L' st' h') : Sim p l e R s m args below meth c cells slots Z A D w sa sb nL lp pc L st h := by
  simp only [stepR] at he
  simp only [nxt, Option.some.injEq, Sum.inl.injEq, Prod.mk.injEq] at he
  obtain ⟨rfl, rfl, rfl, rfl⟩ := he
  exact so_2 C0 hc K
theorem sn_5 (C0 : Ctx p R s m args c cells slots A own bytes nL D w sa sv) (hc : chkB own bytes nL lp ret pc (5, len, x, l0) = true) (he : stepR (5, len, x, l0) pc L st h = some (.inl (pc', L', st', h'))) (K : Sim p l e R s m args below meth c cells slots Z A D w sa sb nL lp pc' L' st' h') : Sim p l e R s m args below meth c cells slots Z A D w sa sb nL lp pc L st h := by
  simp only [stepR] at he
  simp only [nxt, Option.some.injEq, Sum.inl.injEq, Prod.mk.injEq] at he
  obtain ⟨rfl, rfl, rfl, rfl⟩ := he
  exact so_5 C0 hc K
theorem sn_7 (C0 : Ctx p R s m args c cells slots A own bytes nL D w sa sv) (hc : chkB own bytes nL lp ret pc (7, len, x, l0) = true) (he : stepR (7, len, x, l0) pc L st h = some (.inl (pc', L', st', h'))) (K : Sim p l e R s m args below meth c cells slots Z A D w sa sb nL lp pc' L' st' h') : Sim p l e R s m args below meth c cells slots Z A D w sa sb nL lp pc L st h := by
  simp only [stepR] at he
  simp only [nxt, Option.some.injEq, Sum.inl.injEq, Prod.mk.injEq] at he
  obtain ⟨rfl, rfl, rfl, rfl⟩ := he
  exact so_7 C0 hc K
theorem sn_45 (C0 : Ctx p R s m args c cells slots A own bytes nL D w sa sv) (hc : chkB own bytes nL lp ret pc (45, len, x, l0) = true) (he : stepR (45, len, x, l0) pc L st h = some (.inl (pc', L', st', h'))) (K : Sim p l e R s m args below meth c cells slots Z A D w sa sb nL lp pc' L' st' h') : Sim p l e R s m args below meth c cells slots Z A D w sa sb nL lp pc L st h := by
  simp only [stepR] at he
  simp only [nxt, Option.some.injEq, Sum.inl.injEq, Prod.mk.injEq] at he
  obtain ⟨rfl, rfl, rfl, rfl⟩ := he
  exact so_45 C0 hc K
theorem sn_3 (C0 : Ctx p R s m args c cells slots A own bytes nL D w sa sv) (hc : chkB own bytes nL lp ret pc (3, len, x, l0) = true) (he : stepR (3, len, x, l0) pc L st h = some (.inl (pc', L', st', h'))) (K : Sim p l e R s m args below meth c cells slots Z A D w sa sb nL lp pc' L' st' h') : Sim p l e R s m args below meth c cells slots Z A D w sa sb nL lp pc L st h := by
  match l0, hc, he with
  | [], hc, _ => exact (Bool.false_ne_true hc).elim
  | _ :: _ :: _, hc, _ => exact (Bool.false_ne_true hc).elim
  | [i], hc, he =>
    simp only [stepR, nxt, Option.some.injEq, Sum.inl.injEq, Prod.mk.injEq] at he
    obtain ⟨rfl, rfl, rfl, rfl⟩ := he
    exact so_3 C0 hc K
theorem sn_4 (C0 : Ctx p R s m args c cells slots A own bytes nL D w sa sv) (hc : chkB own bytes nL lp ret pc (4, len, x, l0) = true) (he : stepR (4, len, x, l0) pc L st h = some (.inl (pc', L', st', h'))) (K : Sim p l e R s m args below meth c cells slots Z A D w sa sb nL lp pc' L' st' h') : Sim p l e R s m args below meth c cells slots Z A D w sa sb nL lp pc L st h := by
  match l0, hc, he with
  | [], hc, _ => exact (Bool.false_ne_true hc).elim
  | _ :: _ :: _, hc, _ => exact (Bool.false_ne_true hc).elim
  | [i], hc, he =>
    simp only [stepR, nxt, Option.some.injEq, Sum.inl.injEq, Prod.mk.injEq] at he
    obtain ⟨rfl, rfl, rfl, rfl⟩ := he
    exact so_4 C0 hc K
theorem sn_6 (C0 : Ctx p R s m args c cells slots A own bytes nL D w sa sv) (hc : chkB own bytes nL lp ret pc (6, len, x, l0) = true) (he : stepR (6, len, x, l0) pc L st h = some (.inl (pc', L', st', h'))) (K : Sim p l e R s m args below meth c cells slots Z A D w sa sb nL lp pc' L' st' h') : Sim p l e R s m args below meth c cells slots Z A D w sa sb nL lp pc L st h := by
  match l0, hc, he with
  | [], hc, _ => exact (Bool.false_ne_true hc).elim
  | _ :: _ :: _, hc, _ => exact (Bool.false_ne_true hc).elim
  | [i], hc, he =>
    simp only [stepR, nxt, Option.some.injEq, Sum.inl.injEq, Prod.mk.injEq] at he
    obtain ⟨rfl, rfl, rfl, rfl⟩ := he
    exact so_6 C0 hc K
theorem sn_8 (C0 : Ctx p R s m args c cells slots A own bytes nL D w sa sv) (hc : chkB own bytes nL lp ret pc (8, len, x, l0) = true) (he : stepR (8, len, x, l0) pc L st h = some (.inl (pc', L', st', h'))) (K : Sim p l e R s m args below meth c cells slots Z A D w sa sb nL lp pc' L' st' h') : Sim p l e R s m args below meth c cells slots Z A D w sa sb nL lp pc L st h := by
  match l0, hc, he with
  | [], hc, _ => exact (Bool.false_ne_true hc).elim
  | _ :: _ :: _, hc, _ => exact (Bool.false_ne_true hc).elim
  | [i], hc, he =>
    simp only [stepR, nxt, Option.some.injEq, Sum.inl.injEq, Prod.mk.injEq] at he
    obtain ⟨rfl, rfl, rfl, rfl⟩ := he
    exact so_8 C0 hc K
theorem sn_10 (C0 : Ctx p R s m args c cells slots A own bytes nL D w sa sv) (hc : chkB own bytes nL lp ret pc (10, len, x, l0) = true) (he : stepR (10, len, x, l0) pc L st h = some (.inl (pc', L', st', h'))) (K : Sim p l e R s m args below meth c cells slots Z A D w sa sb nL lp pc' L' st' h') : Sim p l e R s m args below meth c cells slots Z A D w sa sb nL lp pc L st h := by
  simp only [stepR] at he
  split at he
  · next hL =>
    simp only [nxt, Option.some.injEq, Sum.inl.injEq, Prod.mk.injEq] at he
    obtain ⟨rfl, rfl, rfl, rfl⟩ := he
    exact so_10 C0 hc hL K
  · cases he
theorem sn_11 (C0 : Ctx p R s m args c cells slots A own bytes nL D w sa sv) (hc : chkB own bytes nL lp ret pc (11, len, x, l0) = true) (he : stepR (11, len, x, l0) pc L st h = some (.inl (pc', L', st', h'))) (K : Sim p l e R s m args below meth c cells slots Z A D w sa sb nL lp pc' L' st' h') : Sim p l e R s m args below meth c cells slots Z A D w sa sb nL lp pc L st h := by
  simp only [stepR] at he
  split at he
  · next hL =>
    simp only [nxt, Option.some.injEq, Sum.inl.injEq, Prod.mk.injEq] at he
    obtain ⟨rfl, rfl, rfl, rfl⟩ := he
    exact so_11 C0 hc hL K
  · cases he
theorem sn_12 (C0 : Ctx p R s m args c cells slots A own bytes nL D w sa sv) (hc : chkB own bytes nL lp ret pc (12, len, x, l0) = true) (he : stepR (12, len, x, l0) pc L st h = some (.inl (pc', L', st', h'))) (K : Sim p l e R s m args below meth c cells slots Z A D w sa sb nL lp pc' L' st' h') : Sim p l e R s m args below meth c cells slots Z A D w sa sb nL lp pc L st h := by
  simp only [stepR] at he
  split at he
  · next hL =>
    simp only [nxt, Option.some.injEq, Sum.inl.injEq, Prod.mk.injEq] at he
    obtain ⟨rfl, rfl, rfl, rfl⟩ := he
    exact so_12 C0 hc hL (by simp) K
  · next hL =>
    simp only [nxt, Option.some.injEq, Sum.inl.injEq, Prod.mk.injEq] at he
    obtain ⟨rfl, rfl, rfl, rfl⟩ := he
    exact so_12 C0 hc hL (by simp) K
  · next hL =>
    simp only [nxt, Option.some.injEq, Sum.inl.injEq, Prod.mk.injEq] at he
    obtain ⟨rfl, rfl, rfl, rfl⟩ := he
    exact so_12 C0 hc hL (by simp) K
  · cases he
theorem sn_13 (C0 : Ctx p R s m args c cells slots A own bytes nL D w sa sv) (hc : chkB own bytes nL lp ret pc (13, len, x, l0) = true) (he : stepR (13, len, x, l0) pc L st h = some (.inl (pc', L', st', h'))) (K : Sim p l e R s m args below meth c cells slots Z A D w sa sb nL lp pc' L' st' h') : Sim p l e R s m args below meth c cells slots Z A D w sa sb nL lp pc L st h := by
  simp only [stepR] at he
  split at he
  · simp only [nxt, Option.some.injEq, Sum.inl.injEq, Prod.mk.injEq] at he
    obtain ⟨rfl, rfl, rfl, rfl⟩ := he
    exact so_13 C0 hc K
  · cases he
theorem sn_14 (C0 : Ctx p R s m args c cells slots A own bytes nL D w sa sv) (hc : chkB own bytes nL lp ret pc (14, len, x, l0) = true) (he : stepR (14, len, x, l0) pc L st h = some (.inl (pc', L', st', h'))) (K : Sim p l e R s m args below meth c cells slots Z A D w sa sb nL lp pc' L' st' h') : Sim p l e R s m args below meth c cells slots Z A D w sa sb nL lp pc L st h := by
  simp only [stepR] at he
  split at he
  · simp only [nxt, Option.some.injEq, Sum.inl.injEq, Prod.mk.injEq] at he
    obtain ⟨rfl, rfl, rfl, rfl⟩ := he
    exact so_14 C0 hc K
  · cases he
theorem sn_20 (C0 : Ctx p R s m args c cells slots A own bytes nL D w sa sv) (hc : chkB own bytes nL lp ret pc (20, len, x, l0) = true) (he : stepR (20, len, x, l0) pc L st h = some (.inl (pc', L', st', h'))) (K : Sim p l e R s m args below meth c cells slots Z A D w sa sb nL lp pc' L' st' h') : Sim p l e R s m args below meth c cells slots Z A D w sa sb nL lp pc L st h := by
  simp only [stepR] at he
  split at he
  · simp only [nxt, Option.some.injEq, Sum.inl.injEq, Prod.mk.injEq] at he
    obtain ⟨rfl, rfl, rfl, rfl⟩ := he
    exact so_20 C0 hc K
  · cases he
theorem sn_21 (C0 : Ctx p R s m args c cells slots A own bytes nL D w sa sv) (hc : chkB own bytes nL lp ret pc (21, len, x, l0) = true) (he : stepR (21, len, x, l0) pc L st h = some (.inl (pc', L', st', h'))) (K : Sim p l e R s m args below meth c cells slots Z A D w sa sb nL lp pc' L' st' h') : Sim p l e R s m args below meth c cells slots Z A D w sa sb nL lp pc L st h := by
  simp only [stepR] at he
  split at he
  · simp only [nxt, Option.some.injEq, Sum.inl.injEq, Prod.mk.injEq] at he
    obtain ⟨rfl, rfl, rfl, rfl⟩ := he
    exact so_21 C0 hc K
  · cases he
theorem sn_22 (C0 : Ctx p R s m args c cells slots A own bytes nL D w sa sv) (hc : chkB own bytes nL lp ret pc (22, len, x, l0) = true) (he : stepR (22, len, x, l0) pc L st h = some (.inl (pc', L', st', h'))) (K : Sim p l e R s m args below meth c cells slots Z A D w sa sb nL lp pc' L' st' h') : Sim p l e R s m args below meth c cells slots Z A D w sa sb nL lp pc L st h := by
  simp only [stepR] at he
  split at he
  · simp only [nxt, Option.some.injEq, Sum.inl.injEq, Prod.mk.injEq] at he
    obtain ⟨rfl, rfl, rfl, rfl⟩ := he
    exact so_22 C0 hc K
  · cases he
theorem sn_25 (C0 : Ctx p R s m args c cells slots A own bytes nL D w sa sv) (hc : chkB own bytes nL lp ret pc (25, len, x, l0) = true) (he : stepR (25, len, x, l0) pc L st h = some (.inl (pc', L', st', h'))) (K : Sim p l e R s m args below meth c cells slots Z A D w sa sb nL lp pc' L' st' h') : Sim p l e R s m args below meth c cells slots Z A D w sa sb nL lp pc L st h := by
  simp only [stepR] at he
  split at he
  · simp only [nxt, Option.some.injEq, Sum.inl.injEq, Prod.mk.injEq] at he
    obtain ⟨rfl, rfl, rfl, rfl⟩ := he
    exact so_25 C0 hc K
  · cases he
theorem sn_26 (C0 : Ctx p R s m args c cells slots A own bytes nL D w sa sv) (hc : chkB own bytes nL lp ret pc (26, len, x, l0) = true) (he : stepR (26, len, x, l0) pc L st h = some (.inl (pc', L', st', h'))) (K : Sim p l e R s m args below meth c cells slots Z A D w sa sb nL lp pc' L' st' h') : Sim p l e R s m args below meth c cells slots Z A D w sa sb nL lp pc L st h := by
  simp only [stepR] at he
  split at he
  · simp only [nxt, Option.some.injEq, Sum.inl.injEq, Prod.mk.injEq] at he
    obtain ⟨rfl, rfl, rfl, rfl⟩ := he
    exact so_26 C0 hc K
  · cases he
theorem sn_27 (C0 : Ctx p R s m args c cells slots A own bytes nL D w sa sv) (hc : chkB own bytes nL lp ret pc (27, len, x, l0) = true) (he : stepR (27, len, x, l0) pc L st h = some (.inl (pc', L', st', h'))) (K : Sim p l e R s m args below meth c cells slots Z A D w sa sb nL lp pc' L' st' h') : Sim p l e R s m args below meth c cells slots Z A D w sa sb nL lp pc L st h := by
  simp only [stepR] at he
  split at he
  · simp only [nxt, Option.some.injEq, Sum.inl.injEq, Prod.mk.injEq] at he
    obtain ⟨rfl, rfl, rfl, rfl⟩ := he
    exact so_27 C0 hc K
  · cases he
theorem sn_28 (C0 : Ctx p R s m args c cells slots A own bytes nL D w sa sv) (hc : chkB own bytes nL lp ret pc (28, len, x, l0) = true) (he : stepR (28, len, x, l0) pc L st h = some (.inl (pc', L', st', h'))) (K : Sim p l e R s m args below meth c cells slots Z A D w sa sb nL lp pc' L' st' h') : Sim p l e R s m args below meth c cells slots Z A D w sa sb nL lp pc L st h := by
  simp only [stepR] at he
  split at he
  · simp only [nxt, Option.some.injEq, Sum.inl.injEq, Prod.mk.injEq] at he
    obtain ⟨rfl, rfl, rfl, rfl⟩ := he
    exact so_28 C0 hc K
  · cases he
theorem sn_29 (C0 : Ctx p R s m args c cells slots A own bytes nL D w sa sv) (hc : chkB own bytes nL lp ret pc (29, len, x, l0) = true) (he : stepR (29, len, x, l0) pc L st h = some (.inl (pc', L', st', h'))) (K : Sim p l e R s m args below meth c cells slots Z A D w sa sb nL lp pc' L' st' h') : Sim p l e R s m args below meth c cells slots Z A D w sa sb nL lp pc L st h := by
  simp only [stepR] at he
  split at he
  · simp only [nxt, Option.some.injEq, Sum.inl.injEq, Prod.mk.injEq] at he
    obtain ⟨rfl, rfl, rfl, rfl⟩ := he
    exact so_29 C0 hc K
  · cases he
theorem sn_30 (C0 : Ctx p R s m args c cells slots A own bytes nL D w sa sv) (hc : chkB own bytes nL lp ret pc (30, len, x, l0) = true) (he : stepR (30, len, x, l0) pc L st h = some (.inl (pc', L', st', h'))) (K : Sim p l e R s m args below meth c cells slots Z A D w sa sb nL lp pc' L' st' h') : Sim p l e R s m args below meth c cells slots Z A D w sa sb nL lp pc L st h := by
  simp only [stepR] at he
  split at he
  · simp only [nxt, Option.some.injEq, Sum.inl.injEq, Prod.mk.injEq] at he
    obtain ⟨rfl, rfl, rfl, rfl⟩ := he
    exact so_30 C0 hc K
  · cases he
theorem sn_31 (C0 : Ctx p R s m args c cells slots A own bytes nL D w sa sv) (hc : chkB own bytes nL lp ret pc (31, len, x, l0) = true) (he : stepR (31, len, x, l0) pc L st h = some (.inl (pc', L', st', h'))) (K : Sim p l e R s m args below meth c cells slots Z A D w sa sb nL lp pc' L' st' h') : Sim p l e R s m args below meth c cells slots Z A D w sa sb nL lp pc L st h := by
  simp only [stepR] at he
  split at he
  · simp only [nxt, Option.some.injEq, Sum.inl.injEq, Prod.mk.injEq] at he
    obtain ⟨rfl, rfl, rfl, rfl⟩ := he
    exact so_31 C0 hc K
  · cases he
theorem sn_32 (C0 : Ctx p R s m args c cells slots A own bytes nL D w sa sv) (hc : chkB own bytes nL lp ret pc (32, len, x, l0) = true) (he : stepR (32, len, x, l0) pc L st h = some (.inl (pc', L', st', h'))) (K : Sim p l e R s m args below meth c cells slots Z A D w sa sb nL lp pc' L' st' h') : Sim p l e R s m args below meth c cells slots Z A D w sa sb nL lp pc L st h := by
  simp only [stepR] at he
  split at he
  · simp only [nxt, Option.some.injEq, Sum.inl.injEq, Prod.mk.injEq] at he
    obtain ⟨rfl, rfl, rfl, rfl⟩ := he
    exact so_32 C0 hc K
  · cases he
theorem sn_33 (C0 : Ctx p R s m args c cells slots A own bytes nL D w sa sv) (hc : chkB own bytes nL lp ret pc (33, len, x, l0) = true) (he : stepR (33, len, x, l0) pc L st h = some (.inl (pc', L', st', h'))) (K : Sim p l e R s m args below meth c cells slots Z A D w sa sb nL lp pc' L' st' h') : Sim p l e R s m args below meth c cells slots Z A D w sa sb nL lp pc L st h := by
  simp only [stepR] at he
  split at he
  · simp only [nxt, Option.some.injEq, Sum.inl.injEq, Prod.mk.injEq] at he
    obtain ⟨rfl, rfl, rfl, rfl⟩ := he
    exact so_33 C0 hc K
  · cases he
theorem sn_34 (C0 : Ctx p R s m args c cells slots A own bytes nL D w sa sv) (hc : chkB own bytes nL lp ret pc (34, len, x, l0) = true) (he : stepR (34, len, x, l0) pc L st h = some (.inl (pc', L', st', h'))) (K : Sim p l e R s m args below meth c cells slots Z A D w sa sb nL lp pc' L' st' h') : Sim p l e R s m args below meth c cells slots Z A D w sa sb nL lp pc L st h := by
  simp only [stepR] at he
  split at he
  · simp only [nxt, Option.some.injEq, Sum.inl.injEq, Prod.mk.injEq] at he
    obtain ⟨rfl, rfl, rfl, rfl⟩ := he
    exact so_34 C0 hc K
  · cases he
theorem sn_35 (C0 : Ctx p R s m args c cells slots A own bytes nL D w sa sv) (hc : chkB own bytes nL lp ret pc (35, len, x, l0) = true) (he : stepR (35, len, x, l0) pc L st h = some (.inl (pc', L', st', h'))) (K : Sim p l e R s m args below meth c cells slots Z A D w sa sb nL lp pc' L' st' h') : Sim p l e R s m args below meth c cells slots Z A D w sa sb nL lp pc L st h := by
  simp only [stepR] at he
  split at he
  · simp only [nxt, Option.some.injEq, Sum.inl.injEq, Prod.mk.injEq] at he
    obtain ⟨rfl, rfl, rfl, rfl⟩ := he
    exact so_35 C0 hc K
  · cases he
theorem sn_36 (C0 : Ctx p R s m args c cells slots A own bytes nL D w sa sv) (hc : chkB own bytes nL lp ret pc (36, len, x, l0) = true) (he : stepR (36, len, x, l0) pc L st h = some (.inl (pc', L', st', h'))) (K : Sim p l e R s m args below meth c cells slots Z A D w sa sb nL lp pc' L' st' h') : Sim p l e R s m args below meth c cells slots Z A D w sa sb nL lp pc L st h := by
  simp only [stepR] at he
  split at he
  · simp only [nxt, Option.some.injEq, Sum.inl.injEq, Prod.mk.injEq] at he
    obtain ⟨rfl, rfl, rfl, rfl⟩ := he
    exact so_36 C0 hc K
  · cases he
theorem sn_37 (C0 : Ctx p R s m args c cells slots A own bytes nL D w sa sv) (hc : chkB own bytes nL lp ret pc (37, len, x, l0) = true) (he : stepR (37, len, x, l0) pc L st h = some (.inl (pc', L', st', h'))) (K : Sim p l e R s m args below meth c cells slots Z A D w sa sb nL lp pc' L' st' h') : Sim p l e R s m args below meth c cells slots Z A D w sa sb nL lp pc L st h := by
  simp only [stepR] at he
  split at he
  · simp only [nxt, Option.some.injEq, Sum.inl.injEq, Prod.mk.injEq] at he
    obtain ⟨rfl, rfl, rfl, rfl⟩ := he
    exact so_37 C0 hc K
  · cases he
theorem sn_38 (C0 : Ctx p R s m args c cells slots A own bytes nL D w sa sv) (hc : chkB own bytes nL lp ret pc (38, len, x, l0) = true) (he : stepR (38, len, x, l0) pc L st h = some (.inl (pc', L', st', h'))) (K : Sim p l e R s m args below meth c cells slots Z A D w sa sb nL lp pc' L' st' h') : Sim p l e R s m args below meth c cells slots Z A D w sa sb nL lp pc L st h := by
  simp only [stepR] at he
  split at he
  · simp only [nxt, Option.some.injEq, Sum.inl.injEq, Prod.mk.injEq] at he
    obtain ⟨rfl, rfl, rfl, rfl⟩ := he
    exact so_38 C0 hc K
  · cases he
theorem sn_39 (C0 : Ctx p R s m args c cells slots A own bytes nL D w sa sv) (hc : chkB own bytes nL lp ret pc (39, len, x, l0) = true) (he : stepR (39, len, x, l0) pc L st h = some (.inl (pc', L', st', h'))) (K : Sim p l e R s m args below meth c cells slots Z A D w sa sb nL lp pc' L' st' h') : Sim p l e R s m args below meth c cells slots Z A D w sa sb nL lp pc L st h := by
  simp only [stepR] at he
  split at he
  · simp only [nxt, Option.some.injEq, Sum.inl.injEq, Prod.mk.injEq] at he
    obtain ⟨rfl, rfl, rfl, rfl⟩ := he
    exact so_39 C0 hc K
  · cases he
theorem sn_41 (C0 : Ctx p R s m args c cells slots A own bytes nL D w sa sv) (hc : chkB own bytes nL lp ret pc (41, len, x, l0) = true) (he : stepR (41, len, x, l0) pc L st h = some (.inl (pc', L', st', h'))) (K : Sim p l e R s m args below meth c cells slots Z A D w sa sb nL lp pc' L' st' h') : Sim p l e R s m args below meth c cells slots Z A D w sa sb nL lp pc L st h := by
  simp only [stepR] at he
  split at he
  · simp only [nxt, Option.some.injEq, Sum.inl.injEq, Prod.mk.injEq] at he
    obtain ⟨rfl, rfl, rfl, rfl⟩ := he
    exact so_41 C0 hc K
  · cases he
theorem sn_42 (C0 : Ctx p R s m args c cells slots A own bytes nL D w sa sv) (hc : chkB own bytes nL lp ret pc (42, len, x, l0) = true) (he : stepR (42, len, x, l0) pc L st h = some (.inl (pc', L', st', h'))) (K : Sim p l e R s m args below meth c cells slots Z A D w sa sb nL lp pc' L' st' h') : Sim p l e R s m args below meth c cells slots Z A D w sa sb nL lp pc L st h := by
  simp only [stepR] at he
  split at he
  · simp only [nxt, Option.some.injEq, Sum.inl.injEq, Prod.mk.injEq] at he
    obtain ⟨rfl, rfl, rfl, rfl⟩ := he
    exact so_42 C0 hc K
  · cases he
theorem sn_43 (C0 : Ctx p R s m args c cells slots A own bytes nL D w sa sv) (hc : chkB own bytes nL lp ret pc (43, len, x, l0) = true) (he : stepR (43, len, x, l0) pc L st h = some (.inl (pc', L', st', h'))) (K : Sim p l e R s m args below meth c cells slots Z A D w sa sb nL lp pc' L' st' h') : Sim p l e R s m args below meth c cells slots Z A D w sa sb nL lp pc L st h := by
  simp only [stepR] at he
  split at he
  · simp only [nxt, Option.some.injEq, Sum.inl.injEq, Prod.mk.injEq] at he
    obtain ⟨rfl, rfl, rfl, rfl⟩ := he
    exact so_43 C0 hc K
  · cases he
theorem sn_15 (C0 : Ctx p R s m args c cells slots A own bytes nL D w sa sv) (hc : chkB own bytes nL lp ret pc (15, len, x, l0) = true) (he : stepR (15, len, x, l0) pc L st h = some (.inl (pc', L', st', h'))) (K : Sim p l e R s m args below meth c cells slots Z A D w sa sb nL lp pc' L' st' h') : Sim p l e R s m args below meth c cells slots Z A D w sa sb nL lp pc L st h := by
  match l0, hc, he with
  | [], hc, _ => exact (Bool.false_ne_true hc).elim
  | _ :: _ :: _, hc, _ => exact (Bool.false_ne_true hc).elim
  | [i], hc, he =>
    simp only [stepR] at he
    split at he
    · next hL =>
      simp only [nxt, Option.some.injEq, Sum.inl.injEq, Prod.mk.injEq] at he
      obtain ⟨rfl, rfl, rfl, rfl⟩ := he
      exact so_15 C0 hc hL K
    · cases he
theorem sn_23 (C0 : Ctx p R s m args c cells slots A own bytes nL D w sa sv) (hc : chkB own bytes nL lp ret pc (23, len, x, l0) = true) (he : stepR (23, len, x, l0) pc L st h = some (.inl (pc', L', st', h'))) (K : Sim p l e R s m args below meth c cells slots Z A D w sa sb nL lp pc' L' st' h') : Sim p l e R s m args below meth c cells slots Z A D w sa sb nL lp pc L st h := by
  simp only [stepR] at he
  split at he
  · split at he
    · next hg =>
      simp only [nxt, Option.some.injEq, Sum.inl.injEq, Prod.mk.injEq] at he
      obtain ⟨rfl, rfl, rfl, rfl⟩ := he
      exact so_23 C0 hc hg K
    · cases he
  · cases he
theorem sn_24 (C0 : Ctx p R s m args c cells slots A own bytes nL D w sa sv) (hc : chkB own bytes nL lp ret pc (24, len, x, l0) = true) (he : stepR (24, len, x, l0) pc L st h = some (.inl (pc', L', st', h'))) (K : Sim p l e R s m args below meth c cells slots Z A D w sa sb nL lp pc' L' st' h') : Sim p l e R s m args below meth c cells slots Z A D w sa sb nL lp pc L st h := by
  simp only [stepR] at he
  split at he
  · split at he
    · next hg =>
      simp only [nxt, Option.some.injEq, Sum.inl.injEq, Prod.mk.injEq] at he
      obtain ⟨rfl, rfl, rfl, rfl⟩ := he
      exact so_24 C0 hc hg K
    · cases he
  · cases he
theorem sn_75 (C0 : Ctx p R s m args c cells slots A own bytes nL D w sa sv) (hc : chkB own bytes nL lp ret pc (75, len, x, l0) = true) (he : stepR (75, len, x, l0) pc L st h = some (.inl (pc', L', st', h'))) (K : Sim p l e R s m args below meth c cells slots Z A D w sa sb nL lp pc' L' st' h') : Sim p l e R s m args below meth c cells slots Z A D w sa sb nL lp pc L st h := by
  simp only [stepR] at he
  split at he
  · split at he
    · next hg =>
      simp only [nxt, Option.some.injEq, Sum.inl.injEq, Prod.mk.injEq] at he
      obtain ⟨rfl, rfl, rfl, rfl⟩ := he
      exact so_75 C0 hc hg K
    · cases he
  · cases he
theorem sn_76 (C0 : Ctx p R s m args c cells slots A own bytes nL D w sa sv) (hc : chkB own bytes nL lp ret pc (76, len, x, l0) = true) (he : stepR (76, len, x, l0) pc L st h = some (.inl (pc', L', st', h'))) (K : Sim p l e R s m args below meth c cells slots Z A D w sa sb nL lp pc' L' st' h') : Sim p l e R s m args below meth c cells slots Z A D w sa sb nL lp pc L st h := by
  simp only [stepR] at he
  split at he
  · split at he
    · next hg =>
      simp only [nxt, Option.some.injEq, Sum.inl.injEq, Prod.mk.injEq] at he
      obtain ⟨rfl, rfl, rfl, rfl⟩ := he
      exact so_76 C0 hc hg K
    · cases he
  · cases he
theorem sn_77 (C0 : Ctx p R s m args c cells slots A own bytes nL D w sa sv) (hc : chkB own bytes nL lp ret pc (77, len, x, l0) = true) (he : stepR (77, len, x, l0) pc L st h = some (.inl (pc', L', st', h'))) (K : Sim p l e R s m args below meth c cells slots Z A D w sa sb nL lp pc' L' st' h') : Sim p l e R s m args below meth c cells slots Z A D w sa sb nL lp pc L st h := by
  simp only [stepR] at he
  split at he
  · split at he
    · next hg =>
      simp only [nxt, Option.some.injEq, Sum.inl.injEq, Prod.mk.injEq] at he
      obtain ⟨rfl, rfl, rfl, rfl⟩ := he
      exact so_77 C0 hc hg K
    · cases he
  · cases he
theorem sn_78 (C0 : Ctx p R s m args c cells slots A own bytes nL D w sa sv) (hc : chkB own bytes nL lp ret pc (78, len, x, l0) = true) (he : stepR (78, len, x, l0) pc L st h = some (.inl (pc', L', st', h'))) (K : Sim p l e R s m args below meth c cells slots Z A D w sa sb nL lp pc' L' st' h') : Sim p l e R s m args below meth c cells slots Z A D w sa sb nL lp pc L st h := by
  simp only [stepR] at he
  split at he
  · split at he
    · next hg =>
      simp only [nxt, Option.some.injEq, Sum.inl.injEq, Prod.mk.injEq] at he
      obtain ⟨rfl, rfl, rfl, rfl⟩ := he
      exact so_78 C0 hc hg K
    · cases he
  · cases he
theorem sn_40 (C0 : Ctx p R s m args c cells slots A own bytes nL D w sa sv) (hc : chkB own bytes nL lp ret pc (40, len, x, l0) = true) (he : stepR (40, len, x, l0) pc L st h = some (.inl (pc', L', st', h'))) (K : Sim p l e R s m args below meth c cells slots Z A D w sa sb nL lp pc' L' st' h') : Sim p l e R s m args below meth c cells slots Z A D w sa sb nL lp pc L st h := by
  simp only [stepR] at he
  split at he
  · simp only [nxt, Option.some.injEq, Sum.inl.injEq, Prod.mk.injEq] at he
    obtain ⟨rfl, rfl, rfl, rfl⟩ := he
    exact so_40 C0 hc K
  · simp only [nxt, Option.some.injEq, Sum.inl.injEq, Prod.mk.injEq] at he
    obtain ⟨rfl, rfl, rfl, rfl⟩ := he
    exact so_40r C0 hc K
  · cases he
theorem sn_46 (C0 : Ctx p R s m args c cells slots A own bytes nL D w sa sv) (hc : chkB own bytes nL lp ret pc (46, len, x, l0) = true) (he : stepR (46, len, x, l0) pc L st h = some (.inl (pc', L', st', h'))) (K : Sim p l e R s m args below meth c cells slots Z A D w sa sb nL lp pc' L' st' h') : Sim p l e R s m args below meth c cells slots Z A D w sa sb nL lp pc L st h := by
  simp only [stepR] at he
  split at he
  · simp only [nxt, Option.some.injEq, Sum.inl.injEq, Prod.mk.injEq] at he
    obtain ⟨rfl, rfl, rfl, rfl⟩ := he
    exact so_46 C0 hc K
  · cases he
theorem sn_47 (C0 : Ctx p R s m args c cells slots A own bytes nL D w sa sv) (hc : chkB own bytes nL lp ret pc (47, len, x, l0) = true) (he : stepR (47, len, x, l0) pc L st h = some (.inl (pc', L', st', h'))) (K : Sim p l e R s m args below meth c cells slots Z A D w sa sb nL lp pc' L' st' h') : Sim p l e R s m args below meth c cells slots Z A D w sa sb nL lp pc L st h := by
  simp only [stepR] at he
  split at he
  · simp only [nxt, Option.some.injEq, Sum.inl.injEq, Prod.mk.injEq] at he
    obtain ⟨rfl, rfl, rfl, rfl⟩ := he
    exact so_47 C0 hc K
  · cases he
theorem sn_48 (C0 : Ctx p R s m args c cells slots A own bytes nL D w sa sv) (hc : chkB own bytes nL lp ret pc (48, len, x, l0) = true) (he : stepR (48, len, x, l0) pc L st h = some (.inl (pc', L', st', h'))) (K : Sim p l e R s m args below meth c cells slots Z A D w sa sb nL lp pc' L' st' h') : Sim p l e R s m args below meth c cells slots Z A D w sa sb nL lp pc L st h := by
  simp only [stepR] at he
  split at he
  · simp only [nxt, Option.some.injEq, Sum.inl.injEq, Prod.mk.injEq] at he
    obtain ⟨rfl, rfl, rfl, rfl⟩ := he
    exact so_48 C0 hc K
  · cases he
theorem sn_49 (C0 : Ctx p R s m args c cells slots A own bytes nL D w sa sv) (hc : chkB own bytes nL lp ret pc (49, len, x, l0) = true) (he : stepR (49, len, x, l0) pc L st h = some (.inl (pc', L', st', h'))) (K : Sim p l e R s m args below meth c cells slots Z A D w sa sb nL lp pc' L' st' h') : Sim p l e R s m args below meth c cells slots Z A D w sa sb nL lp pc L st h := by
  simp only [stepR] at he
  split at he
  · simp only [nxt, Option.some.injEq, Sum.inl.injEq, Prod.mk.injEq] at he
    obtain ⟨rfl, rfl, rfl, rfl⟩ := he
    exact so_49 C0 hc K
  · cases he
theorem sn_50 (C0 : Ctx p R s m args c cells slots A own bytes nL D w sa sv) (hc : chkB own bytes nL lp ret pc (50, len, x, l0) = true) (he : stepR (50, len, x, l0) pc L st h = some (.inl (pc', L', st', h'))) (K : Sim p l e R s m args below meth c cells slots Z A D w sa sb nL lp pc' L' st' h') : Sim p l e R s m args below meth c cells slots Z A D w sa sb nL lp pc L st h := by
  simp only [stepR] at he
  split at he
  · simp only [nxt, Option.some.injEq, Sum.inl.injEq, Prod.mk.injEq] at he
    obtain ⟨rfl, rfl, rfl, rfl⟩ := he
    exact so_50 C0 hc K
  · cases he
theorem sn_51 (C0 : Ctx p R s m args c cells slots A own bytes nL D w sa sv) (hc : chkB own bytes nL lp ret pc (51, len, x, l0) = true) (he : stepR (51, len, x, l0) pc L st h = some (.inl (pc', L', st', h'))) (K : Sim p l e R s m args below meth c cells slots Z A D w sa sb nL lp pc' L' st' h') : Sim p l e R s m args below meth c cells slots Z A D w sa sb nL lp pc L st h := by
  simp only [stepR] at he
  split at he
  · simp only [nxt, Option.some.injEq, Sum.inl.injEq, Prod.mk.injEq] at he
    obtain ⟨rfl, rfl, rfl, rfl⟩ := he
    exact so_51 C0 hc K
  · cases he
theorem sn_52 (C0 : Ctx p R s m args c cells slots A own bytes nL D w sa sv) (hc : chkB own bytes nL lp ret pc (52, len, x, l0) = true) (he : stepR (52, len, x, l0) pc L st h = some (.inl (pc', L', st', h'))) (K : Sim p l e R s m args below meth c cells slots Z A D w sa sb nL lp pc' L' st' h') : Sim p l e R s m args below meth c cells slots Z A D w sa sb nL lp pc L st h := by
  simp only [stepR] at he
  split at he
  · simp only [nxt, Option.some.injEq, Sum.inl.injEq, Prod.mk.injEq] at he
    obtain ⟨rfl, rfl, rfl, rfl⟩ := he
    exact so_52 C0 hc K
  · cases he
theorem sn_53 (C0 : Ctx p R s m args c cells slots A own bytes nL D w sa sv) (hc : chkB own bytes nL lp ret pc (53, len, x, l0) = true) (he : stepR (53, len, x, l0) pc L st h = some (.inl (pc', L', st', h'))) (K : Sim p l e R s m args below meth c cells slots Z A D w sa sb nL lp pc' L' st' h') : Sim p l e R s m args below meth c cells slots Z A D w sa sb nL lp pc L st h := by
  simp only [stepR] at he
  split at he
  · simp only [nxt, Option.some.injEq, Sum.inl.injEq, Prod.mk.injEq] at he
    obtain ⟨rfl, rfl, rfl, rfl⟩ := he
    exact so_53 C0 hc K
  · cases he
theorem sn_54 (C0 : Ctx p R s m args c cells slots A own bytes nL D w sa sv) (hc : chkB own bytes nL lp ret pc (54, len, x, l0) = true) (he : stepR (54, len, x, l0) pc L st h = some (.inl (pc', L', st', h'))) (K : Sim p l e R s m args below meth c cells slots Z A D w sa sb nL lp pc' L' st' h') : Sim p l e R s m args below meth c cells slots Z A D w sa sb nL lp pc L st h := by
  simp only [stepR] at he
  split at he
  · simp only [nxt, Option.some.injEq, Sum.inl.injEq, Prod.mk.injEq] at he
    obtain ⟨rfl, rfl, rfl, rfl⟩ := he
    exact so_54 C0 hc K
  · cases he
theorem sn_55 (C0 : Ctx p R s m args c cells slots A own bytes nL D w sa sv) (hc : chkB own bytes nL lp ret pc (55, len, x, l0) = true) (he : stepR (55, len, x, l0) pc L st h = some (.inl (pc', L', st', h'))) (K : Sim p l e R s m args below meth c cells slots Z A D w sa sb nL lp pc' L' st' h') : Sim p l e R s m args below meth c cells slots Z A D w sa sb nL lp pc L st h := by
  simp only [stepR] at he
  split at he
  · simp only [nxt, Option.some.injEq, Sum.inl.injEq, Prod.mk.injEq] at he
    obtain ⟨rfl, rfl, rfl, rfl⟩ := he
    exact so_55 C0 hc K
  · cases he
theorem sn_56 (C0 : Ctx p R s m args c cells slots A own bytes nL D w sa sv) (hc : chkB own bytes nL lp ret pc (56, len, x, l0) = true) (he : stepR (56, len, x, l0) pc L st h = some (.inl (pc', L', st', h'))) (K : Sim p l e R s m args below meth c cells slots Z A D w sa sb nL lp pc' L' st' h') : Sim p l e R s m args below meth c cells slots Z A D w sa sb nL lp pc L st h := by
  simp only [stepR] at he
  split at he
  · simp only [nxt, Option.some.injEq, Sum.inl.injEq, Prod.mk.injEq] at he
    obtain ⟨rfl, rfl, rfl, rfl⟩ := he
    exact so_56 C0 hc K
  · cases he
theorem sn_57 (C0 : Ctx p R s m args c cells slots A own bytes nL D w sa sv) (hc : chkB own bytes nL lp ret pc (57, len, x, l0) = true) (he : stepR (57, len, x, l0) pc L st h = some (.inl (pc', L', st', h'))) (K : Sim p l e R s m args below meth c cells slots Z A D w sa sb nL lp pc' L' st' h') : Sim p l e R s m args below meth c cells slots Z A D w sa sb nL lp pc L st h := by
  simp only [stepR] at he
  split at he
  · simp only [nxt, Option.some.injEq, Sum.inl.injEq, Prod.mk.injEq] at he
    obtain ⟨rfl, rfl, rfl, rfl⟩ := he
    exact so_57 C0 hc K
  · cases he
theorem sn_58 (C0 : Ctx p R s m args c cells slots A own bytes nL D w sa sv) (hc : chkB own bytes nL lp ret pc (58, len, x, l0) = true) (he : stepR (58, len, x, l0) pc L st h = some (.inl (pc', L', st', h'))) (K : Sim p l e R s m args below meth c cells slots Z A D w sa sb nL lp pc' L' st' h') : Sim p l e R s m args below meth c cells slots Z A D w sa sb nL lp pc L st h := by
  simp only [stepR] at he
  split at he
  · simp only [nxt, Option.some.injEq, Sum.inl.injEq, Prod.mk.injEq] at he
    obtain ⟨rfl, rfl, rfl, rfl⟩ := he
    exact so_58 C0 hc K
  · simp only [nxt, Option.some.injEq, Sum.inl.injEq, Prod.mk.injEq] at he
    obtain ⟨rfl, rfl, rfl, rfl⟩ := he
    exact so_58n C0 hc K
  · cases he
theorem sn_59 (C0 : Ctx p R s m args c cells slots A own bytes nL D w sa sv) (hc : chkB own bytes nL lp ret pc (59, len, x, l0) = true) (he : stepR (59, len, x, l0) pc L st h = some (.inl (pc', L', st', h'))) (K : Sim p l e R s m args below meth c cells slots Z A D w sa sb nL lp pc' L' st' h') : Sim p l e R s m args below meth c cells slots Z A D w sa sb nL lp pc L st h := by
  simp only [stepR] at he
  split at he
  · simp only [nxt, Option.some.injEq, Sum.inl.injEq, Prod.mk.injEq] at he
    obtain ⟨rfl, rfl, rfl, rfl⟩ := he
    exact so_59 C0 hc K
  · simp only [nxt, Option.some.injEq, Sum.inl.injEq, Prod.mk.injEq] at he
    obtain ⟨rfl, rfl, rfl, rfl⟩ := he
    exact so_59n C0 hc K
  · cases he
theorem sn_60 (C0 : Ctx p R s m args c cells slots A own bytes nL D w sa sv) (hc : chkB own bytes nL lp ret pc (60, len, x, l0) = true) (he : stepR (60, len, x, l0) pc L st h = some (.inl (pc', L', st', h'))) (K : Sim p l e R s m args below meth c cells slots Z A D w sa sb nL lp pc' L' st' h') : Sim p l e R s m args below meth c cells slots Z A D w sa sb nL lp pc L st h := by
  simp only [stepR] at he
  split at he
  · simp only [nxt, Option.some.injEq, Sum.inl.injEq, Prod.mk.injEq] at he
    obtain ⟨rfl, rfl, rfl, rfl⟩ := he
    exact so_60 C0 hc K
  · cases he
theorem sn_61 (C0 : Ctx p R s m args c cells slots A own bytes nL D w sa sv) (hc : chkB own bytes nL lp ret pc (61, len, x, l0) = true) (he : stepR (61, len, x, l0) pc L st h = some (.inl (pc', L', st', h'))) (K : Sim p l e R s m args below meth c cells slots Z A D w sa sb nL lp pc' L' st' h') : Sim p l e R s m args below meth c cells slots Z A D w sa sb nL lp pc L st h := by
  simp only [stepR] at he
  split at he
  · simp only [nxt, Option.some.injEq, Sum.inl.injEq, Prod.mk.injEq] at he
    obtain ⟨rfl, rfl, rfl, rfl⟩ := he
    exact so_61 C0 hc K
  · cases he
theorem sn_65 (C0 : Ctx p R s m args c cells slots A own bytes nL D w sa sv) (hc : chkB own bytes nL lp ret pc (65, len, x, l0) = true) (he : stepR (65, len, x, l0) pc L st h = some (.inl (pc', L', st', h'))) (K : Sim p l e R s m args below meth c cells slots Z A D w sa sb nL lp pc' L' st' h') : Sim p l e R s m args below meth c cells slots Z A D w sa sb nL lp pc L st h := by
  match l0, hc, he with
  | [], hc, _ => exact (Bool.false_ne_true hc).elim
  | [_], hc, _ => exact (Bool.false_ne_true hc).elim
  | [_, _], hc, _ => exact (Bool.false_ne_true hc).elim
  | _ :: _ :: _ :: _ :: _, hc, _ => exact (Bool.false_ne_true hc).elim
  | [m', j, e'], hc, he =>
    have he2 : (match st with | .inr (.inr (.inl (g, m))) :: r => if m = m'.toNat then nxt (pc + len) L (.inl (h g m j.toNat) :: r) h else none | _ => none) = some (.inl (pc', L', st', h')) := he
    split at he2
    · split at he2
      · next hm =>
        subst hm
        simp only [nxt, Option.some.injEq, Sum.inl.injEq, Prod.mk.injEq] at he2
        obtain ⟨rfl, rfl, rfl, rfl⟩ := he2
        exact so_65 C0 hc K
      · cases he2
    · cases he2
theorem sn_66 (C0 : Ctx p R s m args c cells slots A own bytes nL D w sa sv) (hc : chkB own bytes nL lp ret pc (66, len, x, l0) = true) (he : stepR (66, len, x, l0) pc L st h = some (.inl (pc', L', st', h'))) (K : Sim p l e R s m args below meth c cells slots Z A D w sa sb nL lp pc' L' st' h') : Sim p l e R s m args below meth c cells slots Z A D w sa sb nL lp pc L st h := by
  match l0, hc, he with
  | [], hc, _ => exact (Bool.false_ne_true hc).elim
  | [_], hc, _ => exact (Bool.false_ne_true hc).elim
  | [_, _], hc, _ => exact (Bool.false_ne_true hc).elim
  | _ :: _ :: _ :: _ :: _, hc, _ => exact (Bool.false_ne_true hc).elim
  | [m', j, e'], hc, he =>
    have he2 : (match st with | .inr (.inr (.inl (g, m))) :: r => if m = m'.toNat then nxt (pc + len) L (vR g j.toNat :: r) h else none | _ => none) = some (.inl (pc', L', st', h')) := he
    split at he2
    · split at he2
      · next hm =>
        subst hm
        simp only [nxt, Option.some.injEq, Sum.inl.injEq, Prod.mk.injEq] at he2
        obtain ⟨rfl, rfl, rfl, rfl⟩ := he2
        exact so_66 C0 hc K
      · cases he2
    · cases he2
theorem sn_67 (C0 : Ctx p R s m args c cells slots A own bytes nL D w sa sv) (hc : chkB own bytes nL lp ret pc (67, len, x, l0) = true) (he : stepR (67, len, x, l0) pc L st h = some (.inl (pc', L', st', h'))) (K : Sim p l e R s m args below meth c cells slots Z A D w sa sb nL lp pc' L' st' h') : Sim p l e R s m args below meth c cells slots Z A D w sa sb nL lp pc L st h := by
  match l0, hc, he with
  | [], hc, _ => exact (Bool.false_ne_true hc).elim
  | [_], hc, _ => exact (Bool.false_ne_true hc).elim
  | [_, _], hc, _ => exact (Bool.false_ne_true hc).elim
  | _ :: _ :: _ :: _ :: _, hc, _ => exact (Bool.false_ne_true hc).elim
  | [m', j, e'], hc, he =>
    have he2 : (match st with | .inr (.inr (.inl (_, m))) :: r => if m = m'.toNat then nxt (pc + len) L (vR x.toNat j.toNat :: r) h else none | _ => none) = some (.inl (pc', L', st', h')) := he
    split at he2
    · split at he2
      · next hm =>
        subst hm
        simp only [nxt, Option.some.injEq, Sum.inl.injEq, Prod.mk.injEq] at he2
        obtain ⟨rfl, rfl, rfl, rfl⟩ := he2
        exact so_67 C0 hc K
      · cases he2
    · cases he2
theorem sn_70 (C0 : Ctx p R s m args c cells slots A own bytes nL D w sa sv) (hc : chkB own bytes nL lp ret pc (70, len, x, l0) = true) (he : stepR (70, len, x, l0) pc L st h = some (.inl (pc', L', st', h'))) (K : Sim p l e R s m args below meth c cells slots Z A D w sa sb nL lp pc' L' st' h') : Sim p l e R s m args below meth c cells slots Z A D w sa sb nL lp pc L st h := by
  match l0, hc, he with
  | [], hc, _ => exact (Bool.false_ne_true hc).elim
  | [_], hc, _ => exact (Bool.false_ne_true hc).elim
  | [_, _], hc, _ => exact (Bool.false_ne_true hc).elim
  | _ :: _ :: _ :: _ :: _, hc, _ => exact (Bool.false_ne_true hc).elim
  | [m', j, e'], hc, he =>
    simp only [stepR] at he
    split at he
    · split at he
      · next hm =>
        subst hm
        simp only [nxt, Option.some.injEq, Sum.inl.injEq, Prod.mk.injEq] at he
        obtain ⟨rfl, rfl, rfl, rfl⟩ := he
        exact so_70 C0 hc K
      · cases he
    · cases he
theorem sn_71 (C0 : Ctx p R s m args c cells slots A own bytes nL D w sa sv) (hc : chkB own bytes nL lp ret pc (71, len, x, l0) = true) (he : stepR (71, len, x, l0) pc L st h = some (.inl (pc', L', st', h'))) (K : Sim p l e R s m args below meth c cells slots Z A D w sa sb nL lp pc' L' st' h') : Sim p l e R s m args below meth c cells slots Z A D w sa sb nL lp pc L st h := by
  match l0, hc, he with
  | [], hc, _ => exact (Bool.false_ne_true hc).elim
  | [_], hc, _ => exact (Bool.false_ne_true hc).elim
  | [_, _], hc, _ => exact (Bool.false_ne_true hc).elim
  | _ :: _ :: _ :: _ :: _, hc, _ => exact (Bool.false_ne_true hc).elim
  | [m', j, e'], hc, he =>
    simp only [stepR] at he
    split at he
    · split at he
      · next hm =>
        obtain ⟨hm, hx⟩ := hm
        subst hm
        simp only [nxt, Option.some.injEq, Sum.inl.injEq, Prod.mk.injEq] at he
        obtain ⟨rfl, rfl, rfl, rfl⟩ := he
        exact so_71 C0 hc hx K
      · cases he
    · cases he
theorem sn_68 (C0 : Ctx p R s m args c cells slots A own bytes nL D w sa sv) (hc : chkB own bytes nL lp ret pc (68, len, x, l0) = true) (he : stepR (68, len, x, l0) pc L st h = some (.inl (pc', L', st', h'))) (K : Sim p l e R s m args below meth c cells slots Z A D w sa sb nL lp pc' L' st' h') : Sim p l e R s m args below meth c cells slots Z A D w sa sb nL lp pc L st h := by
  match l0, hc, he with
  | [], hc, _ => exact (Bool.false_ne_true hc).elim
  | [_], hc, _ => exact (Bool.false_ne_true hc).elim
  | [_, _], hc, _ => exact (Bool.false_ne_true hc).elim
  | _ :: _ :: _ :: _ :: _, hc, _ => exact (Bool.false_ne_true hc).elim
  | [m', j, e'], hc, he =>
    simp only [stepR] at he
    split at he
    · split at he
      · next hm =>
        subst hm
        split at he
        · next hq =>
          simp only [nxt, Option.some.injEq, Sum.inl.injEq, Prod.mk.injEq] at he
          obtain ⟨rfl, rfl, rfl, rfl⟩ := he
          exact so_68 C0 hc ⟨fun _ => K, fun q => absurd hq q⟩
        · next hq =>
          simp only [nxt, Option.some.injEq, Sum.inl.injEq, Prod.mk.injEq] at he
          obtain ⟨rfl, rfl, rfl, rfl⟩ := he
          exact so_68 C0 hc ⟨fun q => absurd q hq, fun _ => K⟩
      · cases he
    · cases he
theorem sn_69 (C0 : Ctx p R s m args c cells slots A own bytes nL D w sa sv) (hc : chkB own bytes nL lp ret pc (69, len, x, l0) = true) (he : stepR (69, len, x, l0) pc L st h = some (.inl (pc', L', st', h'))) (K : Sim p l e R s m args below meth c cells slots Z A D w sa sb nL lp pc' L' st' h') : Sim p l e R s m args below meth c cells slots Z A D w sa sb nL lp pc L st h := by
  match l0, hc, he with
  | [], hc, _ => exact (Bool.false_ne_true hc).elim
  | [_], hc, _ => exact (Bool.false_ne_true hc).elim
  | [_, _], hc, _ => exact (Bool.false_ne_true hc).elim
  | _ :: _ :: _ :: _ :: _, hc, _ => exact (Bool.false_ne_true hc).elim
  | [m', j, e'], hc, he =>
    simp only [stepR] at he
    split at he
    · split at he
      · next hm =>
        subst hm
        split at he
        · next hq =>
          simp only [nxt, Option.some.injEq, Sum.inl.injEq, Prod.mk.injEq] at he
          obtain ⟨rfl, rfl, rfl, rfl⟩ := he
          exact so_69 C0 hc ⟨fun _ => K, fun q => absurd hq q⟩
        · next hq =>
          simp only [nxt, Option.some.injEq, Sum.inl.injEq, Prod.mk.injEq] at he
          obtain ⟨rfl, rfl, rfl, rfl⟩ := he
          exact so_69 C0 hc ⟨fun q => absurd q hq, fun _ => K⟩
      · cases he
    · cases he
theorem sn_72 (C0 : Ctx p R s m args c cells slots A own bytes nL D w sa sv) (hc : chkB own bytes nL lp ret pc (72, len, x, l0) = true) (he : stepR (72, len, x, l0) pc L st h = some (.inl (pc', L', st', h'))) (K : Sim p l e R s m args below meth c cells slots Z A D w sa sb nL lp pc' L' st' h') : Sim p l e R s m args below meth c cells slots Z A D w sa sb nL lp pc L st h := by
  match l0, hc, he with
  | [], hc, _ => exact (Bool.false_ne_true hc).elim
  | [_], hc, _ => exact (Bool.false_ne_true hc).elim
  | [_, _], hc, _ => exact (Bool.false_ne_true hc).elim
  | _ :: _ :: _ :: _ :: _, hc, _ => exact (Bool.false_ne_true hc).elim
  | [m', j, e'], hc, he =>
    simp only [stepR] at he
    split at he
    · split at he
      · next hm =>
        subst hm
        simp only [nxt, Option.some.injEq, Sum.inl.injEq, Prod.mk.injEq] at he
        obtain ⟨rfl, rfl, rfl, rfl⟩ := he
        exact so_72 C0 hc K
      · cases he
    · split at he
      · next hm =>
        subst hm
        simp only [nxt, Option.some.injEq, Sum.inl.injEq, Prod.mk.injEq] at he
        obtain ⟨rfl, rfl, rfl, rfl⟩ := he
        exact so_72n C0 hc K
      · cases he
    · cases he
theorem sn_73 (C0 : Ctx p R s m args c cells slots A own bytes nL D w sa sv) (hc : chkB own bytes nL lp ret pc (73, len, x, l0) = true) (he : stepR (73, len, x, l0) pc L st h = some (.inl (pc', L', st', h'))) (K : Sim p l e R s m args below meth c cells slots Z A D w sa sb nL lp pc' L' st' h') : Sim p l e R s m args below meth c cells slots Z A D w sa sb nL lp pc L st h := by
  match l0, hc, he with
  | [], hc, _ => exact (Bool.false_ne_true hc).elim
  | [_], hc, _ => exact (Bool.false_ne_true hc).elim
  | [_, _], hc, _ => exact (Bool.false_ne_true hc).elim
  | _ :: _ :: _ :: _ :: _, hc, _ => exact (Bool.false_ne_true hc).elim
  | [m', j, e'], hc, he =>
    simp only [stepR] at he
    split at he
    · split at he
      · next hm =>
        subst hm
        simp only [nxt, Option.some.injEq, Sum.inl.injEq, Prod.mk.injEq] at he
        obtain ⟨rfl, rfl, rfl, rfl⟩ := he
        exact so_73 C0 hc K
      · cases he
    · split at he
      · next hm =>
        subst hm
        simp only [nxt, Option.some.injEq, Sum.inl.injEq, Prod.mk.injEq] at he
        obtain ⟨rfl, rfl, rfl, rfl⟩ := he
        exact so_73n C0 hc K
      · cases he
    · cases he
theorem sn_79 (C0 : Ctx p R s m args c cells slots A own bytes nL D w sa sv) (hc : chkB own bytes nL lp ret pc (79, len, x, l0) = true) (he : stepR (79, len, x, l0) pc L st h = some (.inl (pc', L', st', h'))) (K : Sim p l e R s m args below meth c cells slots Z A D w sa sb nL lp pc' L' st' h') : Sim p l e R s m args below meth c cells slots Z A D w sa sb nL lp pc L st h := by
  simp only [stepR] at he
  split at he
  · split at he
    · next hg =>
      simp only [nxt, Option.some.injEq, Sum.inl.injEq, Prod.mk.injEq] at he
      obtain ⟨rfl, rfl, rfl, rfl⟩ := he
      exact so_79 C0 hc hg K
    · cases he
  · split at he
    · next hg =>
      simp only [nxt, Option.some.injEq, Sum.inl.injEq, Prod.mk.injEq] at he
      obtain ⟨rfl, rfl, rfl, rfl⟩ := he
      exact so_79s C0 hc hg K
    · cases he
  · cases he
theorem sn_80 (C0 : Ctx p R s m args c cells slots A own bytes nL D w sa sv) (hc : chkB own bytes nL lp ret pc (80, len, x, l0) = true) (he : stepR (80, len, x, l0) pc L st h = some (.inl (pc', L', st', h'))) (K : Sim p l e R s m args below meth c cells slots Z A D w sa sb nL lp pc' L' st' h') : Sim p l e R s m args below meth c cells slots Z A D w sa sb nL lp pc L st h := by
  simp only [stepR] at he
  split at he
  · simp only [nxt, Option.some.injEq, Sum.inl.injEq, Prod.mk.injEq] at he
    obtain ⟨rfl, rfl, rfl, rfl⟩ := he
    exact so_80 C0 hc K
  · cases he
theorem sn_90 (C0 : Ctx p R s m args c cells slots A own bytes nL D w sa sv) (hc : chkB own bytes nL lp ret pc (90, len, x, l0) = true) (he : stepR (90, len, x, l0) pc L st h = some (.inl (pc', L', st', h'))) (K : Sim p l e R s m args below meth c cells slots Z A D w sa sb nL lp pc' L' st' h') : Sim p l e R s m args below meth c cells slots Z A D w sa sb nL lp pc L st h := by
  match l0, hc, he with
  | [], hc, _ => exact (Bool.false_ne_true hc).elim
  | _ :: _ :: _, hc, _ => exact (Bool.false_ne_true hc).elim
  | [i], hc, he =>
    simp only [stepR] at he
    split at he
    · split at he
      · next hg =>
        simp only [nxt, Option.some.injEq, Sum.inl.injEq, Prod.mk.injEq] at he
        obtain ⟨rfl, rfl, rfl, rfl⟩ := he
        exact so_90 C0 hc hg K
      · cases he
    · cases he
theorem sn_91 (C0 : Ctx p R s m args c cells slots A own bytes nL D w sa sv) (hc : chkB own bytes nL lp ret pc (91, len, x, l0) = true) (he : stepR (91, len, x, l0) pc L st h = some (.inl (pc', L', st', h'))) (K : Sim p l e R s m args below meth c cells slots Z A D w sa sb nL lp pc' L' st' h') : Sim p l e R s m args below meth c cells slots Z A D w sa sb nL lp pc L st h := by
  match l0, hc, he with
  | [], hc, _ => exact (Bool.false_ne_true hc).elim
  | _ :: _ :: _, hc, _ => exact (Bool.false_ne_true hc).elim
  | [i], hc, he =>
    simp only [stepR] at he
    split at he
    · split at he
      · next hg =>
        simp only [nxt, Option.some.injEq, Sum.inl.injEq, Prod.mk.injEq] at he
        obtain ⟨rfl, rfl, rfl, rfl⟩ := he
        exact so_91 C0 hc hg K
      · cases he
    · cases he
theorem sn_92 (C0 : Ctx p R s m args c cells slots A own bytes nL D w sa sv) (hc : chkB own bytes nL lp ret pc (92, len, x, l0) = true) (he : stepR (92, len, x, l0) pc L st h = some (.inl (pc', L', st', h'))) (K : Sim p l e R s m args below meth c cells slots Z A D w sa sb nL lp pc' L' st' h') : Sim p l e R s m args below meth c cells slots Z A D w sa sb nL lp pc L st h := by
  match l0, hc, he with
  | [], hc, _ => exact (Bool.false_ne_true hc).elim
  | _ :: _ :: _, hc, _ => exact (Bool.false_ne_true hc).elim
  | [i], hc, he =>
    simp only [stepR] at he
    split at he
    · split at he
      · next hg =>
        simp only [nxt, Option.some.injEq, Sum.inl.injEq, Prod.mk.injEq] at he
        obtain ⟨rfl, rfl, rfl, rfl⟩ := he
        exact so_92 C0 hc hg K
      · cases he
    · cases he
theorem sn_93 (C0 : Ctx p R s m args c cells slots A own bytes nL D w sa sv) (hc : chkB own bytes nL lp ret pc (93, len, x, l0) = true) (he : stepR (93, len, x, l0) pc L st h = some (.inl (pc', L', st', h'))) (K : Sim p l e R s m args below meth c cells slots Z A D w sa sb nL lp pc' L' st' h') : Sim p l e R s m args below meth c cells slots Z A D w sa sb nL lp pc L st h := by
  match l0, hc, he with
  | [], hc, _ => exact (Bool.false_ne_true hc).elim
  | _ :: _ :: _, hc, _ => exact (Bool.false_ne_true hc).elim
  | [i], hc, he =>
    simp only [stepR] at he
    split at he
    · split at he
      · next hg =>
        simp only [nxt, Option.some.injEq, Sum.inl.injEq, Prod.mk.injEq] at he
        obtain ⟨rfl, rfl, rfl, rfl⟩ := he
        exact so_93 C0 hc hg K
      · cases he
    · cases he
theorem sn_94 (C0 : Ctx p R s m args c cells slots A own bytes nL D w sa sv) (hc : chkB own bytes nL lp ret pc (94, len, x, l0) = true) (he : stepR (94, len, x, l0) pc L st h = some (.inl (pc', L', st', h'))) (K : Sim p l e R s m args below meth c cells slots Z A D w sa sb nL lp pc' L' st' h') : Sim p l e R s m args below meth c cells slots Z A D w sa sb nL lp pc L st h := by
  match l0, hc, he with
  | [], hc, _ => exact (Bool.false_ne_true hc).elim
  | _ :: _ :: _, hc, _ => exact (Bool.false_ne_true hc).elim
  | [i], hc, he =>
    simp only [stepR] at he
    split at he
    · split at he
      · next hg =>
        simp only [nxt, Option.some.injEq, Sum.inl.injEq, Prod.mk.injEq] at he
        obtain ⟨rfl, rfl, rfl, rfl⟩ := he
        exact so_94 C0 hc hg K
      · cases he
    · cases he
end SON
