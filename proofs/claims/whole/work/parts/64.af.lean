/-! PURE: what no call touches (2) -/
theorem nthA_all {p : AI → Prop} (h0 : p (999, 0, 0, [])) : ∀ (l : List AI) (i : Nat), (∀ a ∈ l, p a) → p (nthA l i)
  | [], _, _ => by unfold nthA; exact h0
  | a :: l, 0, h => by unfold nthA; exact h a (List.mem_cons_self ..)
  | a :: l, i + 1, h => by unfold nthA; exact nthA_all h0 l i (fun b hb => h b (List.mem_cons_of_mem _ hb))
def cdB (ai : AI) : Bool := ai.1 != 67 || ai.2.2.1.toNat != 18
def cdAll : Nat → Bool
  | 0 => true
  | k + 1 => (codeL k).all cdB && cdAll k
theorem cdAll_iff : ∀ n, cdAll n = true → ∀ k, k < n → (codeL k).all cdB = true
  | 0, _, k, hk => absurd hk (by omega)
  | n + 1, h, k, hk => by
    unfold cdAll at h
    rw [Bool.and_eq_true] at h
    by_cases e : k = n
    · subst e; exact h.1
    · exact cdAll_iff n h.2 k (by omega)
theorem cd_ok : cdAll 237 = true := by decide +kernel
theorem cd_67 {k : Nat} (hk : k < 237) (pc : Nat) : (nthA (codeL k) pc).1 = 67 → (nthA (codeL k) pc).2.2.1.toNat ≠ 18 := by
  refine nthA_all (p := fun ai => ai.1 = 67 → ai.2.2.1.toNat ≠ 18) (fun e => absurd e (by decide)) _ _ (fun a ha e => ?_)
  have h1 := List.all_eq_true.mp (cdAll_iff 237 cd_ok k hk) a ha
  unfold cdB at h1
  rw [e] at h1
  simpa using h1
theorem exec18 {call : ACall} {C : Nat → AI} {Q : Option AV → AH → Prop} (hcall : ∀ k as h v h1, call k as h v h1 → OKL as → h1 18 = h 18 ∧ OKV v) (hC : ∀ pc, (C pc).1 = 67 → (C pc).2.2.1.toNat ≠ 18) : ∀ (n pc : Nat) (L st : List AV) (h : AH), OKL L → OKL st → ExecP call C Q n pc L st h → ∃ v h2, Q v h2 ∧ h2 18 = h 18 ∧ OKV v
  | 0, _, _, _, _, _, _, a => a.elim
  | n + 1, pc, L, st, h, hL, hs, a => by
    have S : P18 h (stepR (C pc) pc L st h) := by
      have hx := hC pc
      generalize C pc = ai at *
      obtain ⟨op, len, x, l⟩ := ai
      exact step18 hx hL hs
    simp only [ExecP] at a
    split at a
    · exact a.elim
    · next e =>
      rw [e] at S
      obtain ⟨v, h2, q, r, s⟩ := exec18 hcall hC n _ _ _ _ S.1 S.2.1 a
      exact ⟨v, h2, q, r.trans S.2.2, s⟩
    · next e =>
      rw [e] at S
      exact ⟨_, _, a, S.1, S.2⟩
    · next e =>
      rw [e] at S
      obtain ⟨S1, S2, S3, S4⟩ := S
      obtain ⟨h1, b, c⟩ := a
      have B := hcall _ _ _ _ _ b S1
      obtain ⟨v, h2, q, r, s⟩ := exec18 hcall hC n _ _ _ _ S2 S3 c
      exact ⟨v, h2, q, r.trans (B.1.trans S4), s⟩
    · next e =>
      rw [e] at S
      obtain ⟨S1, S2, S3, S4⟩ := S
      obtain ⟨w, h1, b, c⟩ := a
      have B := hcall _ _ _ _ _ b S1
      obtain ⟨v, h2, q, r, s⟩ := exec18 hcall hC n _ _ (w :: _) _ S2 (And.intro B.2 S3) c
      exact ⟨v, h2, q, r.trans (B.1.trans S4), s⟩
theorem OKL_rep : ∀ n, OKL (List.replicate n vU)
  | 0 => trivial
  | n + 1 => ⟨trivial, OKL_rep n⟩
theorem OKL_spr : ∀ {as : List AV}, OKL as → OKL (spreadA as)
  | [], _ => trivial
  | .inl _ :: r, h => ⟨trivial, OKL_spr (as := r) h.2⟩
  | .inr (.inl _) :: r, h => ⟨trivial, trivial, OKL_spr (as := r) h.2⟩
  | .inr (.inr _) :: r, h => ⟨h.1, OKL_spr (as := r) h.2⟩
theorem call18 : ∀ (d k : Nat) (as : List AV) (h : AH) (v : Option AV) (h1 : AH), CallR d k as h v h1 → OKL as → h1 18 = h 18 ∧ OKV v
  | 0, _, _, _, _, _, a, _ => a.elim
  | d + 1, k, as, h, v, h1, a, ha => by
    obtain ⟨r, n, e⟩ := CallR_succ.mp a
    have hk : k < 237 := by
      unfold recvOk at r
      simp only [Bool.and_eq_true, decide_eq_true_eq] at r
      exact r.1.1.1.1
    obtain ⟨w, h2, ⟨q1, q2⟩, q3, q4⟩ := exec18 (call18 d) (cd_67 hk) n 0 _ [] h (OKL_app (OKL_spr ha) (OKL_rep _)) trivial e
    rw [← q1, ← q2]
    exact ⟨q3, q4⟩
theorem OKI.x {S : VS} {d kX kM : Nat} {args : List AV} {h : AH} (R : REL S h) (ha : OKL args) (o : OKI S d kX kM args h) : ∃ (x : Int) (h1 h2 : AH), CallR (d + 30) kX (vR 16 10 :: args) h (some (vI x)) h1 ∧ CallR (d + 30) kM (vR 17 27 :: args) h1 (some (vI x)) h2 ∧ h1 18 = S ∧ h2 18 = S ∧ REL S h2 := by
  obtain ⟨x, h1, h2, a, b, c⟩ := o
  exact ⟨x, h1, h2, a, b, (call18 _ _ _ _ _ _ a ⟨(show (16 : Nat) ≠ 18 by decide), ha⟩).1.trans R.1, c.1, c⟩
theorem OKJ.x {S : VS} {d kX kM : Nat} {args : List AV} {h : AH} (R : REL S h) (ha : OKL args) (o : OKJ S d kX kM args h) : ∃ (x : Int) (h1 h2 : AH), CallR (d + 30) kX (vR 16 10 :: args) h (some (vJ x)) h1 ∧ CallR (d + 30) kM (vR 17 27 :: args) h1 (some (vJ x)) h2 ∧ h1 18 = S ∧ h2 18 = S ∧ REL S h2 := by
  obtain ⟨x, h1, h2, a, b, c⟩ := o
  exact ⟨x, h1, h2, a, b, (call18 _ _ _ _ _ _ a ⟨(show (16 : Nat) ≠ 18 by decide), ha⟩).1.trans R.1, c.1, c⟩
