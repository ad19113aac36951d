section SOD
variable {p : Program} {l : Launch} {e : Env} {R : Room} {s : State} {m : MethodId} {args : Array Value} {below : List Frame} {meth : Method} {c : Code} {cells slots : Nat} {Z : State → Prop} {A : Nat → Prop}
variable {own : String} {bytes : ByteArray} {nL : Nat} {lp : List Nat} {D : va_G} {w : AW} {sa sv : Nat → Nat} {sb : SB}
variable {pc len : Nat} {L st : List AV} {h h' : AH}
theorem so_call (C0 : Ctx p R s m args c cells slots A own bytes nL D w sa sv) {d k n v e' : Nat} {stB nest : Bool} {as : List AV} {rv : Option AV} (hc : mB own bytes pc len k n v e' stB nest = true) (hM : MetOf l d k as h rv h') (hok : recvOk k as = true) (has : as = (st.take n).reverse) (hlen : (st.drop n).length ≤ 4) (hR : d + 9 ≤ R.frames ∧ 64 * (d + 8) + 31 ≤ R.locals)
    (K : Sim p l e R s m args below meth c cells slots Z A D w sa sb nL lp (pc + len) L (rv.toList ++ st.drop n) h') : Sim p l e R s m args below meth c cells slots Z A D w sa sb nL lp pc L st h := by
  obtain ⟨hx, hb, hml, hown, hts, hnw, hK, hstr, hvs, hA, hroom⟩ := id C0
  unfold mB at hc
  split at hc
  · next own' idx k' nest' he =>
    simp only [Bool.and_eq_true, decide_eq_true_eq] at hc
    obtain ⟨⟨⟨⟨⟨⟨⟨rfl, rfl⟩, rfl⟩, hst⟩, hk⟩, hdq⟩, hn⟩, hv⟩ := hc
    obtain ⟨hdg, rfl⟩ := dqB_spec hdq
    intro H locs ls jst hw hl hs
    have hs1 := SR.rev (SR.take n hs)
    have hs2 := SR.drop n hs
    rw [← has] at hs1
    generalize hvseq : (jst.take n).reverse = vs at hs1
    have hj : jst = vs.reverse ++ jst.drop n := by rw [← hvseq, List.reverse_reverse, List.take_append_drop]
    have hm := hM D w sa sv sb H.size vs hs1
    obtain ⟨hmisc1, hmisc2, hplain, hmaxL, hdesc, hargT, hrec⟩ := M_misc k' hk
    obtain ⟨hcode, hini, hstat, hinst⟩ := mChk_spec hk
    have hlink := MLT_ok he
    simp only at hlink
    unfold recvOk at hok
    simp only [Bool.and_eq_true, beq_iff_eq, decide_eq_true_eq] at hok
    obtain ⟨⟨⟨⟨hkk, hrv⟩, hal⟩, hsp⟩, hlp⟩ := hok
    have hvl : vs.length = mArgT k' := by rw [SR.len hs1]; exact hal
    have hroom2 : (List.map (fun v => v.category) (jst.drop n)).sum ≤ 8 := by
      have := SR.room hs2
      omega
    have hB : (rmD d).cells = 0 ∧ (rmD d).slots = 0 ∧ (rmD d).frames + 1 ≤ R.frames ∧ 8 + (maxLA k' + 11) + (rmD d).locals ≤ R.locals := ⟨rfl, rfl, by unfold rmD; simp only; omega, by unfold rmD; simp only; omega⟩
    have hpar : ∀ sig, parseMethodDescriptor (mName k').desc = some sig → mArgs k' = sig.parameters.length := by
      intro sig hsig
      rw [hsig] at hdesc
      exact (Option.some.inj hdesc).symm
    have hpay := pay_in hts (goodM hk)
    have hstart : ∀ U : State, U.heap = H → s.WarmedH U.vm → va_Pc vs (CalleeP D w sa sv sb h H.size) vs.toArray U := fun U hU hW => ⟨rfl, (callee_start C0 hw hU hW).1⟩
    have hFc : ∀ q, va_A (wsOf w h) H.size q → A q := by
      intro q hq
      rcases hq with ⟨k, e, hq⟩ | hq
      · exact hw.2.1.2 k _ hq
      · exact hA q (Nat.le_trans hw.2.2.1.1 hq)
    have kk : ∀ (r : Option Value) (H1 : Heap) (locs1 : List Loc), VRo w sa sb rv r → Wld s A D w sb h' H1 locs1 → W p l e R s m args below meth c H1 locs1 cells slots Z (F0 m (pc + 3) ls (r.toList ++ jst.drop n)) := by
      intro r H1 locs1 hr hw1
      refine K H1 locs1 ls _ hw1 hl (SR.app ?_ hs2)
      match rv, r, hr with
      | none, none, _ => trivial
      | some a, some v, hr => exact ⟨hr, trivial⟩
    have hsize : ls.size = nL := by obtain ⟨-, -, lv, h3, -⟩ := hl; exact h3.1
    cases stB with
    | true =>
      simp only [if_true] at hdg hn
      have hstv := hts _ (hstat hst)
      have hn2 : vs.length = mArgs k' := by rw [hvl, hargT, hst]; simp
      cases nest' with
      | false =>
        exact callee_end C0 hw hFc (va_runS (As := vs) (rest := jst.drop n) ⟨hx, hb, hml, hown, hts⟩ hm ⟨⟨hB.1, hB.2.1, hB.2.2.1, hB.2.2.2, hpay, List.mem_cons_self, hts _ hcode, hts _ hini, ⟨hmisc1, hmisc2⟩, hpar, hts _ (hlink.2 rfl)⟩, hstv⟩ ⟨CalleeP.blind, hstart⟩ rfl hn2 hsize hj (lv_room hroom2) hdg ⟨hroom.1, hroom.2.1⟩) kk
      | true =>
        exact callee_end C0 hw hFc (va_runSN (As := vs) (rest := jst.drop n) (host := "PaidInFog") ⟨hx, hb, hml, hown, hts⟩ hm ⟨⟨⟨hB.1, hB.2.1, hB.2.2.1, hB.2.2.2, hpay, List.mem_cons_self⟩, hts _ hcode, hts _ hini, ⟨hmisc1, hmisc2⟩, hpar, va_Nw.use rfl (hnw _ (hlink.1 rfl))⟩, hstv, trivial⟩ ⟨CalleeP.blind, hstart⟩ rfl hn2 hsize hj (lv_room hroom2) hdg ⟨hroom.1, hroom.2.1⟩) kk
    | false =>
      simp only [Bool.false_eq_true, if_false] at hdg hn
      obtain ⟨hinv, hsel⟩ := hinst hst
      have hinv := hts _ hinv
      have hsel := hts _ hsel
      obtain ⟨hr0, hrcls, hr7, hrak, hr18, hr19⟩ := hrec hst
      -- the receiver
      match as, vs, hs1 with
      | [], [], _ => simp only at hrv; exact absurd (beq_iff_eq.mp hrv) hr0
      | .inl x :: as', v0 :: As, hs1 => simp only at hrv; exact absurd (beq_iff_eq.mp hrv) hr0
      | .inr (.inl x) :: as', v0 :: As, hs1 => simp only at hrv; exact absurd (beq_iff_eq.mp hrv) hr0
      | .inr (.inr (.inr x)) :: as', v0 :: As, hs1 => simp only at hrv; exact absurd (beq_iff_eq.mp hrv) hr0
      | .inr (.inr (.inl (g0, m0))) :: as', v0 :: As, hs1 =>
        simp only [Bool.or_eq_true, beq_iff_eq] at hrv
        have hm0 : m0 = recvM k' := by
          rcases hrv with q | q
          · exact absurd q hr0
          · exact q
        subst hm0
        obtain ⟨hin, rfl⟩ := hs1.1.loc (by intro q; rw [q] at hrak; simp [akind] at hrak)
        have hcell := fC (D := D) (H := H) hr7 hrak hr18 hr19 hin hK hw.1
        rw [hrcls] at hcell
        have hn2 : As.length = mArgs k' := by
          have := hvl
          rw [hargT, hst] at this
          simpa using this
        rw [List.reverse_cons, List.append_assoc] at hj
        cases nest' with
        | false =>
          exact callee_end C0 hw hFc (va_runV (As := As) (rest := jst.drop n) ⟨hx, hb, hml, hown, hts⟩ hm ⟨⟨hB.1, hB.2.1, hB.2.2.1, hB.2.2.2, hpay, List.mem_cons_self, hts _ hcode, hts _ hini, ⟨hmisc1, hmisc2⟩, hpar, hts _ (hlink.2 rfl)⟩, hinv, hsel⟩ ⟨CalleeP.blind, hcell, hstart⟩ rfl hn2 hsize hj (lv_room hroom2) hdg ⟨hroom.1, hroom.2.1⟩) kk
        | true =>
          exact callee_end C0 hw hFc (va_runVN (As := As) (rest := jst.drop n) (host := "PaidInFog") ⟨hx, hb, hml, hown, hts⟩ hm ⟨⟨⟨hB.1, hB.2.1, hB.2.2.1, hB.2.2.2, hpay, List.mem_cons_self⟩, hts _ hcode, hts _ hini, ⟨hmisc1, hmisc2⟩, hpar, va_Nw.use rfl (hnw _ (hlink.1 rfl))⟩, hinv, hsel⟩ ⟨CalleeP.blind, hcell, hstart⟩ rfl hn2 hsize hj (lv_room hroom2) hdg ⟨hroom.1, hroom.2.1⟩) kk
  · cases hc
end SOD
