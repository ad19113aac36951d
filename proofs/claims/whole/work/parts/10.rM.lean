/-! the code of one class, a rewriting row an instruction: laid by wip/whole/rgen.py -/
section RR
variable {call : ACall} {Q : Option AV → AH → Prop} {st : List AV} {h : AH} {x y z : Int} {g m g' m' n : Nat} {v : (Nat × Nat) ⊕ Nat} {a0 a1 a2 a3 a4 a5 a6 a7 a8 a9 a10 a11 b0 b1 b2 b3 b4 b5 : AV}

theorem r142_0 : At call ac_142 0 [vR g m, a1] st h Q ↔ At call ac_142 1 [vR g m, a1] (vR g m :: st) h Q := At_next rfl
theorem r142_1 : At call ac_142 1 [a0, a1] (vR g 27 :: st) h Q ↔ At call ac_142 4 [a0, a1] (vR g 31 :: st) h Q := At_next rfl
theorem r142_4 : At call ac_142 4 [a0, vI x] st h Q ↔ At call ac_142 5 [a0, vI x] (vI x :: st) h Q := At_next rfl
theorem r142_5 : At call ac_142 5 [a0, a1] (vI x :: st) h Q ↔ At call ac_142 6 [a0, a1] (vI (wr (-x)) :: st) h Q := At_next rfl
theorem r142_6 : At call ac_142 6 [a0, a1] (vI x :: vR g m :: st) h Q ↔ At call ac_142 7 [a0, a1] (vI x :: vR g m :: vI x :: vR g m :: st) h Q := At_next rfl
theorem r142_7 : At call ac_142 7 [a0, a1] (vI x :: vR g m :: st) h Q ↔ inA h m 0 x ∧ At call ac_142 8 [a0, a1] (vI (h g m x.toNat) :: st) h Q := At_guard rfl
theorem r142_8 : At call ac_142 8 [a0, a1] st h Q ↔ At call ac_142 9 [a0, a1] (vI 1 :: st) h Q := At_next rfl
theorem r142_9 : At call ac_142 9 [a0, a1] (vI y :: vI x :: st) h Q ↔ At call ac_142 10 [a0, a1] (vI (wr (x + y)) :: st) h Q := At_next rfl
theorem r142_10 : At call ac_142 10 [a0, a1] (vI y :: vI x :: vR g m :: st) h Q ↔ (inA h m 0 x ∧ m ≠ 37) ∧ At call ac_142 11 [a0, a1] st (up3 h g m x.toNat y) Q := At_guard rfl
theorem r142_11 : At call ac_142 11 [a0, vI x] st h Q ↔ At call ac_142 12 [a0, vI x] (vI x :: st) h Q := At_next rfl
theorem r142_12 : At call ac_142 12 [a0, a1] [vI x] h Q ↔ Q (some (vI x)) h := At_ret rfl
theorem r143_0 : At call ac_143 0 [vR g m, a1] st h Q ↔ At call ac_143 1 [vR g m, a1] (vR g m :: st) h Q := At_next rfl
theorem r143_1 : At call ac_143 1 [a0, vI x] st h Q ↔ At call ac_143 2 [a0, vI x] (vI x :: st) h Q := At_next rfl
theorem r143_2 : At call ac_143 2 [a0, a1] (b1 :: b0 :: st) h Q ↔ st.length ≤ 4 ∧ ∃ v h1, call 142 [b0, b1] h (some v) h1 ∧ At call ac_143 5 [a0, a1] (v :: st) h1 Q := At_gcall rfl
theorem r143_5 : At call ac_143 5 [a0, a1] st h Q ↔ At call ac_143 7 [a0, a1] (vI 10 :: st) h Q := At_next rfl
theorem r143_7 : At call ac_143 7 [a0, a1] (vI y :: vI x :: st) h Q ↔ At call ac_143 8 [a0, a1] (vI (wr (x - y)) :: st) h Q := At_next rfl
theorem r143_8 : At call ac_143 8 [a0, a1] [vI x] h Q ↔ Q (some (vI x)) h := At_ret rfl
theorem r144_0 : At call ac_144 0 [vI x, a1, a2] st h Q ↔ At call ac_144 1 [vI x, a1, a2] (vI x :: st) h Q := At_next rfl
theorem r144_1 : At call ac_144 1 [a0, vI x, a2] st h Q ↔ At call ac_144 2 [a0, vI x, a2] (vI x :: st) h Q := At_next rfl
theorem r144_2 : At call ac_144 2 [a0, a1, a2] (vI y :: vI x :: st) h Q ↔ if x < y then At call ac_144 14 [a0, a1, a2] st h Q else At call ac_144 5 [a0, a1, a2] st h Q := At_br rfl
theorem r144_5 : At call ac_144 5 [vI x, a1, a2] st h Q ↔ At call ac_144 6 [vI x, a1, a2] (vI x :: st) h Q := At_next rfl
theorem r144_6 : At call ac_144 6 [a0, a1, vI x] st h Q ↔ At call ac_144 7 [a0, a1, vI x] (vI x :: st) h Q := At_next rfl
theorem r144_7 : At call ac_144 7 [a0, a1, a2] (vI y :: vI x :: st) h Q ↔ if y < x then At call ac_144 14 [a0, a1, a2] st h Q else At call ac_144 10 [a0, a1, a2] st h Q := At_br rfl
theorem r144_10 : At call ac_144 10 [a0, a1, a2] st h Q ↔ At call ac_144 11 [a0, a1, a2] (vI 1 :: st) h Q := At_next rfl
theorem r144_11 : At call ac_144 11 [a0, a1, a2] st h Q ↔ At call ac_144 15 [a0, a1, a2] st h Q := At_next rfl
theorem r144_14 : At call ac_144 14 [a0, a1, a2] st h Q ↔ At call ac_144 15 [a0, a1, a2] (vI 0 :: st) h Q := At_next rfl
theorem r144_15 : At call ac_144 15 [a0, a1, a2] [vI x] h Q ↔ (x = 0 ∨ x = 1) ∧ Q (some (vI x)) h := At_guardR rfl
theorem r145_0 : At call ac_145 0 [a0, vI x] st h Q ↔ At call ac_145 1 [a0, vI x] (vI x :: st) h Q := At_next rfl
theorem r145_1 : At call ac_145 1 [a0, a1] st h Q ↔ At call ac_145 2 [a0, a1] (vI 0 :: st) h Q := At_next rfl
theorem r145_2 : At call ac_145 2 [vR g m, a1] st h Q ↔ At call ac_145 3 [vR g m, a1] (vR g m :: st) h Q := At_next rfl
theorem r145_3 : At call ac_145 3 [a0, a1] (vR g 27 :: st) h Q ↔ At call ac_145 6 [a0, a1] (vI (h g 27 7) :: st) h Q := At_next rfl
theorem r145_6 : At call ac_145 6 [a0, a1] st h Q ↔ At call ac_145 7 [a0, a1] (vI 1 :: st) h Q := At_next rfl
theorem r145_7 : At call ac_145 7 [a0, a1] (vI y :: vI x :: st) h Q ↔ At call ac_145 8 [a0, a1] (vI (wr (x - y)) :: st) h Q := At_next rfl
theorem r145_8 : At call ac_145 8 [a0, a1] (b2 :: b1 :: b0 :: st) h Q ↔ st.length ≤ 4 ∧ ∃ v h1, call 144 [b0, b1, b2] h (some v) h1 ∧ At call ac_145 11 [a0, a1] (v :: st) h1 Q := At_gcall rfl
theorem r145_11 : At call ac_145 11 [a0, a1] [vI x] h Q ↔ (x = 0 ∨ x = 1) ∧ Q (some (vI x)) h := At_guardR rfl
theorem r146_0 : At call ac_146 0 [a0, vI x] st h Q ↔ At call ac_146 1 [a0, vI x] (vI x :: st) h Q := At_next rfl
theorem r146_1 : At call ac_146 1 [a0, a1] st h Q ↔ At call ac_146 2 [a0, a1] (vI 0 :: st) h Q := At_next rfl
theorem r146_2 : At call ac_146 2 [vR g m, a1] st h Q ↔ At call ac_146 3 [vR g m, a1] (vR g m :: st) h Q := At_next rfl
theorem r146_3 : At call ac_146 3 [a0, a1] (vR g 27 :: st) h Q ↔ At call ac_146 6 [a0, a1] (vI (h g 27 8) :: st) h Q := At_next rfl
theorem r146_6 : At call ac_146 6 [a0, a1] st h Q ↔ At call ac_146 7 [a0, a1] (vI 1 :: st) h Q := At_next rfl
theorem r146_7 : At call ac_146 7 [a0, a1] (vI y :: vI x :: st) h Q ↔ At call ac_146 8 [a0, a1] (vI (wr (x - y)) :: st) h Q := At_next rfl
theorem r146_8 : At call ac_146 8 [a0, a1] (b2 :: b1 :: b0 :: st) h Q ↔ st.length ≤ 4 ∧ ∃ v h1, call 144 [b0, b1, b2] h (some v) h1 ∧ At call ac_146 11 [a0, a1] (v :: st) h1 Q := At_gcall rfl
theorem r146_11 : At call ac_146 11 [a0, a1] [vI x] h Q ↔ (x = 0 ∨ x = 1) ∧ Q (some (vI x)) h := At_guardR rfl
theorem r147_0 : At call ac_147 0 [vR g m, a1] st h Q ↔ At call ac_147 1 [vR g m, a1] (vR g m :: st) h Q := At_next rfl
theorem r147_1 : At call ac_147 1 [a0, a1] (vR g 27 :: st) h Q ↔ At call ac_147 4 [a0, a1] (vR g 28 :: st) h Q := At_next rfl
theorem r147_4 : At call ac_147 4 [a0, vI x] st h Q ↔ At call ac_147 5 [a0, vI x] (vI x :: st) h Q := At_next rfl
theorem r147_5 : At call ac_147 5 [a0, a1] (vI x :: vR g m :: st) h Q ↔ inA h m 0 x ∧ At call ac_147 6 [a0, a1] (vI (h g m x.toNat) :: st) h Q := At_guard rfl
theorem r147_6 : At call ac_147 6 [a0, a1] st h Q ↔ At call ac_147 8 [a0, a1] (vI 100 :: st) h Q := At_next rfl
theorem r147_8 : At call ac_147 8 [a0, a1] (vI y :: vI x :: st) h Q ↔ if x < y then At call ac_147 15 [a0, a1] st h Q else At call ac_147 11 [a0, a1] st h Q := At_br rfl
theorem r147_11 : At call ac_147 11 [a0, a1] st h Q ↔ At call ac_147 12 [a0, a1] (vI 1 :: st) h Q := At_next rfl
theorem r147_12 : At call ac_147 12 [a0, a1] st h Q ↔ At call ac_147 16 [a0, a1] st h Q := At_next rfl
theorem r147_15 : At call ac_147 15 [a0, a1] st h Q ↔ At call ac_147 16 [a0, a1] (vI 0 :: st) h Q := At_next rfl
theorem r147_16 : At call ac_147 16 [a0, a1] [vI x] h Q ↔ (x = 0 ∨ x = 1) ∧ Q (some (vI x)) h := At_guardR rfl
theorem r148_0 : At call ac_148 0 [a0, vI x, a2, a3, a4] st h Q ↔ At call ac_148 1 [a0, vI x, a2, a3, a4] (vI x :: st) h Q := At_next rfl
theorem r148_1 : At call ac_148 1 [a0, a1, a2, a3, a4] st h Q ↔ At call ac_148 2 [a0, a1, a2, a3, a4] (vI 0 :: st) h Q := At_next rfl
theorem r148_2 : At call ac_148 2 [a0, a1, a2, a3, a4] st h Q ↔ At call ac_148 4 [a0, a1, a2, a3, a4] (vI 7 :: st) h Q := At_next rfl
theorem r148_4 : At call ac_148 4 [a0, a1, a2, a3, a4] (b2 :: b1 :: b0 :: st) h Q ↔ st.length ≤ 4 ∧ ∃ v h1, call 144 [b0, b1, b2] h (some v) h1 ∧ At call ac_148 7 [a0, a1, a2, a3, a4] (v :: st) h1 Q := At_gcall rfl
theorem r148_7 : At call ac_148 7 [a0, a1, a2, a3, a4] (vI x :: st) h Q ↔ if x = 0 then At call ac_148 10 [a0, a1, a2, a3, a4] st h Q else At call ac_148 16 [a0, a1, a2, a3, a4] st h Q := At_br rfl
theorem r148_10 : At call ac_148 10 [vR g m, a1, a2, a3, a4] st h Q ↔ At call ac_148 11 [vR g m, a1, a2, a3, a4] (vR g m :: st) h Q := At_next rfl
theorem r148_11 : At call ac_148 11 [a0, a1, a2, a3, a4] st h Q ↔ At call ac_148 12 [a0, a1, a2, a3, a4] (vI (-1) :: st) h Q := At_next rfl
theorem r148_12 : At call ac_148 12 [a0, a1, a2, a3, a4] (b1 :: b0 :: st) h Q ↔ st.length ≤ 4 ∧ ∃ v h1, call 142 [b0, b1] h (some v) h1 ∧ At call ac_148 15 [a0, a1, a2, a3, a4] (v :: st) h1 Q := At_gcall rfl
theorem r148_15 : At call ac_148 15 [a0, a1, a2, a3, a4] [vI x] h Q ↔ Q (some (vI x)) h := At_ret rfl
theorem r148_16 : At call ac_148 16 [a0, a1, a2, vI x, a4] st h Q ↔ At call ac_148 17 [a0, a1, a2, vI x, a4] (vI x :: st) h Q := At_next rfl
theorem r148_17 : At call ac_148 17 [a0, a1, a2, a3, a4] (vI x :: st) h Q ↔ if x < 0 then At call ac_148 20 [a0, a1, a2, a3, a4] st h Q else At call ac_148 27 [a0, a1, a2, a3, a4] st h Q := At_br rfl
theorem r148_20 : At call ac_148 20 [vR g m, a1, a2, a3, a4] st h Q ↔ At call ac_148 21 [vR g m, a1, a2, a3, a4] (vR g m :: st) h Q := At_next rfl
theorem r148_21 : At call ac_148 21 [a0, a1, a2, a3, a4] st h Q ↔ At call ac_148 23 [a0, a1, a2, a3, a4] (vI (-4) :: st) h Q := At_next rfl
theorem r148_23 : At call ac_148 23 [a0, a1, a2, a3, a4] (b1 :: b0 :: st) h Q ↔ st.length ≤ 4 ∧ ∃ v h1, call 142 [b0, b1] h (some v) h1 ∧ At call ac_148 26 [a0, a1, a2, a3, a4] (v :: st) h1 Q := At_gcall rfl
theorem r148_26 : At call ac_148 26 [a0, a1, a2, a3, a4] [vI x] h Q ↔ Q (some (vI x)) h := At_ret rfl
theorem r148_27 : At call ac_148 27 [a0, a1, vI x, a3, a4] st h Q ↔ At call ac_148 28 [a0, a1, vI x, a3, a4] (vI x :: st) h Q := At_next rfl
theorem r148_28 : At call ac_148 28 [a0, a1, a2, a3, a4] st h Q ↔ At call ac_148 29 [a0, a1, a2, a3, a4] (vI 0 :: st) h Q := At_next rfl
theorem r148_29 : At call ac_148 29 [a0, a1, a2, a3, a4] st h Q ↔ At call ac_148 30 [a0, a1, a2, a3, a4] (vI 3 :: st) h Q := At_next rfl
theorem r148_30 : At call ac_148 30 [a0, a1, a2, a3, a4] (b2 :: b1 :: b0 :: st) h Q ↔ st.length ≤ 4 ∧ ∃ v h1, call 144 [b0, b1, b2] h (some v) h1 ∧ At call ac_148 33 [a0, a1, a2, a3, a4] (v :: st) h1 Q := At_gcall rfl
theorem r148_33 : At call ac_148 33 [a0, a1, a2, a3, a4] (vI x :: st) h Q ↔ if x = 0 then At call ac_148 36 [a0, a1, a2, a3, a4] st h Q else At call ac_148 43 [a0, a1, a2, a3, a4] st h Q := At_br rfl
theorem r148_36 : At call ac_148 36 [vR g m, a1, a2, a3, a4] st h Q ↔ At call ac_148 37 [vR g m, a1, a2, a3, a4] (vR g m :: st) h Q := At_next rfl
theorem r148_37 : At call ac_148 37 [a0, a1, a2, a3, a4] st h Q ↔ At call ac_148 39 [a0, a1, a2, a3, a4] (vI (-6) :: st) h Q := At_next rfl
theorem r148_39 : At call ac_148 39 [a0, a1, a2, a3, a4] (b1 :: b0 :: st) h Q ↔ st.length ≤ 4 ∧ ∃ v h1, call 142 [b0, b1] h (some v) h1 ∧ At call ac_148 42 [a0, a1, a2, a3, a4] (v :: st) h1 Q := At_gcall rfl
theorem r148_42 : At call ac_148 42 [a0, a1, a2, a3, a4] [vI x] h Q ↔ Q (some (vI x)) h := At_ret rfl
theorem r148_43 : At call ac_148 43 [a0, a1, a2, vI x, a4] st h Q ↔ At call ac_148 44 [a0, a1, a2, vI x, a4] (vI x :: st) h Q := At_next rfl
theorem r148_44 : At call ac_148 44 [a0, a1, a2, a3, a4] st h Q ↔ At call ac_148 47 [a0, a1, a2, a3, a4] (vI 160 :: st) h Q := At_next rfl
theorem r148_47 : At call ac_148 47 [a0, a1, a2, a3, a4] (vI y :: vI x :: st) h Q ↔ if y < x then At call ac_148 50 [a0, a1, a2, a3, a4] st h Q else At call ac_148 57 [a0, a1, a2, a3, a4] st h Q := At_br rfl
theorem r148_50 : At call ac_148 50 [vR g m, a1, a2, a3, a4] st h Q ↔ At call ac_148 51 [vR g m, a1, a2, a3, a4] (vR g m :: st) h Q := At_next rfl
theorem r148_51 : At call ac_148 51 [a0, a1, a2, a3, a4] st h Q ↔ At call ac_148 53 [a0, a1, a2, a3, a4] (vI (-7) :: st) h Q := At_next rfl
theorem r148_53 : At call ac_148 53 [a0, a1, a2, a3, a4] (b1 :: b0 :: st) h Q ↔ st.length ≤ 4 ∧ ∃ v h1, call 142 [b0, b1] h (some v) h1 ∧ At call ac_148 56 [a0, a1, a2, a3, a4] (v :: st) h1 Q := At_gcall rfl
theorem r148_56 : At call ac_148 56 [a0, a1, a2, a3, a4] [vI x] h Q ↔ Q (some (vI x)) h := At_ret rfl
theorem r148_57 : At call ac_148 57 [vR g m, a1, a2, a3, a4] st h Q ↔ At call ac_148 58 [vR g m, a1, a2, a3, a4] (vR g m :: st) h Q := At_next rfl
theorem r148_58 : At call ac_148 58 [a0, a1, a2, a3, a4] (vR g 27 :: st) h Q ↔ At call ac_148 61 [a0, a1, a2, a3, a4] (vR g 28 :: st) h Q := At_next rfl
theorem r148_61 : At call ac_148 61 [a0, vI x, a2, a3, a4] st h Q ↔ At call ac_148 62 [a0, vI x, a2, a3, a4] (vI x :: st) h Q := At_next rfl
theorem r148_62 : At call ac_148 62 [a0, a1, a2, a3, a4] st h Q ↔ At call ac_148 64 [a0, a1, a2, a3, a4] (vI 100 :: st) h Q := At_next rfl
theorem r148_64 : At call ac_148 64 [a0, a1, vI x, a3, a4] st h Q ↔ At call ac_148 65 [a0, a1, vI x, a3, a4] (vI x :: st) h Q := At_next rfl
theorem r148_65 : At call ac_148 65 [a0, a1, a2, a3, a4] (vI y :: vI x :: st) h Q ↔ At call ac_148 66 [a0, a1, a2, a3, a4] (vI (wr (x + y)) :: st) h Q := At_next rfl
theorem r148_66 : At call ac_148 66 [a0, a1, a2, a3, a4] (vI y :: vI x :: vR g m :: st) h Q ↔ (inA h m 0 x ∧ m ≠ 37) ∧ At call ac_148 67 [a0, a1, a2, a3, a4] st (up3 h g m x.toNat y) Q := At_guard rfl
theorem r148_67 : At call ac_148 67 [vR g m, a1, a2, a3, a4] st h Q ↔ At call ac_148 68 [vR g m, a1, a2, a3, a4] (vR g m :: st) h Q := At_next rfl
theorem r148_68 : At call ac_148 68 [a0, a1, a2, a3, a4] (vR g 27 :: st) h Q ↔ At call ac_148 71 [a0, a1, a2, a3, a4] (vR g 29 :: st) h Q := At_next rfl
theorem r148_71 : At call ac_148 71 [a0, vI x, a2, a3, a4] st h Q ↔ At call ac_148 72 [a0, vI x, a2, a3, a4] (vI x :: st) h Q := At_next rfl
theorem r148_72 : At call ac_148 72 [a0, a1, a2, vI x, a4] st h Q ↔ At call ac_148 73 [a0, a1, a2, vI x, a4] (vI x :: st) h Q := At_next rfl
theorem r148_73 : At call ac_148 73 [a0, a1, a2, a3, a4] (vI y :: vI x :: vR g m :: st) h Q ↔ (inA h m 0 x ∧ m ≠ 37) ∧ At call ac_148 74 [a0, a1, a2, a3, a4] st (up3 h g m x.toNat y) Q := At_guard rfl
theorem r148_74 : At call ac_148 74 [a0, a1, a2, a3, a4] st h Q ↔ At call ac_148 75 [a0, a1, a2, a3, a4] (vI 0 :: st) h Q := At_next rfl
theorem r148_75 : At call ac_148 75 [a0, a1, a2, a3, a4] (vI x :: st) h Q ↔ At call ac_148 77 [a0, a1, a2, a3, vI x] st h Q := At_next rfl
theorem r148_77 : At call ac_148 77 [a0, a1, a2, a3, vI x] st h Q ↔ At call ac_148 79 [a0, a1, a2, a3, vI x] (vI x :: st) h Q := At_next rfl
theorem r148_79 : At call ac_148 79 [a0, a1, a2, a3, a4] st h Q ↔ At call ac_148 82 [a0, a1, a2, a3, a4] (vI 160 :: st) h Q := At_next rfl
theorem r148_82 : At call ac_148 82 [a0, a1, a2, a3, a4] (vI y :: vI x :: st) h Q ↔ if x < y then At call ac_148 85 [a0, a1, a2, a3, a4] st h Q else At call ac_148 105 [a0, a1, a2, a3, a4] st h Q := At_br rfl
theorem r148_85 : At call ac_148 85 [vR g m, a1, a2, a3, a4] st h Q ↔ At call ac_148 86 [vR g m, a1, a2, a3, a4] (vR g m :: st) h Q := At_next rfl
theorem r148_86 : At call ac_148 86 [a0, a1, a2, a3, a4] (vR g 27 :: st) h Q ↔ At call ac_148 89 [a0, a1, a2, a3, a4] (vR g 30 :: st) h Q := At_next rfl
theorem r148_89 : At call ac_148 89 [a0, a1, a2, a3, a4] st h Q ↔ At call ac_148 92 [a0, a1, a2, a3, a4] (vI 160 :: st) h Q := At_next rfl
theorem r148_92 : At call ac_148 92 [a0, vI x, a2, a3, a4] st h Q ↔ At call ac_148 93 [a0, vI x, a2, a3, a4] (vI x :: st) h Q := At_next rfl
theorem r148_93 : At call ac_148 93 [a0, a1, a2, a3, a4] (vI y :: vI x :: st) h Q ↔ At call ac_148 94 [a0, a1, a2, a3, a4] (vI (wr (x * y)) :: st) h Q := At_next rfl
theorem r148_94 : At call ac_148 94 [a0, a1, a2, a3, vI x] st h Q ↔ At call ac_148 96 [a0, a1, a2, a3, vI x] (vI x :: st) h Q := At_next rfl
theorem r148_96 : At call ac_148 96 [a0, a1, a2, a3, a4] (vI y :: vI x :: st) h Q ↔ At call ac_148 97 [a0, a1, a2, a3, a4] (vI (wr (x + y)) :: st) h Q := At_next rfl
theorem r148_97 : At call ac_148 97 [a0, a1, a2, a3, a4] st h Q ↔ At call ac_148 98 [a0, a1, a2, a3, a4] (vJ 0 :: st) h Q := At_next rfl
theorem r148_98 : At call ac_148 98 [a0, a1, a2, a3, a4] (vJ y :: vI x :: vR g m :: st) h Q ↔ inA h m 1 x ∧ At call ac_148 99 [a0, a1, a2, a3, a4] st (up3 h g m x.toNat y) Q := At_guard rfl
theorem r148_99 : At call ac_148 99 [a0, a1, a2, a3, vI x] st h Q ↔ At call ac_148 102 [a0, a1, a2, a3, vI (wr (x + 1))] st h Q := At_next rfl
theorem r148_102 : At call ac_148 102 [a0, a1, a2, a3, a4] st h Q ↔ At call ac_148 77 [a0, a1, a2, a3, a4] st h Q := At_next rfl
theorem r148_105 : At call ac_148 105 [a0, a1, a2, a3, a4] st h Q ↔ At call ac_148 106 [a0, a1, a2, a3, a4] (vI 1 :: st) h Q := At_next rfl
theorem r148_106 : At call ac_148 106 [a0, a1, a2, a3, a4] [vI x] h Q ↔ Q (some (vI x)) h := At_ret rfl
theorem r149_0 : At call ac_149 0 [a0, vI x] st h Q ↔ At call ac_149 1 [a0, vI x] (vI x :: st) h Q := At_next rfl
theorem r149_1 : At call ac_149 1 [a0, a1] st h Q ↔ At call ac_149 2 [a0, a1] (vI 0 :: st) h Q := At_next rfl
theorem r149_2 : At call ac_149 2 [a0, a1] st h Q ↔ At call ac_149 4 [a0, a1] (vI 7 :: st) h Q := At_next rfl
theorem r149_4 : At call ac_149 4 [a0, a1] (b2 :: b1 :: b0 :: st) h Q ↔ st.length ≤ 4 ∧ ∃ v h1, call 144 [b0, b1, b2] h (some v) h1 ∧ At call ac_149 7 [a0, a1] (v :: st) h1 Q := At_gcall rfl
theorem r149_7 : At call ac_149 7 [a0, a1] (vI x :: st) h Q ↔ if x = 0 then At call ac_149 10 [a0, a1] st h Q else At call ac_149 12 [a0, a1] st h Q := At_br rfl
theorem r149_10 : At call ac_149 10 [a0, a1] st h Q ↔ At call ac_149 11 [a0, a1] (vI (-1) :: st) h Q := At_next rfl
theorem r149_11 : At call ac_149 11 [a0, a1] [vI x] h Q ↔ Q (some (vI x)) h := At_ret rfl
theorem r149_12 : At call ac_149 12 [vR g m, a1] st h Q ↔ At call ac_149 13 [vR g m, a1] (vR g m :: st) h Q := At_next rfl
theorem r149_13 : At call ac_149 13 [a0, a1] (vR g 27 :: st) h Q ↔ At call ac_149 16 [a0, a1] (vR g 28 :: st) h Q := At_next rfl
theorem r149_16 : At call ac_149 16 [a0, vI x] st h Q ↔ At call ac_149 17 [a0, vI x] (vI x :: st) h Q := At_next rfl
theorem r149_17 : At call ac_149 17 [a0, a1] (vI x :: vR g m :: st) h Q ↔ inA h m 0 x ∧ At call ac_149 18 [a0, a1] (vI (h g m x.toNat) :: st) h Q := At_guard rfl
theorem r149_18 : At call ac_149 18 [a0, a1] (vI x :: st) h Q ↔ if x < 0 then At call ac_149 32 [a0, a1] st h Q else At call ac_149 21 [a0, a1] st h Q := At_br rfl
theorem r149_21 : At call ac_149 21 [vR g m, a1] st h Q ↔ At call ac_149 22 [vR g m, a1] (vR g m :: st) h Q := At_next rfl
theorem r149_22 : At call ac_149 22 [a0, vI x] st h Q ↔ At call ac_149 23 [a0, vI x] (vI x :: st) h Q := At_next rfl
theorem r149_23 : At call ac_149 23 [a0, a1] (b1 :: b0 :: st) h Q ↔ st.length ≤ 4 ∧ ∃ v h1, call 147 [b0, b1] h (some v) h1 ∧ At call ac_149 26 [a0, a1] (v :: st) h1 Q := At_gcall rfl
theorem r149_26 : At call ac_149 26 [a0, a1] (vI x :: st) h Q ↔ if x = 0 then At call ac_149 29 [a0, a1] st h Q else At call ac_149 32 [a0, a1] st h Q := At_br rfl
theorem r149_29 : At call ac_149 29 [a0, a1] st h Q ↔ At call ac_149 31 [a0, a1] (vI (-2) :: st) h Q := At_next rfl
theorem r149_31 : At call ac_149 31 [a0, a1] [vI x] h Q ↔ Q (some (vI x)) h := At_ret rfl
theorem r149_32 : At call ac_149 32 [vR g m, a1] st h Q ↔ At call ac_149 33 [vR g m, a1] (vR g m :: st) h Q := At_next rfl
theorem r149_33 : At call ac_149 33 [a0, a1] (vR g 27 :: st) h Q ↔ At call ac_149 36 [a0, a1] (vR g 28 :: st) h Q := At_next rfl
theorem r149_36 : At call ac_149 36 [a0, vI x] st h Q ↔ At call ac_149 37 [a0, vI x] (vI x :: st) h Q := At_next rfl
theorem r149_37 : At call ac_149 37 [a0, a1] (vI x :: vR g m :: st) h Q ↔ inA h m 0 x ∧ At call ac_149 38 [a0, a1] (vI (h g m x.toNat) :: st) h Q := At_guard rfl
theorem r149_38 : At call ac_149 38 [a0, a1] (vI x :: st) h Q ↔ if x < 0 then At call ac_149 41 [a0, a1] st h Q else At call ac_149 46 [a0, a1] st h Q := At_br rfl
theorem r149_41 : At call ac_149 41 [a0, a1] st h Q ↔ At call ac_149 43 [a0, a1] (vI (-3) :: st) h Q := At_next rfl
theorem r149_43 : At call ac_149 43 [a0, a1] st h Q ↔ At call ac_149 47 [a0, a1] st h Q := At_next rfl
theorem r149_46 : At call ac_149 46 [a0, a1] st h Q ↔ At call ac_149 47 [a0, a1] (vI 0 :: st) h Q := At_next rfl
theorem r149_47 : At call ac_149 47 [a0, a1] [vI x] h Q ↔ Q (some (vI x)) h := At_ret rfl
theorem r150_0 : At call ac_150 0 [vR g m, a1, a2, a3, a4, a5, a6] st h Q ↔ At call ac_150 1 [vR g m, a1, a2, a3, a4, a5, a6] (vR g m :: st) h Q := At_next rfl
theorem r150_1 : At call ac_150 1 [a0, vI x, a2, a3, a4, a5, a6] st h Q ↔ At call ac_150 2 [a0, vI x, a2, a3, a4, a5, a6] (vI x :: st) h Q := At_next rfl
theorem r150_2 : At call ac_150 2 [a0, a1, a2, a3, a4, a5, a6] (b1 :: b0 :: st) h Q ↔ st.length ≤ 4 ∧ ∃ v h1, call 149 [b0, b1] h (some v) h1 ∧ At call ac_150 5 [a0, a1, a2, a3, a4, a5, a6] (v :: st) h1 Q := At_gcall rfl
theorem r150_5 : At call ac_150 5 [a0, a1, a2, a3, a4, a5, a6] (vI x :: st) h Q ↔ At call ac_150 7 [a0, a1, a2, a3, a4, vI x, a6] st h Q := At_next rfl
theorem r150_7 : At call ac_150 7 [a0, a1, a2, a3, a4, vI x, a6] st h Q ↔ At call ac_150 9 [a0, a1, a2, a3, a4, vI x, a6] (vI x :: st) h Q := At_next rfl
theorem r150_9 : At call ac_150 9 [a0, a1, a2, a3, a4, a5, a6] (vI x :: st) h Q ↔ if x < 0 then At call ac_150 12 [a0, a1, a2, a3, a4, a5, a6] st h Q else At call ac_150 19 [a0, a1, a2, a3, a4, a5, a6] st h Q := At_br rfl
theorem r150_12 : At call ac_150 12 [vR g m, a1, a2, a3, a4, a5, a6] st h Q ↔ At call ac_150 13 [vR g m, a1, a2, a3, a4, a5, a6] (vR g m :: st) h Q := At_next rfl
theorem r150_13 : At call ac_150 13 [a0, a1, a2, a3, a4, vI x, a6] st h Q ↔ At call ac_150 15 [a0, a1, a2, a3, a4, vI x, a6] (vI x :: st) h Q := At_next rfl
theorem r150_15 : At call ac_150 15 [a0, a1, a2, a3, a4, a5, a6] (b1 :: b0 :: st) h Q ↔ st.length ≤ 4 ∧ ∃ v h1, call 142 [b0, b1] h (some v) h1 ∧ At call ac_150 18 [a0, a1, a2, a3, a4, a5, a6] (v :: st) h1 Q := At_gcall rfl
theorem r150_18 : At call ac_150 18 [a0, a1, a2, a3, a4, a5, a6] [vI x] h Q ↔ Q (some (vI x)) h := At_ret rfl
theorem r150_19 : At call ac_150 19 [a0, a1, vI x, a3, a4, a5, a6] st h Q ↔ At call ac_150 20 [a0, a1, vI x, a3, a4, a5, a6] (vI x :: st) h Q := At_next rfl
theorem r150_20 : At call ac_150 20 [a0, a1, a2, a3, a4, a5, a6] st h Q ↔ At call ac_150 21 [a0, a1, a2, a3, a4, a5, a6] (vI 0 :: st) h Q := At_next rfl
theorem r150_21 : At call ac_150 21 [vR g m, a1, a2, a3, a4, a5, a6] st h Q ↔ At call ac_150 22 [vR g m, a1, a2, a3, a4, a5, a6] (vR g m :: st) h Q := At_next rfl
theorem r150_22 : At call ac_150 22 [a0, a1, a2, a3, a4, a5, a6] (vR g 27 :: st) h Q ↔ At call ac_150 25 [a0, a1, a2, a3, a4, a5, a6] (vR g 29 :: st) h Q := At_next rfl
theorem r150_25 : At call ac_150 25 [a0, vI x, a2, a3, a4, a5, a6] st h Q ↔ At call ac_150 26 [a0, vI x, a2, a3, a4, a5, a6] (vI x :: st) h Q := At_next rfl
theorem r150_26 : At call ac_150 26 [a0, a1, a2, a3, a4, a5, a6] (vI x :: vR g m :: st) h Q ↔ inA h m 0 x ∧ At call ac_150 27 [a0, a1, a2, a3, a4, a5, a6] (vI (h g m x.toNat) :: st) h Q := At_guard rfl
theorem r150_27 : At call ac_150 27 [a0, a1, a2, a3, a4, a5, a6] st h Q ↔ At call ac_150 28 [a0, a1, a2, a3, a4, a5, a6] (vI 1 :: st) h Q := At_next rfl
theorem r150_28 : At call ac_150 28 [a0, a1, a2, a3, a4, a5, a6] (vI y :: vI x :: st) h Q ↔ At call ac_150 29 [a0, a1, a2, a3, a4, a5, a6] (vI (wr (x - y)) :: st) h Q := At_next rfl
theorem r150_29 : At call ac_150 29 [a0, a1, a2, a3, a4, a5, a6] (b2 :: b1 :: b0 :: st) h Q ↔ st.length ≤ 4 ∧ ∃ v h1, call 144 [b0, b1, b2] h (some v) h1 ∧ At call ac_150 32 [a0, a1, a2, a3, a4, a5, a6] (v :: st) h1 Q := At_gcall rfl
theorem r150_32 : At call ac_150 32 [a0, a1, a2, a3, a4, a5, a6] (vI x :: st) h Q ↔ if x = 0 then At call ac_150 35 [a0, a1, a2, a3, a4, a5, a6] st h Q else At call ac_150 42 [a0, a1, a2, a3, a4, a5, a6] st h Q := At_br rfl
theorem r150_35 : At call ac_150 35 [vR g m, a1, a2, a3, a4, a5, a6] st h Q ↔ At call ac_150 36 [vR g m, a1, a2, a3, a4, a5, a6] (vR g m :: st) h Q := At_next rfl
theorem r150_36 : At call ac_150 36 [a0, a1, a2, a3, a4, a5, a6] st h Q ↔ At call ac_150 38 [a0, a1, a2, a3, a4, a5, a6] (vI (-5) :: st) h Q := At_next rfl
theorem r150_38 : At call ac_150 38 [a0, a1, a2, a3, a4, a5, a6] (b1 :: b0 :: st) h Q ↔ st.length ≤ 4 ∧ ∃ v h1, call 142 [b0, b1] h (some v) h1 ∧ At call ac_150 41 [a0, a1, a2, a3, a4, a5, a6] (v :: st) h1 Q := At_gcall rfl
theorem r150_41 : At call ac_150 41 [a0, a1, a2, a3, a4, a5, a6] [vI x] h Q ↔ Q (some (vI x)) h := At_ret rfl
theorem r150_42 : At call ac_150 42 [vR g m, a1, a2, a3, a4, a5, a6] st h Q ↔ At call ac_150 43 [vR g m, a1, a2, a3, a4, a5, a6] (vR g m :: st) h Q := At_next rfl
theorem r150_43 : At call ac_150 43 [a0, a1, a2, a3, a4, a5, a6] (vR g 27 :: st) h Q ↔ At call ac_150 46 [a0, a1, a2, a3, a4, a5, a6] (vR g 28 :: st) h Q := At_next rfl
theorem r150_46 : At call ac_150 46 [a0, vI x, a2, a3, a4, a5, a6] st h Q ↔ At call ac_150 47 [a0, vI x, a2, a3, a4, a5, a6] (vI x :: st) h Q := At_next rfl
theorem r150_47 : At call ac_150 47 [a0, a1, a2, a3, a4, a5, a6] (vI x :: vR g m :: st) h Q ↔ inA h m 0 x ∧ At call ac_150 48 [a0, a1, a2, a3, a4, a5, a6] (vI (h g m x.toNat) :: st) h Q := At_guard rfl
theorem r150_48 : At call ac_150 48 [a0, a1, a2, a3, a4, a5, a6] st h Q ↔ At call ac_150 50 [a0, a1, a2, a3, a4, a5, a6] (vI 100 :: st) h Q := At_next rfl
theorem r150_50 : At call ac_150 50 [a0, a1, a2, a3, a4, a5, a6] (vI y :: vI x :: st) h Q ↔ At call ac_150 51 [a0, a1, a2, a3, a4, a5, a6] (vI (wr (x - y)) :: st) h Q := At_next rfl
theorem r150_51 : At call ac_150 51 [a0, a1, a2, a3, a4, a5, a6] (vI x :: st) h Q ↔ At call ac_150 53 [a0, a1, a2, a3, a4, a5, vI x] st h Q := At_next rfl
theorem r150_53 : At call ac_150 53 [vR g m, a1, a2, a3, a4, a5, a6] st h Q ↔ At call ac_150 54 [vR g m, a1, a2, a3, a4, a5, a6] (vR g m :: st) h Q := At_next rfl
theorem r150_54 : At call ac_150 54 [a0, a1, a2, a3, a4, a5, a6] (vR g 27 :: st) h Q ↔ At call ac_150 57 [a0, a1, a2, a3, a4, a5, a6] (vR g 30 :: st) h Q := At_next rfl
theorem r150_57 : At call ac_150 57 [a0, a1, a2, a3, a4, a5, a6] st h Q ↔ At call ac_150 60 [a0, a1, a2, a3, a4, a5, a6] (vI 160 :: st) h Q := At_next rfl
theorem r150_60 : At call ac_150 60 [a0, vI x, a2, a3, a4, a5, a6] st h Q ↔ At call ac_150 61 [a0, vI x, a2, a3, a4, a5, a6] (vI x :: st) h Q := At_next rfl
theorem r150_61 : At call ac_150 61 [a0, a1, a2, a3, a4, a5, a6] (vI y :: vI x :: st) h Q ↔ At call ac_150 62 [a0, a1, a2, a3, a4, a5, a6] (vI (wr (x * y)) :: st) h Q := At_next rfl
theorem r150_62 : At call ac_150 62 [a0, a1, vI x, a3, a4, a5, a6] st h Q ↔ At call ac_150 63 [a0, a1, vI x, a3, a4, a5, a6] (vI x :: st) h Q := At_next rfl
theorem r150_63 : At call ac_150 63 [a0, a1, a2, a3, a4, a5, a6] (vI y :: vI x :: st) h Q ↔ At call ac_150 64 [a0, a1, a2, a3, a4, a5, a6] (vI (wr (x + y)) :: st) h Q := At_next rfl
theorem r150_64 : At call ac_150 64 [a0, a1, a2, a3, a4, a5, vI x] st h Q ↔ At call ac_150 66 [a0, a1, a2, a3, a4, a5, vI x] (vI x :: st) h Q := At_next rfl
theorem r150_66 : At call ac_150 66 [a0, a1, a2, a3, a4, a5, a6] (vI x :: st) h Q ↔ if x = 0 then At call ac_150 69 [a0, a1, a2, a3, a4, a5, a6] st h Q else At call ac_150 76 [a0, a1, a2, a3, a4, a5, a6] st h Q := At_br rfl
theorem r150_69 : At call ac_150 69 [a0, a1, a2, vJ x, a4, a5, a6] st h Q ↔ At call ac_150 70 [a0, a1, a2, vJ x, a4, a5, a6] (vJ x :: st) h Q := At_next rfl
theorem r150_70 : At call ac_150 70 [a0, a1, a2, a3, a4, a5, a6] (vJ x :: st) h Q ↔ At call ac_150 71 [a0, a1, a2, a3, a4, a5, a6] (vI (wr x) :: st) h Q := At_next rfl
theorem r150_71 : At call ac_150 71 [a0, a1, a2, a3, a4, a5, a6] (vI x :: st) h Q ↔ At call ac_150 72 [a0, a1, a2, a3, a4, a5, a6] (vI (opB x) :: st) h Q := At_next rfl
theorem r150_72 : At call ac_150 72 [a0, a1, a2, a3, a4, a5, a6] (vI x :: st) h Q ↔ At call ac_150 73 [a0, a1, a2, a3, a4, a5, a6] (vJ x :: st) h Q := At_next rfl
theorem r150_73 : At call ac_150 73 [a0, a1, a2, a3, a4, a5, a6] st h Q ↔ At call ac_150 102 [a0, a1, a2, a3, a4, a5, a6] st h Q := At_next rfl
theorem r150_76 : At call ac_150 76 [a0, a1, a2, a3, a4, a5, vI x] st h Q ↔ At call ac_150 78 [a0, a1, a2, a3, a4, a5, vI x] (vI x :: st) h Q := At_next rfl
theorem r150_78 : At call ac_150 78 [a0, a1, a2, a3, a4, a5, a6] st h Q ↔ At call ac_150 79 [a0, a1, a2, a3, a4, a5, a6] (vI 1 :: st) h Q := At_next rfl
theorem r150_79 : At call ac_150 79 [a0, a1, a2, a3, a4, a5, a6] (vI y :: vI x :: st) h Q ↔ if x = y then At call ac_150 82 [a0, a1, a2, a3, a4, a5, a6] st h Q else At call ac_150 89 [a0, a1, a2, a3, a4, a5, a6] st h Q := At_br rfl
theorem r150_82 : At call ac_150 82 [a0, a1, a2, vJ x, a4, a5, a6] st h Q ↔ At call ac_150 83 [a0, a1, a2, vJ x, a4, a5, a6] (vJ x :: st) h Q := At_next rfl
theorem r150_83 : At call ac_150 83 [a0, a1, a2, a3, a4, a5, a6] (vJ x :: st) h Q ↔ At call ac_150 84 [a0, a1, a2, a3, a4, a5, a6] (vI (wr x) :: st) h Q := At_next rfl
theorem r150_84 : At call ac_150 84 [a0, a1, a2, a3, a4, a5, a6] (vI x :: st) h Q ↔ At call ac_150 85 [a0, a1, a2, a3, a4, a5, a6] (vI (opS x) :: st) h Q := At_next rfl
theorem r150_85 : At call ac_150 85 [a0, a1, a2, a3, a4, a5, a6] (vI x :: st) h Q ↔ At call ac_150 86 [a0, a1, a2, a3, a4, a5, a6] (vJ x :: st) h Q := At_next rfl
theorem r150_86 : At call ac_150 86 [a0, a1, a2, a3, a4, a5, a6] st h Q ↔ At call ac_150 102 [a0, a1, a2, a3, a4, a5, a6] st h Q := At_next rfl
theorem r150_89 : At call ac_150 89 [a0, a1, a2, a3, a4, a5, vI x] st h Q ↔ At call ac_150 91 [a0, a1, a2, a3, a4, a5, vI x] (vI x :: st) h Q := At_next rfl
theorem r150_91 : At call ac_150 91 [a0, a1, a2, a3, a4, a5, a6] st h Q ↔ At call ac_150 92 [a0, a1, a2, a3, a4, a5, a6] (vI 2 :: st) h Q := At_next rfl
theorem r150_92 : At call ac_150 92 [a0, a1, a2, a3, a4, a5, a6] (vI y :: vI x :: st) h Q ↔ if x = y then At call ac_150 95 [a0, a1, a2, a3, a4, a5, a6] st h Q else At call ac_150 101 [a0, a1, a2, a3, a4, a5, a6] st h Q := At_br rfl
theorem r150_95 : At call ac_150 95 [a0, a1, a2, vJ x, a4, a5, a6] st h Q ↔ At call ac_150 96 [a0, a1, a2, vJ x, a4, a5, a6] (vJ x :: st) h Q := At_next rfl
theorem r150_96 : At call ac_150 96 [a0, a1, a2, a3, a4, a5, a6] (vJ x :: st) h Q ↔ At call ac_150 97 [a0, a1, a2, a3, a4, a5, a6] (vI (wr x) :: st) h Q := At_next rfl
theorem r150_97 : At call ac_150 97 [a0, a1, a2, a3, a4, a5, a6] (vI x :: st) h Q ↔ At call ac_150 98 [a0, a1, a2, a3, a4, a5, a6] (vJ x :: st) h Q := At_next rfl
theorem r150_98 : At call ac_150 98 [a0, a1, a2, a3, a4, a5, a6] st h Q ↔ At call ac_150 102 [a0, a1, a2, a3, a4, a5, a6] st h Q := At_next rfl
theorem r150_101 : At call ac_150 101 [a0, a1, a2, vJ x, a4, a5, a6] st h Q ↔ At call ac_150 102 [a0, a1, a2, vJ x, a4, a5, a6] (vJ x :: st) h Q := At_next rfl
theorem r150_102 : At call ac_150 102 [a0, a1, a2, a3, a4, a5, a6] (vJ y :: vI x :: vR g m :: st) h Q ↔ inA h m 1 x ∧ At call ac_150 103 [a0, a1, a2, a3, a4, a5, a6] st (up3 h g m x.toNat y) Q := At_guard rfl
theorem r150_103 : At call ac_150 103 [a0, a1, a2, a3, a4, a5, a6] st h Q ↔ At call ac_150 104 [a0, a1, a2, a3, a4, a5, a6] (vI 1 :: st) h Q := At_next rfl
theorem r150_104 : At call ac_150 104 [a0, a1, a2, a3, a4, a5, a6] [vI x] h Q ↔ Q (some (vI x)) h := At_ret rfl
theorem r151_0 : At call ac_151 0 [a0, vI x, a2, a3, a4, a5, a6] st h Q ↔ At call ac_151 1 [a0, vI x, a2, a3, a4, a5, a6] (vI x :: st) h Q := At_next rfl
theorem r151_1 : At call ac_151 1 [a0, a1, a2, a3, a4, a5, a6] st h Q ↔ At call ac_151 2 [a0, a1, a2, a3, a4, a5, a6] (vI 0 :: st) h Q := At_next rfl
theorem r151_2 : At call ac_151 2 [a0, a1, a2, a3, a4, a5, a6] st h Q ↔ At call ac_151 4 [a0, a1, a2, a3, a4, a5, a6] (vI 7 :: st) h Q := At_next rfl
theorem r151_4 : At call ac_151 4 [a0, a1, a2, a3, a4, a5, a6] (b2 :: b1 :: b0 :: st) h Q ↔ st.length ≤ 4 ∧ ∃ v h1, call 144 [b0, b1, b2] h (some v) h1 ∧ At call ac_151 7 [a0, a1, a2, a3, a4, a5, a6] (v :: st) h1 Q := At_gcall rfl
theorem r151_7 : At call ac_151 7 [a0, a1, a2, a3, a4, a5, a6] (vI x :: st) h Q ↔ if x = 0 then At call ac_151 20 [a0, a1, a2, a3, a4, a5, a6] st h Q else At call ac_151 10 [a0, a1, a2, a3, a4, a5, a6] st h Q := At_br rfl
theorem r151_10 : At call ac_151 10 [a0, a1, vI x, a3, a4, a5, a6] st h Q ↔ At call ac_151 11 [a0, a1, vI x, a3, a4, a5, a6] (vI x :: st) h Q := At_next rfl
theorem r151_11 : At call ac_151 11 [a0, a1, a2, a3, a4, a5, a6] st h Q ↔ At call ac_151 12 [a0, a1, a2, a3, a4, a5, a6] (vI 0 :: st) h Q := At_next rfl
theorem r151_12 : At call ac_151 12 [a0, a1, a2, a3, a4, a5, a6] st h Q ↔ At call ac_151 14 [a0, a1, a2, a3, a4, a5, a6] (vI 7 :: st) h Q := At_next rfl
theorem r151_14 : At call ac_151 14 [a0, a1, a2, a3, a4, a5, a6] (b2 :: b1 :: b0 :: st) h Q ↔ st.length ≤ 4 ∧ ∃ v h1, call 144 [b0, b1, b2] h (some v) h1 ∧ At call ac_151 17 [a0, a1, a2, a3, a4, a5, a6] (v :: st) h1 Q := At_gcall rfl
theorem r151_17 : At call ac_151 17 [a0, a1, a2, a3, a4, a5, a6] (vI x :: st) h Q ↔ if x = 0 then At call ac_151 20 [a0, a1, a2, a3, a4, a5, a6] st h Q else At call ac_151 26 [a0, a1, a2, a3, a4, a5, a6] st h Q := At_br rfl
theorem r151_20 : At call ac_151 20 [vR g m, a1, a2, a3, a4, a5, a6] st h Q ↔ At call ac_151 21 [vR g m, a1, a2, a3, a4, a5, a6] (vR g m :: st) h Q := At_next rfl
theorem r151_21 : At call ac_151 21 [a0, a1, a2, a3, a4, a5, a6] st h Q ↔ At call ac_151 22 [a0, a1, a2, a3, a4, a5, a6] (vI (-1) :: st) h Q := At_next rfl
theorem r151_22 : At call ac_151 22 [a0, a1, a2, a3, a4, a5, a6] (b1 :: b0 :: st) h Q ↔ st.length ≤ 4 ∧ ∃ v h1, call 142 [b0, b1] h (some v) h1 ∧ At call ac_151 25 [a0, a1, a2, a3, a4, a5, a6] (v :: st) h1 Q := At_gcall rfl
theorem r151_25 : At call ac_151 25 [a0, a1, a2, a3, a4, a5, a6] [vI x] h Q ↔ Q (some (vI x)) h := At_ret rfl
theorem r151_26 : At call ac_151 26 [vR g m, a1, a2, a3, a4, a5, a6] st h Q ↔ At call ac_151 27 [vR g m, a1, a2, a3, a4, a5, a6] (vR g m :: st) h Q := At_next rfl
theorem r151_27 : At call ac_151 27 [a0, a1, a2, a3, a4, a5, a6] (vR g 27 :: st) h Q ↔ At call ac_151 30 [a0, a1, a2, a3, a4, a5, a6] (vR g 28 :: st) h Q := At_next rfl
theorem r151_30 : At call ac_151 30 [a0, vI x, a2, a3, a4, a5, a6] st h Q ↔ At call ac_151 31 [a0, vI x, a2, a3, a4, a5, a6] (vI x :: st) h Q := At_next rfl
theorem r151_31 : At call ac_151 31 [a0, a1, a2, a3, a4, a5, a6] (vI x :: vR g m :: st) h Q ↔ inA h m 0 x ∧ At call ac_151 32 [a0, a1, a2, a3, a4, a5, a6] (vI (h g m x.toNat) :: st) h Q := At_guard rfl
theorem r151_32 : At call ac_151 32 [a0, a1, a2, a3, a4, a5, a6] (vI x :: st) h Q ↔ if x < 0 then At call ac_151 43 [a0, a1, a2, a3, a4, a5, a6] st h Q else At call ac_151 35 [a0, a1, a2, a3, a4, a5, a6] st h Q := At_br rfl
theorem r151_35 : At call ac_151 35 [vR g m, a1, a2, a3, a4, a5, a6] st h Q ↔ At call ac_151 36 [vR g m, a1, a2, a3, a4, a5, a6] (vR g m :: st) h Q := At_next rfl
theorem r151_36 : At call ac_151 36 [a0, vI x, a2, a3, a4, a5, a6] st h Q ↔ At call ac_151 37 [a0, vI x, a2, a3, a4, a5, a6] (vI x :: st) h Q := At_next rfl
theorem r151_37 : At call ac_151 37 [a0, a1, a2, a3, a4, a5, a6] (b1 :: b0 :: st) h Q ↔ st.length ≤ 4 ∧ ∃ v h1, call 147 [b0, b1] h (some v) h1 ∧ At call ac_151 40 [a0, a1, a2, a3, a4, a5, a6] (v :: st) h1 Q := At_gcall rfl
theorem r151_40 : At call ac_151 40 [a0, a1, a2, a3, a4, a5, a6] (vI x :: st) h Q ↔ if x = 0 then At call ac_151 91 [a0, a1, a2, a3, a4, a5, a6] st h Q else At call ac_151 43 [a0, a1, a2, a3, a4, a5, a6] st h Q := At_br rfl
theorem r151_43 : At call ac_151 43 [vR g m, a1, a2, a3, a4, a5, a6] st h Q ↔ At call ac_151 44 [vR g m, a1, a2, a3, a4, a5, a6] (vR g m :: st) h Q := At_next rfl
theorem r151_44 : At call ac_151 44 [a0, a1, a2, a3, a4, a5, a6] (vR g 27 :: st) h Q ↔ At call ac_151 47 [a0, a1, a2, a3, a4, a5, a6] (vR g 28 :: st) h Q := At_next rfl
theorem r151_47 : At call ac_151 47 [a0, a1, vI x, a3, a4, a5, a6] st h Q ↔ At call ac_151 48 [a0, a1, vI x, a3, a4, a5, a6] (vI x :: st) h Q := At_next rfl
theorem r151_48 : At call ac_151 48 [a0, a1, a2, a3, a4, a5, a6] (vI x :: vR g m :: st) h Q ↔ inA h m 0 x ∧ At call ac_151 49 [a0, a1, a2, a3, a4, a5, a6] (vI (h g m x.toNat) :: st) h Q := At_guard rfl
theorem r151_49 : At call ac_151 49 [a0, a1, a2, a3, a4, a5, a6] (vI x :: st) h Q ↔ if x < 0 then At call ac_151 60 [a0, a1, a2, a3, a4, a5, a6] st h Q else At call ac_151 52 [a0, a1, a2, a3, a4, a5, a6] st h Q := At_br rfl
theorem r151_52 : At call ac_151 52 [vR g m, a1, a2, a3, a4, a5, a6] st h Q ↔ At call ac_151 53 [vR g m, a1, a2, a3, a4, a5, a6] (vR g m :: st) h Q := At_next rfl
theorem r151_53 : At call ac_151 53 [a0, a1, vI x, a3, a4, a5, a6] st h Q ↔ At call ac_151 54 [a0, a1, vI x, a3, a4, a5, a6] (vI x :: st) h Q := At_next rfl
theorem r151_54 : At call ac_151 54 [a0, a1, a2, a3, a4, a5, a6] (b1 :: b0 :: st) h Q ↔ st.length ≤ 4 ∧ ∃ v h1, call 147 [b0, b1] h (some v) h1 ∧ At call ac_151 57 [a0, a1, a2, a3, a4, a5, a6] (v :: st) h1 Q := At_gcall rfl
theorem r151_57 : At call ac_151 57 [a0, a1, a2, a3, a4, a5, a6] (vI x :: st) h Q ↔ if x = 0 then At call ac_151 91 [a0, a1, a2, a3, a4, a5, a6] st h Q else At call ac_151 60 [a0, a1, a2, a3, a4, a5, a6] st h Q := At_br rfl
theorem r151_60 : At call ac_151 60 [vR g m, a1, a2, a3, a4, a5, a6] st h Q ↔ At call ac_151 61 [vR g m, a1, a2, a3, a4, a5, a6] (vR g m :: st) h Q := At_next rfl
theorem r151_61 : At call ac_151 61 [a0, vI x, a2, a3, a4, a5, a6] st h Q ↔ At call ac_151 62 [a0, vI x, a2, a3, a4, a5, a6] (vI x :: st) h Q := At_next rfl
theorem r151_62 : At call ac_151 62 [a0, a1, a2, a3, a4, a5, a6] (b1 :: b0 :: st) h Q ↔ st.length ≤ 4 ∧ ∃ v h1, call 147 [b0, b1] h (some v) h1 ∧ At call ac_151 65 [a0, a1, a2, a3, a4, a5, a6] (v :: st) h1 Q := At_gcall rfl
theorem r151_65 : At call ac_151 65 [a0, a1, a2, a3, a4, a5, a6] (vI x :: st) h Q ↔ if x = 0 then At call ac_151 98 [a0, a1, a2, a3, a4, a5, a6] st h Q else At call ac_151 68 [a0, a1, a2, a3, a4, a5, a6] st h Q := At_br rfl
theorem r151_68 : At call ac_151 68 [vR g m, a1, a2, a3, a4, a5, a6] st h Q ↔ At call ac_151 69 [vR g m, a1, a2, a3, a4, a5, a6] (vR g m :: st) h Q := At_next rfl
theorem r151_69 : At call ac_151 69 [a0, a1, vI x, a3, a4, a5, a6] st h Q ↔ At call ac_151 70 [a0, a1, vI x, a3, a4, a5, a6] (vI x :: st) h Q := At_next rfl
theorem r151_70 : At call ac_151 70 [a0, a1, a2, a3, a4, a5, a6] (b1 :: b0 :: st) h Q ↔ st.length ≤ 4 ∧ ∃ v h1, call 147 [b0, b1] h (some v) h1 ∧ At call ac_151 73 [a0, a1, a2, a3, a4, a5, a6] (v :: st) h1 Q := At_gcall rfl
theorem r151_73 : At call ac_151 73 [a0, a1, a2, a3, a4, a5, a6] (vI x :: st) h Q ↔ if x = 0 then At call ac_151 98 [a0, a1, a2, a3, a4, a5, a6] st h Q else At call ac_151 76 [a0, a1, a2, a3, a4, a5, a6] st h Q := At_br rfl
theorem r151_76 : At call ac_151 76 [vR g m, a1, a2, a3, a4, a5, a6] st h Q ↔ At call ac_151 77 [vR g m, a1, a2, a3, a4, a5, a6] (vR g m :: st) h Q := At_next rfl
theorem r151_77 : At call ac_151 77 [a0, a1, a2, a3, a4, a5, a6] (vR g 27 :: st) h Q ↔ At call ac_151 80 [a0, a1, a2, a3, a4, a5, a6] (vR g 28 :: st) h Q := At_next rfl
theorem r151_80 : At call ac_151 80 [a0, vI x, a2, a3, a4, a5, a6] st h Q ↔ At call ac_151 81 [a0, vI x, a2, a3, a4, a5, a6] (vI x :: st) h Q := At_next rfl
theorem r151_81 : At call ac_151 81 [a0, a1, a2, a3, a4, a5, a6] (vI x :: vR g m :: st) h Q ↔ inA h m 0 x ∧ At call ac_151 82 [a0, a1, a2, a3, a4, a5, a6] (vI (h g m x.toNat) :: st) h Q := At_guard rfl
theorem r151_82 : At call ac_151 82 [vR g m, a1, a2, a3, a4, a5, a6] st h Q ↔ At call ac_151 83 [vR g m, a1, a2, a3, a4, a5, a6] (vR g m :: st) h Q := At_next rfl
theorem r151_83 : At call ac_151 83 [a0, a1, a2, a3, a4, a5, a6] (vR g 27 :: st) h Q ↔ At call ac_151 86 [a0, a1, a2, a3, a4, a5, a6] (vR g 28 :: st) h Q := At_next rfl
theorem r151_86 : At call ac_151 86 [a0, a1, vI x, a3, a4, a5, a6] st h Q ↔ At call ac_151 87 [a0, a1, vI x, a3, a4, a5, a6] (vI x :: st) h Q := At_next rfl
theorem r151_87 : At call ac_151 87 [a0, a1, a2, a3, a4, a5, a6] (vI x :: vR g m :: st) h Q ↔ inA h m 0 x ∧ At call ac_151 88 [a0, a1, a2, a3, a4, a5, a6] (vI (h g m x.toNat) :: st) h Q := At_guard rfl
theorem r151_88 : At call ac_151 88 [a0, a1, a2, a3, a4, a5, a6] (vI y :: vI x :: st) h Q ↔ if x = y then At call ac_151 98 [a0, a1, a2, a3, a4, a5, a6] st h Q else At call ac_151 91 [a0, a1, a2, a3, a4, a5, a6] st h Q := At_br rfl
theorem r151_91 : At call ac_151 91 [vR g m, a1, a2, a3, a4, a5, a6] st h Q ↔ At call ac_151 92 [vR g m, a1, a2, a3, a4, a5, a6] (vR g m :: st) h Q := At_next rfl
theorem r151_92 : At call ac_151 92 [a0, a1, a2, a3, a4, a5, a6] st h Q ↔ At call ac_151 94 [a0, a1, a2, a3, a4, a5, a6] (vI (-2) :: st) h Q := At_next rfl
theorem r151_94 : At call ac_151 94 [a0, a1, a2, a3, a4, a5, a6] (b1 :: b0 :: st) h Q ↔ st.length ≤ 4 ∧ ∃ v h1, call 142 [b0, b1] h (some v) h1 ∧ At call ac_151 97 [a0, a1, a2, a3, a4, a5, a6] (v :: st) h1 Q := At_gcall rfl
theorem r151_97 : At call ac_151 97 [a0, a1, a2, a3, a4, a5, a6] [vI x] h Q ↔ Q (some (vI x)) h := At_ret rfl
theorem r151_98 : At call ac_151 98 [vR g m, a1, a2, a3, a4, a5, a6] st h Q ↔ At call ac_151 99 [vR g m, a1, a2, a3, a4, a5, a6] (vR g m :: st) h Q := At_next rfl
theorem r151_99 : At call ac_151 99 [a0, a1, a2, a3, a4, a5, a6] (vR g 27 :: st) h Q ↔ At call ac_151 102 [a0, a1, a2, a3, a4, a5, a6] (vR g 28 :: st) h Q := At_next rfl
theorem r151_102 : At call ac_151 102 [a0, vI x, a2, a3, a4, a5, a6] st h Q ↔ At call ac_151 103 [a0, vI x, a2, a3, a4, a5, a6] (vI x :: st) h Q := At_next rfl
theorem r151_103 : At call ac_151 103 [a0, a1, a2, a3, a4, a5, a6] (vI x :: vR g m :: st) h Q ↔ inA h m 0 x ∧ At call ac_151 104 [a0, a1, a2, a3, a4, a5, a6] (vI (h g m x.toNat) :: st) h Q := At_guard rfl
theorem r151_104 : At call ac_151 104 [a0, a1, a2, a3, a4, a5, a6] (vI x :: st) h Q ↔ if x < 0 then At call ac_151 116 [a0, a1, a2, a3, a4, a5, a6] st h Q else At call ac_151 107 [a0, a1, a2, a3, a4, a5, a6] st h Q := At_br rfl
theorem r151_107 : At call ac_151 107 [vR g m, a1, a2, a3, a4, a5, a6] st h Q ↔ At call ac_151 108 [vR g m, a1, a2, a3, a4, a5, a6] (vR g m :: st) h Q := At_next rfl
theorem r151_108 : At call ac_151 108 [a0, a1, a2, a3, a4, a5, a6] (vR g 27 :: st) h Q ↔ At call ac_151 111 [a0, a1, a2, a3, a4, a5, a6] (vR g 28 :: st) h Q := At_next rfl
theorem r151_111 : At call ac_151 111 [a0, a1, vI x, a3, a4, a5, a6] st h Q ↔ At call ac_151 112 [a0, a1, vI x, a3, a4, a5, a6] (vI x :: st) h Q := At_next rfl
theorem r151_112 : At call ac_151 112 [a0, a1, a2, a3, a4, a5, a6] (vI x :: vR g m :: st) h Q ↔ inA h m 0 x ∧ At call ac_151 113 [a0, a1, a2, a3, a4, a5, a6] (vI (h g m x.toNat) :: st) h Q := At_guard rfl
theorem r151_113 : At call ac_151 113 [a0, a1, a2, a3, a4, a5, a6] (vI x :: st) h Q ↔ if x < 0 then At call ac_151 116 [a0, a1, a2, a3, a4, a5, a6] st h Q else At call ac_151 123 [a0, a1, a2, a3, a4, a5, a6] st h Q := At_br rfl
theorem r151_116 : At call ac_151 116 [vR g m, a1, a2, a3, a4, a5, a6] st h Q ↔ At call ac_151 117 [vR g m, a1, a2, a3, a4, a5, a6] (vR g m :: st) h Q := At_next rfl
theorem r151_117 : At call ac_151 117 [a0, a1, a2, a3, a4, a5, a6] st h Q ↔ At call ac_151 119 [a0, a1, a2, a3, a4, a5, a6] (vI (-3) :: st) h Q := At_next rfl
theorem r151_119 : At call ac_151 119 [a0, a1, a2, a3, a4, a5, a6] (b1 :: b0 :: st) h Q ↔ st.length ≤ 4 ∧ ∃ v h1, call 142 [b0, b1] h (some v) h1 ∧ At call ac_151 122 [a0, a1, a2, a3, a4, a5, a6] (v :: st) h1 Q := At_gcall rfl
theorem r151_122 : At call ac_151 122 [a0, a1, a2, a3, a4, a5, a6] [vI x] h Q ↔ Q (some (vI x)) h := At_ret rfl
theorem r151_123 : At call ac_151 123 [a0, a1, a2, a3, a4, vI x, a6] st h Q ↔ At call ac_151 125 [a0, a1, a2, a3, a4, vI x, a6] (vI x :: st) h Q := At_next rfl
theorem r151_125 : At call ac_151 125 [a0, a1, a2, a3, a4, a5, a6] (vI x :: st) h Q ↔ if x < 0 then At call ac_151 128 [a0, a1, a2, a3, a4, a5, a6] st h Q else At call ac_151 135 [a0, a1, a2, a3, a4, a5, a6] st h Q := At_br rfl
theorem r151_128 : At call ac_151 128 [vR g m, a1, a2, a3, a4, a5, a6] st h Q ↔ At call ac_151 129 [vR g m, a1, a2, a3, a4, a5, a6] (vR g m :: st) h Q := At_next rfl
theorem r151_129 : At call ac_151 129 [a0, a1, a2, a3, a4, a5, a6] st h Q ↔ At call ac_151 131 [a0, a1, a2, a3, a4, a5, a6] (vI (-4) :: st) h Q := At_next rfl
theorem r151_131 : At call ac_151 131 [a0, a1, a2, a3, a4, a5, a6] (b1 :: b0 :: st) h Q ↔ st.length ≤ 4 ∧ ∃ v h1, call 142 [b0, b1] h (some v) h1 ∧ At call ac_151 134 [a0, a1, a2, a3, a4, a5, a6] (v :: st) h1 Q := At_gcall rfl
theorem r151_134 : At call ac_151 134 [a0, a1, a2, a3, a4, a5, a6] [vI x] h Q ↔ Q (some (vI x)) h := At_ret rfl
theorem r151_135 : At call ac_151 135 [a0, a1, a2, vI x, a4, a5, a6] st h Q ↔ At call ac_151 136 [a0, a1, a2, vI x, a4, a5, a6] (vI x :: st) h Q := At_next rfl
theorem r151_136 : At call ac_151 136 [a0, a1, a2, a3, a4, a5, a6] (vI x :: st) h Q ↔ if x < 0 then At call ac_151 179 [a0, a1, a2, a3, a4, a5, a6] st h Q else At call ac_151 139 [a0, a1, a2, a3, a4, a5, a6] st h Q := At_br rfl
theorem r151_139 : At call ac_151 139 [a0, a1, a2, a3, vI x, a5, a6] st h Q ↔ At call ac_151 141 [a0, a1, a2, a3, vI x, a5, a6] (vI x :: st) h Q := At_next rfl
theorem r151_141 : At call ac_151 141 [a0, a1, a2, a3, a4, a5, a6] (vI x :: st) h Q ↔ if x < 0 then At call ac_151 179 [a0, a1, a2, a3, a4, a5, a6] st h Q else At call ac_151 144 [a0, a1, a2, a3, a4, a5, a6] st h Q := At_br rfl
theorem r151_144 : At call ac_151 144 [a0, a1, a2, vI x, a4, a5, a6] st h Q ↔ At call ac_151 145 [a0, a1, a2, vI x, a4, a5, a6] (vI x :: st) h Q := At_next rfl
theorem r151_145 : At call ac_151 145 [a0, a1, a2, a3, a4, a5, a6] (vI x :: st) h Q ↔ At call ac_151 146 [a0, a1, a2, a3, a4, a5, a6] (vJ x :: st) h Q := At_next rfl
theorem r151_146 : At call ac_151 146 [a0, a1, a2, a3, a4, vI x, a6] st h Q ↔ At call ac_151 148 [a0, a1, a2, a3, a4, vI x, a6] (vI x :: st) h Q := At_next rfl
theorem r151_148 : At call ac_151 148 [a0, a1, a2, a3, a4, a5, a6] (vI x :: st) h Q ↔ At call ac_151 149 [a0, a1, a2, a3, a4, a5, a6] (vJ x :: st) h Q := At_next rfl
theorem r151_149 : At call ac_151 149 [a0, a1, a2, a3, a4, a5, a6] (vJ y :: vJ x :: st) h Q ↔ At call ac_151 150 [a0, a1, a2, a3, a4, a5, a6] (vJ (wl (x + y)) :: st) h Q := At_next rfl
theorem r151_150 : At call ac_151 150 [vR g m, a1, a2, a3, a4, a5, a6] st h Q ↔ At call ac_151 151 [vR g m, a1, a2, a3, a4, a5, a6] (vR g m :: st) h Q := At_next rfl
theorem r151_151 : At call ac_151 151 [a0, a1, a2, a3, a4, a5, a6] (vR g 27 :: st) h Q ↔ At call ac_151 154 [a0, a1, a2, a3, a4, a5, a6] (vR g 29 :: st) h Q := At_next rfl
theorem r151_154 : At call ac_151 154 [a0, vI x, a2, a3, a4, a5, a6] st h Q ↔ At call ac_151 155 [a0, vI x, a2, a3, a4, a5, a6] (vI x :: st) h Q := At_next rfl
theorem r151_155 : At call ac_151 155 [a0, a1, a2, a3, a4, a5, a6] (vI x :: vR g m :: st) h Q ↔ inA h m 0 x ∧ At call ac_151 156 [a0, a1, a2, a3, a4, a5, a6] (vI (h g m x.toNat) :: st) h Q := At_guard rfl
theorem r151_156 : At call ac_151 156 [a0, a1, a2, a3, a4, a5, a6] (vI x :: st) h Q ↔ At call ac_151 157 [a0, a1, a2, a3, a4, a5, a6] (vJ x :: st) h Q := At_next rfl
theorem r151_157 : At call ac_151 157 [a0, a1, a2, a3, a4, a5, a6] (vJ y :: vJ x :: st) h Q ↔ At call ac_151 158 [a0, a1, a2, a3, a4, a5, a6] (vI (opCmp x y) :: st) h Q := At_next rfl
theorem r151_158 : At call ac_151 158 [a0, a1, a2, a3, a4, a5, a6] (vI x :: st) h Q ↔ if 0 < x then At call ac_151 179 [a0, a1, a2, a3, a4, a5, a6] st h Q else At call ac_151 161 [a0, a1, a2, a3, a4, a5, a6] st h Q := At_br rfl
theorem r151_161 : At call ac_151 161 [a0, a1, a2, a3, vI x, a5, a6] st h Q ↔ At call ac_151 163 [a0, a1, a2, a3, vI x, a5, a6] (vI x :: st) h Q := At_next rfl
theorem r151_163 : At call ac_151 163 [a0, a1, a2, a3, a4, a5, a6] (vI x :: st) h Q ↔ At call ac_151 164 [a0, a1, a2, a3, a4, a5, a6] (vJ x :: st) h Q := At_next rfl
theorem r151_164 : At call ac_151 164 [a0, a1, a2, a3, a4, vI x, a6] st h Q ↔ At call ac_151 166 [a0, a1, a2, a3, a4, vI x, a6] (vI x :: st) h Q := At_next rfl
theorem r151_166 : At call ac_151 166 [a0, a1, a2, a3, a4, a5, a6] (vI x :: st) h Q ↔ At call ac_151 167 [a0, a1, a2, a3, a4, a5, a6] (vJ x :: st) h Q := At_next rfl
theorem r151_167 : At call ac_151 167 [a0, a1, a2, a3, a4, a5, a6] (vJ y :: vJ x :: st) h Q ↔ At call ac_151 168 [a0, a1, a2, a3, a4, a5, a6] (vJ (wl (x + y)) :: st) h Q := At_next rfl
theorem r151_168 : At call ac_151 168 [vR g m, a1, a2, a3, a4, a5, a6] st h Q ↔ At call ac_151 169 [vR g m, a1, a2, a3, a4, a5, a6] (vR g m :: st) h Q := At_next rfl
theorem r151_169 : At call ac_151 169 [a0, a1, a2, a3, a4, a5, a6] (vR g 27 :: st) h Q ↔ At call ac_151 172 [a0, a1, a2, a3, a4, a5, a6] (vR g 29 :: st) h Q := At_next rfl
theorem r151_172 : At call ac_151 172 [a0, a1, vI x, a3, a4, a5, a6] st h Q ↔ At call ac_151 173 [a0, a1, vI x, a3, a4, a5, a6] (vI x :: st) h Q := At_next rfl
theorem r151_173 : At call ac_151 173 [a0, a1, a2, a3, a4, a5, a6] (vI x :: vR g m :: st) h Q ↔ inA h m 0 x ∧ At call ac_151 174 [a0, a1, a2, a3, a4, a5, a6] (vI (h g m x.toNat) :: st) h Q := At_guard rfl
theorem r151_174 : At call ac_151 174 [a0, a1, a2, a3, a4, a5, a6] (vI x :: st) h Q ↔ At call ac_151 175 [a0, a1, a2, a3, a4, a5, a6] (vJ x :: st) h Q := At_next rfl
theorem r151_175 : At call ac_151 175 [a0, a1, a2, a3, a4, a5, a6] (vJ y :: vJ x :: st) h Q ↔ At call ac_151 176 [a0, a1, a2, a3, a4, a5, a6] (vI (opCmp x y) :: st) h Q := At_next rfl
theorem r151_176 : At call ac_151 176 [a0, a1, a2, a3, a4, a5, a6] (vI x :: st) h Q ↔ if 0 < x then At call ac_151 179 [a0, a1, a2, a3, a4, a5, a6] st h Q else At call ac_151 186 [a0, a1, a2, a3, a4, a5, a6] st h Q := At_br rfl
theorem r151_179 : At call ac_151 179 [vR g m, a1, a2, a3, a4, a5, a6] st h Q ↔ At call ac_151 180 [vR g m, a1, a2, a3, a4, a5, a6] (vR g m :: st) h Q := At_next rfl
theorem r151_180 : At call ac_151 180 [a0, a1, a2, a3, a4, a5, a6] st h Q ↔ At call ac_151 182 [a0, a1, a2, a3, a4, a5, a6] (vI (-5) :: st) h Q := At_next rfl
theorem r151_182 : At call ac_151 182 [a0, a1, a2, a3, a4, a5, a6] (b1 :: b0 :: st) h Q ↔ st.length ≤ 4 ∧ ∃ v h1, call 142 [b0, b1] h (some v) h1 ∧ At call ac_151 185 [a0, a1, a2, a3, a4, a5, a6] (v :: st) h1 Q := At_gcall rfl
theorem r151_185 : At call ac_151 185 [a0, a1, a2, a3, a4, a5, a6] [vI x] h Q ↔ Q (some (vI x)) h := At_ret rfl
theorem r151_186 : At call ac_151 186 [a0, vI x, a2, a3, a4, a5, a6] st h Q ↔ At call ac_151 187 [a0, vI x, a2, a3, a4, a5, a6] (vI x :: st) h Q := At_next rfl
theorem r151_187 : At call ac_151 187 [a0, a1, vI x, a3, a4, a5, a6] st h Q ↔ At call ac_151 188 [a0, a1, vI x, a3, a4, a5, a6] (vI x :: st) h Q := At_next rfl
theorem r151_188 : At call ac_151 188 [a0, a1, a2, a3, a4, a5, a6] (vI y :: vI x :: st) h Q ↔ if x = y then At call ac_151 191 [a0, a1, a2, a3, a4, a5, a6] st h Q else At call ac_151 248 [a0, a1, a2, a3, a4, a5, a6] st h Q := At_br rfl
theorem r151_191 : At call ac_151 191 [a0, a1, a2, vI x, a4, a5, a6] st h Q ↔ At call ac_151 192 [a0, a1, a2, vI x, a4, a5, a6] (vI x :: st) h Q := At_next rfl
theorem r151_192 : At call ac_151 192 [a0, a1, a2, a3, vI x, a5, a6] st h Q ↔ At call ac_151 194 [a0, a1, a2, a3, vI x, a5, a6] (vI x :: st) h Q := At_next rfl
theorem r151_194 : At call ac_151 194 [a0, a1, a2, a3, a4, a5, a6] (vI y :: vI x :: st) h Q ↔ if x < y then At call ac_151 197 [a0, a1, a2, a3, a4, a5, a6] st h Q else At call ac_151 248 [a0, a1, a2, a3, a4, a5, a6] st h Q := At_br rfl
theorem r151_197 : At call ac_151 197 [a0, a1, a2, a3, a4, vI x, a6] st h Q ↔ At call ac_151 199 [a0, a1, a2, a3, a4, vI x, a6] (vI x :: st) h Q := At_next rfl
theorem r151_199 : At call ac_151 199 [a0, a1, a2, a3, a4, a5, a6] st h Q ↔ At call ac_151 200 [a0, a1, a2, a3, a4, a5, a6] (vI 1 :: st) h Q := At_next rfl
theorem r151_200 : At call ac_151 200 [a0, a1, a2, a3, a4, a5, a6] (vI y :: vI x :: st) h Q ↔ At call ac_151 201 [a0, a1, a2, a3, a4, a5, a6] (vI (wr (x - y)) :: st) h Q := At_next rfl
theorem r151_201 : At call ac_151 201 [a0, a1, a2, a3, a4, a5, a6] (vI x :: st) h Q ↔ At call ac_151 203 [a0, a1, a2, a3, a4, a5, vI x] st h Q := At_next rfl
theorem r151_203 : At call ac_151 203 [a0, a1, a2, a3, a4, a5, vI x] st h Q ↔ At call ac_151 205 [a0, a1, a2, a3, a4, a5, vI x] (vI x :: st) h Q := At_next rfl
theorem r151_205 : At call ac_151 205 [a0, a1, a2, a3, a4, a5, a6] (vI x :: st) h Q ↔ if x < 0 then At call ac_151 245 [a0, a1, a2, a3, a4, a5, a6] st h Q else At call ac_151 208 [a0, a1, a2, a3, a4, a5, a6] st h Q := At_br rfl
theorem r151_208 : At call ac_151 208 [vR g m, a1, a2, a3, a4, a5, a6] st h Q ↔ At call ac_151 209 [vR g m, a1, a2, a3, a4, a5, a6] (vR g m :: st) h Q := At_next rfl
theorem r151_209 : At call ac_151 209 [a0, a1, a2, a3, a4, a5, a6] (vR g 27 :: st) h Q ↔ At call ac_151 212 [a0, a1, a2, a3, a4, a5, a6] (vR g 30 :: st) h Q := At_next rfl
theorem r151_212 : At call ac_151 212 [a0, a1, a2, a3, a4, a5, a6] st h Q ↔ At call ac_151 215 [a0, a1, a2, a3, a4, a5, a6] (vI 160 :: st) h Q := At_next rfl
theorem r151_215 : At call ac_151 215 [a0, a1, vI x, a3, a4, a5, a6] st h Q ↔ At call ac_151 216 [a0, a1, vI x, a3, a4, a5, a6] (vI x :: st) h Q := At_next rfl
theorem r151_216 : At call ac_151 216 [a0, a1, a2, a3, a4, a5, a6] (vI y :: vI x :: st) h Q ↔ At call ac_151 217 [a0, a1, a2, a3, a4, a5, a6] (vI (wr (x * y)) :: st) h Q := At_next rfl
theorem r151_217 : At call ac_151 217 [a0, a1, a2, a3, vI x, a5, a6] st h Q ↔ At call ac_151 219 [a0, a1, a2, a3, vI x, a5, a6] (vI x :: st) h Q := At_next rfl
theorem r151_219 : At call ac_151 219 [a0, a1, a2, a3, a4, a5, a6] (vI y :: vI x :: st) h Q ↔ At call ac_151 220 [a0, a1, a2, a3, a4, a5, a6] (vI (wr (x + y)) :: st) h Q := At_next rfl
theorem r151_220 : At call ac_151 220 [a0, a1, a2, a3, a4, a5, vI x] st h Q ↔ At call ac_151 222 [a0, a1, a2, a3, a4, a5, vI x] (vI x :: st) h Q := At_next rfl
theorem r151_222 : At call ac_151 222 [a0, a1, a2, a3, a4, a5, a6] (vI y :: vI x :: st) h Q ↔ At call ac_151 223 [a0, a1, a2, a3, a4, a5, a6] (vI (wr (x + y)) :: st) h Q := At_next rfl
theorem r151_223 : At call ac_151 223 [vR g m, a1, a2, a3, a4, a5, a6] st h Q ↔ At call ac_151 224 [vR g m, a1, a2, a3, a4, a5, a6] (vR g m :: st) h Q := At_next rfl
theorem r151_224 : At call ac_151 224 [a0, a1, a2, a3, a4, a5, a6] (vR g 27 :: st) h Q ↔ At call ac_151 227 [a0, a1, a2, a3, a4, a5, a6] (vR g 30 :: st) h Q := At_next rfl
theorem r151_227 : At call ac_151 227 [a0, a1, a2, a3, a4, a5, a6] st h Q ↔ At call ac_151 230 [a0, a1, a2, a3, a4, a5, a6] (vI 160 :: st) h Q := At_next rfl
theorem r151_230 : At call ac_151 230 [a0, vI x, a2, a3, a4, a5, a6] st h Q ↔ At call ac_151 231 [a0, vI x, a2, a3, a4, a5, a6] (vI x :: st) h Q := At_next rfl
theorem r151_231 : At call ac_151 231 [a0, a1, a2, a3, a4, a5, a6] (vI y :: vI x :: st) h Q ↔ At call ac_151 232 [a0, a1, a2, a3, a4, a5, a6] (vI (wr (x * y)) :: st) h Q := At_next rfl
theorem r151_232 : At call ac_151 232 [a0, a1, a2, vI x, a4, a5, a6] st h Q ↔ At call ac_151 233 [a0, a1, a2, vI x, a4, a5, a6] (vI x :: st) h Q := At_next rfl
theorem r151_233 : At call ac_151 233 [a0, a1, a2, a3, a4, a5, a6] (vI y :: vI x :: st) h Q ↔ At call ac_151 234 [a0, a1, a2, a3, a4, a5, a6] (vI (wr (x + y)) :: st) h Q := At_next rfl
theorem r151_234 : At call ac_151 234 [a0, a1, a2, a3, a4, a5, vI x] st h Q ↔ At call ac_151 236 [a0, a1, a2, a3, a4, a5, vI x] (vI x :: st) h Q := At_next rfl
theorem r151_236 : At call ac_151 236 [a0, a1, a2, a3, a4, a5, a6] (vI y :: vI x :: st) h Q ↔ At call ac_151 237 [a0, a1, a2, a3, a4, a5, a6] (vI (wr (x + y)) :: st) h Q := At_next rfl
theorem r151_237 : At call ac_151 237 [a0, a1, a2, a3, a4, a5, a6] (vI x :: vR g m :: st) h Q ↔ inA h m 1 x ∧ At call ac_151 238 [a0, a1, a2, a3, a4, a5, a6] (vJ (h g m x.toNat) :: st) h Q := At_guard rfl
theorem r151_238 : At call ac_151 238 [a0, a1, a2, a3, a4, a5, a6] (vJ y :: vI x :: vR g m :: st) h Q ↔ inA h m 1 x ∧ At call ac_151 239 [a0, a1, a2, a3, a4, a5, a6] st (up3 h g m x.toNat y) Q := At_guard rfl
theorem r151_239 : At call ac_151 239 [a0, a1, a2, a3, a4, a5, vI x] st h Q ↔ At call ac_151 242 [a0, a1, a2, a3, a4, a5, vI (wr (x + (-1)))] st h Q := At_next rfl
theorem r151_242 : At call ac_151 242 [a0, a1, a2, a3, a4, a5, a6] st h Q ↔ At call ac_151 203 [a0, a1, a2, a3, a4, a5, a6] st h Q := At_next rfl
theorem r151_245 : At call ac_151 245 [a0, a1, a2, a3, a4, a5, a6] st h Q ↔ At call ac_151 295 [a0, a1, a2, a3, a4, a5, a6] st h Q := At_next rfl
theorem r151_248 : At call ac_151 248 [a0, a1, a2, a3, a4, a5, a6] st h Q ↔ At call ac_151 249 [a0, a1, a2, a3, a4, a5, a6] (vI 0 :: st) h Q := At_next rfl
theorem r151_249 : At call ac_151 249 [a0, a1, a2, a3, a4, a5, a6] (vI x :: st) h Q ↔ At call ac_151 251 [a0, a1, a2, a3, a4, a5, vI x] st h Q := At_next rfl
theorem r151_251 : At call ac_151 251 [a0, a1, a2, a3, a4, a5, vI x] st h Q ↔ At call ac_151 253 [a0, a1, a2, a3, a4, a5, vI x] (vI x :: st) h Q := At_next rfl
theorem r151_253 : At call ac_151 253 [a0, a1, a2, a3, a4, vI x, a6] st h Q ↔ At call ac_151 255 [a0, a1, a2, a3, a4, vI x, a6] (vI x :: st) h Q := At_next rfl
theorem r151_255 : At call ac_151 255 [a0, a1, a2, a3, a4, a5, a6] (vI y :: vI x :: st) h Q ↔ if x < y then At call ac_151 258 [a0, a1, a2, a3, a4, a5, a6] st h Q else At call ac_151 295 [a0, a1, a2, a3, a4, a5, a6] st h Q := At_br rfl
theorem r151_258 : At call ac_151 258 [vR g m, a1, a2, a3, a4, a5, a6] st h Q ↔ At call ac_151 259 [vR g m, a1, a2, a3, a4, a5, a6] (vR g m :: st) h Q := At_next rfl
theorem r151_259 : At call ac_151 259 [a0, a1, a2, a3, a4, a5, a6] (vR g 27 :: st) h Q ↔ At call ac_151 262 [a0, a1, a2, a3, a4, a5, a6] (vR g 30 :: st) h Q := At_next rfl
theorem r151_262 : At call ac_151 262 [a0, a1, a2, a3, a4, a5, a6] st h Q ↔ At call ac_151 265 [a0, a1, a2, a3, a4, a5, a6] (vI 160 :: st) h Q := At_next rfl
theorem r151_265 : At call ac_151 265 [a0, a1, vI x, a3, a4, a5, a6] st h Q ↔ At call ac_151 266 [a0, a1, vI x, a3, a4, a5, a6] (vI x :: st) h Q := At_next rfl
theorem r151_266 : At call ac_151 266 [a0, a1, a2, a3, a4, a5, a6] (vI y :: vI x :: st) h Q ↔ At call ac_151 267 [a0, a1, a2, a3, a4, a5, a6] (vI (wr (x * y)) :: st) h Q := At_next rfl
theorem r151_267 : At call ac_151 267 [a0, a1, a2, a3, vI x, a5, a6] st h Q ↔ At call ac_151 269 [a0, a1, a2, a3, vI x, a5, a6] (vI x :: st) h Q := At_next rfl
theorem r151_269 : At call ac_151 269 [a0, a1, a2, a3, a4, a5, a6] (vI y :: vI x :: st) h Q ↔ At call ac_151 270 [a0, a1, a2, a3, a4, a5, a6] (vI (wr (x + y)) :: st) h Q := At_next rfl
theorem r151_270 : At call ac_151 270 [a0, a1, a2, a3, a4, a5, vI x] st h Q ↔ At call ac_151 272 [a0, a1, a2, a3, a4, a5, vI x] (vI x :: st) h Q := At_next rfl
theorem r151_272 : At call ac_151 272 [a0, a1, a2, a3, a4, a5, a6] (vI y :: vI x :: st) h Q ↔ At call ac_151 273 [a0, a1, a2, a3, a4, a5, a6] (vI (wr (x + y)) :: st) h Q := At_next rfl
theorem r151_273 : At call ac_151 273 [vR g m, a1, a2, a3, a4, a5, a6] st h Q ↔ At call ac_151 274 [vR g m, a1, a2, a3, a4, a5, a6] (vR g m :: st) h Q := At_next rfl
theorem r151_274 : At call ac_151 274 [a0, a1, a2, a3, a4, a5, a6] (vR g 27 :: st) h Q ↔ At call ac_151 277 [a0, a1, a2, a3, a4, a5, a6] (vR g 30 :: st) h Q := At_next rfl
theorem r151_277 : At call ac_151 277 [a0, a1, a2, a3, a4, a5, a6] st h Q ↔ At call ac_151 280 [a0, a1, a2, a3, a4, a5, a6] (vI 160 :: st) h Q := At_next rfl
theorem r151_280 : At call ac_151 280 [a0, vI x, a2, a3, a4, a5, a6] st h Q ↔ At call ac_151 281 [a0, vI x, a2, a3, a4, a5, a6] (vI x :: st) h Q := At_next rfl
theorem r151_281 : At call ac_151 281 [a0, a1, a2, a3, a4, a5, a6] (vI y :: vI x :: st) h Q ↔ At call ac_151 282 [a0, a1, a2, a3, a4, a5, a6] (vI (wr (x * y)) :: st) h Q := At_next rfl
theorem r151_282 : At call ac_151 282 [a0, a1, a2, vI x, a4, a5, a6] st h Q ↔ At call ac_151 283 [a0, a1, a2, vI x, a4, a5, a6] (vI x :: st) h Q := At_next rfl
theorem r151_283 : At call ac_151 283 [a0, a1, a2, a3, a4, a5, a6] (vI y :: vI x :: st) h Q ↔ At call ac_151 284 [a0, a1, a2, a3, a4, a5, a6] (vI (wr (x + y)) :: st) h Q := At_next rfl
theorem r151_284 : At call ac_151 284 [a0, a1, a2, a3, a4, a5, vI x] st h Q ↔ At call ac_151 286 [a0, a1, a2, a3, a4, a5, vI x] (vI x :: st) h Q := At_next rfl
theorem r151_286 : At call ac_151 286 [a0, a1, a2, a3, a4, a5, a6] (vI y :: vI x :: st) h Q ↔ At call ac_151 287 [a0, a1, a2, a3, a4, a5, a6] (vI (wr (x + y)) :: st) h Q := At_next rfl
theorem r151_287 : At call ac_151 287 [a0, a1, a2, a3, a4, a5, a6] (vI x :: vR g m :: st) h Q ↔ inA h m 1 x ∧ At call ac_151 288 [a0, a1, a2, a3, a4, a5, a6] (vJ (h g m x.toNat) :: st) h Q := At_guard rfl
theorem r151_288 : At call ac_151 288 [a0, a1, a2, a3, a4, a5, a6] (vJ y :: vI x :: vR g m :: st) h Q ↔ inA h m 1 x ∧ At call ac_151 289 [a0, a1, a2, a3, a4, a5, a6] st (up3 h g m x.toNat y) Q := At_guard rfl
theorem r151_289 : At call ac_151 289 [a0, a1, a2, a3, a4, a5, vI x] st h Q ↔ At call ac_151 292 [a0, a1, a2, a3, a4, a5, vI (wr (x + 1))] st h Q := At_next rfl
theorem r151_292 : At call ac_151 292 [a0, a1, a2, a3, a4, a5, a6] st h Q ↔ At call ac_151 251 [a0, a1, a2, a3, a4, a5, a6] st h Q := At_next rfl
theorem r151_295 : At call ac_151 295 [a0, a1, a2, a3, a4, a5, a6] st h Q ↔ At call ac_151 296 [a0, a1, a2, a3, a4, a5, a6] (vI 1 :: st) h Q := At_next rfl
theorem r151_296 : At call ac_151 296 [a0, a1, a2, a3, a4, a5, a6] [vI x] h Q ↔ Q (some (vI x)) h := At_ret rfl
theorem r152_0 : At call ac_152 0 [a0, vI x, a2] st h Q ↔ At call ac_152 1 [a0, vI x, a2] (vI x :: st) h Q := At_next rfl
theorem r152_1 : At call ac_152 1 [a0, a1, a2] st h Q ↔ At call ac_152 2 [a0, a1, a2] (vI 0 :: st) h Q := At_next rfl
theorem r152_2 : At call ac_152 2 [a0, a1, a2] st h Q ↔ At call ac_152 4 [a0, a1, a2] (vI 7 :: st) h Q := At_next rfl
theorem r152_4 : At call ac_152 4 [a0, a1, a2] (b2 :: b1 :: b0 :: st) h Q ↔ st.length ≤ 4 ∧ ∃ v h1, call 144 [b0, b1, b2] h (some v) h1 ∧ At call ac_152 7 [a0, a1, a2] (v :: st) h1 Q := At_gcall rfl
theorem r152_7 : At call ac_152 7 [a0, a1, a2] (vI x :: st) h Q ↔ if x = 0 then At call ac_152 49 [a0, a1, a2] st h Q else At call ac_152 10 [a0, a1, a2] st h Q := At_br rfl
theorem r152_10 : At call ac_152 10 [vR g m, a1, a2] st h Q ↔ At call ac_152 11 [vR g m, a1, a2] (vR g m :: st) h Q := At_next rfl
theorem r152_11 : At call ac_152 11 [a0, vI x, a2] st h Q ↔ At call ac_152 12 [a0, vI x, a2] (vI x :: st) h Q := At_next rfl
theorem r152_12 : At call ac_152 12 [a0, a1, a2] (b1 :: b0 :: st) h Q ↔ st.length ≤ 4 ∧ ∃ v h1, call 147 [b0, b1] h (some v) h1 ∧ At call ac_152 15 [a0, a1, a2] (v :: st) h1 Q := At_gcall rfl
theorem r152_15 : At call ac_152 15 [a0, a1, a2] (vI x :: st) h Q ↔ if x = 0 then At call ac_152 49 [a0, a1, a2] st h Q else At call ac_152 18 [a0, a1, a2] st h Q := At_br rfl
theorem r152_18 : At call ac_152 18 [a0, a1, vI x] st h Q ↔ At call ac_152 19 [a0, a1, vI x] (vI x :: st) h Q := At_next rfl
theorem r152_19 : At call ac_152 19 [a0, a1, a2] st h Q ↔ At call ac_152 20 [a0, a1, a2] (vI 0 :: st) h Q := At_next rfl
theorem r152_20 : At call ac_152 20 [vR g m, a1, a2] st h Q ↔ At call ac_152 21 [vR g m, a1, a2] (vR g m :: st) h Q := At_next rfl
theorem r152_21 : At call ac_152 21 [a0, a1, a2] (vR g 27 :: st) h Q ↔ At call ac_152 24 [a0, a1, a2] (vR g 29 :: st) h Q := At_next rfl
theorem r152_24 : At call ac_152 24 [a0, vI x, a2] st h Q ↔ At call ac_152 25 [a0, vI x, a2] (vI x :: st) h Q := At_next rfl
theorem r152_25 : At call ac_152 25 [a0, a1, a2] (vI x :: vR g m :: st) h Q ↔ inA h m 0 x ∧ At call ac_152 26 [a0, a1, a2] (vI (h g m x.toNat) :: st) h Q := At_guard rfl
theorem r152_26 : At call ac_152 26 [a0, a1, a2] st h Q ↔ At call ac_152 27 [a0, a1, a2] (vI 1 :: st) h Q := At_next rfl
theorem r152_27 : At call ac_152 27 [a0, a1, a2] (vI y :: vI x :: st) h Q ↔ At call ac_152 28 [a0, a1, a2] (vI (wr (x - y)) :: st) h Q := At_next rfl
theorem r152_28 : At call ac_152 28 [a0, a1, a2] (b2 :: b1 :: b0 :: st) h Q ↔ st.length ≤ 4 ∧ ∃ v h1, call 144 [b0, b1, b2] h (some v) h1 ∧ At call ac_152 31 [a0, a1, a2] (v :: st) h1 Q := At_gcall rfl
theorem r152_31 : At call ac_152 31 [a0, a1, a2] (vI x :: st) h Q ↔ if x = 0 then At call ac_152 49 [a0, a1, a2] st h Q else At call ac_152 34 [a0, a1, a2] st h Q := At_br rfl
theorem r152_34 : At call ac_152 34 [vR g m, a1, a2] st h Q ↔ At call ac_152 35 [vR g m, a1, a2] (vR g m :: st) h Q := At_next rfl
theorem r152_35 : At call ac_152 35 [a0, a1, a2] (vR g 27 :: st) h Q ↔ At call ac_152 38 [a0, a1, a2] (vR g 30 :: st) h Q := At_next rfl
theorem r152_38 : At call ac_152 38 [a0, a1, a2] st h Q ↔ At call ac_152 41 [a0, a1, a2] (vI 160 :: st) h Q := At_next rfl
theorem r152_41 : At call ac_152 41 [a0, vI x, a2] st h Q ↔ At call ac_152 42 [a0, vI x, a2] (vI x :: st) h Q := At_next rfl
theorem r152_42 : At call ac_152 42 [a0, a1, a2] (vI y :: vI x :: st) h Q ↔ At call ac_152 43 [a0, a1, a2] (vI (wr (x * y)) :: st) h Q := At_next rfl
theorem r152_43 : At call ac_152 43 [a0, a1, vI x] st h Q ↔ At call ac_152 44 [a0, a1, vI x] (vI x :: st) h Q := At_next rfl
theorem r152_44 : At call ac_152 44 [a0, a1, a2] (vI y :: vI x :: st) h Q ↔ At call ac_152 45 [a0, a1, a2] (vI (wr (x + y)) :: st) h Q := At_next rfl
theorem r152_45 : At call ac_152 45 [a0, a1, a2] (vI x :: vR g m :: st) h Q ↔ inA h m 1 x ∧ At call ac_152 46 [a0, a1, a2] (vJ (h g m x.toNat) :: st) h Q := At_guard rfl
theorem r152_46 : At call ac_152 46 [a0, a1, a2] st h Q ↔ At call ac_152 50 [a0, a1, a2] st h Q := At_next rfl
theorem r152_49 : At call ac_152 49 [a0, a1, a2] st h Q ↔ At call ac_152 50 [a0, a1, a2] (vJ 0 :: st) h Q := At_next rfl
theorem r152_50 : At call ac_152 50 [a0, a1, a2] [vJ x] h Q ↔ Q (some (vJ x)) h := At_ret rfl
theorem r153_0 : At call ac_153 0 [a0, vI x, a2] st h Q ↔ At call ac_153 1 [a0, vI x, a2] (vI x :: st) h Q := At_next rfl
theorem r153_1 : At call ac_153 1 [a0, a1, a2] st h Q ↔ At call ac_153 2 [a0, a1, a2] (vI 0 :: st) h Q := At_next rfl
theorem r153_2 : At call ac_153 2 [a0, a1, a2] st h Q ↔ At call ac_153 4 [a0, a1, a2] (vI 7 :: st) h Q := At_next rfl
theorem r153_4 : At call ac_153 4 [a0, a1, a2] (b2 :: b1 :: b0 :: st) h Q ↔ st.length ≤ 4 ∧ ∃ v h1, call 144 [b0, b1, b2] h (some v) h1 ∧ At call ac_153 7 [a0, a1, a2] (v :: st) h1 Q := At_gcall rfl
theorem r153_7 : At call ac_153 7 [a0, a1, a2] (vI x :: st) h Q ↔ if x = 0 then At call ac_153 23 [a0, a1, a2] st h Q else At call ac_153 10 [a0, a1, a2] st h Q := At_br rfl
theorem r153_10 : At call ac_153 10 [a0, a1, vI x] st h Q ↔ At call ac_153 11 [a0, a1, vI x] (vI x :: st) h Q := At_next rfl
theorem r153_11 : At call ac_153 11 [a0, a1, a2] st h Q ↔ At call ac_153 12 [a0, a1, a2] (vI (-1) :: st) h Q := At_next rfl
theorem r153_12 : At call ac_153 12 [a0, a1, a2] (vI y :: vI x :: st) h Q ↔ if x = y then At call ac_153 29 [a0, a1, a2] st h Q else At call ac_153 15 [a0, a1, a2] st h Q := At_br rfl
theorem r153_15 : At call ac_153 15 [vR g m, a1, a2] st h Q ↔ At call ac_153 16 [vR g m, a1, a2] (vR g m :: st) h Q := At_next rfl
theorem r153_16 : At call ac_153 16 [a0, a1, vI x] st h Q ↔ At call ac_153 17 [a0, a1, vI x] (vI x :: st) h Q := At_next rfl
theorem r153_17 : At call ac_153 17 [a0, a1, a2] (b1 :: b0 :: st) h Q ↔ st.length ≤ 4 ∧ ∃ v h1, call 145 [b0, b1] h (some v) h1 ∧ At call ac_153 20 [a0, a1, a2] (v :: st) h1 Q := At_gcall rfl
theorem r153_20 : At call ac_153 20 [a0, a1, a2] (vI x :: st) h Q ↔ if x = 0 then At call ac_153 23 [a0, a1, a2] st h Q else At call ac_153 29 [a0, a1, a2] st h Q := At_br rfl
theorem r153_23 : At call ac_153 23 [vR g m, a1, a2] st h Q ↔ At call ac_153 24 [vR g m, a1, a2] (vR g m :: st) h Q := At_next rfl
theorem r153_24 : At call ac_153 24 [a0, a1, a2] st h Q ↔ At call ac_153 25 [a0, a1, a2] (vI (-1) :: st) h Q := At_next rfl
theorem r153_25 : At call ac_153 25 [a0, a1, a2] (b1 :: b0 :: st) h Q ↔ st.length ≤ 4 ∧ ∃ v h1, call 142 [b0, b1] h (some v) h1 ∧ At call ac_153 28 [a0, a1, a2] (v :: st) h1 Q := At_gcall rfl
theorem r153_28 : At call ac_153 28 [a0, a1, a2] [vI x] h Q ↔ Q (some (vI x)) h := At_ret rfl
theorem r153_29 : At call ac_153 29 [vR g m, a1, a2] st h Q ↔ At call ac_153 30 [vR g m, a1, a2] (vR g m :: st) h Q := At_next rfl
theorem r153_30 : At call ac_153 30 [a0, a1, a2] (vR g 27 :: st) h Q ↔ At call ac_153 33 [a0, a1, a2] (vR g 28 :: st) h Q := At_next rfl
theorem r153_33 : At call ac_153 33 [a0, vI x, a2] st h Q ↔ At call ac_153 34 [a0, vI x, a2] (vI x :: st) h Q := At_next rfl
theorem r153_34 : At call ac_153 34 [a0, a1, vI x] st h Q ↔ At call ac_153 35 [a0, a1, vI x] (vI x :: st) h Q := At_next rfl
theorem r153_35 : At call ac_153 35 [a0, a1, a2] (vI y :: vI x :: vR g m :: st) h Q ↔ (inA h m 0 x ∧ m ≠ 37) ∧ At call ac_153 36 [a0, a1, a2] st (up3 h g m x.toNat y) Q := At_guard rfl
theorem r153_36 : At call ac_153 36 [a0, a1, vI x] st h Q ↔ At call ac_153 37 [a0, a1, vI x] (vI x :: st) h Q := At_next rfl
theorem r153_37 : At call ac_153 37 [a0, a1, a2] st h Q ↔ At call ac_153 38 [a0, a1, a2] (vI (-1) :: st) h Q := At_next rfl
theorem r153_38 : At call ac_153 38 [a0, a1, a2] (vI y :: vI x :: st) h Q ↔ if x = y then At call ac_153 41 [a0, a1, a2] st h Q else At call ac_153 45 [a0, a1, a2] st h Q := At_br rfl
theorem r153_41 : At call ac_153 41 [a0, a1, a2] st h Q ↔ At call ac_153 42 [a0, a1, a2] (vI 0 :: st) h Q := At_next rfl
theorem r153_42 : At call ac_153 42 [a0, a1, a2] st h Q ↔ At call ac_153 46 [a0, a1, a2] st h Q := At_next rfl
theorem r153_45 : At call ac_153 45 [a0, a1, a2] st h Q ↔ At call ac_153 46 [a0, a1, a2] (vI 1 :: st) h Q := At_next rfl
theorem r153_46 : At call ac_153 46 [a0, a1, a2] [vI x] h Q ↔ Q (some (vI x)) h := At_ret rfl
theorem r154_0 : At call ac_154 0 [a0, vI x] st h Q ↔ At call ac_154 1 [a0, vI x] (vI x :: st) h Q := At_next rfl
theorem r154_1 : At call ac_154 1 [a0, a1] st h Q ↔ At call ac_154 2 [a0, a1] (vI 0 :: st) h Q := At_next rfl
theorem r154_2 : At call ac_154 2 [a0, a1] st h Q ↔ At call ac_154 4 [a0, a1] (vI 7 :: st) h Q := At_next rfl
theorem r154_4 : At call ac_154 4 [a0, a1] (b2 :: b1 :: b0 :: st) h Q ↔ st.length ≤ 4 ∧ ∃ v h1, call 144 [b0, b1, b2] h (some v) h1 ∧ At call ac_154 7 [a0, a1] (v :: st) h1 Q := At_gcall rfl
theorem r154_7 : At call ac_154 7 [a0, a1] (vI x :: st) h Q ↔ if x = 0 then At call ac_154 19 [a0, a1] st h Q else At call ac_154 10 [a0, a1] st h Q := At_br rfl
theorem r154_10 : At call ac_154 10 [vR g m, a1] st h Q ↔ At call ac_154 11 [vR g m, a1] (vR g m :: st) h Q := At_next rfl
theorem r154_11 : At call ac_154 11 [a0, a1] (vR g 27 :: st) h Q ↔ At call ac_154 14 [a0, a1] (vR g 28 :: st) h Q := At_next rfl
theorem r154_14 : At call ac_154 14 [a0, vI x] st h Q ↔ At call ac_154 15 [a0, vI x] (vI x :: st) h Q := At_next rfl
theorem r154_15 : At call ac_154 15 [a0, a1] (vI x :: vR g m :: st) h Q ↔ inA h m 0 x ∧ At call ac_154 16 [a0, a1] (vI (h g m x.toNat) :: st) h Q := At_guard rfl
theorem r154_16 : At call ac_154 16 [a0, a1] st h Q ↔ At call ac_154 20 [a0, a1] st h Q := At_next rfl
theorem r154_19 : At call ac_154 19 [a0, a1] st h Q ↔ At call ac_154 20 [a0, a1] (vI (-1) :: st) h Q := At_next rfl
theorem r154_20 : At call ac_154 20 [a0, a1] [vI x] h Q ↔ Q (some (vI x)) h := At_ret rfl
theorem r155_0 : At call ac_155 0 [vI x] st h Q ↔ At call ac_155 1 [vI x] (vI x :: st) h Q := At_next rfl
theorem r155_1 : At call ac_155 1 [a0] st h Q ↔ At call ac_155 2 [a0] (vI 3 :: st) h Q := At_next rfl
theorem r155_2 : At call ac_155 2 [a0] (vI y :: vI x :: st) h Q ↔ if x = y then At call ac_155 5 [a0] st h Q else At call ac_155 9 [a0] st h Q := At_br rfl
theorem r155_5 : At call ac_155 5 [a0] st h Q ↔ At call ac_155 6 [a0] (vI 1 :: st) h Q := At_next rfl
theorem r155_6 : At call ac_155 6 [a0] st h Q ↔ At call ac_155 29 [a0] st h Q := At_next rfl
theorem r155_9 : At call ac_155 9 [vI x] st h Q ↔ At call ac_155 10 [vI x] (vI x :: st) h Q := At_next rfl
theorem r155_10 : At call ac_155 10 [a0] st h Q ↔ At call ac_155 11 [a0] (vI 5 :: st) h Q := At_next rfl
theorem r155_11 : At call ac_155 11 [a0] (vI y :: vI x :: st) h Q ↔ if x = y then At call ac_155 14 [a0] st h Q else At call ac_155 18 [a0] st h Q := At_br rfl
theorem r155_14 : At call ac_155 14 [a0] st h Q ↔ At call ac_155 15 [a0] (vI 2 :: st) h Q := At_next rfl
theorem r155_15 : At call ac_155 15 [a0] st h Q ↔ At call ac_155 29 [a0] st h Q := At_next rfl
theorem r155_18 : At call ac_155 18 [vI x] st h Q ↔ At call ac_155 19 [vI x] (vI x :: st) h Q := At_next rfl
theorem r155_19 : At call ac_155 19 [a0] st h Q ↔ At call ac_155 21 [a0] (vI 6 :: st) h Q := At_next rfl
theorem r155_21 : At call ac_155 21 [a0] (vI y :: vI x :: st) h Q ↔ if x = y then At call ac_155 24 [a0] st h Q else At call ac_155 28 [a0] st h Q := At_br rfl
theorem r155_24 : At call ac_155 24 [a0] st h Q ↔ At call ac_155 25 [a0] (vI 4 :: st) h Q := At_next rfl
theorem r155_25 : At call ac_155 25 [a0] st h Q ↔ At call ac_155 29 [a0] st h Q := At_next rfl
theorem r155_28 : At call ac_155 28 [a0] st h Q ↔ At call ac_155 29 [a0] (vI 0 :: st) h Q := At_next rfl
theorem r155_29 : At call ac_155 29 [a0] [vI x] h Q ↔ Q (some (vI x)) h := At_ret rfl
theorem r156_0 : At call ac_156 0 [vI x, a1, a2] st h Q ↔ At call ac_156 1 [vI x, a1, a2] (vI x :: st) h Q := At_next rfl
theorem r156_1 : At call ac_156 1 [a0, a1, a2] (vI x :: st) h Q ↔ At call ac_156 2 [a0, a1, vI x] st h Q := At_next rfl
theorem r156_2 : At call ac_156 2 [a0, a1, vI x] st h Q ↔ At call ac_156 3 [a0, a1, vI x] (vI x :: st) h Q := At_next rfl
theorem r156_3 : At call ac_156 3 [a0, vI x, a2] st h Q ↔ At call ac_156 4 [a0, vI x, a2] (vI x :: st) h Q := At_next rfl
theorem r156_4 : At call ac_156 4 [a0, a1, a2] (vI y :: vI x :: st) h Q ↔ if x = y then At call ac_156 19 [a0, a1, a2] st h Q else At call ac_156 7 [a0, a1, a2] st h Q := At_br rfl
theorem r156_7 : At call ac_156 7 [a0, a1, vI x] st h Q ↔ At call ac_156 8 [a0, a1, vI x] (vI x :: st) h Q := At_next rfl
theorem r156_8 : At call ac_156 8 [a0, a1, a2] (vI x :: st) h Q ↔ if 0 < x then At call ac_156 11 [a0, a1, a2] st h Q else At call ac_156 19 [a0, a1, a2] st h Q := At_br rfl
theorem r156_11 : At call ac_156 11 [a0, a1, vI x] st h Q ↔ At call ac_156 12 [a0, a1, vI x] (vI x :: st) h Q := At_next rfl
theorem r156_12 : At call ac_156 12 [a0, a1, a2] (b0 :: st) h Q ↔ st.length ≤ 4 ∧ ∃ v h1, call 155 [b0] h (some v) h1 ∧ At call ac_156 15 [a0, a1, a2] (v :: st) h1 Q := At_gcall rfl
theorem r156_15 : At call ac_156 15 [a0, a1, a2] (vI x :: st) h Q ↔ At call ac_156 16 [a0, a1, vI x] st h Q := At_next rfl
theorem r156_16 : At call ac_156 16 [a0, a1, a2] st h Q ↔ At call ac_156 2 [a0, a1, a2] st h Q := At_next rfl
theorem r156_19 : At call ac_156 19 [a0, a1, vI x] st h Q ↔ At call ac_156 20 [a0, a1, vI x] (vI x :: st) h Q := At_next rfl
theorem r156_20 : At call ac_156 20 [a0, vI x, a2] st h Q ↔ At call ac_156 21 [a0, vI x, a2] (vI x :: st) h Q := At_next rfl
theorem r156_21 : At call ac_156 21 [a0, a1, a2] (vI y :: vI x :: st) h Q ↔ if x = y then At call ac_156 24 [a0, a1, a2] st h Q else At call ac_156 28 [a0, a1, a2] st h Q := At_br rfl
theorem r156_24 : At call ac_156 24 [a0, a1, a2] st h Q ↔ At call ac_156 25 [a0, a1, a2] (vI 1 :: st) h Q := At_next rfl
theorem r156_25 : At call ac_156 25 [a0, a1, a2] st h Q ↔ At call ac_156 29 [a0, a1, a2] st h Q := At_next rfl
theorem r156_28 : At call ac_156 28 [a0, a1, a2] st h Q ↔ At call ac_156 29 [a0, a1, a2] (vI 0 :: st) h Q := At_next rfl
theorem r156_29 : At call ac_156 29 [a0, a1, a2] [vI x] h Q ↔ (x = 0 ∨ x = 1) ∧ Q (some (vI x)) h := At_guardR rfl
theorem r157_0 : At call ac_157 0 [a0, vI x, a2, a3] st h Q ↔ At call ac_157 1 [a0, vI x, a2, a3] (vI x :: st) h Q := At_next rfl
theorem r157_1 : At call ac_157 1 [a0, a1, a2, a3] st h Q ↔ At call ac_157 2 [a0, a1, a2, a3] (vI 0 :: st) h Q := At_next rfl
theorem r157_2 : At call ac_157 2 [a0, a1, a2, a3] st h Q ↔ At call ac_157 4 [a0, a1, a2, a3] (vI 7 :: st) h Q := At_next rfl
theorem r157_4 : At call ac_157 4 [a0, a1, a2, a3] (b2 :: b1 :: b0 :: st) h Q ↔ st.length ≤ 4 ∧ ∃ v h1, call 144 [b0, b1, b2] h (some v) h1 ∧ At call ac_157 7 [a0, a1, a2, a3] (v :: st) h1 Q := At_gcall rfl
theorem r157_7 : At call ac_157 7 [a0, a1, a2, a3] (vI x :: st) h Q ↔ if x = 0 then At call ac_157 20 [a0, a1, a2, a3] st h Q else At call ac_157 10 [a0, a1, a2, a3] st h Q := At_br rfl
theorem r157_10 : At call ac_157 10 [a0, a1, vI x, a3] st h Q ↔ At call ac_157 11 [a0, a1, vI x, a3] (vI x :: st) h Q := At_next rfl
theorem r157_11 : At call ac_157 11 [a0, a1, a2, a3] st h Q ↔ At call ac_157 12 [a0, a1, a2, a3] (vI 0 :: st) h Q := At_next rfl
theorem r157_12 : At call ac_157 12 [a0, a1, a2, a3] st h Q ↔ At call ac_157 14 [a0, a1, a2, a3] (vI 6 :: st) h Q := At_next rfl
theorem r157_14 : At call ac_157 14 [a0, a1, a2, a3] (b2 :: b1 :: b0 :: st) h Q ↔ st.length ≤ 4 ∧ ∃ v h1, call 144 [b0, b1, b2] h (some v) h1 ∧ At call ac_157 17 [a0, a1, a2, a3] (v :: st) h1 Q := At_gcall rfl
theorem r157_17 : At call ac_157 17 [a0, a1, a2, a3] (vI x :: st) h Q ↔ if x = 0 then At call ac_157 20 [a0, a1, a2, a3] st h Q else At call ac_157 26 [a0, a1, a2, a3] st h Q := At_br rfl
theorem r157_20 : At call ac_157 20 [vR g m, a1, a2, a3] st h Q ↔ At call ac_157 21 [vR g m, a1, a2, a3] (vR g m :: st) h Q := At_next rfl
theorem r157_21 : At call ac_157 21 [a0, a1, a2, a3] st h Q ↔ At call ac_157 22 [a0, a1, a2, a3] (vI (-1) :: st) h Q := At_next rfl
theorem r157_22 : At call ac_157 22 [a0, a1, a2, a3] (b1 :: b0 :: st) h Q ↔ st.length ≤ 4 ∧ ∃ v h1, call 142 [b0, b1] h (some v) h1 ∧ At call ac_157 25 [a0, a1, a2, a3] (v :: st) h1 Q := At_gcall rfl
theorem r157_25 : At call ac_157 25 [a0, a1, a2, a3] [vI x] h Q ↔ Q (some (vI x)) h := At_ret rfl
theorem r157_26 : At call ac_157 26 [vR g m, a1, a2, a3] st h Q ↔ At call ac_157 27 [vR g m, a1, a2, a3] (vR g m :: st) h Q := At_next rfl
theorem r157_27 : At call ac_157 27 [a0, a1, a2, a3] (vR g 27 :: st) h Q ↔ At call ac_157 30 [a0, a1, a2, a3] (vR g 28 :: st) h Q := At_next rfl
theorem r157_30 : At call ac_157 30 [a0, vI x, a2, a3] st h Q ↔ At call ac_157 31 [a0, vI x, a2, a3] (vI x :: st) h Q := At_next rfl
theorem r157_31 : At call ac_157 31 [a0, a1, a2, a3] (vI x :: vR g m :: st) h Q ↔ inA h m 0 x ∧ At call ac_157 32 [a0, a1, a2, a3] (vI (h g m x.toNat) :: st) h Q := At_guard rfl
theorem r157_32 : At call ac_157 32 [a0, a1, a2, a3] (vI x :: st) h Q ↔ At call ac_157 33 [a0, a1, a2, vI x] st h Q := At_next rfl
theorem r157_33 : At call ac_157 33 [a0, a1, a2, vI x] st h Q ↔ At call ac_157 34 [a0, a1, a2, vI x] (vI x :: st) h Q := At_next rfl
theorem r157_34 : At call ac_157 34 [a0, a1, a2, a3] (vI x :: st) h Q ↔ if x < 0 then At call ac_157 65 [a0, a1, a2, a3] st h Q else At call ac_157 37 [a0, a1, a2, a3] st h Q := At_br rfl
theorem r157_37 : At call ac_157 37 [vR g m, a1, a2, a3] st h Q ↔ At call ac_157 38 [vR g m, a1, a2, a3] (vR g m :: st) h Q := At_next rfl
theorem r157_38 : At call ac_157 38 [a0, vI x, a2, a3] st h Q ↔ At call ac_157 39 [a0, vI x, a2, a3] (vI x :: st) h Q := At_next rfl
theorem r157_39 : At call ac_157 39 [a0, a1, a2, a3] (b1 :: b0 :: st) h Q ↔ st.length ≤ 4 ∧ ∃ v h1, call 147 [b0, b1] h (some v) h1 ∧ At call ac_157 42 [a0, a1, a2, a3] (v :: st) h1 Q := At_gcall rfl
theorem r157_42 : At call ac_157 42 [a0, a1, a2, a3] (vI x :: st) h Q ↔ if x = 0 then At call ac_157 45 [a0, a1, a2, a3] st h Q else At call ac_157 58 [a0, a1, a2, a3] st h Q := At_br rfl
theorem r157_45 : At call ac_157 45 [vR g m, a1, a2, a3] st h Q ↔ At call ac_157 46 [vR g m, a1, a2, a3] (vR g m :: st) h Q := At_next rfl
theorem r157_46 : At call ac_157 46 [a0, a1, a2, a3] (vR g 27 :: st) h Q ↔ At call ac_157 49 [a0, a1, a2, a3] (vR g 20 :: st) h Q := At_next rfl
theorem r157_49 : At call ac_157 49 [a0, a1, a2, vI x] st h Q ↔ At call ac_157 50 [a0, a1, a2, vI x] (vI x :: st) h Q := At_next rfl
theorem r157_50 : At call ac_157 50 [a0, a1, a2, a3] (vI x :: vR g m :: st) h Q ↔ inA h m 0 x ∧ At call ac_157 51 [a0, a1, a2, a3] (vI (h g m x.toNat) :: st) h Q := At_guard rfl
theorem r157_51 : At call ac_157 51 [a0, a1, vI x, a3] st h Q ↔ At call ac_157 52 [a0, a1, vI x, a3] (vI x :: st) h Q := At_next rfl
theorem r157_52 : At call ac_157 52 [a0, a1, a2, a3] (b1 :: b0 :: st) h Q ↔ st.length ≤ 4 ∧ ∃ v h1, call 156 [b0, b1] h (some v) h1 ∧ At call ac_157 55 [a0, a1, a2, a3] (v :: st) h1 Q := At_gcall rfl
theorem r157_55 : At call ac_157 55 [a0, a1, a2, a3] (vI x :: st) h Q ↔ if x = 0 then At call ac_157 58 [a0, a1, a2, a3] st h Q else At call ac_157 65 [a0, a1, a2, a3] st h Q := At_br rfl
theorem r157_58 : At call ac_157 58 [vR g m, a1, a2, a3] st h Q ↔ At call ac_157 59 [vR g m, a1, a2, a3] (vR g m :: st) h Q := At_next rfl
theorem r157_59 : At call ac_157 59 [a0, a1, a2, a3] st h Q ↔ At call ac_157 61 [a0, a1, a2, a3] (vI (-2) :: st) h Q := At_next rfl
theorem r157_61 : At call ac_157 61 [a0, a1, a2, a3] (b1 :: b0 :: st) h Q ↔ st.length ≤ 4 ∧ ∃ v h1, call 142 [b0, b1] h (some v) h1 ∧ At call ac_157 64 [a0, a1, a2, a3] (v :: st) h1 Q := At_gcall rfl
theorem r157_64 : At call ac_157 64 [a0, a1, a2, a3] [vI x] h Q ↔ Q (some (vI x)) h := At_ret rfl
theorem r157_65 : At call ac_157 65 [a0, a1, a2, vI x] st h Q ↔ At call ac_157 66 [a0, a1, a2, vI x] (vI x :: st) h Q := At_next rfl
theorem r157_66 : At call ac_157 66 [a0, a1, a2, a3] (vI x :: st) h Q ↔ if x < 0 then At call ac_157 69 [a0, a1, a2, a3] st h Q else At call ac_157 76 [a0, a1, a2, a3] st h Q := At_br rfl
theorem r157_69 : At call ac_157 69 [vR g m, a1, a2, a3] st h Q ↔ At call ac_157 70 [vR g m, a1, a2, a3] (vR g m :: st) h Q := At_next rfl
theorem r157_70 : At call ac_157 70 [a0, a1, a2, a3] st h Q ↔ At call ac_157 72 [a0, a1, a2, a3] (vI (-3) :: st) h Q := At_next rfl
theorem r157_72 : At call ac_157 72 [a0, a1, a2, a3] (b1 :: b0 :: st) h Q ↔ st.length ≤ 4 ∧ ∃ v h1, call 142 [b0, b1] h (some v) h1 ∧ At call ac_157 75 [a0, a1, a2, a3] (v :: st) h1 Q := At_gcall rfl
theorem r157_75 : At call ac_157 75 [a0, a1, a2, a3] [vI x] h Q ↔ Q (some (vI x)) h := At_ret rfl
theorem r157_76 : At call ac_157 76 [a0, a1, vI x, a3] st h Q ↔ At call ac_157 77 [a0, a1, vI x, a3] (vI x :: st) h Q := At_next rfl
theorem r157_77 : At call ac_157 77 [a0, a1, a2, a3] (vI x :: st) h Q ↔ if x = 0 then At call ac_157 116 [a0, a1, a2, a3] st h Q else if x = 1 then At call ac_157 123 [a0, a1, a2, a3] st h Q else if x = 2 then At call ac_157 129 [a0, a1, a2, a3] st h Q else if x = 3 then At call ac_157 123 [a0, a1, a2, a3] st h Q else if x = 4 then At call ac_157 135 [a0, a1, a2, a3] st h Q else if x = 5 then At call ac_157 129 [a0, a1, a2, a3] st h Q else At call ac_157 135 [a0, a1, a2, a3] st h Q := At_swT (k := 0) (ts := [116, 123, 129, 123, 135, 129]) (d := 135) (L' := [a0, a1, a2, a3]) (st' := st) (h' := h) rfl
theorem r157_116 : At call ac_157 116 [vR g m, a1, a2, a3] st h Q ↔ At call ac_157 117 [vR g m, a1, a2, a3] (vR g m :: st) h Q := At_next rfl
theorem r157_117 : At call ac_157 117 [a0, a1, a2, a3] (vR g 27 :: st) h Q ↔ At call ac_157 120 [a0, a1, a2, a3] (vR g 22 :: st) h Q := At_next rfl
theorem r157_120 : At call ac_157 120 [a0, a1, a2, vI x] st h Q ↔ At call ac_157 121 [a0, a1, a2, vI x] (vI x :: st) h Q := At_next rfl
theorem r157_121 : At call ac_157 121 [a0, a1, a2, a3] (vI x :: vR g m :: st) h Q ↔ inA h m 0 x ∧ At call ac_157 122 [a0, a1, a2, a3] (vI (h g m x.toNat) :: st) h Q := At_guard rfl
theorem r157_122 : At call ac_157 122 [a0, a1, a2, a3] [vI x] h Q ↔ Q (some (vI x)) h := At_ret rfl
theorem r157_123 : At call ac_157 123 [vR g m, a1, a2, a3] st h Q ↔ At call ac_157 124 [vR g m, a1, a2, a3] (vR g m :: st) h Q := At_next rfl
theorem r157_124 : At call ac_157 124 [a0, a1, a2, vI x] st h Q ↔ At call ac_157 125 [a0, a1, a2, vI x] (vI x :: st) h Q := At_next rfl
theorem r157_125 : At call ac_157 125 [a0, a1, a2, a3] (b1 :: b0 :: st) h Q ↔ st.length ≤ 4 ∧ ∃ v h1, call 159 [b0, b1] h (some v) h1 ∧ At call ac_157 128 [a0, a1, a2, a3] (v :: st) h1 Q := At_gcall rfl
theorem r157_128 : At call ac_157 128 [a0, a1, a2, a3] [vI x] h Q ↔ Q (some (vI x)) h := At_ret rfl
theorem r157_129 : At call ac_157 129 [vR g m, a1, a2, a3] st h Q ↔ At call ac_157 130 [vR g m, a1, a2, a3] (vR g m :: st) h Q := At_next rfl
theorem r157_130 : At call ac_157 130 [a0, a1, a2, vI x] st h Q ↔ At call ac_157 131 [a0, a1, a2, vI x] (vI x :: st) h Q := At_next rfl
theorem r157_131 : At call ac_157 131 [a0, a1, a2, a3] (b1 :: b0 :: st) h Q ↔ st.length ≤ 4 ∧ ∃ v h1, call 160 [b0, b1] h (some v) h1 ∧ At call ac_157 134 [a0, a1, a2, a3] (v :: st) h1 Q := At_gcall rfl
theorem r157_134 : At call ac_157 134 [a0, a1, a2, a3] [vI x] h Q ↔ Q (some (vI x)) h := At_ret rfl
theorem r157_135 : At call ac_157 135 [vR g m, a1, a2, a3] st h Q ↔ At call ac_157 136 [vR g m, a1, a2, a3] (vR g m :: st) h Q := At_next rfl
theorem r157_136 : At call ac_157 136 [a0, a1, a2, vI x] st h Q ↔ At call ac_157 137 [a0, a1, a2, vI x] (vI x :: st) h Q := At_next rfl
theorem r157_137 : At call ac_157 137 [a0, a1, a2, a3] (b1 :: b0 :: st) h Q ↔ st.length ≤ 4 ∧ ∃ v h1, call 161 [b0, b1] h (some v) h1 ∧ At call ac_157 140 [a0, a1, a2, a3] (v :: st) h1 Q := At_gcall rfl
theorem r157_140 : At call ac_157 140 [a0, a1, a2, a3] [vI x] h Q ↔ Q (some (vI x)) h := At_ret rfl
theorem r158_0 : At call ac_158 0 [vR g m] st h Q ↔ At call ac_158 1 [vR g m] (vR g m :: st) h Q := At_next rfl
theorem r158_1 : At call ac_158 1 [a0] (vR g 27 :: st) h Q ↔ At call ac_158 4 [a0] (vI (h g 27 11) :: st) h Q := At_next rfl
theorem r158_4 : At call ac_158 4 [vR g m] st h Q ↔ At call ac_158 5 [vR g m] (vR g m :: st) h Q := At_next rfl
theorem r158_5 : At call ac_158 5 [a0] (vR g 27 :: st) h Q ↔ At call ac_158 8 [a0] (vI (h g 27 14) :: st) h Q := At_next rfl
theorem r158_8 : At call ac_158 8 [a0] (vI y :: vI x :: st) h Q ↔ if x < y then At call ac_158 24 [a0] st h Q else At call ac_158 11 [a0] st h Q := At_br rfl
theorem r158_11 : At call ac_158 11 [vR g m] st h Q ↔ At call ac_158 12 [vR g m] (vR g m :: st) h Q := At_next rfl
theorem r158_12 : At call ac_158 12 [a0] (vR g 27 :: st) h Q ↔ At call ac_158 15 [a0] (vI (h g 27 11) :: st) h Q := At_next rfl
theorem r158_15 : At call ac_158 15 [a0] st h Q ↔ At call ac_158 17 [a0] (vI 18 :: st) h Q := At_next rfl
theorem r158_17 : At call ac_158 17 [a0] (vI y :: vI x :: st) h Q ↔ if x < y then At call ac_158 20 [a0] st h Q else At call ac_158 24 [a0] st h Q := At_br rfl
theorem r158_20 : At call ac_158 20 [a0] st h Q ↔ At call ac_158 21 [a0] (vI 1 :: st) h Q := At_next rfl
theorem r158_21 : At call ac_158 21 [a0] st h Q ↔ At call ac_158 25 [a0] st h Q := At_next rfl
theorem r158_24 : At call ac_158 24 [a0] st h Q ↔ At call ac_158 25 [a0] (vI 0 :: st) h Q := At_next rfl
theorem r158_25 : At call ac_158 25 [a0] [vI x] h Q ↔ (x = 0 ∨ x = 1) ∧ Q (some (vI x)) h := At_guardR rfl
theorem r159_0 : At call ac_159 0 [vR g m, a1, a2] st h Q ↔ At call ac_159 1 [vR g m, a1, a2] (vR g m :: st) h Q := At_next rfl
theorem r159_1 : At call ac_159 1 [a0, a1, a2] (vR g 27 :: st) h Q ↔ At call ac_159 4 [a0, a1, a2] (vR g 20 :: st) h Q := At_next rfl
theorem r159_4 : At call ac_159 4 [a0, vI x, a2] st h Q ↔ At call ac_159 5 [a0, vI x, a2] (vI x :: st) h Q := At_next rfl
theorem r159_5 : At call ac_159 5 [a0, a1, a2] (vI x :: vR g m :: st) h Q ↔ inA h m 0 x ∧ At call ac_159 6 [a0, a1, a2] (vI (h g m x.toNat) :: st) h Q := At_guard rfl
theorem r159_6 : At call ac_159 6 [a0, a1, a2] (vI x :: st) h Q ↔ if x = 1 then At call ac_159 44 [a0, a1, a2] st h Q else if x = 2 then At call ac_159 77 [a0, a1, a2] st h Q else if x = 3 then At call ac_159 49 [a0, a1, a2] st h Q else if x = 4 then At call ac_159 71 [a0, a1, a2] st h Q else if x = 5 then At call ac_159 77 [a0, a1, a2] st h Q else if x = 6 then At call ac_159 71 [a0, a1, a2] st h Q else At call ac_159 77 [a0, a1, a2] st h Q := At_swT (k := 1) (ts := [44, 77, 49, 71, 77, 71]) (d := 77) (L' := [a0, a1, a2]) (st' := st) (h' := h) rfl
theorem r159_44 : At call ac_159 44 [a0, a1, a2] st h Q ↔ At call ac_159 45 [a0, a1, a2] (vI 2 :: st) h Q := At_next rfl
theorem r159_45 : At call ac_159 45 [a0, a1, a2] (vI x :: st) h Q ↔ At call ac_159 46 [a0, a1, vI x] st h Q := At_next rfl
theorem r159_46 : At call ac_159 46 [a0, a1, a2] st h Q ↔ At call ac_159 79 [a0, a1, a2] st h Q := At_next rfl
theorem r159_49 : At call ac_159 49 [vR g m, a1, a2] st h Q ↔ At call ac_159 50 [vR g m, a1, a2] (vR g m :: st) h Q := At_next rfl
theorem r159_50 : At call ac_159 50 [a0, a1, a2] (vR g 27 :: st) h Q ↔ At call ac_159 53 [a0, a1, a2] (vI (h g 27 11) :: st) h Q := At_next rfl
theorem r159_53 : At call ac_159 53 [vR g m, a1, a2] st h Q ↔ At call ac_159 54 [vR g m, a1, a2] (vR g m :: st) h Q := At_next rfl
theorem r159_54 : At call ac_159 54 [a0, a1, a2] (vR g 27 :: st) h Q ↔ At call ac_159 57 [a0, a1, a2] (vR g 21 :: st) h Q := At_next rfl
theorem r159_57 : At call ac_159 57 [a0, vI x, a2] st h Q ↔ At call ac_159 58 [a0, vI x, a2] (vI x :: st) h Q := At_next rfl
theorem r159_58 : At call ac_159 58 [a0, a1, a2] (vI x :: vR g m :: st) h Q ↔ inA h m 0 x ∧ At call ac_159 59 [a0, a1, a2] (vI (h g m x.toNat) :: st) h Q := At_guard rfl
theorem r159_59 : At call ac_159 59 [a0, a1, a2] (vI y :: vI x :: st) h Q ↔ if x < y then At call ac_159 62 [a0, a1, a2] st h Q else At call ac_159 66 [a0, a1, a2] st h Q := At_br rfl
theorem r159_62 : At call ac_159 62 [a0, a1, a2] st h Q ↔ At call ac_159 63 [a0, a1, a2] (vI 0 :: st) h Q := At_next rfl
theorem r159_63 : At call ac_159 63 [a0, a1, a2] st h Q ↔ At call ac_159 67 [a0, a1, a2] st h Q := At_next rfl
theorem r159_66 : At call ac_159 66 [a0, a1, a2] st h Q ↔ At call ac_159 67 [a0, a1, a2] (vI 1 :: st) h Q := At_next rfl
theorem r159_67 : At call ac_159 67 [a0, a1, a2] (vI x :: st) h Q ↔ At call ac_159 68 [a0, a1, vI x] st h Q := At_next rfl
theorem r159_68 : At call ac_159 68 [a0, a1, a2] st h Q ↔ At call ac_159 79 [a0, a1, a2] st h Q := At_next rfl
theorem r159_71 : At call ac_159 71 [a0, a1, a2] st h Q ↔ At call ac_159 73 [a0, a1, a2] (vI 6 :: st) h Q := At_next rfl
theorem r159_73 : At call ac_159 73 [a0, a1, a2] (vI x :: st) h Q ↔ At call ac_159 74 [a0, a1, vI x] st h Q := At_next rfl
theorem r159_74 : At call ac_159 74 [a0, a1, a2] st h Q ↔ At call ac_159 79 [a0, a1, a2] st h Q := At_next rfl
theorem r159_77 : At call ac_159 77 [a0, a1, a2] st h Q ↔ At call ac_159 78 [a0, a1, a2] (vI 4 :: st) h Q := At_next rfl
theorem r159_78 : At call ac_159 78 [a0, a1, a2] (vI x :: st) h Q ↔ At call ac_159 79 [a0, a1, vI x] st h Q := At_next rfl
theorem r159_79 : At call ac_159 79 [vR g m, a1, a2] st h Q ↔ At call ac_159 80 [vR g m, a1, a2] (vR g m :: st) h Q := At_next rfl
theorem r159_80 : At call ac_159 80 [a0, a1, a2] (b0 :: st) h Q ↔ st.length ≤ 4 ∧ ∃ v h1, call 158 [b0] h (some v) h1 ∧ At call ac_159 83 [a0, a1, a2] (v :: st) h1 Q := At_gcall rfl
theorem r159_83 : At call ac_159 83 [a0, a1, a2] (vI x :: st) h Q ↔ if x = 0 then At call ac_159 92 [a0, a1, a2] st h Q else At call ac_159 86 [a0, a1, a2] st h Q := At_br rfl
theorem r159_86 : At call ac_159 86 [a0, a1, a2] st h Q ↔ At call ac_159 87 [a0, a1, a2] (vI 2 :: st) h Q := At_next rfl
theorem r159_87 : At call ac_159 87 [a0, a1, vI x] st h Q ↔ At call ac_159 88 [a0, a1, vI x] (vI x :: st) h Q := At_next rfl
theorem r159_88 : At call ac_159 88 [a0, a1, a2] (vI y :: vI x :: st) h Q ↔ At call ac_159 89 [a0, a1, a2] (vI (wr (x * y)) :: st) h Q := At_next rfl
theorem r159_89 : At call ac_159 89 [a0, a1, a2] st h Q ↔ At call ac_159 93 [a0, a1, a2] st h Q := At_next rfl
theorem r159_92 : At call ac_159 92 [a0, a1, vI x] st h Q ↔ At call ac_159 93 [a0, a1, vI x] (vI x :: st) h Q := At_next rfl
theorem r159_93 : At call ac_159 93 [a0, a1, a2] [vI x] h Q ↔ Q (some (vI x)) h := At_ret rfl
theorem r160_0 : At call ac_160 0 [vR g m, a1] st h Q ↔ At call ac_160 1 [vR g m, a1] (vR g m :: st) h Q := At_next rfl
theorem r160_1 : At call ac_160 1 [a0, a1] (vR g 27 :: st) h Q ↔ At call ac_160 4 [a0, a1] (vR g 20 :: st) h Q := At_next rfl
theorem r160_4 : At call ac_160 4 [a0, vI x] st h Q ↔ At call ac_160 5 [a0, vI x] (vI x :: st) h Q := At_next rfl
theorem r160_5 : At call ac_160 5 [a0, a1] (vI x :: vR g m :: st) h Q ↔ inA h m 0 x ∧ At call ac_160 6 [a0, a1] (vI (h g m x.toNat) :: st) h Q := At_guard rfl
theorem r160_6 : At call ac_160 6 [a0, a1] st h Q ↔ At call ac_160 7 [a0, a1] (vI 2 :: st) h Q := At_next rfl
theorem r160_7 : At call ac_160 7 [a0, a1] (b1 :: b0 :: st) h Q ↔ st.length ≤ 4 ∧ ∃ v h1, call 156 [b0, b1] h (some v) h1 ∧ At call ac_160 10 [a0, a1] (v :: st) h1 Q := At_gcall rfl
theorem r160_10 : At call ac_160 10 [a0, a1] (vI x :: st) h Q ↔ if x = 0 then At call ac_160 25 [a0, a1] st h Q else At call ac_160 13 [a0, a1] st h Q := At_br rfl
theorem r160_13 : At call ac_160 13 [vR g m, a1] st h Q ↔ At call ac_160 14 [vR g m, a1] (vR g m :: st) h Q := At_next rfl
theorem r160_14 : At call ac_160 14 [a0, a1] (vR g 27 :: st) h Q ↔ At call ac_160 17 [a0, a1] (vR g 22 :: st) h Q := At_next rfl
theorem r160_17 : At call ac_160 17 [a0, vI x] st h Q ↔ At call ac_160 18 [a0, vI x] (vI x :: st) h Q := At_next rfl
theorem r160_18 : At call ac_160 18 [a0, a1] (vI x :: vR g m :: st) h Q ↔ inA h m 0 x ∧ At call ac_160 19 [a0, a1] (vI (h g m x.toNat) :: st) h Q := At_guard rfl
theorem r160_19 : At call ac_160 19 [a0, a1] st h Q ↔ At call ac_160 21 [a0, a1] (vI 8 :: st) h Q := At_next rfl
theorem r160_21 : At call ac_160 21 [a0, a1] (vI y :: vI x :: st) h Q ↔ y ≠ 0 ∧ At call ac_160 22 [a0, a1] (vI (opDiv x y) :: st) h Q := At_guard rfl
theorem r160_22 : At call ac_160 22 [a0, a1] st h Q ↔ At call ac_160 33 [a0, a1] st h Q := At_next rfl
theorem r160_25 : At call ac_160 25 [vR g m, a1] st h Q ↔ At call ac_160 26 [vR g m, a1] (vR g m :: st) h Q := At_next rfl
theorem r160_26 : At call ac_160 26 [a0, a1] (vR g 27 :: st) h Q ↔ At call ac_160 29 [a0, a1] (vR g 22 :: st) h Q := At_next rfl
theorem r160_29 : At call ac_160 29 [a0, vI x] st h Q ↔ At call ac_160 30 [a0, vI x] (vI x :: st) h Q := At_next rfl
theorem r160_30 : At call ac_160 30 [a0, a1] (vI x :: vR g m :: st) h Q ↔ inA h m 0 x ∧ At call ac_160 31 [a0, a1] (vI (h g m x.toNat) :: st) h Q := At_guard rfl
theorem r160_31 : At call ac_160 31 [a0, a1] st h Q ↔ At call ac_160 32 [a0, a1] (vI 4 :: st) h Q := At_next rfl
theorem r160_32 : At call ac_160 32 [a0, a1] (vI y :: vI x :: st) h Q ↔ y ≠ 0 ∧ At call ac_160 33 [a0, a1] (vI (opDiv x y) :: st) h Q := At_guard rfl
theorem r160_33 : At call ac_160 33 [a0, a1] [vI x] h Q ↔ Q (some (vI x)) h := At_ret rfl
theorem r161_0 : At call ac_161 0 [vR g m, a1] st h Q ↔ At call ac_161 1 [vR g m, a1] (vR g m :: st) h Q := At_next rfl
theorem r161_1 : At call ac_161 1 [a0, a1] (vR g 27 :: st) h Q ↔ At call ac_161 4 [a0, a1] (vR g 20 :: st) h Q := At_next rfl
theorem r161_4 : At call ac_161 4 [a0, vI x] st h Q ↔ At call ac_161 5 [a0, vI x] (vI x :: st) h Q := At_next rfl
theorem r161_5 : At call ac_161 5 [a0, a1] (vI x :: vR g m :: st) h Q ↔ inA h m 0 x ∧ At call ac_161 6 [a0, a1] (vI (h g m x.toNat) :: st) h Q := At_guard rfl
theorem r161_6 : At call ac_161 6 [a0, a1] (vI x :: st) h Q ↔ if x = 1 then At call ac_161 44 [a0, a1] st h Q else if x = 2 then At call ac_161 61 [a0, a1] st h Q else if x = 3 then At call ac_161 44 [a0, a1] st h Q else if x = 4 then At call ac_161 46 [a0, a1] st h Q else if x = 5 then At call ac_161 49 [a0, a1] st h Q else if x = 6 then At call ac_161 51 [a0, a1] st h Q else At call ac_161 61 [a0, a1] st h Q := At_swT (k := 1) (ts := [44, 61, 44, 46, 49, 51]) (d := 61) (L' := [a0, a1]) (st' := st) (h' := h) rfl
theorem r161_44 : At call ac_161 44 [a0, a1] st h Q ↔ At call ac_161 45 [a0, a1] (vI 0 :: st) h Q := At_next rfl
theorem r161_45 : At call ac_161 45 [a0, a1] [vI x] h Q ↔ Q (some (vI x)) h := At_ret rfl
theorem r161_46 : At call ac_161 46 [a0, a1] st h Q ↔ At call ac_161 48 [a0, a1] (vI 10 :: st) h Q := At_next rfl
theorem r161_48 : At call ac_161 48 [a0, a1] [vI x] h Q ↔ Q (some (vI x)) h := At_ret rfl
theorem r161_49 : At call ac_161 49 [a0, a1] st h Q ↔ At call ac_161 50 [a0, a1] (vI 3 :: st) h Q := At_next rfl
theorem r161_50 : At call ac_161 50 [a0, a1] [vI x] h Q ↔ Q (some (vI x)) h := At_ret rfl
theorem r161_51 : At call ac_161 51 [a0, a1] st h Q ↔ At call ac_161 53 [a0, a1] (vI 10 :: st) h Q := At_next rfl
theorem r161_53 : At call ac_161 53 [vR g m, a1] st h Q ↔ At call ac_161 54 [vR g m, a1] (vR g m :: st) h Q := At_next rfl
theorem r161_54 : At call ac_161 54 [a0, a1] (vR g 27 :: st) h Q ↔ At call ac_161 57 [a0, a1] (vR g 21 :: st) h Q := At_next rfl
theorem r161_57 : At call ac_161 57 [a0, vI x] st h Q ↔ At call ac_161 58 [a0, vI x] (vI x :: st) h Q := At_next rfl
theorem r161_58 : At call ac_161 58 [a0, a1] (vI x :: vR g m :: st) h Q ↔ inA h m 0 x ∧ At call ac_161 59 [a0, a1] (vI (h g m x.toNat) :: st) h Q := At_guard rfl
theorem r161_59 : At call ac_161 59 [a0, a1] (vI y :: vI x :: st) h Q ↔ At call ac_161 60 [a0, a1] (vI (wr (x + y)) :: st) h Q := At_next rfl
theorem r161_60 : At call ac_161 60 [a0, a1] [vI x] h Q ↔ Q (some (vI x)) h := At_ret rfl
theorem r161_61 : At call ac_161 61 [a0, a1] st h Q ↔ At call ac_161 62 [a0, a1] (vI 5 :: st) h Q := At_next rfl
theorem r161_62 : At call ac_161 62 [a0, a1] [vI x] h Q ↔ Q (some (vI x)) h := At_ret rfl
theorem r162_0 : At call ac_162 0 [vI x] st h Q ↔ At call ac_162 1 [vI x] (vI x :: st) h Q := At_next rfl
theorem r162_1 : At call ac_162 1 [a0] st h Q ↔ At call ac_162 3 [a0] (vI 10 :: st) h Q := At_next rfl
theorem r162_3 : At call ac_162 3 [a0] (vI y :: vI x :: st) h Q ↔ if x < y then At call ac_162 6 [a0] st h Q else At call ac_162 10 [a0] st h Q := At_br rfl
theorem r162_6 : At call ac_162 6 [a0] st h Q ↔ At call ac_162 7 [a0] (vI 0 :: st) h Q := At_next rfl
theorem r162_7 : At call ac_162 7 [a0] st h Q ↔ At call ac_162 31 [a0] st h Q := At_next rfl
theorem r162_10 : At call ac_162 10 [vI x] st h Q ↔ At call ac_162 11 [vI x] (vI x :: st) h Q := At_next rfl
theorem r162_11 : At call ac_162 11 [a0] st h Q ↔ At call ac_162 13 [a0] (vI 40 :: st) h Q := At_next rfl
theorem r162_13 : At call ac_162 13 [a0] (vI y :: vI x :: st) h Q ↔ if x < y then At call ac_162 16 [a0] st h Q else At call ac_162 20 [a0] st h Q := At_br rfl
theorem r162_16 : At call ac_162 16 [a0] st h Q ↔ At call ac_162 17 [a0] (vI 1 :: st) h Q := At_next rfl
theorem r162_17 : At call ac_162 17 [a0] st h Q ↔ At call ac_162 31 [a0] st h Q := At_next rfl
theorem r162_20 : At call ac_162 20 [vI x] st h Q ↔ At call ac_162 21 [vI x] (vI x :: st) h Q := At_next rfl
theorem r162_21 : At call ac_162 21 [a0] st h Q ↔ At call ac_162 23 [a0] (vI 70 :: st) h Q := At_next rfl
theorem r162_23 : At call ac_162 23 [a0] (vI y :: vI x :: st) h Q ↔ if x < y then At call ac_162 26 [a0] st h Q else At call ac_162 30 [a0] st h Q := At_br rfl
theorem r162_26 : At call ac_162 26 [a0] st h Q ↔ At call ac_162 27 [a0] (vI 2 :: st) h Q := At_next rfl
theorem r162_27 : At call ac_162 27 [a0] st h Q ↔ At call ac_162 31 [a0] st h Q := At_next rfl
theorem r162_30 : At call ac_162 30 [a0] st h Q ↔ At call ac_162 31 [a0] (vI 3 :: st) h Q := At_next rfl
theorem r162_31 : At call ac_162 31 [a0] [vI x] h Q ↔ Q (some (vI x)) h := At_ret rfl
theorem r163_0 : At call ac_163 0 [vR g m, a1, a2, a3] st h Q ↔ At call ac_163 1 [vR g m, a1, a2, a3] (vR g m :: st) h Q := At_next rfl
theorem r163_1 : At call ac_163 1 [a0, a1, a2, a3] (vR g 27 :: st) h Q ↔ At call ac_163 4 [a0, a1, a2, a3] (vR g 20 :: st) h Q := At_next rfl
theorem r163_4 : At call ac_163 4 [vR g m, a1, a2, a3] st h Q ↔ At call ac_163 5 [vR g m, a1, a2, a3] (vR g m :: st) h Q := At_next rfl
theorem r163_5 : At call ac_163 5 [a0, a1, a2, a3] (vR g 27 :: st) h Q ↔ At call ac_163 8 [a0, a1, a2, a3] (vI (h g 27 7) :: st) h Q := At_next rfl
theorem r163_8 : At call ac_163 8 [a0, vI x, a2, a3] st h Q ↔ At call ac_163 9 [a0, vI x, a2, a3] (vI x :: st) h Q := At_next rfl
theorem r163_9 : At call ac_163 9 [a0, a1, a2, a3] (vI y :: vI x :: vR g m :: st) h Q ↔ (inA h m 0 x ∧ m ≠ 37) ∧ At call ac_163 10 [a0, a1, a2, a3] st (up3 h g m x.toNat y) Q := At_guard rfl
theorem r163_10 : At call ac_163 10 [vR g m, a1, a2, a3] st h Q ↔ At call ac_163 11 [vR g m, a1, a2, a3] (vR g m :: st) h Q := At_next rfl
theorem r163_11 : At call ac_163 11 [a0, a1, a2, a3] (vR g 27 :: st) h Q ↔ At call ac_163 14 [a0, a1, a2, a3] (vR g 21 :: st) h Q := At_next rfl
theorem r163_14 : At call ac_163 14 [vR g m, a1, a2, a3] st h Q ↔ At call ac_163 15 [vR g m, a1, a2, a3] (vR g m :: st) h Q := At_next rfl
theorem r163_15 : At call ac_163 15 [a0, a1, a2, a3] (vR g 27 :: st) h Q ↔ At call ac_163 18 [a0, a1, a2, a3] (vI (h g 27 7) :: st) h Q := At_next rfl
theorem r163_18 : At call ac_163 18 [a0, a1, vI x, a3] st h Q ↔ At call ac_163 19 [a0, a1, vI x, a3] (vI x :: st) h Q := At_next rfl
theorem r163_19 : At call ac_163 19 [a0, a1, a2, a3] (vI y :: vI x :: vR g m :: st) h Q ↔ (inA h m 0 x ∧ m ≠ 37) ∧ At call ac_163 20 [a0, a1, a2, a3] st (up3 h g m x.toNat y) Q := At_guard rfl
theorem r163_20 : At call ac_163 20 [vR g m, a1, a2, a3] st h Q ↔ At call ac_163 21 [vR g m, a1, a2, a3] (vR g m :: st) h Q := At_next rfl
theorem r163_21 : At call ac_163 21 [a0, a1, a2, a3] (vR g 27 :: st) h Q ↔ At call ac_163 24 [a0, a1, a2, a3] (vR g 22 :: st) h Q := At_next rfl
theorem r163_24 : At call ac_163 24 [vR g m, a1, a2, a3] st h Q ↔ At call ac_163 25 [vR g m, a1, a2, a3] (vR g m :: st) h Q := At_next rfl
theorem r163_25 : At call ac_163 25 [a0, a1, a2, a3] (vR g 27 :: st) h Q ↔ At call ac_163 28 [a0, a1, a2, a3] (vI (h g 27 7) :: st) h Q := At_next rfl
theorem r163_28 : At call ac_163 28 [a0, a1, a2, vI x] st h Q ↔ At call ac_163 29 [a0, a1, a2, vI x] (vI x :: st) h Q := At_next rfl
theorem r163_29 : At call ac_163 29 [a0, a1, a2, a3] (vI y :: vI x :: vR g m :: st) h Q ↔ (inA h m 0 x ∧ m ≠ 37) ∧ At call ac_163 30 [a0, a1, a2, a3] st (up3 h g m x.toNat y) Q := At_guard rfl
theorem r163_30 : At call ac_163 30 [vR g m, a1, a2, a3] st h Q ↔ At call ac_163 31 [vR g m, a1, a2, a3] (vR g m :: st) h Q := At_next rfl
theorem r163_31 : At call ac_163 31 [a0, a1, a2, a3] (vI x :: st) h Q ↔ At call ac_163 32 [a0, a1, a2, a3] (vI x :: vI x :: st) h Q := At_next rfl
theorem r163_31r : At call ac_163 31 [a0, a1, a2, a3] (.inr (.inr v) :: st) h Q ↔ At call ac_163 32 [a0, a1, a2, a3] (.inr (.inr v) :: .inr (.inr v) :: st) h Q := At_next rfl
theorem r163_32 : At call ac_163 32 [a0, a1, a2, a3] (vR g 27 :: st) h Q ↔ At call ac_163 35 [a0, a1, a2, a3] (vI (h g 27 7) :: st) h Q := At_next rfl
theorem r163_35 : At call ac_163 35 [a0, a1, a2, a3] (vI x :: vR g m :: st) h Q ↔ At call ac_163 36 [a0, a1, a2, a3] (vI x :: vR g m :: vI x :: st) h Q := At_next rfl
theorem r163_36 : At call ac_163 36 [a0, a1, a2, a3] st h Q ↔ At call ac_163 37 [a0, a1, a2, a3] (vI 1 :: st) h Q := At_next rfl
theorem r163_37 : At call ac_163 37 [a0, a1, a2, a3] (vI y :: vI x :: st) h Q ↔ At call ac_163 38 [a0, a1, a2, a3] (vI (wr (x + y)) :: st) h Q := At_next rfl
theorem r163_38 : At call ac_163 38 [a0, a1, a2, a3] (vI x :: vR g 27 :: st) h Q ↔ At call ac_163 41 [a0, a1, a2, a3] st (up3 h g 27 7 x) Q := At_next rfl
theorem r163_41 : At call ac_163 41 [a0, a1, a2, a3] [vI x] h Q ↔ Q (some (vI x)) h := At_ret rfl
theorem r164_0 : At call ac_164 0 [a0, vI x, a2, a3] st h Q ↔ At call ac_164 1 [a0, vI x, a2, a3] (vI x :: st) h Q := At_next rfl
theorem r164_1 : At call ac_164 1 [a0, a1, a2, a3] st h Q ↔ At call ac_164 2 [a0, a1, a2, a3] (vI 0 :: st) h Q := At_next rfl
theorem r164_2 : At call ac_164 2 [a0, a1, a2, a3] st h Q ↔ At call ac_164 4 [a0, a1, a2, a3] (vI 6 :: st) h Q := At_next rfl
theorem r164_4 : At call ac_164 4 [a0, a1, a2, a3] (b2 :: b1 :: b0 :: st) h Q ↔ st.length ≤ 4 ∧ ∃ v h1, call 144 [b0, b1, b2] h (some v) h1 ∧ At call ac_164 7 [a0, a1, a2, a3] (v :: st) h1 Q := At_gcall rfl
theorem r164_7 : At call ac_164 7 [a0, a1, a2, a3] (vI x :: st) h Q ↔ if x = 0 then At call ac_164 10 [a0, a1, a2, a3] st h Q else At call ac_164 16 [a0, a1, a2, a3] st h Q := At_br rfl
theorem r164_10 : At call ac_164 10 [vR g m, a1, a2, a3] st h Q ↔ At call ac_164 11 [vR g m, a1, a2, a3] (vR g m :: st) h Q := At_next rfl
theorem r164_11 : At call ac_164 11 [a0, a1, a2, a3] st h Q ↔ At call ac_164 12 [a0, a1, a2, a3] (vI (-1) :: st) h Q := At_next rfl
theorem r164_12 : At call ac_164 12 [a0, a1, a2, a3] (b1 :: b0 :: st) h Q ↔ st.length ≤ 4 ∧ ∃ v h1, call 142 [b0, b1] h (some v) h1 ∧ At call ac_164 15 [a0, a1, a2, a3] (v :: st) h1 Q := At_gcall rfl
theorem r164_15 : At call ac_164 15 [a0, a1, a2, a3] [vI x] h Q ↔ Q (some (vI x)) h := At_ret rfl
theorem r164_16 : At call ac_164 16 [a0, a1, vI x, a3] st h Q ↔ At call ac_164 17 [a0, a1, vI x, a3] (vI x :: st) h Q := At_next rfl
theorem r164_17 : At call ac_164 17 [a0, a1, a2, a3] st h Q ↔ At call ac_164 18 [a0, a1, a2, a3] (vI 0 :: st) h Q := At_next rfl
theorem r164_18 : At call ac_164 18 [a0, a1, a2, a3] st h Q ↔ At call ac_164 20 [a0, a1, a2, a3] (vI 9 :: st) h Q := At_next rfl
theorem r164_20 : At call ac_164 20 [a0, a1, a2, a3] (b2 :: b1 :: b0 :: st) h Q ↔ st.length ≤ 4 ∧ ∃ v h1, call 144 [b0, b1, b2] h (some v) h1 ∧ At call ac_164 23 [a0, a1, a2, a3] (v :: st) h1 Q := At_gcall rfl
theorem r164_23 : At call ac_164 23 [a0, a1, a2, a3] (vI x :: st) h Q ↔ if x = 0 then At call ac_164 36 [a0, a1, a2, a3] st h Q else At call ac_164 26 [a0, a1, a2, a3] st h Q := At_br rfl
theorem r164_26 : At call ac_164 26 [a0, a1, a2, vI x] st h Q ↔ At call ac_164 27 [a0, a1, a2, vI x] (vI x :: st) h Q := At_next rfl
theorem r164_27 : At call ac_164 27 [a0, a1, a2, a3] st h Q ↔ At call ac_164 28 [a0, a1, a2, a3] (vI 0 :: st) h Q := At_next rfl
theorem r164_28 : At call ac_164 28 [a0, a1, a2, a3] st h Q ↔ At call ac_164 30 [a0, a1, a2, a3] (vI 99 :: st) h Q := At_next rfl
theorem r164_30 : At call ac_164 30 [a0, a1, a2, a3] (b2 :: b1 :: b0 :: st) h Q ↔ st.length ≤ 4 ∧ ∃ v h1, call 144 [b0, b1, b2] h (some v) h1 ∧ At call ac_164 33 [a0, a1, a2, a3] (v :: st) h1 Q := At_gcall rfl
theorem r164_33 : At call ac_164 33 [a0, a1, a2, a3] (vI x :: st) h Q ↔ if x = 0 then At call ac_164 36 [a0, a1, a2, a3] st h Q else At call ac_164 43 [a0, a1, a2, a3] st h Q := At_br rfl
theorem r164_36 : At call ac_164 36 [vR g m, a1, a2, a3] st h Q ↔ At call ac_164 37 [vR g m, a1, a2, a3] (vR g m :: st) h Q := At_next rfl
theorem r164_37 : At call ac_164 37 [a0, a1, a2, a3] st h Q ↔ At call ac_164 39 [a0, a1, a2, a3] (vI (-6) :: st) h Q := At_next rfl
theorem r164_39 : At call ac_164 39 [a0, a1, a2, a3] (b1 :: b0 :: st) h Q ↔ st.length ≤ 4 ∧ ∃ v h1, call 142 [b0, b1] h (some v) h1 ∧ At call ac_164 42 [a0, a1, a2, a3] (v :: st) h1 Q := At_gcall rfl
theorem r164_42 : At call ac_164 42 [a0, a1, a2, a3] [vI x] h Q ↔ Q (some (vI x)) h := At_ret rfl
theorem r164_43 : At call ac_164 43 [vR g m, a1, a2, a3] st h Q ↔ At call ac_164 44 [vR g m, a1, a2, a3] (vR g m :: st) h Q := At_next rfl
theorem r164_44 : At call ac_164 44 [a0, a1, a2, a3] (vR g 27 :: st) h Q ↔ At call ac_164 47 [a0, a1, a2, a3] (vI (h g 27 7) :: st) h Q := At_next rfl
theorem r164_47 : At call ac_164 47 [a0, a1, a2, a3] st h Q ↔ At call ac_164 49 [a0, a1, a2, a3] (vI 8 :: st) h Q := At_next rfl
theorem r164_49 : At call ac_164 49 [a0, a1, a2, a3] (vI y :: vI x :: st) h Q ↔ if x = y then At call ac_164 52 [a0, a1, a2, a3] st h Q else At call ac_164 61 [a0, a1, a2, a3] st h Q := At_br rfl
theorem r164_52 : At call ac_164 52 [vR g m, a1, a2, a3] st h Q ↔ At call ac_164 53 [vR g m, a1, a2, a3] (vR g m :: st) h Q := At_next rfl
theorem r164_53 : At call ac_164 53 [a0, a1, a2, a3] st h Q ↔ At call ac_164 55 [a0, a1, a2, a3] (vI (-7) :: st) h Q := At_next rfl
theorem r164_55 : At call ac_164 55 [a0, a1, a2, a3] (b1 :: b0 :: st) h Q ↔ st.length ≤ 4 ∧ ∃ v h1, call 142 [b0, b1] h (some v) h1 ∧ At call ac_164 58 [a0, a1, a2, a3] (v :: st) h1 Q := At_gcall rfl
theorem r164_58 : At call ac_164 58 [a0, a1, a2, a3] st h Q ↔ At call ac_164 68 [a0, a1, a2, a3] st h Q := At_next rfl
theorem r164_61 : At call ac_164 61 [vR g m, a1, a2, a3] st h Q ↔ At call ac_164 62 [vR g m, a1, a2, a3] (vR g m :: st) h Q := At_next rfl
theorem r164_62 : At call ac_164 62 [a0, vI x, a2, a3] st h Q ↔ At call ac_164 63 [a0, vI x, a2, a3] (vI x :: st) h Q := At_next rfl
theorem r164_63 : At call ac_164 63 [a0, a1, vI x, a3] st h Q ↔ At call ac_164 64 [a0, a1, vI x, a3] (vI x :: st) h Q := At_next rfl
theorem r164_64 : At call ac_164 64 [a0, a1, a2, vI x] st h Q ↔ At call ac_164 65 [a0, a1, a2, vI x] (vI x :: st) h Q := At_next rfl
theorem r164_65 : At call ac_164 65 [a0, a1, a2, a3] (b3 :: b2 :: b1 :: b0 :: st) h Q ↔ st.length ≤ 4 ∧ ∃ v h1, call 163 [b0, b1, b2, b3] h (some v) h1 ∧ At call ac_164 68 [a0, a1, a2, a3] (v :: st) h1 Q := At_gcall rfl
theorem r164_68 : At call ac_164 68 [a0, a1, a2, a3] [vI x] h Q ↔ Q (some (vI x)) h := At_ret rfl
theorem r165_0 : At call ac_165 0 [vR g m, a1, a2, a3, a4] st h Q ↔ At call ac_165 1 [vR g m, a1, a2, a3, a4] (vR g m :: st) h Q := At_next rfl
theorem r165_1 : At call ac_165 1 [a0, vI x, a2, a3, a4] st h Q ↔ At call ac_165 2 [a0, vI x, a2, a3, a4] (vI x :: st) h Q := At_next rfl
theorem r165_2 : At call ac_165 2 [a0, a1, a2, a3, a4] (b1 :: b0 :: st) h Q ↔ st.length ≤ 4 ∧ ∃ v h1, call 145 [b0, b1] h (some v) h1 ∧ At call ac_165 5 [a0, a1, a2, a3, a4] (v :: st) h1 Q := At_gcall rfl
theorem r165_5 : At call ac_165 5 [a0, a1, a2, a3, a4] (vI x :: st) h Q ↔ if x = 0 then At call ac_165 8 [a0, a1, a2, a3, a4] st h Q else At call ac_165 15 [a0, a1, a2, a3, a4] st h Q := At_br rfl
theorem r165_8 : At call ac_165 8 [vR g m, a1, a2, a3, a4] st h Q ↔ At call ac_165 9 [vR g m, a1, a2, a3, a4] (vR g m :: st) h Q := At_next rfl
theorem r165_9 : At call ac_165 9 [a0, a1, a2, a3, a4] st h Q ↔ At call ac_165 11 [a0, a1, a2, a3, a4] (vI (-5) :: st) h Q := At_next rfl
theorem r165_11 : At call ac_165 11 [a0, a1, a2, a3, a4] (b1 :: b0 :: st) h Q ↔ st.length ≤ 4 ∧ ∃ v h1, call 142 [b0, b1] h (some v) h1 ∧ At call ac_165 14 [a0, a1, a2, a3, a4] (v :: st) h1 Q := At_gcall rfl
theorem r165_14 : At call ac_165 14 [a0, a1, a2, a3, a4] [vI x] h Q ↔ Q (some (vI x)) h := At_ret rfl
theorem r165_15 : At call ac_165 15 [a0, a1, a2, a3, a4] st h Q ↔ At call ac_165 16 [a0, a1, a2, a3, a4] (vI 0 :: st) h Q := At_next rfl
theorem r165_16 : At call ac_165 16 [a0, a1, a2, a3, a4] (vI x :: st) h Q ↔ At call ac_165 17 [a0, a1, a2, vI x, a4] st h Q := At_next rfl
theorem r165_17 : At call ac_165 17 [a0, a1, vI x, a3, a4] st h Q ↔ At call ac_165 18 [a0, a1, vI x, a3, a4] (vI x :: st) h Q := At_next rfl
theorem r165_18 : At call ac_165 18 [a0, a1, a2, a3, a4] (vI x :: st) h Q ↔ if x = 0 then At call ac_165 52 [a0, a1, a2, a3, a4] st h Q else if x = 1 then At call ac_165 59 [a0, a1, a2, a3, a4] st h Q else if x = 2 then At call ac_165 66 [a0, a1, a2, a3, a4] st h Q else if x = 3 then At call ac_165 73 [a0, a1, a2, a3, a4] st h Q else if x = 4 then At call ac_165 111 [a0, a1, a2, a3, a4] st h Q else At call ac_165 117 [a0, a1, a2, a3, a4] st h Q := At_swT (k := 0) (ts := [52, 59, 66, 73, 111]) (d := 117) (L' := [a0, a1, a2, a3, a4]) (st' := st) (h' := h) rfl
theorem r165_52 : At call ac_165 52 [vR g m, a1, a2, a3, a4] st h Q ↔ At call ac_165 53 [vR g m, a1, a2, a3, a4] (vR g m :: st) h Q := At_next rfl
theorem r165_53 : At call ac_165 53 [a0, a1, a2, a3, a4] (vR g 27 :: st) h Q ↔ At call ac_165 56 [a0, a1, a2, a3, a4] (vR g 20 :: st) h Q := At_next rfl
theorem r165_56 : At call ac_165 56 [a0, vI x, a2, a3, a4] st h Q ↔ At call ac_165 57 [a0, vI x, a2, a3, a4] (vI x :: st) h Q := At_next rfl
theorem r165_57 : At call ac_165 57 [a0, a1, a2, a3, a4] (vI x :: vR g m :: st) h Q ↔ inA h m 0 x ∧ At call ac_165 58 [a0, a1, a2, a3, a4] (vI (h g m x.toNat) :: st) h Q := At_guard rfl
theorem r165_58 : At call ac_165 58 [a0, a1, a2, a3, a4] [vI x] h Q ↔ Q (some (vI x)) h := At_ret rfl
theorem r165_59 : At call ac_165 59 [vR g m, a1, a2, a3, a4] st h Q ↔ At call ac_165 60 [vR g m, a1, a2, a3, a4] (vR g m :: st) h Q := At_next rfl
theorem r165_60 : At call ac_165 60 [a0, a1, a2, a3, a4] (vR g 27 :: st) h Q ↔ At call ac_165 63 [a0, a1, a2, a3, a4] (vR g 21 :: st) h Q := At_next rfl
theorem r165_63 : At call ac_165 63 [a0, vI x, a2, a3, a4] st h Q ↔ At call ac_165 64 [a0, vI x, a2, a3, a4] (vI x :: st) h Q := At_next rfl
theorem r165_64 : At call ac_165 64 [a0, a1, a2, a3, a4] (vI x :: vR g m :: st) h Q ↔ inA h m 0 x ∧ At call ac_165 65 [a0, a1, a2, a3, a4] (vI (h g m x.toNat) :: st) h Q := At_guard rfl
theorem r165_65 : At call ac_165 65 [a0, a1, a2, a3, a4] [vI x] h Q ↔ Q (some (vI x)) h := At_ret rfl
theorem r165_66 : At call ac_165 66 [vR g m, a1, a2, a3, a4] st h Q ↔ At call ac_165 67 [vR g m, a1, a2, a3, a4] (vR g m :: st) h Q := At_next rfl
theorem r165_67 : At call ac_165 67 [a0, a1, a2, a3, a4] (vR g 27 :: st) h Q ↔ At call ac_165 70 [a0, a1, a2, a3, a4] (vR g 22 :: st) h Q := At_next rfl
theorem r165_70 : At call ac_165 70 [a0, vI x, a2, a3, a4] st h Q ↔ At call ac_165 71 [a0, vI x, a2, a3, a4] (vI x :: st) h Q := At_next rfl
theorem r165_71 : At call ac_165 71 [a0, a1, a2, a3, a4] (vI x :: vR g m :: st) h Q ↔ inA h m 0 x ∧ At call ac_165 72 [a0, a1, a2, a3, a4] (vI (h g m x.toNat) :: st) h Q := At_guard rfl
theorem r165_72 : At call ac_165 72 [a0, a1, a2, a3, a4] [vI x] h Q ↔ Q (some (vI x)) h := At_ret rfl
theorem r165_73 : At call ac_165 73 [a0, a1, a2, a3, a4] st h Q ↔ At call ac_165 74 [a0, a1, a2, a3, a4] (vI 0 :: st) h Q := At_next rfl
theorem r165_74 : At call ac_165 74 [a0, a1, a2, a3, a4] (vI x :: st) h Q ↔ At call ac_165 76 [a0, a1, a2, a3, vI x] st h Q := At_next rfl
theorem r165_76 : At call ac_165 76 [a0, a1, a2, a3, vI x] st h Q ↔ At call ac_165 78 [a0, a1, a2, a3, vI x] (vI x :: st) h Q := At_next rfl
theorem r165_78 : At call ac_165 78 [vR g m, a1, a2, a3, a4] st h Q ↔ At call ac_165 79 [vR g m, a1, a2, a3, a4] (vR g m :: st) h Q := At_next rfl
theorem r165_79 : At call ac_165 79 [a0, a1, a2, a3, a4] (vR g 27 :: st) h Q ↔ At call ac_165 82 [a0, a1, a2, a3, a4] (vI (h g 27 8) :: st) h Q := At_next rfl
theorem r165_82 : At call ac_165 82 [a0, a1, a2, a3, a4] (vI y :: vI x :: st) h Q ↔ if x < y then At call ac_165 85 [a0, a1, a2, a3, a4] st h Q else At call ac_165 109 [a0, a1, a2, a3, a4] st h Q := At_br rfl
theorem r165_85 : At call ac_165 85 [vR g m, a1, a2, a3, a4] st h Q ↔ At call ac_165 86 [vR g m, a1, a2, a3, a4] (vR g m :: st) h Q := At_next rfl
theorem r165_86 : At call ac_165 86 [a0, a1, a2, a3, a4] (vR g 27 :: st) h Q ↔ At call ac_165 89 [a0, a1, a2, a3, a4] (vR g 25 :: st) h Q := At_next rfl
theorem r165_89 : At call ac_165 89 [a0, a1, a2, a3, vI x] st h Q ↔ At call ac_165 91 [a0, a1, a2, a3, vI x] (vI x :: st) h Q := At_next rfl
theorem r165_91 : At call ac_165 91 [a0, a1, a2, a3, a4] (vI x :: vR g m :: st) h Q ↔ inA h m 0 x ∧ At call ac_165 92 [a0, a1, a2, a3, a4] (vI (h g m x.toNat) :: st) h Q := At_guard rfl
theorem r165_92 : At call ac_165 92 [a0, vI x, a2, a3, a4] st h Q ↔ At call ac_165 93 [a0, vI x, a2, a3, a4] (vI x :: st) h Q := At_next rfl
theorem r165_93 : At call ac_165 93 [a0, a1, a2, a3, a4] (vI y :: vI x :: st) h Q ↔ if x = y then At call ac_165 96 [a0, a1, a2, a3, a4] st h Q else At call ac_165 103 [a0, a1, a2, a3, a4] st h Q := At_br rfl
theorem r165_96 : At call ac_165 96 [a0, a1, a2, vI x, a4] st h Q ↔ At call ac_165 97 [a0, a1, a2, vI x, a4] (vI x :: st) h Q := At_next rfl
theorem r165_97 : At call ac_165 97 [a0, a1, a2, a3, a4] st h Q ↔ At call ac_165 98 [a0, a1, a2, a3, a4] (vI 1 :: st) h Q := At_next rfl
theorem r165_98 : At call ac_165 98 [a0, a1, a2, a3, vI x] st h Q ↔ At call ac_165 100 [a0, a1, a2, a3, vI x] (vI x :: st) h Q := At_next rfl
theorem r165_100 : At call ac_165 100 [a0, a1, a2, a3, a4] (vI y :: vI x :: st) h Q ↔ At call ac_165 101 [a0, a1, a2, a3, a4] (vI (opShl x y) :: st) h Q := At_next rfl
theorem r165_101 : At call ac_165 101 [a0, a1, a2, a3, a4] (vI y :: vI x :: st) h Q ↔ At call ac_165 102 [a0, a1, a2, a3, a4] (vI (opOr x y) :: st) h Q := At_next rfl
theorem r165_102 : At call ac_165 102 [a0, a1, a2, a3, a4] (vI x :: st) h Q ↔ At call ac_165 103 [a0, a1, a2, vI x, a4] st h Q := At_next rfl
theorem r165_103 : At call ac_165 103 [a0, a1, a2, a3, vI x] st h Q ↔ At call ac_165 106 [a0, a1, a2, a3, vI (wr (x + 1))] st h Q := At_next rfl
theorem r165_106 : At call ac_165 106 [a0, a1, a2, a3, a4] st h Q ↔ At call ac_165 76 [a0, a1, a2, a3, a4] st h Q := At_next rfl
theorem r165_109 : At call ac_165 109 [a0, a1, a2, vI x, a4] st h Q ↔ At call ac_165 110 [a0, a1, a2, vI x, a4] (vI x :: st) h Q := At_next rfl
theorem r165_110 : At call ac_165 110 [a0, a1, a2, a3, a4] [vI x] h Q ↔ Q (some (vI x)) h := At_ret rfl
theorem r165_111 : At call ac_165 111 [vR g m, a1, a2, a3, a4] st h Q ↔ At call ac_165 112 [vR g m, a1, a2, a3, a4] (vR g m :: st) h Q := At_next rfl
theorem r165_112 : At call ac_165 112 [a0, vI x, a2, a3, a4] st h Q ↔ At call ac_165 113 [a0, vI x, a2, a3, a4] (vI x :: st) h Q := At_next rfl
theorem r165_113 : At call ac_165 113 [a0, a1, a2, a3, a4] (b1 :: b0 :: st) h Q ↔ st.length ≤ 4 ∧ ∃ v h1, call 159 [b0, b1] h (some v) h1 ∧ At call ac_165 116 [a0, a1, a2, a3, a4] (v :: st) h1 Q := At_gcall rfl
theorem r165_116 : At call ac_165 116 [a0, a1, a2, a3, a4] [vI x] h Q ↔ Q (some (vI x)) h := At_ret rfl
theorem r165_117 : At call ac_165 117 [vR g m, a1, a2, a3, a4] st h Q ↔ At call ac_165 118 [vR g m, a1, a2, a3, a4] (vR g m :: st) h Q := At_next rfl
theorem r165_118 : At call ac_165 118 [a0, a1, a2, a3, a4] st h Q ↔ At call ac_165 120 [a0, a1, a2, a3, a4] (vI (-5) :: st) h Q := At_next rfl
theorem r165_120 : At call ac_165 120 [a0, a1, a2, a3, a4] (b1 :: b0 :: st) h Q ↔ st.length ≤ 4 ∧ ∃ v h1, call 142 [b0, b1] h (some v) h1 ∧ At call ac_165 123 [a0, a1, a2, a3, a4] (v :: st) h1 Q := At_gcall rfl
theorem r165_123 : At call ac_165 123 [a0, a1, a2, a3, a4] [vI x] h Q ↔ Q (some (vI x)) h := At_ret rfl
theorem r166_0 : At call ac_166 0 [vR g m, a1, a2, a3] st h Q ↔ At call ac_166 1 [vR g m, a1, a2, a3] (vR g m :: st) h Q := At_next rfl
theorem r166_1 : At call ac_166 1 [a0, vI x, a2, a3] st h Q ↔ At call ac_166 2 [a0, vI x, a2, a3] (vI x :: st) h Q := At_next rfl
theorem r166_2 : At call ac_166 2 [a0, a1, a2, a3] (b1 :: b0 :: st) h Q ↔ st.length ≤ 4 ∧ ∃ v h1, call 145 [b0, b1] h (some v) h1 ∧ At call ac_166 5 [a0, a1, a2, a3] (v :: st) h1 Q := At_gcall rfl
theorem r166_5 : At call ac_166 5 [a0, a1, a2, a3] (vI x :: st) h Q ↔ if x = 0 then At call ac_166 8 [a0, a1, a2, a3] st h Q else At call ac_166 14 [a0, a1, a2, a3] st h Q := At_br rfl
theorem r166_8 : At call ac_166 8 [vR g m, a1, a2, a3] st h Q ↔ At call ac_166 9 [vR g m, a1, a2, a3] (vR g m :: st) h Q := At_next rfl
theorem r166_9 : At call ac_166 9 [a0, a1, a2, a3] st h Q ↔ At call ac_166 10 [a0, a1, a2, a3] (vI (-1) :: st) h Q := At_next rfl
theorem r166_10 : At call ac_166 10 [a0, a1, a2, a3] (b1 :: b0 :: st) h Q ↔ st.length ≤ 4 ∧ ∃ v h1, call 142 [b0, b1] h (some v) h1 ∧ At call ac_166 13 [a0, a1, a2, a3] (v :: st) h1 Q := At_gcall rfl
theorem r166_13 : At call ac_166 13 [a0, a1, a2, a3] [vI x] h Q ↔ Q (some (vI x)) h := At_ret rfl
theorem r166_14 : At call ac_166 14 [a0, a1, vI x, a3] st h Q ↔ At call ac_166 15 [a0, a1, vI x, a3] (vI x :: st) h Q := At_next rfl
theorem r166_15 : At call ac_166 15 [a0, a1, a2, a3] st h Q ↔ At call ac_166 16 [a0, a1, a2, a3] (vI 0 :: st) h Q := At_next rfl
theorem r166_16 : At call ac_166 16 [a0, a1, a2, a3] st h Q ↔ At call ac_166 18 [a0, a1, a2, a3] (vI 99 :: st) h Q := At_next rfl
theorem r166_18 : At call ac_166 18 [a0, a1, a2, a3] (b2 :: b1 :: b0 :: st) h Q ↔ st.length ≤ 4 ∧ ∃ v h1, call 144 [b0, b1, b2] h (some v) h1 ∧ At call ac_166 21 [a0, a1, a2, a3] (v :: st) h1 Q := At_gcall rfl
theorem r166_21 : At call ac_166 21 [a0, a1, a2, a3] (vI x :: st) h Q ↔ if x = 0 then At call ac_166 24 [a0, a1, a2, a3] st h Q else At call ac_166 31 [a0, a1, a2, a3] st h Q := At_br rfl
theorem r166_24 : At call ac_166 24 [vR g m, a1, a2, a3] st h Q ↔ At call ac_166 25 [vR g m, a1, a2, a3] (vR g m :: st) h Q := At_next rfl
theorem r166_25 : At call ac_166 25 [a0, a1, a2, a3] st h Q ↔ At call ac_166 27 [a0, a1, a2, a3] (vI (-6) :: st) h Q := At_next rfl
theorem r166_27 : At call ac_166 27 [a0, a1, a2, a3] (b1 :: b0 :: st) h Q ↔ st.length ≤ 4 ∧ ∃ v h1, call 142 [b0, b1] h (some v) h1 ∧ At call ac_166 30 [a0, a1, a2, a3] (v :: st) h1 Q := At_gcall rfl
theorem r166_30 : At call ac_166 30 [a0, a1, a2, a3] [vI x] h Q ↔ Q (some (vI x)) h := At_ret rfl
theorem r166_31 : At call ac_166 31 [vR g m, a1, a2, a3] st h Q ↔ At call ac_166 32 [vR g m, a1, a2, a3] (vR g m :: st) h Q := At_next rfl
theorem r166_32 : At call ac_166 32 [a0, a1, a2, a3] (vR g 27 :: st) h Q ↔ At call ac_166 35 [a0, a1, a2, a3] (vR g 22 :: st) h Q := At_next rfl
theorem r166_35 : At call ac_166 35 [a0, vI x, a2, a3] st h Q ↔ At call ac_166 36 [a0, vI x, a2, a3] (vI x :: st) h Q := At_next rfl
theorem r166_36 : At call ac_166 36 [a0, a1, a2, a3] (vI x :: vR g m :: st) h Q ↔ inA h m 0 x ∧ At call ac_166 37 [a0, a1, a2, a3] (vI (h g m x.toNat) :: st) h Q := At_guard rfl
theorem r166_37 : At call ac_166 37 [a0, a1, a2, a3] (vI x :: st) h Q ↔ At call ac_166 38 [a0, a1, a2, vI x] st h Q := At_next rfl
theorem r166_38 : At call ac_166 38 [vR g m, a1, a2, a3] st h Q ↔ At call ac_166 39 [vR g m, a1, a2, a3] (vR g m :: st) h Q := At_next rfl
theorem r166_39 : At call ac_166 39 [a0, a1, a2, a3] (vR g 27 :: st) h Q ↔ At call ac_166 42 [a0, a1, a2, a3] (vR g 22 :: st) h Q := At_next rfl
theorem r166_42 : At call ac_166 42 [a0, vI x, a2, a3] st h Q ↔ At call ac_166 43 [a0, vI x, a2, a3] (vI x :: st) h Q := At_next rfl
theorem r166_43 : At call ac_166 43 [a0, a1, vI x, a3] st h Q ↔ At call ac_166 44 [a0, a1, vI x, a3] (vI x :: st) h Q := At_next rfl
theorem r166_44 : At call ac_166 44 [a0, a1, a2, a3] (vI y :: vI x :: vR g m :: st) h Q ↔ (inA h m 0 x ∧ m ≠ 37) ∧ At call ac_166 45 [a0, a1, a2, a3] st (up3 h g m x.toNat y) Q := At_guard rfl
theorem r166_45 : At call ac_166 45 [a0, a1, a2, vI x] st h Q ↔ At call ac_166 46 [a0, a1, a2, vI x] (vI x :: st) h Q := At_next rfl
theorem r166_46 : At call ac_166 46 [a0, a1, a2, a3] [vI x] h Q ↔ Q (some (vI x)) h := At_ret rfl
theorem r167_0 : At call ac_167 0 [a0, vI x] st h Q ↔ At call ac_167 1 [a0, vI x] (vI x :: st) h Q := At_next rfl
theorem r167_1 : At call ac_167 1 [a0, a1] (vI x :: st) h Q ↔ if x = 0 then At call ac_167 4 [a0, a1] st h Q else At call ac_167 8 [a0, a1] st h Q := At_br rfl
theorem r167_4 : At call ac_167 4 [a0, a1] st h Q ↔ At call ac_167 5 [a0, a1] (vI (-1) :: st) h Q := At_next rfl
theorem r167_5 : At call ac_167 5 [a0, a1] st h Q ↔ At call ac_167 9 [a0, a1] st h Q := At_next rfl
theorem r167_8 : At call ac_167 8 [a0, a1] st h Q ↔ At call ac_167 9 [a0, a1] (vI 0 :: st) h Q := At_next rfl
theorem r167_9 : At call ac_167 9 [a0, a1] [vI x] h Q ↔ Q (some (vI x)) h := At_ret rfl
theorem r168_0 : At call ac_168 0 [a0, vI x] st h Q ↔ At call ac_168 1 [a0, vI x] (vI x :: st) h Q := At_next rfl
theorem r168_1 : At call ac_168 1 [a0, a1] (vI x :: st) h Q ↔ if x = 0 then At call ac_168 44 [a0, a1] st h Q else if x = 1 then At call ac_168 46 [a0, a1] st h Q else if x = 2 then At call ac_168 49 [a0, a1] st h Q else if x = 3 then At call ac_168 52 [a0, a1] st h Q else if x = 4 then At call ac_168 52 [a0, a1] st h Q else if x = 5 then At call ac_168 52 [a0, a1] st h Q else if x = 6 then At call ac_168 49 [a0, a1] st h Q else At call ac_168 52 [a0, a1] st h Q := At_swT (k := 0) (ts := [44, 46, 49, 52, 52, 52, 49]) (d := 52) (L' := [a0, a1]) (st' := st) (h' := h) rfl
theorem r168_44 : At call ac_168 44 [a0, a1] st h Q ↔ At call ac_168 45 [a0, a1] (vI 1 :: st) h Q := At_next rfl
theorem r168_45 : At call ac_168 45 [a0, a1] [vI x] h Q ↔ Q (some (vI x)) h := At_ret rfl
theorem r168_46 : At call ac_168 46 [a0, a1] st h Q ↔ At call ac_168 48 [a0, a1] (vI 18 :: st) h Q := At_next rfl
theorem r168_48 : At call ac_168 48 [a0, a1] [vI x] h Q ↔ Q (some (vI x)) h := At_ret rfl
theorem r168_49 : At call ac_168 49 [a0, a1] st h Q ↔ At call ac_168 51 [a0, a1] (vI 23 :: st) h Q := At_next rfl
theorem r168_51 : At call ac_168 51 [a0, a1] [vI x] h Q ↔ Q (some (vI x)) h := At_ret rfl
theorem r168_52 : At call ac_168 52 [a0, a1] st h Q ↔ At call ac_168 54 [a0, a1] (vI 99 :: st) h Q := At_next rfl
theorem r168_54 : At call ac_168 54 [a0, a1] [vI x] h Q ↔ Q (some (vI x)) h := At_ret rfl
theorem r169_0 : At call ac_169 0 [a0, vI x, a2, a3] st h Q ↔ At call ac_169 1 [a0, vI x, a2, a3] (vI x :: st) h Q := At_next rfl
theorem r169_1 : At call ac_169 1 [a0, a1, a2, a3] st h Q ↔ At call ac_169 2 [a0, a1, a2, a3] (vI 0 :: st) h Q := At_next rfl
theorem r169_2 : At call ac_169 2 [a0, a1, a2, a3] st h Q ↔ At call ac_169 4 [a0, a1, a2, a3] (vI 6 :: st) h Q := At_next rfl
theorem r169_4 : At call ac_169 4 [a0, a1, a2, a3] (b2 :: b1 :: b0 :: st) h Q ↔ st.length ≤ 4 ∧ ∃ v h1, call 144 [b0, b1, b2] h (some v) h1 ∧ At call ac_169 7 [a0, a1, a2, a3] (v :: st) h1 Q := At_gcall rfl
theorem r169_7 : At call ac_169 7 [a0, a1, a2, a3] (vI x :: st) h Q ↔ if x = 0 then At call ac_169 27 [a0, a1, a2, a3] st h Q else At call ac_169 10 [a0, a1, a2, a3] st h Q := At_br rfl
theorem r169_10 : At call ac_169 10 [a0, a1, vI x, a3] st h Q ↔ At call ac_169 11 [a0, a1, vI x, a3] (vI x :: st) h Q := At_next rfl
theorem r169_11 : At call ac_169 11 [vR g m, a1, a2, a3] st h Q ↔ At call ac_169 12 [vR g m, a1, a2, a3] (vR g m :: st) h Q := At_next rfl
theorem r169_12 : At call ac_169 12 [a0, vI x, a2, a3] st h Q ↔ At call ac_169 13 [a0, vI x, a2, a3] (vI x :: st) h Q := At_next rfl
theorem r169_13 : At call ac_169 13 [a0, a1, a2, a3] (b1 :: b0 :: st) h Q ↔ st.length ≤ 4 ∧ ∃ v h1, call 167 [b0, b1] h (some v) h1 ∧ At call ac_169 16 [a0, a1, a2, a3] (v :: st) h1 Q := At_gcall rfl
theorem r169_16 : At call ac_169 16 [vR g m, a1, a2, a3] st h Q ↔ At call ac_169 17 [vR g m, a1, a2, a3] (vR g m :: st) h Q := At_next rfl
theorem r169_17 : At call ac_169 17 [a0, vI x, a2, a3] st h Q ↔ At call ac_169 18 [a0, vI x, a2, a3] (vI x :: st) h Q := At_next rfl
theorem r169_18 : At call ac_169 18 [a0, a1, a2, a3] (b1 :: b0 :: st) h Q ↔ st.length ≤ 4 ∧ ∃ v h1, call 168 [b0, b1] h (some v) h1 ∧ At call ac_169 21 [a0, a1, a2, a3] (v :: st) h1 Q := At_gcall rfl
theorem r169_21 : At call ac_169 21 [a0, a1, a2, a3] (b2 :: b1 :: b0 :: st) h Q ↔ st.length ≤ 4 ∧ ∃ v h1, call 144 [b0, b1, b2] h (some v) h1 ∧ At call ac_169 24 [a0, a1, a2, a3] (v :: st) h1 Q := At_gcall rfl
theorem r169_24 : At call ac_169 24 [a0, a1, a2, a3] (vI x :: st) h Q ↔ if x = 0 then At call ac_169 27 [a0, a1, a2, a3] st h Q else At call ac_169 34 [a0, a1, a2, a3] st h Q := At_br rfl
theorem r169_27 : At call ac_169 27 [vR g m, a1, a2, a3] st h Q ↔ At call ac_169 28 [vR g m, a1, a2, a3] (vR g m :: st) h Q := At_next rfl
theorem r169_28 : At call ac_169 28 [a0, a1, a2, a3] st h Q ↔ At call ac_169 30 [a0, a1, a2, a3] (vI (-6) :: st) h Q := At_next rfl
theorem r169_30 : At call ac_169 30 [a0, a1, a2, a3] (b1 :: b0 :: st) h Q ↔ st.length ≤ 4 ∧ ∃ v h1, call 142 [b0, b1] h (some v) h1 ∧ At call ac_169 33 [a0, a1, a2, a3] (v :: st) h1 Q := At_gcall rfl
theorem r169_33 : At call ac_169 33 [a0, a1, a2, a3] [vI x] h Q ↔ Q (some (vI x)) h := At_ret rfl
theorem r169_34 : At call ac_169 34 [a0, vI x, a2, a3] st h Q ↔ At call ac_169 35 [a0, vI x, a2, a3] (vI x :: st) h Q := At_next rfl
theorem r169_35 : At call ac_169 35 [a0, a1, a2, a3] (vI x :: st) h Q ↔ if x = 0 then At call ac_169 76 [a0, a1, a2, a3] st h Q else if x = 1 then At call ac_169 90 [a0, a1, a2, a3] st h Q else if x = 2 then At call ac_169 102 [a0, a1, a2, a3] st h Q else if x = 3 then At call ac_169 126 [a0, a1, a2, a3] st h Q else if x = 4 then At call ac_169 126 [a0, a1, a2, a3] st h Q else if x = 5 then At call ac_169 126 [a0, a1, a2, a3] st h Q else if x = 6 then At call ac_169 114 [a0, a1, a2, a3] st h Q else At call ac_169 126 [a0, a1, a2, a3] st h Q := At_swT (k := 0) (ts := [76, 90, 102, 126, 126, 126, 114]) (d := 126) (L' := [a0, a1, a2, a3]) (st' := st) (h' := h) rfl
theorem r169_76 : At call ac_169 76 [vR g m, a1, a2, a3] st h Q ↔ At call ac_169 77 [vR g m, a1, a2, a3] (vR g m :: st) h Q := At_next rfl
theorem r169_77 : At call ac_169 77 [a0, a1, a2, a3] (vR g 27 :: st) h Q ↔ At call ac_169 80 [a0, a1, a2, a3] (vI (h g 27 13) :: st) h Q := At_next rfl
theorem r169_80 : At call ac_169 80 [a0, a1, a2, a3] st h Q ↔ At call ac_169 81 [a0, a1, a2, a3] (vI 1 :: st) h Q := At_next rfl
theorem r169_81 : At call ac_169 81 [a0, a1, a2, a3] (vI y :: vI x :: st) h Q ↔ At call ac_169 82 [a0, a1, a2, a3] (vI (wr (x + y)) :: st) h Q := At_next rfl
theorem r169_82 : At call ac_169 82 [a0, a1, a2, a3] (vI x :: st) h Q ↔ At call ac_169 83 [a0, a1, a2, vI x] st h Q := At_next rfl
theorem r169_83 : At call ac_169 83 [vR g m, a1, a2, a3] st h Q ↔ At call ac_169 84 [vR g m, a1, a2, a3] (vR g m :: st) h Q := At_next rfl
theorem r169_84 : At call ac_169 84 [a0, a1, vI x, a3] st h Q ↔ At call ac_169 85 [a0, a1, vI x, a3] (vI x :: st) h Q := At_next rfl
theorem r169_85 : At call ac_169 85 [a0, a1, a2, a3] (vI x :: vR g 27 :: st) h Q ↔ At call ac_169 88 [a0, a1, a2, a3] st (up3 h g 27 13 x) Q := At_next rfl
theorem r169_88 : At call ac_169 88 [a0, a1, a2, vI x] st h Q ↔ At call ac_169 89 [a0, a1, a2, vI x] (vI x :: st) h Q := At_next rfl
theorem r169_89 : At call ac_169 89 [a0, a1, a2, a3] [vI x] h Q ↔ Q (some (vI x)) h := At_ret rfl
theorem r169_90 : At call ac_169 90 [vR g m, a1, a2, a3] st h Q ↔ At call ac_169 91 [vR g m, a1, a2, a3] (vR g m :: st) h Q := At_next rfl
theorem r169_91 : At call ac_169 91 [a0, a1, a2, a3] (vR g 27 :: st) h Q ↔ At call ac_169 94 [a0, a1, a2, a3] (vI (h g 27 14) :: st) h Q := At_next rfl
theorem r169_94 : At call ac_169 94 [a0, a1, a2, a3] (vI x :: st) h Q ↔ At call ac_169 95 [a0, a1, a2, vI x] st h Q := At_next rfl
theorem r169_95 : At call ac_169 95 [vR g m, a1, a2, a3] st h Q ↔ At call ac_169 96 [vR g m, a1, a2, a3] (vR g m :: st) h Q := At_next rfl
theorem r169_96 : At call ac_169 96 [a0, a1, vI x, a3] st h Q ↔ At call ac_169 97 [a0, a1, vI x, a3] (vI x :: st) h Q := At_next rfl
theorem r169_97 : At call ac_169 97 [a0, a1, a2, a3] (vI x :: vR g 27 :: st) h Q ↔ At call ac_169 100 [a0, a1, a2, a3] st (up3 h g 27 14 x) Q := At_next rfl
theorem r169_100 : At call ac_169 100 [a0, a1, a2, vI x] st h Q ↔ At call ac_169 101 [a0, a1, a2, vI x] (vI x :: st) h Q := At_next rfl
theorem r169_101 : At call ac_169 101 [a0, a1, a2, a3] [vI x] h Q ↔ Q (some (vI x)) h := At_ret rfl
theorem r169_102 : At call ac_169 102 [vR g m, a1, a2, a3] st h Q ↔ At call ac_169 103 [vR g m, a1, a2, a3] (vR g m :: st) h Q := At_next rfl
theorem r169_103 : At call ac_169 103 [a0, a1, a2, a3] (vR g 27 :: st) h Q ↔ At call ac_169 106 [a0, a1, a2, a3] (vI (h g 27 15) :: st) h Q := At_next rfl
theorem r169_106 : At call ac_169 106 [a0, a1, a2, a3] (vI x :: st) h Q ↔ At call ac_169 107 [a0, a1, a2, vI x] st h Q := At_next rfl
theorem r169_107 : At call ac_169 107 [vR g m, a1, a2, a3] st h Q ↔ At call ac_169 108 [vR g m, a1, a2, a3] (vR g m :: st) h Q := At_next rfl
theorem r169_108 : At call ac_169 108 [a0, a1, vI x, a3] st h Q ↔ At call ac_169 109 [a0, a1, vI x, a3] (vI x :: st) h Q := At_next rfl
theorem r169_109 : At call ac_169 109 [a0, a1, a2, a3] (vI x :: vR g 27 :: st) h Q ↔ At call ac_169 112 [a0, a1, a2, a3] st (up3 h g 27 15 x) Q := At_next rfl
theorem r169_112 : At call ac_169 112 [a0, a1, a2, vI x] st h Q ↔ At call ac_169 113 [a0, a1, a2, vI x] (vI x :: st) h Q := At_next rfl
theorem r169_113 : At call ac_169 113 [a0, a1, a2, a3] [vI x] h Q ↔ Q (some (vI x)) h := At_ret rfl
theorem r169_114 : At call ac_169 114 [vR g m, a1, a2, a3] st h Q ↔ At call ac_169 115 [vR g m, a1, a2, a3] (vR g m :: st) h Q := At_next rfl
theorem r169_115 : At call ac_169 115 [a0, a1, a2, a3] (vR g 27 :: st) h Q ↔ At call ac_169 118 [a0, a1, a2, a3] (vI (h g 27 11) :: st) h Q := At_next rfl
theorem r169_118 : At call ac_169 118 [a0, a1, a2, a3] (vI x :: st) h Q ↔ At call ac_169 119 [a0, a1, a2, vI x] st h Q := At_next rfl
theorem r169_119 : At call ac_169 119 [vR g m, a1, a2, a3] st h Q ↔ At call ac_169 120 [vR g m, a1, a2, a3] (vR g m :: st) h Q := At_next rfl
theorem r169_120 : At call ac_169 120 [a0, a1, vI x, a3] st h Q ↔ At call ac_169 121 [a0, a1, vI x, a3] (vI x :: st) h Q := At_next rfl
theorem r169_121 : At call ac_169 121 [a0, a1, a2, a3] (vI x :: vR g 27 :: st) h Q ↔ At call ac_169 124 [a0, a1, a2, a3] st (up3 h g 27 11 x) Q := At_next rfl
theorem r169_124 : At call ac_169 124 [a0, a1, a2, vI x] st h Q ↔ At call ac_169 125 [a0, a1, a2, vI x] (vI x :: st) h Q := At_next rfl
theorem r169_125 : At call ac_169 125 [a0, a1, a2, a3] [vI x] h Q ↔ Q (some (vI x)) h := At_ret rfl
theorem r169_126 : At call ac_169 126 [vR g m, a1, a2, a3] st h Q ↔ At call ac_169 127 [vR g m, a1, a2, a3] (vR g m :: st) h Q := At_next rfl
theorem r169_127 : At call ac_169 127 [a0, a1, a2, a3] (vR g 27 :: st) h Q ↔ At call ac_169 130 [a0, a1, a2, a3] (vR g 26 :: st) h Q := At_next rfl
theorem r169_130 : At call ac_169 130 [a0, vI x, a2, a3] st h Q ↔ At call ac_169 131 [a0, vI x, a2, a3] (vI x :: st) h Q := At_next rfl
theorem r169_131 : At call ac_169 131 [a0, a1, a2, a3] st h Q ↔ At call ac_169 132 [a0, a1, a2, a3] (vI 2 :: st) h Q := At_next rfl
theorem r169_132 : At call ac_169 132 [a0, a1, a2, a3] (vI y :: vI x :: st) h Q ↔ At call ac_169 133 [a0, a1, a2, a3] (vI (wr (x - y)) :: st) h Q := At_next rfl
theorem r169_133 : At call ac_169 133 [a0, a1, a2, a3] (vI x :: vR g m :: st) h Q ↔ inA h m 0 x ∧ At call ac_169 134 [a0, a1, a2, a3] (vI (h g m x.toNat) :: st) h Q := At_guard rfl
theorem r169_134 : At call ac_169 134 [a0, a1, a2, a3] (vI x :: st) h Q ↔ At call ac_169 135 [a0, a1, a2, vI x] st h Q := At_next rfl
theorem r169_135 : At call ac_169 135 [vR g m, a1, a2, a3] st h Q ↔ At call ac_169 136 [vR g m, a1, a2, a3] (vR g m :: st) h Q := At_next rfl
theorem r169_136 : At call ac_169 136 [a0, a1, a2, a3] (vR g 27 :: st) h Q ↔ At call ac_169 139 [a0, a1, a2, a3] (vR g 26 :: st) h Q := At_next rfl
theorem r169_139 : At call ac_169 139 [a0, vI x, a2, a3] st h Q ↔ At call ac_169 140 [a0, vI x, a2, a3] (vI x :: st) h Q := At_next rfl
theorem r169_140 : At call ac_169 140 [a0, a1, a2, a3] st h Q ↔ At call ac_169 141 [a0, a1, a2, a3] (vI 2 :: st) h Q := At_next rfl
theorem r169_141 : At call ac_169 141 [a0, a1, a2, a3] (vI y :: vI x :: st) h Q ↔ At call ac_169 142 [a0, a1, a2, a3] (vI (wr (x - y)) :: st) h Q := At_next rfl
theorem r169_142 : At call ac_169 142 [a0, a1, vI x, a3] st h Q ↔ At call ac_169 143 [a0, a1, vI x, a3] (vI x :: st) h Q := At_next rfl
theorem r169_143 : At call ac_169 143 [a0, a1, a2, a3] (vI y :: vI x :: vR g m :: st) h Q ↔ (inA h m 0 x ∧ m ≠ 37) ∧ At call ac_169 144 [a0, a1, a2, a3] st (up3 h g m x.toNat y) Q := At_guard rfl
theorem r169_144 : At call ac_169 144 [a0, a1, a2, vI x] st h Q ↔ At call ac_169 145 [a0, a1, a2, vI x] (vI x :: st) h Q := At_next rfl
theorem r169_145 : At call ac_169 145 [a0, a1, a2, a3] [vI x] h Q ↔ Q (some (vI x)) h := At_ret rfl
theorem r170_0 : At call ac_170 0 [a0, a1] st h Q ↔ At call ac_170 1 [a0, a1] (vI 0 :: st) h Q := At_next rfl
theorem r170_1 : At call ac_170 1 [a0, a1] (vI x :: st) h Q ↔ At call ac_170 2 [a0, vI x] st h Q := At_next rfl
theorem r170_2 : At call ac_170 2 [a0, vI x] st h Q ↔ At call ac_170 3 [a0, vI x] (vI x :: st) h Q := At_next rfl
theorem r170_3 : At call ac_170 3 [vR g m, a1] st h Q ↔ At call ac_170 4 [vR g m, a1] (vR g m :: st) h Q := At_next rfl
theorem r170_4 : At call ac_170 4 [a0, a1] (vR g 27 :: st) h Q ↔ At call ac_170 7 [a0, a1] (vI (h g 27 8) :: st) h Q := At_next rfl
theorem r170_7 : At call ac_170 7 [a0, a1] (vI y :: vI x :: st) h Q ↔ if x < y then At call ac_170 10 [a0, a1] st h Q else At call ac_170 30 [a0, a1] st h Q := At_br rfl
theorem r170_10 : At call ac_170 10 [vR g m, a1] st h Q ↔ At call ac_170 11 [vR g m, a1] (vR g m :: st) h Q := At_next rfl
theorem r170_11 : At call ac_170 11 [a0, a1] (vR g 27 :: st) h Q ↔ At call ac_170 14 [a0, a1] (vR g 25 :: st) h Q := At_next rfl
theorem r170_14 : At call ac_170 14 [a0, vI x] st h Q ↔ At call ac_170 15 [a0, vI x] (vI x :: st) h Q := At_next rfl
theorem r170_15 : At call ac_170 15 [a0, a1] (vI x :: vR g m :: st) h Q ↔ inA h m 0 x ∧ At call ac_170 16 [a0, a1] (vI (h g m x.toNat) :: st) h Q := At_guard rfl
theorem r170_16 : At call ac_170 16 [a0, a1] st h Q ↔ At call ac_170 19 [a0, a1] (vI 200 :: st) h Q := At_next rfl
theorem r170_19 : At call ac_170 19 [a0, a1] (vI y :: vI x :: st) h Q ↔ if x = y then At call ac_170 22 [a0, a1] st h Q else At call ac_170 24 [a0, a1] st h Q := At_br rfl
theorem r170_22 : At call ac_170 22 [a0, vI x] st h Q ↔ At call ac_170 23 [a0, vI x] (vI x :: st) h Q := At_next rfl
theorem r170_23 : At call ac_170 23 [a0, a1] [vI x] h Q ↔ Q (some (vI x)) h := At_ret rfl
theorem r170_24 : At call ac_170 24 [a0, vI x] st h Q ↔ At call ac_170 27 [a0, vI (wr (x + 1))] st h Q := At_next rfl
theorem r170_27 : At call ac_170 27 [a0, a1] st h Q ↔ At call ac_170 2 [a0, a1] st h Q := At_next rfl
theorem r170_30 : At call ac_170 30 [vR g m, a1] st h Q ↔ At call ac_170 31 [vR g m, a1] (vR g m :: st) h Q := At_next rfl
theorem r170_31 : At call ac_170 31 [a0, a1] (vR g 27 :: st) h Q ↔ At call ac_170 34 [a0, a1] (vI (h g 27 8) :: st) h Q := At_next rfl
theorem r170_34 : At call ac_170 34 [a0, a1] st h Q ↔ At call ac_170 36 [a0, a1] (vI 12 :: st) h Q := At_next rfl
theorem r170_36 : At call ac_170 36 [a0, a1] (vI y :: vI x :: st) h Q ↔ if x < y then At call ac_170 39 [a0, a1] st h Q else At call ac_170 46 [a0, a1] st h Q := At_br rfl
theorem r170_39 : At call ac_170 39 [vR g m, a1] st h Q ↔ At call ac_170 40 [vR g m, a1] (vR g m :: st) h Q := At_next rfl
theorem r170_40 : At call ac_170 40 [a0, a1] (vR g 27 :: st) h Q ↔ At call ac_170 43 [a0, a1] (vI (h g 27 8) :: st) h Q := At_next rfl
theorem r170_43 : At call ac_170 43 [a0, a1] st h Q ↔ At call ac_170 47 [a0, a1] st h Q := At_next rfl
theorem r170_46 : At call ac_170 46 [a0, a1] st h Q ↔ At call ac_170 47 [a0, a1] (vI (-1) :: st) h Q := At_next rfl
theorem r170_47 : At call ac_170 47 [a0, a1] [vI x] h Q ↔ Q (some (vI x)) h := At_ret rfl
theorem r171_0 : At call ac_171 0 [vR g m, a1, a2, a3] st h Q ↔ At call ac_171 1 [vR g m, a1, a2, a3] (vR g m :: st) h Q := At_next rfl
theorem r171_1 : At call ac_171 1 [a0, a1, a2, a3] (b0 :: st) h Q ↔ st.length ≤ 4 ∧ ∃ v h1, call 170 [b0] h (some v) h1 ∧ At call ac_171 4 [a0, a1, a2, a3] (v :: st) h1 Q := At_gcall rfl
theorem r171_4 : At call ac_171 4 [a0, a1, a2, a3] (vI x :: st) h Q ↔ At call ac_171 5 [a0, a1, a2, vI x] st h Q := At_next rfl
theorem r171_5 : At call ac_171 5 [a0, a1, a2, vI x] st h Q ↔ At call ac_171 6 [a0, a1, a2, vI x] (vI x :: st) h Q := At_next rfl
theorem r171_6 : At call ac_171 6 [vR g m, a1, a2, a3] st h Q ↔ At call ac_171 7 [vR g m, a1, a2, a3] (vR g m :: st) h Q := At_next rfl
theorem r171_7 : At call ac_171 7 [a0, a1, a2, a3] (vR g 27 :: st) h Q ↔ At call ac_171 10 [a0, a1, a2, a3] (vI (h g 27 8) :: st) h Q := At_next rfl
theorem r171_10 : At call ac_171 10 [a0, a1, a2, a3] (vI y :: vI x :: st) h Q ↔ if x = y then At call ac_171 13 [a0, a1, a2, a3] st h Q else At call ac_171 23 [a0, a1, a2, a3] st h Q := At_br rfl
theorem r171_13 : At call ac_171 13 [vR g m, a1, a2, a3] st h Q ↔ At call ac_171 14 [vR g m, a1, a2, a3] (vR g m :: st) h Q := At_next rfl
theorem r171_14 : At call ac_171 14 [a0, a1, a2, a3] (vI x :: st) h Q ↔ At call ac_171 15 [a0, a1, a2, a3] (vI x :: vI x :: st) h Q := At_next rfl
theorem r171_14r : At call ac_171 14 [a0, a1, a2, a3] (.inr (.inr v) :: st) h Q ↔ At call ac_171 15 [a0, a1, a2, a3] (.inr (.inr v) :: .inr (.inr v) :: st) h Q := At_next rfl
theorem r171_15 : At call ac_171 15 [a0, a1, a2, a3] (vR g 27 :: st) h Q ↔ At call ac_171 18 [a0, a1, a2, a3] (vI (h g 27 8) :: st) h Q := At_next rfl
theorem r171_18 : At call ac_171 18 [a0, a1, a2, a3] st h Q ↔ At call ac_171 19 [a0, a1, a2, a3] (vI 1 :: st) h Q := At_next rfl
theorem r171_19 : At call ac_171 19 [a0, a1, a2, a3] (vI y :: vI x :: st) h Q ↔ At call ac_171 20 [a0, a1, a2, a3] (vI (wr (x + y)) :: st) h Q := At_next rfl
theorem r171_20 : At call ac_171 20 [a0, a1, a2, a3] (vI x :: vR g 27 :: st) h Q ↔ At call ac_171 23 [a0, a1, a2, a3] st (up3 h g 27 8 x) Q := At_next rfl
theorem r171_23 : At call ac_171 23 [vR g m, a1, a2, a3] st h Q ↔ At call ac_171 24 [vR g m, a1, a2, a3] (vR g m :: st) h Q := At_next rfl
theorem r171_24 : At call ac_171 24 [a0, a1, a2, a3] (vR g 27 :: st) h Q ↔ At call ac_171 27 [a0, a1, a2, a3] (vR g 24 :: st) h Q := At_next rfl
theorem r171_27 : At call ac_171 27 [a0, a1, a2, vI x] st h Q ↔ At call ac_171 28 [a0, a1, a2, vI x] (vI x :: st) h Q := At_next rfl
theorem r171_28 : At call ac_171 28 [a0, vI x, a2, a3] st h Q ↔ At call ac_171 29 [a0, vI x, a2, a3] (vI x :: st) h Q := At_next rfl
theorem r171_29 : At call ac_171 29 [a0, a1, a2, a3] (vI y :: vI x :: vR g m :: st) h Q ↔ (inA h m 0 x ∧ m ≠ 37) ∧ At call ac_171 30 [a0, a1, a2, a3] st (up3 h g m x.toNat y) Q := At_guard rfl
theorem r171_30 : At call ac_171 30 [vR g m, a1, a2, a3] st h Q ↔ At call ac_171 31 [vR g m, a1, a2, a3] (vR g m :: st) h Q := At_next rfl
theorem r171_31 : At call ac_171 31 [a0, a1, a2, a3] (vR g 27 :: st) h Q ↔ At call ac_171 34 [a0, a1, a2, a3] (vR g 25 :: st) h Q := At_next rfl
theorem r171_34 : At call ac_171 34 [a0, a1, a2, vI x] st h Q ↔ At call ac_171 35 [a0, a1, a2, vI x] (vI x :: st) h Q := At_next rfl
theorem r171_35 : At call ac_171 35 [a0, a1, vI x, a3] st h Q ↔ At call ac_171 36 [a0, a1, vI x, a3] (vI x :: st) h Q := At_next rfl
theorem r171_36 : At call ac_171 36 [a0, a1, a2, a3] (vI y :: vI x :: vR g m :: st) h Q ↔ (inA h m 0 x ∧ m ≠ 37) ∧ At call ac_171 37 [a0, a1, a2, a3] st (up3 h g m x.toNat y) Q := At_guard rfl
theorem r171_37 : At call ac_171 37 [a0, a1, a2, vI x] st h Q ↔ At call ac_171 38 [a0, a1, a2, vI x] (vI x :: st) h Q := At_next rfl
theorem r171_38 : At call ac_171 38 [a0, a1, a2, a3] [vI x] h Q ↔ Q (some (vI x)) h := At_ret rfl
theorem r172_0 : At call ac_172 0 [vR g m, a1, a2] st h Q ↔ At call ac_172 1 [vR g m, a1, a2] (vR g m :: st) h Q := At_next rfl
theorem r172_1 : At call ac_172 1 [a0, vI x, a2] st h Q ↔ At call ac_172 2 [a0, vI x, a2] (vI x :: st) h Q := At_next rfl
theorem r172_2 : At call ac_172 2 [a0, a1, a2] (b1 :: b0 :: st) h Q ↔ st.length ≤ 4 ∧ ∃ v h1, call 145 [b0, b1] h (some v) h1 ∧ At call ac_172 5 [a0, a1, a2] (v :: st) h1 Q := At_gcall rfl
theorem r172_5 : At call ac_172 5 [a0, a1, a2] (vI x :: st) h Q ↔ if x = 0 then At call ac_172 8 [a0, a1, a2] st h Q else At call ac_172 14 [a0, a1, a2] st h Q := At_br rfl
theorem r172_8 : At call ac_172 8 [vR g m, a1, a2] st h Q ↔ At call ac_172 9 [vR g m, a1, a2] (vR g m :: st) h Q := At_next rfl
theorem r172_9 : At call ac_172 9 [a0, a1, a2] st h Q ↔ At call ac_172 10 [a0, a1, a2] (vI (-1) :: st) h Q := At_next rfl
theorem r172_10 : At call ac_172 10 [a0, a1, a2] (b1 :: b0 :: st) h Q ↔ st.length ≤ 4 ∧ ∃ v h1, call 142 [b0, b1] h (some v) h1 ∧ At call ac_172 13 [a0, a1, a2] (v :: st) h1 Q := At_gcall rfl
theorem r172_13 : At call ac_172 13 [a0, a1, a2] [vI x] h Q ↔ Q (some (vI x)) h := At_ret rfl
theorem r172_14 : At call ac_172 14 [a0, a1, vI x] st h Q ↔ At call ac_172 15 [a0, a1, vI x] (vI x :: st) h Q := At_next rfl
theorem r172_15 : At call ac_172 15 [a0, a1, a2] st h Q ↔ At call ac_172 16 [a0, a1, a2] (vI 1 :: st) h Q := At_next rfl
theorem r172_16 : At call ac_172 16 [a0, a1, a2] st h Q ↔ At call ac_172 18 [a0, a1, a2] (vI 99 :: st) h Q := At_next rfl
theorem r172_18 : At call ac_172 18 [a0, a1, a2] (b2 :: b1 :: b0 :: st) h Q ↔ st.length ≤ 4 ∧ ∃ v h1, call 144 [b0, b1, b2] h (some v) h1 ∧ At call ac_172 21 [a0, a1, a2] (v :: st) h1 Q := At_gcall rfl
theorem r172_21 : At call ac_172 21 [a0, a1, a2] (vI x :: st) h Q ↔ if x = 0 then At call ac_172 24 [a0, a1, a2] st h Q else At call ac_172 31 [a0, a1, a2] st h Q := At_br rfl
theorem r172_24 : At call ac_172 24 [vR g m, a1, a2] st h Q ↔ At call ac_172 25 [vR g m, a1, a2] (vR g m :: st) h Q := At_next rfl
theorem r172_25 : At call ac_172 25 [a0, a1, a2] st h Q ↔ At call ac_172 27 [a0, a1, a2] (vI (-6) :: st) h Q := At_next rfl
theorem r172_27 : At call ac_172 27 [a0, a1, a2] (b1 :: b0 :: st) h Q ↔ st.length ≤ 4 ∧ ∃ v h1, call 142 [b0, b1] h (some v) h1 ∧ At call ac_172 30 [a0, a1, a2] (v :: st) h1 Q := At_gcall rfl
theorem r172_30 : At call ac_172 30 [a0, a1, a2] [vI x] h Q ↔ Q (some (vI x)) h := At_ret rfl
theorem r172_31 : At call ac_172 31 [vR g m, a1, a2] st h Q ↔ At call ac_172 32 [vR g m, a1, a2] (vR g m :: st) h Q := At_next rfl
theorem r172_32 : At call ac_172 32 [a0, a1, a2] (b0 :: st) h Q ↔ st.length ≤ 4 ∧ ∃ v h1, call 170 [b0] h (some v) h1 ∧ At call ac_172 35 [a0, a1, a2] (v :: st) h1 Q := At_gcall rfl
theorem r172_35 : At call ac_172 35 [a0, a1, a2] st h Q ↔ At call ac_172 36 [a0, a1, a2] (vI (-1) :: st) h Q := At_next rfl
theorem r172_36 : At call ac_172 36 [a0, a1, a2] (vI y :: vI x :: st) h Q ↔ if x = y then At call ac_172 39 [a0, a1, a2] st h Q else At call ac_172 48 [a0, a1, a2] st h Q := At_br rfl
theorem r172_39 : At call ac_172 39 [vR g m, a1, a2] st h Q ↔ At call ac_172 40 [vR g m, a1, a2] (vR g m :: st) h Q := At_next rfl
theorem r172_40 : At call ac_172 40 [a0, a1, a2] st h Q ↔ At call ac_172 42 [a0, a1, a2] (vI (-7) :: st) h Q := At_next rfl
theorem r172_42 : At call ac_172 42 [a0, a1, a2] (b1 :: b0 :: st) h Q ↔ st.length ≤ 4 ∧ ∃ v h1, call 142 [b0, b1] h (some v) h1 ∧ At call ac_172 45 [a0, a1, a2] (v :: st) h1 Q := At_gcall rfl
theorem r172_45 : At call ac_172 45 [a0, a1, a2] st h Q ↔ At call ac_172 54 [a0, a1, a2] st h Q := At_next rfl
theorem r172_48 : At call ac_172 48 [vR g m, a1, a2] st h Q ↔ At call ac_172 49 [vR g m, a1, a2] (vR g m :: st) h Q := At_next rfl
theorem r172_49 : At call ac_172 49 [a0, a1, vI x] st h Q ↔ At call ac_172 50 [a0, a1, vI x] (vI x :: st) h Q := At_next rfl
theorem r172_50 : At call ac_172 50 [a0, vI x, a2] st h Q ↔ At call ac_172 51 [a0, vI x, a2] (vI x :: st) h Q := At_next rfl
theorem r172_51 : At call ac_172 51 [a0, a1, a2] (b2 :: b1 :: b0 :: st) h Q ↔ st.length ≤ 4 ∧ ∃ v h1, call 171 [b0, b1, b2] h (some v) h1 ∧ At call ac_172 54 [a0, a1, a2] (v :: st) h1 Q := At_gcall rfl
theorem r172_54 : At call ac_172 54 [a0, a1, a2] [vI x] h Q ↔ Q (some (vI x)) h := At_ret rfl
theorem r173_0 : At call ac_173 0 [vR g m, a1, a2] st h Q ↔ At call ac_173 1 [vR g m, a1, a2] (vR g m :: st) h Q := At_next rfl
theorem r173_1 : At call ac_173 1 [a0, vI x, a2] st h Q ↔ At call ac_173 2 [a0, vI x, a2] (vI x :: st) h Q := At_next rfl
theorem r173_2 : At call ac_173 2 [a0, a1, a2] (b1 :: b0 :: st) h Q ↔ st.length ≤ 4 ∧ ∃ v h1, call 146 [b0, b1] h (some v) h1 ∧ At call ac_173 5 [a0, a1, a2] (v :: st) h1 Q := At_gcall rfl
theorem r173_5 : At call ac_173 5 [a0, a1, a2] (vI x :: st) h Q ↔ if x = 0 then At call ac_173 8 [a0, a1, a2] st h Q else At call ac_173 14 [a0, a1, a2] st h Q := At_br rfl
theorem r173_8 : At call ac_173 8 [vR g m, a1, a2] st h Q ↔ At call ac_173 9 [vR g m, a1, a2] (vR g m :: st) h Q := At_next rfl
theorem r173_9 : At call ac_173 9 [a0, a1, a2] st h Q ↔ At call ac_173 10 [a0, a1, a2] (vI (-1) :: st) h Q := At_next rfl
theorem r173_10 : At call ac_173 10 [a0, a1, a2] (b1 :: b0 :: st) h Q ↔ st.length ≤ 4 ∧ ∃ v h1, call 142 [b0, b1] h (some v) h1 ∧ At call ac_173 13 [a0, a1, a2] (v :: st) h1 Q := At_gcall rfl
theorem r173_13 : At call ac_173 13 [a0, a1, a2] [vI x] h Q ↔ Q (some (vI x)) h := At_ret rfl
theorem r173_14 : At call ac_173 14 [a0, a1, vI x] st h Q ↔ At call ac_173 15 [a0, a1, vI x] (vI x :: st) h Q := At_next rfl
theorem r173_15 : At call ac_173 15 [a0, a1, a2] (vI x :: st) h Q ↔ if x = 0 then At call ac_173 40 [a0, a1, a2] st h Q else if x = 1 then At call ac_173 47 [a0, a1, a2] st h Q else if x = 2 then At call ac_173 57 [a0, a1, a2] st h Q else At call ac_173 64 [a0, a1, a2] st h Q := At_swT (k := 0) (ts := [40, 47, 57]) (d := 64) (L' := [a0, a1, a2]) (st' := st) (h' := h) rfl
theorem r173_40 : At call ac_173 40 [vR g m, a1, a2] st h Q ↔ At call ac_173 41 [vR g m, a1, a2] (vR g m :: st) h Q := At_next rfl
theorem r173_41 : At call ac_173 41 [a0, a1, a2] (vR g 27 :: st) h Q ↔ At call ac_173 44 [a0, a1, a2] (vR g 24 :: st) h Q := At_next rfl
theorem r173_44 : At call ac_173 44 [a0, vI x, a2] st h Q ↔ At call ac_173 45 [a0, vI x, a2] (vI x :: st) h Q := At_next rfl
theorem r173_45 : At call ac_173 45 [a0, a1, a2] (vI x :: vR g m :: st) h Q ↔ inA h m 0 x ∧ At call ac_173 46 [a0, a1, a2] (vI (h g m x.toNat) :: st) h Q := At_guard rfl
theorem r173_46 : At call ac_173 46 [a0, a1, a2] [vI x] h Q ↔ Q (some (vI x)) h := At_ret rfl
theorem r173_47 : At call ac_173 47 [vR g m, a1, a2] st h Q ↔ At call ac_173 48 [vR g m, a1, a2] (vR g m :: st) h Q := At_next rfl
theorem r173_48 : At call ac_173 48 [a0, a1, a2] (vR g 27 :: st) h Q ↔ At call ac_173 51 [a0, a1, a2] (vR g 24 :: st) h Q := At_next rfl
theorem r173_51 : At call ac_173 51 [a0, vI x, a2] st h Q ↔ At call ac_173 52 [a0, vI x, a2] (vI x :: st) h Q := At_next rfl
theorem r173_52 : At call ac_173 52 [a0, a1, a2] (vI x :: vR g m :: st) h Q ↔ inA h m 0 x ∧ At call ac_173 53 [a0, a1, a2] (vI (h g m x.toNat) :: st) h Q := At_guard rfl
theorem r173_53 : At call ac_173 53 [a0, a1, a2] (b0 :: st) h Q ↔ st.length ≤ 4 ∧ ∃ v h1, call 162 [b0] h (some v) h1 ∧ At call ac_173 56 [a0, a1, a2] (v :: st) h1 Q := At_gcall rfl
theorem r173_56 : At call ac_173 56 [a0, a1, a2] [vI x] h Q ↔ Q (some (vI x)) h := At_ret rfl
theorem r173_57 : At call ac_173 57 [vR g m, a1, a2] st h Q ↔ At call ac_173 58 [vR g m, a1, a2] (vR g m :: st) h Q := At_next rfl
theorem r173_58 : At call ac_173 58 [a0, a1, a2] (vR g 27 :: st) h Q ↔ At call ac_173 61 [a0, a1, a2] (vR g 25 :: st) h Q := At_next rfl
theorem r173_61 : At call ac_173 61 [a0, vI x, a2] st h Q ↔ At call ac_173 62 [a0, vI x, a2] (vI x :: st) h Q := At_next rfl
theorem r173_62 : At call ac_173 62 [a0, a1, a2] (vI x :: vR g m :: st) h Q ↔ inA h m 0 x ∧ At call ac_173 63 [a0, a1, a2] (vI (h g m x.toNat) :: st) h Q := At_guard rfl
theorem r173_63 : At call ac_173 63 [a0, a1, a2] [vI x] h Q ↔ Q (some (vI x)) h := At_ret rfl
theorem r173_64 : At call ac_173 64 [vR g m, a1, a2] st h Q ↔ At call ac_173 65 [vR g m, a1, a2] (vR g m :: st) h Q := At_next rfl
theorem r173_65 : At call ac_173 65 [a0, a1, a2] st h Q ↔ At call ac_173 67 [a0, a1, a2] (vI (-5) :: st) h Q := At_next rfl
theorem r173_67 : At call ac_173 67 [a0, a1, a2] (b1 :: b0 :: st) h Q ↔ st.length ≤ 4 ∧ ∃ v h1, call 142 [b0, b1] h (some v) h1 ∧ At call ac_173 70 [a0, a1, a2] (v :: st) h1 Q := At_gcall rfl
theorem r173_70 : At call ac_173 70 [a0, a1, a2] [vI x] h Q ↔ Q (some (vI x)) h := At_ret rfl
theorem r174_0 : At call ac_174 0 [vR g m] st h Q ↔ At call ac_174 1 [vR g m] (vR g m :: st) h Q := At_next rfl
theorem r174_1 : At call ac_174 1 [a0] (vR g 27 :: st) h Q ↔ At call ac_174 4 [a0] (vI (h g 27 24) :: st) h Q := At_next rfl
theorem r174_4 : At call ac_174 4 [vR g m] st h Q ↔ At call ac_174 5 [vR g m] (vR g m :: st) h Q := At_next rfl
theorem r174_5 : At call ac_174 5 [a0] (vR g 27 :: st) h Q ↔ At call ac_174 8 [a0] (vR g 29 :: st) h Q := At_next rfl
theorem r174_8 : At call ac_174 8 [vR g m] st h Q ↔ At call ac_174 9 [vR g m] (vR g m :: st) h Q := At_next rfl
theorem r174_9 : At call ac_174 9 [a0] (vR g 27 :: st) h Q ↔ At call ac_174 12 [a0] (vI (h g 27 23) :: st) h Q := At_next rfl
theorem r174_12 : At call ac_174 12 [a0] (vI x :: vR g m :: st) h Q ↔ inA h m 0 x ∧ At call ac_174 13 [a0] (vI (h g m x.toNat) :: st) h Q := At_guard rfl
theorem r174_13 : At call ac_174 13 [a0] (vI y :: vI x :: st) h Q ↔ if x < y then At call ac_174 16 [a0] st h Q else At call ac_174 38 [a0] st h Q := At_br rfl
theorem r174_16 : At call ac_174 16 [vR g m] st h Q ↔ At call ac_174 17 [vR g m] (vR g m :: st) h Q := At_next rfl
theorem r174_17 : At call ac_174 17 [a0] (vR g 27 :: st) h Q ↔ At call ac_174 20 [a0] (vR g 30 :: st) h Q := At_next rfl
theorem r174_20 : At call ac_174 20 [a0] st h Q ↔ At call ac_174 23 [a0] (vI 160 :: st) h Q := At_next rfl
theorem r174_23 : At call ac_174 23 [vR g m] st h Q ↔ At call ac_174 24 [vR g m] (vR g m :: st) h Q := At_next rfl
theorem r174_24 : At call ac_174 24 [a0] (vR g 27 :: st) h Q ↔ At call ac_174 27 [a0] (vI (h g 27 23) :: st) h Q := At_next rfl
theorem r174_27 : At call ac_174 27 [a0] (vI y :: vI x :: st) h Q ↔ At call ac_174 28 [a0] (vI (wr (x * y)) :: st) h Q := At_next rfl
theorem r174_28 : At call ac_174 28 [vR g m] st h Q ↔ At call ac_174 29 [vR g m] (vR g m :: st) h Q := At_next rfl
theorem r174_29 : At call ac_174 29 [a0] (vR g 27 :: st) h Q ↔ At call ac_174 32 [a0] (vI (h g 27 24) :: st) h Q := At_next rfl
theorem r174_32 : At call ac_174 32 [a0] (vI y :: vI x :: st) h Q ↔ At call ac_174 33 [a0] (vI (wr (x + y)) :: st) h Q := At_next rfl
theorem r174_33 : At call ac_174 33 [a0] (vI x :: vR g m :: st) h Q ↔ inA h m 1 x ∧ At call ac_174 34 [a0] (vJ (h g m x.toNat) :: st) h Q := At_guard rfl
theorem r174_34 : At call ac_174 34 [a0] (vJ x :: st) h Q ↔ At call ac_174 35 [a0] (vI (wr x) :: st) h Q := At_next rfl
theorem r174_35 : At call ac_174 35 [a0] st h Q ↔ At call ac_174 39 [a0] st h Q := At_next rfl
theorem r174_38 : At call ac_174 38 [a0] st h Q ↔ At call ac_174 39 [a0] (vI (-1) :: st) h Q := At_next rfl
theorem r174_39 : At call ac_174 39 [a0] [vI x] h Q ↔ Q (some (vI x)) h := At_ret rfl
theorem r175_0 : At call ac_175 0 [vR g m, a1] st h Q ↔ At call ac_175 1 [vR g m, a1] (vR g m :: st) h Q := At_next rfl
theorem r175_1 : At call ac_175 1 [a0, a1] (b0 :: st) h Q ↔ st.length ≤ 4 ∧ ∃ v h1, call 174 [b0] h (some v) h1 ∧ At call ac_175 4 [a0, a1] (v :: st) h1 Q := At_gcall rfl
theorem r175_4 : At call ac_175 4 [a0, vI x] st h Q ↔ At call ac_175 5 [a0, vI x] (vI x :: st) h Q := At_next rfl
theorem r175_5 : At call ac_175 5 [a0, a1] (vI y :: vI x :: st) h Q ↔ if x = y then At call ac_175 10 [a0, a1] st h Q else At call ac_175 8 [a0, a1] st h Q := At_br rfl
theorem r175_8 : At call ac_175 8 [a0, a1] st h Q ↔ At call ac_175 9 [a0, a1] (vI 0 :: st) h Q := At_next rfl
theorem r175_9 : At call ac_175 9 [a0, a1] [vI x] h Q ↔ (x = 0 ∨ x = 1) ∧ Q (some (vI x)) h := At_guardR rfl
theorem r175_10 : At call ac_175 10 [vR g m, a1] st h Q ↔ At call ac_175 11 [vR g m, a1] (vR g m :: st) h Q := At_next rfl
theorem r175_11 : At call ac_175 11 [a0, a1] (vI x :: st) h Q ↔ At call ac_175 12 [a0, a1] (vI x :: vI x :: st) h Q := At_next rfl
theorem r175_11r : At call ac_175 11 [a0, a1] (.inr (.inr v) :: st) h Q ↔ At call ac_175 12 [a0, a1] (.inr (.inr v) :: .inr (.inr v) :: st) h Q := At_next rfl
theorem r175_12 : At call ac_175 12 [a0, a1] (vR g 27 :: st) h Q ↔ At call ac_175 15 [a0, a1] (vI (h g 27 24) :: st) h Q := At_next rfl
theorem r175_15 : At call ac_175 15 [a0, a1] st h Q ↔ At call ac_175 16 [a0, a1] (vI 1 :: st) h Q := At_next rfl
theorem r175_16 : At call ac_175 16 [a0, a1] (vI y :: vI x :: st) h Q ↔ At call ac_175 17 [a0, a1] (vI (wr (x + y)) :: st) h Q := At_next rfl
theorem r175_17 : At call ac_175 17 [a0, a1] (vI x :: vR g 27 :: st) h Q ↔ At call ac_175 20 [a0, a1] st (up3 h g 27 24 x) Q := At_next rfl
theorem r175_20 : At call ac_175 20 [a0, a1] st h Q ↔ At call ac_175 21 [a0, a1] (vI 1 :: st) h Q := At_next rfl
theorem r175_21 : At call ac_175 21 [a0, a1] [vI x] h Q ↔ (x = 0 ∨ x = 1) ∧ Q (some (vI x)) h := At_guardR rfl
theorem r176_0 : At call ac_176 0 [a0, a1, a2] st h Q ↔ At call ac_176 1 [a0, a1, a2] (vI 0 :: st) h Q := At_next rfl
theorem r176_1 : At call ac_176 1 [a0, a1, a2] (vI x :: st) h Q ↔ At call ac_176 2 [a0, a1, vI x] st h Q := At_next rfl
theorem r176_2 : At call ac_176 2 [a0, a1, vI x] st h Q ↔ At call ac_176 3 [a0, a1, vI x] (vI x :: st) h Q := At_next rfl
theorem r176_3 : At call ac_176 3 [a0, vR g m, a2] st h Q ↔ At call ac_176 4 [a0, vR g m, a2] (vR g m :: st) h Q := At_next rfl
theorem r176_3n : At call ac_176 3 [a0, vN, a2] st h Q ↔ At call ac_176 4 [a0, vN, a2] (vN :: st) h Q := At_next rfl
theorem r176_3s : At call ac_176 3 [a0, vS n, a2] st h Q ↔ At call ac_176 4 [a0, vS n, a2] (vS n :: st) h Q := At_next rfl
theorem r176_4 : At call ac_176 4 [a0, a1, a2] (vS n :: st) h Q ↔ st.length ≤ 4 ∧ At call ac_176 7 [a0, a1, a2] (vI (slen n) :: st) h Q := At_guard rfl
theorem r176_7 : At call ac_176 7 [a0, a1, a2] (vI y :: vI x :: st) h Q ↔ if x < y then At call ac_176 10 [a0, a1, a2] st h Q else At call ac_176 30 [a0, a1, a2] st h Q := At_br rfl
theorem r176_10 : At call ac_176 10 [vR g m, a1, a2] st h Q ↔ At call ac_176 11 [vR g m, a1, a2] (vR g m :: st) h Q := At_next rfl
theorem r176_11 : At call ac_176 11 [a0, vR g m, a2] st h Q ↔ At call ac_176 12 [a0, vR g m, a2] (vR g m :: st) h Q := At_next rfl
theorem r176_11n : At call ac_176 11 [a0, vN, a2] st h Q ↔ At call ac_176 12 [a0, vN, a2] (vN :: st) h Q := At_next rfl
theorem r176_11s : At call ac_176 11 [a0, vS n, a2] st h Q ↔ At call ac_176 12 [a0, vS n, a2] (vS n :: st) h Q := At_next rfl
theorem r176_12 : At call ac_176 12 [a0, a1, vI x] st h Q ↔ At call ac_176 13 [a0, a1, vI x] (vI x :: st) h Q := At_next rfl
theorem r176_13 : At call ac_176 13 [a0, a1, a2] (vI x :: vS n :: st) h Q ↔ (st.length ≤ 4 ∧ 0 ≤ x ∧ x < slen n) ∧ At call ac_176 16 [a0, a1, a2] (vI (sch n x) :: st) h Q := At_guard rfl
theorem r176_16 : At call ac_176 16 [a0, a1, a2] (b1 :: b0 :: st) h Q ↔ st.length ≤ 4 ∧ ∃ v h1, call 175 [b0, b1] h (some v) h1 ∧ At call ac_176 19 [a0, a1, a2] (v :: st) h1 Q := At_gcall rfl
theorem r176_19 : At call ac_176 19 [a0, a1, a2] (vI x :: st) h Q ↔ if x = 0 then At call ac_176 22 [a0, a1, a2] st h Q else At call ac_176 24 [a0, a1, a2] st h Q := At_br rfl
theorem r176_22 : At call ac_176 22 [a0, a1, a2] st h Q ↔ At call ac_176 23 [a0, a1, a2] (vI 0 :: st) h Q := At_next rfl
theorem r176_23 : At call ac_176 23 [a0, a1, a2] [vI x] h Q ↔ (x = 0 ∨ x = 1) ∧ Q (some (vI x)) h := At_guardR rfl
theorem r176_24 : At call ac_176 24 [a0, a1, vI x] st h Q ↔ At call ac_176 27 [a0, a1, vI (wr (x + 1))] st h Q := At_next rfl
theorem r176_27 : At call ac_176 27 [a0, a1, a2] st h Q ↔ At call ac_176 2 [a0, a1, a2] st h Q := At_next rfl
theorem r176_30 : At call ac_176 30 [a0, a1, a2] st h Q ↔ At call ac_176 31 [a0, a1, a2] (vI 1 :: st) h Q := At_next rfl
theorem r176_31 : At call ac_176 31 [a0, a1, a2] [vI x] h Q ↔ (x = 0 ∨ x = 1) ∧ Q (some (vI x)) h := At_guardR rfl
theorem r177_0 : At call ac_177 0 [vR g m, a1, a2, a3, a4] st h Q ↔ At call ac_177 1 [vR g m, a1, a2, a3, a4] (vR g m :: st) h Q := At_next rfl
theorem r177_1 : At call ac_177 1 [a0, a1, a2, a3, a4] (vR g 27 :: st) h Q ↔ At call ac_177 4 [a0, a1, a2, a3, a4] (vI (h g 27 24) :: st) h Q := At_next rfl
theorem r177_4 : At call ac_177 4 [a0, a1, a2, a3, a4] (vI x :: st) h Q ↔ At call ac_177 5 [a0, a1, a2, vI x, a4] st h Q := At_next rfl
theorem r177_5 : At call ac_177 5 [vR g m, a1, a2, a3, a4] st h Q ↔ At call ac_177 6 [vR g m, a1, a2, a3, a4] (vR g m :: st) h Q := At_next rfl
theorem r177_6 : At call ac_177 6 [a0, vR g m, a2, a3, a4] st h Q ↔ At call ac_177 7 [a0, vR g m, a2, a3, a4] (vR g m :: st) h Q := At_next rfl
theorem r177_6n : At call ac_177 6 [a0, vN, a2, a3, a4] st h Q ↔ At call ac_177 7 [a0, vN, a2, a3, a4] (vN :: st) h Q := At_next rfl
theorem r177_6s : At call ac_177 6 [a0, vS n, a2, a3, a4] st h Q ↔ At call ac_177 7 [a0, vS n, a2, a3, a4] (vS n :: st) h Q := At_next rfl
theorem r177_7 : At call ac_177 7 [a0, a1, a2, a3, a4] (b1 :: b0 :: st) h Q ↔ st.length ≤ 4 ∧ ∃ v h1, call 176 [b0, b1] h (some v) h1 ∧ At call ac_177 10 [a0, a1, a2, a3, a4] (v :: st) h1 Q := At_gcall rfl
theorem r177_10 : At call ac_177 10 [a0, a1, a2, a3, a4] (vI x :: st) h Q ↔ At call ac_177 12 [a0, a1, a2, a3, vI x] st h Q := At_next rfl
theorem r177_12 : At call ac_177 12 [a0, a1, a2, a3, vI x] st h Q ↔ At call ac_177 14 [a0, a1, a2, a3, vI x] (vI x :: st) h Q := At_next rfl
theorem r177_14 : At call ac_177 14 [a0, a1, a2, a3, a4] (vI x :: st) h Q ↔ if x = 0 then At call ac_177 26 [a0, a1, a2, a3, a4] st h Q else At call ac_177 17 [a0, a1, a2, a3, a4] st h Q := At_br rfl
theorem r177_17 : At call ac_177 17 [a0, a1, vI x, a3, a4] st h Q ↔ At call ac_177 18 [a0, a1, vI x, a3, a4] (vI x :: st) h Q := At_next rfl
theorem r177_18 : At call ac_177 18 [a0, a1, a2, a3, a4] (vI x :: st) h Q ↔ if x = 0 then At call ac_177 21 [a0, a1, a2, a3, a4] st h Q else At call ac_177 26 [a0, a1, a2, a3, a4] st h Q := At_br rfl
theorem r177_21 : At call ac_177 21 [vR g m, a1, a2, a3, a4] st h Q ↔ At call ac_177 22 [vR g m, a1, a2, a3, a4] (vR g m :: st) h Q := At_next rfl
theorem r177_22 : At call ac_177 22 [a0, a1, a2, vI x, a4] st h Q ↔ At call ac_177 23 [a0, a1, a2, vI x, a4] (vI x :: st) h Q := At_next rfl
theorem r177_23 : At call ac_177 23 [a0, a1, a2, a3, a4] (vI x :: vR g 27 :: st) h Q ↔ At call ac_177 26 [a0, a1, a2, a3, a4] st (up3 h g 27 24 x) Q := At_next rfl
theorem r177_26 : At call ac_177 26 [a0, a1, a2, a3, vI x] st h Q ↔ At call ac_177 28 [a0, a1, a2, a3, vI x] (vI x :: st) h Q := At_next rfl
theorem r177_28 : At call ac_177 28 [a0, a1, a2, a3, a4] (vI x :: st) h Q ↔ if x = 0 then At call ac_177 39 [a0, a1, a2, a3, a4] st h Q else At call ac_177 31 [a0, a1, a2, a3, a4] st h Q := At_br rfl
theorem r177_31 : At call ac_177 31 [a0, a1, vI x, a3, a4] st h Q ↔ At call ac_177 32 [a0, a1, vI x, a3, a4] (vI x :: st) h Q := At_next rfl
theorem r177_32 : At call ac_177 32 [a0, a1, a2, a3, a4] (vI x :: st) h Q ↔ if x = 0 then At call ac_177 39 [a0, a1, a2, a3, a4] st h Q else At call ac_177 35 [a0, a1, a2, a3, a4] st h Q := At_br rfl
theorem r177_35 : At call ac_177 35 [a0, a1, a2, a3, a4] st h Q ↔ At call ac_177 36 [a0, a1, a2, a3, a4] (vI 1 :: st) h Q := At_next rfl
theorem r177_36 : At call ac_177 36 [a0, a1, a2, a3, a4] st h Q ↔ At call ac_177 40 [a0, a1, a2, a3, a4] st h Q := At_next rfl
theorem r177_39 : At call ac_177 39 [a0, a1, a2, a3, a4] st h Q ↔ At call ac_177 40 [a0, a1, a2, a3, a4] (vI 0 :: st) h Q := At_next rfl
theorem r177_40 : At call ac_177 40 [a0, a1, a2, a3, a4] [vI x] h Q ↔ (x = 0 ∨ x = 1) ∧ Q (some (vI x)) h := At_guardR rfl
theorem r178_0 : At call ac_178 0 [vR g m, a1, a2, a3, a4, a5, a6] st h Q ↔ At call ac_178 1 [vR g m, a1, a2, a3, a4, a5, a6] (vR g m :: st) h Q := At_next rfl
theorem r178_1 : At call ac_178 1 [a0, a1, a2, a3, a4, a5, a6] st h Q ↔ At call ac_178 3 [a0, a1, a2, a3, a4, a5, a6] (vI 32 :: st) h Q := At_next rfl
theorem r178_3 : At call ac_178 3 [a0, a1, a2, a3, a4, a5, a6] (b1 :: b0 :: st) h Q ↔ st.length ≤ 4 ∧ ∃ v h1, call 175 [b0, b1] h (some v) h1 ∧ At call ac_178 6 [a0, a1, a2, a3, a4, a5, a6] (v :: st) h1 Q := At_gcall rfl
theorem r178_6 : At call ac_178 6 [a0, a1, a2, a3, a4, a5, a6] (vI x :: st) h Q ↔ if x = 0 then At call ac_178 9 [a0, a1, a2, a3, a4, a5, a6] st h Q else At call ac_178 11 [a0, a1, a2, a3, a4, a5, a6] st h Q := At_br rfl
theorem r178_9 : At call ac_178 9 [a0, a1, a2, a3, a4, a5, a6] st h Q ↔ At call ac_178 10 [a0, a1, a2, a3, a4, a5, a6] (vI 0 :: st) h Q := At_next rfl
theorem r178_10 : At call ac_178 10 [a0, a1, a2, a3, a4, a5, a6] [vI x] h Q ↔ (x = 0 ∨ x = 1) ∧ Q (some (vI x)) h := At_guardR rfl
theorem r178_11 : At call ac_178 11 [vR g m, a1, a2, a3, a4, a5, a6] st h Q ↔ At call ac_178 12 [vR g m, a1, a2, a3, a4, a5, a6] (vR g m :: st) h Q := At_next rfl
theorem r178_12 : At call ac_178 12 [a0, a1, a2, a3, a4, a5, a6] (vR g 27 :: st) h Q ↔ At call ac_178 15 [a0, a1, a2, a3, a4, a5, a6] (vI (h g 27 24) :: st) h Q := At_next rfl
theorem r178_15 : At call ac_178 15 [a0, a1, a2, a3, a4, a5, a6] (vI x :: st) h Q ↔ At call ac_178 17 [a0, a1, a2, a3, vI x, a5, a6] st h Q := At_next rfl
theorem r178_17 : At call ac_178 17 [a0, a1, a2, a3, a4, a5, a6] st h Q ↔ At call ac_178 18 [a0, a1, a2, a3, a4, a5, a6] (vI 0 :: st) h Q := At_next rfl
theorem r178_18 : At call ac_178 18 [a0, a1, a2, a3, a4, a5, a6] (vI x :: st) h Q ↔ At call ac_178 20 [a0, a1, a2, a3, a4, vI x, a6] st h Q := At_next rfl
theorem r178_20 : At call ac_178 20 [vR g m, a1, a2, a3, a4, a5, a6] st h Q ↔ At call ac_178 21 [vR g m, a1, a2, a3, a4, a5, a6] (vR g m :: st) h Q := At_next rfl
theorem r178_21 : At call ac_178 21 [a0, a1, a2, a3, a4, a5, a6] (vR g 27 :: st) h Q ↔ At call ac_178 24 [a0, a1, a2, a3, a4, a5, a6] (vI (h g 27 24) :: st) h Q := At_next rfl
theorem r178_24 : At call ac_178 24 [a0, a1, a2, a3, vI x, a5, a6] st h Q ↔ At call ac_178 26 [a0, a1, a2, a3, vI x, a5, a6] (vI x :: st) h Q := At_next rfl
theorem r178_26 : At call ac_178 26 [a0, a1, a2, a3, a4, a5, a6] (vI y :: vI x :: st) h Q ↔ At call ac_178 27 [a0, a1, a2, a3, a4, a5, a6] (vI (wr (x - y)) :: st) h Q := At_next rfl
theorem r178_27 : At call ac_178 27 [a0, a1, a2, a3, a4, a5, a6] st h Q ↔ At call ac_178 28 [a0, a1, a2, a3, a4, a5, a6] (vI 2 :: st) h Q := At_next rfl
theorem r178_28 : At call ac_178 28 [a0, a1, a2, a3, a4, a5, a6] (vI y :: vI x :: st) h Q ↔ if x < y then At call ac_178 31 [a0, a1, a2, a3, a4, a5, a6] st h Q else At call ac_178 77 [a0, a1, a2, a3, a4, a5, a6] st h Q := At_br rfl
theorem r178_31 : At call ac_178 31 [vR g m, a1, a2, a3, a4, a5, a6] st h Q ↔ At call ac_178 32 [vR g m, a1, a2, a3, a4, a5, a6] (vR g m :: st) h Q := At_next rfl
theorem r178_32 : At call ac_178 32 [a0, a1, a2, a3, a4, a5, a6] (b0 :: st) h Q ↔ st.length ≤ 4 ∧ ∃ v h1, call 174 [b0] h (some v) h1 ∧ At call ac_178 35 [a0, a1, a2, a3, a4, a5, a6] (v :: st) h1 Q := At_gcall rfl
theorem r178_35 : At call ac_178 35 [a0, a1, a2, a3, a4, a5, a6] st h Q ↔ At call ac_178 37 [a0, a1, a2, a3, a4, a5, a6] (vI 48 :: st) h Q := At_next rfl
theorem r178_37 : At call ac_178 37 [a0, a1, a2, a3, a4, a5, a6] (vI y :: vI x :: st) h Q ↔ if x < y then At call ac_178 77 [a0, a1, a2, a3, a4, a5, a6] st h Q else At call ac_178 40 [a0, a1, a2, a3, a4, a5, a6] st h Q := At_br rfl
theorem r178_40 : At call ac_178 40 [vR g m, a1, a2, a3, a4, a5, a6] st h Q ↔ At call ac_178 41 [vR g m, a1, a2, a3, a4, a5, a6] (vR g m :: st) h Q := At_next rfl
theorem r178_41 : At call ac_178 41 [a0, a1, a2, a3, a4, a5, a6] (b0 :: st) h Q ↔ st.length ≤ 4 ∧ ∃ v h1, call 174 [b0] h (some v) h1 ∧ At call ac_178 44 [a0, a1, a2, a3, a4, a5, a6] (v :: st) h1 Q := At_gcall rfl
theorem r178_44 : At call ac_178 44 [a0, a1, a2, a3, a4, a5, a6] st h Q ↔ At call ac_178 46 [a0, a1, a2, a3, a4, a5, a6] (vI 57 :: st) h Q := At_next rfl
theorem r178_46 : At call ac_178 46 [a0, a1, a2, a3, a4, a5, a6] (vI y :: vI x :: st) h Q ↔ if y < x then At call ac_178 77 [a0, a1, a2, a3, a4, a5, a6] st h Q else At call ac_178 49 [a0, a1, a2, a3, a4, a5, a6] st h Q := At_br rfl
theorem r178_49 : At call ac_178 49 [a0, a1, a2, a3, a4, a5, a6] st h Q ↔ At call ac_178 51 [a0, a1, a2, a3, a4, a5, a6] (vI 10 :: st) h Q := At_next rfl
theorem r178_51 : At call ac_178 51 [a0, a1, a2, a3, a4, vI x, a6] st h Q ↔ At call ac_178 53 [a0, a1, a2, a3, a4, vI x, a6] (vI x :: st) h Q := At_next rfl
theorem r178_53 : At call ac_178 53 [a0, a1, a2, a3, a4, a5, a6] (vI y :: vI x :: st) h Q ↔ At call ac_178 54 [a0, a1, a2, a3, a4, a5, a6] (vI (wr (x * y)) :: st) h Q := At_next rfl
theorem r178_54 : At call ac_178 54 [vR g m, a1, a2, a3, a4, a5, a6] st h Q ↔ At call ac_178 55 [vR g m, a1, a2, a3, a4, a5, a6] (vR g m :: st) h Q := At_next rfl
theorem r178_55 : At call ac_178 55 [a0, a1, a2, a3, a4, a5, a6] (b0 :: st) h Q ↔ st.length ≤ 4 ∧ ∃ v h1, call 174 [b0] h (some v) h1 ∧ At call ac_178 58 [a0, a1, a2, a3, a4, a5, a6] (v :: st) h1 Q := At_gcall rfl
theorem r178_58 : At call ac_178 58 [a0, a1, a2, a3, a4, a5, a6] (vI y :: vI x :: st) h Q ↔ At call ac_178 59 [a0, a1, a2, a3, a4, a5, a6] (vI (wr (x + y)) :: st) h Q := At_next rfl
theorem r178_59 : At call ac_178 59 [a0, a1, a2, a3, a4, a5, a6] st h Q ↔ At call ac_178 61 [a0, a1, a2, a3, a4, a5, a6] (vI 48 :: st) h Q := At_next rfl
theorem r178_61 : At call ac_178 61 [a0, a1, a2, a3, a4, a5, a6] (vI y :: vI x :: st) h Q ↔ At call ac_178 62 [a0, a1, a2, a3, a4, a5, a6] (vI (wr (x - y)) :: st) h Q := At_next rfl
theorem r178_62 : At call ac_178 62 [a0, a1, a2, a3, a4, a5, a6] (vI x :: st) h Q ↔ At call ac_178 64 [a0, a1, a2, a3, a4, vI x, a6] st h Q := At_next rfl
theorem r178_64 : At call ac_178 64 [vR g m, a1, a2, a3, a4, a5, a6] st h Q ↔ At call ac_178 65 [vR g m, a1, a2, a3, a4, a5, a6] (vR g m :: st) h Q := At_next rfl
theorem r178_65 : At call ac_178 65 [a0, a1, a2, a3, a4, a5, a6] (vI x :: st) h Q ↔ At call ac_178 66 [a0, a1, a2, a3, a4, a5, a6] (vI x :: vI x :: st) h Q := At_next rfl
theorem r178_65r : At call ac_178 65 [a0, a1, a2, a3, a4, a5, a6] (.inr (.inr v) :: st) h Q ↔ At call ac_178 66 [a0, a1, a2, a3, a4, a5, a6] (.inr (.inr v) :: .inr (.inr v) :: st) h Q := At_next rfl
theorem r178_66 : At call ac_178 66 [a0, a1, a2, a3, a4, a5, a6] (vR g 27 :: st) h Q ↔ At call ac_178 69 [a0, a1, a2, a3, a4, a5, a6] (vI (h g 27 24) :: st) h Q := At_next rfl
theorem r178_69 : At call ac_178 69 [a0, a1, a2, a3, a4, a5, a6] st h Q ↔ At call ac_178 70 [a0, a1, a2, a3, a4, a5, a6] (vI 1 :: st) h Q := At_next rfl
theorem r178_70 : At call ac_178 70 [a0, a1, a2, a3, a4, a5, a6] (vI y :: vI x :: st) h Q ↔ At call ac_178 71 [a0, a1, a2, a3, a4, a5, a6] (vI (wr (x + y)) :: st) h Q := At_next rfl
theorem r178_71 : At call ac_178 71 [a0, a1, a2, a3, a4, a5, a6] (vI x :: vR g 27 :: st) h Q ↔ At call ac_178 74 [a0, a1, a2, a3, a4, a5, a6] st (up3 h g 27 24 x) Q := At_next rfl
theorem r178_74 : At call ac_178 74 [a0, a1, a2, a3, a4, a5, a6] st h Q ↔ At call ac_178 20 [a0, a1, a2, a3, a4, a5, a6] st h Q := At_next rfl
theorem r178_77 : At call ac_178 77 [vR g m, a1, a2, a3, a4, a5, a6] st h Q ↔ At call ac_178 78 [vR g m, a1, a2, a3, a4, a5, a6] (vR g m :: st) h Q := At_next rfl
theorem r178_78 : At call ac_178 78 [a0, a1, a2, a3, a4, a5, a6] (vR g 27 :: st) h Q ↔ At call ac_178 81 [a0, a1, a2, a3, a4, a5, a6] (vI (h g 27 24) :: st) h Q := At_next rfl
theorem r178_81 : At call ac_178 81 [a0, a1, a2, a3, vI x, a5, a6] st h Q ↔ At call ac_178 83 [a0, a1, a2, a3, vI x, a5, a6] (vI x :: st) h Q := At_next rfl
theorem r178_83 : At call ac_178 83 [a0, a1, a2, a3, a4, a5, a6] (vI y :: vI x :: st) h Q ↔ if x = y then At call ac_178 86 [a0, a1, a2, a3, a4, a5, a6] st h Q else At call ac_178 88 [a0, a1, a2, a3, a4, a5, a6] st h Q := At_br rfl
theorem r178_86 : At call ac_178 86 [a0, a1, a2, a3, a4, a5, a6] st h Q ↔ At call ac_178 87 [a0, a1, a2, a3, a4, a5, a6] (vI 0 :: st) h Q := At_next rfl
theorem r178_87 : At call ac_178 87 [a0, a1, a2, a3, a4, a5, a6] [vI x] h Q ↔ (x = 0 ∨ x = 1) ∧ Q (some (vI x)) h := At_guardR rfl
theorem r178_88 : At call ac_178 88 [vR g m, a1, a2, a3, a4, a5, a6] st h Q ↔ At call ac_178 89 [vR g m, a1, a2, a3, a4, a5, a6] (vR g m :: st) h Q := At_next rfl
theorem r178_89 : At call ac_178 89 [a0, a1, a2, a3, a4, a5, a6] (vR g 27 :: st) h Q ↔ At call ac_178 92 [a0, a1, a2, a3, a4, a5, a6] (vR g 36 :: st) h Q := At_next rfl
theorem r178_92 : At call ac_178 92 [a0, vI x, a2, a3, a4, a5, a6] st h Q ↔ At call ac_178 93 [a0, vI x, a2, a3, a4, a5, a6] (vI x :: st) h Q := At_next rfl
theorem r178_93 : At call ac_178 93 [a0, a1, a2, a3, a4, vI x, a6] st h Q ↔ At call ac_178 95 [a0, a1, a2, a3, a4, vI x, a6] (vI x :: st) h Q := At_next rfl
theorem r178_95 : At call ac_178 95 [a0, a1, a2, a3, a4, a5, a6] (vI y :: vI x :: vR g m :: st) h Q ↔ (inA h m 0 x ∧ m ≠ 37) ∧ At call ac_178 96 [a0, a1, a2, a3, a4, a5, a6] st (up3 h g m x.toNat y) Q := At_guard rfl
theorem r178_96 : At call ac_178 96 [a0, a1, a2, a3, a4, vI x, a6] st h Q ↔ At call ac_178 98 [a0, a1, a2, a3, a4, vI x, a6] (vI x :: st) h Q := At_next rfl
theorem r178_98 : At call ac_178 98 [a0, a1, vI x, a3, a4, a5, a6] st h Q ↔ At call ac_178 99 [a0, a1, vI x, a3, a4, a5, a6] (vI x :: st) h Q := At_next rfl
theorem r178_99 : At call ac_178 99 [a0, a1, a2, vI x, a4, a5, a6] st h Q ↔ At call ac_178 100 [a0, a1, a2, vI x, a4, a5, a6] (vI x :: st) h Q := At_next rfl
theorem r178_100 : At call ac_178 100 [a0, a1, a2, a3, a4, a5, a6] (b2 :: b1 :: b0 :: st) h Q ↔ st.length ≤ 4 ∧ ∃ v h1, call 144 [b0, b1, b2] h (some v) h1 ∧ At call ac_178 103 [a0, a1, a2, a3, a4, a5, a6] (v :: st) h1 Q := At_gcall rfl
theorem r178_103 : At call ac_178 103 [a0, a1, a2, a3, a4, a5, a6] (vI x :: st) h Q ↔ At call ac_178 105 [a0, a1, a2, a3, a4, a5, vI x] st h Q := At_next rfl
theorem r178_105 : At call ac_178 105 [a0, a1, a2, a3, a4, a5, vI x] st h Q ↔ At call ac_178 107 [a0, a1, a2, a3, a4, a5, vI x] (vI x :: st) h Q := At_next rfl
theorem r178_107 : At call ac_178 107 [a0, a1, a2, a3, a4, a5, a6] (vI x :: st) h Q ↔ if x = 0 then At call ac_178 110 [a0, a1, a2, a3, a4, a5, a6] st h Q else At call ac_178 116 [a0, a1, a2, a3, a4, a5, a6] st h Q := At_br rfl
theorem r178_110 : At call ac_178 110 [vR g m, a1, a2, a3, a4, a5, a6] st h Q ↔ At call ac_178 111 [vR g m, a1, a2, a3, a4, a5, a6] (vR g m :: st) h Q := At_next rfl
theorem r178_111 : At call ac_178 111 [a0, a1, a2, a3, vI x, a5, a6] st h Q ↔ At call ac_178 113 [a0, a1, a2, a3, vI x, a5, a6] (vI x :: st) h Q := At_next rfl
theorem r178_113 : At call ac_178 113 [a0, a1, a2, a3, a4, a5, a6] (vI x :: vR g 27 :: st) h Q ↔ At call ac_178 116 [a0, a1, a2, a3, a4, a5, a6] st (up3 h g 27 24 x) Q := At_next rfl
theorem r178_116 : At call ac_178 116 [a0, a1, a2, a3, a4, a5, vI x] st h Q ↔ At call ac_178 118 [a0, a1, a2, a3, a4, a5, vI x] (vI x :: st) h Q := At_next rfl
theorem r178_118 : At call ac_178 118 [a0, a1, a2, a3, a4, a5, a6] [vI x] h Q ↔ (x = 0 ∨ x = 1) ∧ Q (some (vI x)) h := At_guardR rfl
theorem r179_0 : At call ac_179 0 [a0, a1, vI x] st h Q ↔ At call ac_179 1 [a0, a1, vI x] (vI x :: st) h Q := At_next rfl
theorem r179_1 : At call ac_179 1 [a0, a1, a2] (vI x :: st) h Q ↔ if x = 0 then At call ac_179 4 [a0, a1, a2] st h Q else At call ac_179 9 [a0, a1, a2] st h Q := At_br rfl
theorem r179_4 : At call ac_179 4 [vR g m, a1, a2] st h Q ↔ At call ac_179 5 [vR g m, a1, a2] (vR g m :: st) h Q := At_next rfl
theorem r179_5 : At call ac_179 5 [a0, vI x, a2] st h Q ↔ At call ac_179 6 [a0, vI x, a2] (vI x :: st) h Q := At_next rfl
theorem r179_6 : At call ac_179 6 [a0, a1, a2] (vI x :: vR g 27 :: st) h Q ↔ At call ac_179 9 [a0, a1, a2] st (up3 h g 27 24 x) Q := At_next rfl
theorem r179_9 : At call ac_179 9 [a0, a1, vI x] st h Q ↔ At call ac_179 10 [a0, a1, vI x] (vI x :: st) h Q := At_next rfl
theorem r179_10 : At call ac_179 10 [a0, a1, a2] [vI x] h Q ↔ (x = 0 ∨ x = 1) ∧ Q (some (vI x)) h := At_guardR rfl
theorem r180_0 : At call ac_180 0 [vR g m, a1] st h Q ↔ At call ac_180 1 [vR g m, a1] (vR g m :: st) h Q := At_next rfl
theorem r180_1 : At call ac_180 1 [a0, a1] (b0 :: st) h Q ↔ st.length ≤ 4 ∧ ∃ v h1, call 174 [b0] h (some v) h1 ∧ At call ac_180 4 [a0, a1] (v :: st) h1 Q := At_gcall rfl
theorem r180_4 : At call ac_180 4 [a0, a1] (vI x :: st) h Q ↔ if x = 98 then At call ac_180 464 [a0, a1] st h Q else if x = 99 then At call ac_180 304 [a0, a1] st h Q else if x = 100 then At call ac_180 594 [a0, a1] st h Q else if x = 101 then At call ac_180 322 [a0, a1] st h Q else if x = 102 then At call ac_180 408 [a0, a1] st h Q else if x = 103 then At call ac_180 594 [a0, a1] st h Q else if x = 104 then At call ac_180 533 [a0, a1] st h Q else if x = 105 then At call ac_180 594 [a0, a1] st h Q else if x = 106 then At call ac_180 594 [a0, a1] st h Q else if x = 107 then At call ac_180 594 [a0, a1] st h Q else if x = 108 then At call ac_180 594 [a0, a1] st h Q else if x = 109 then At call ac_180 594 [a0, a1] st h Q else if x = 110 then At call ac_180 594 [a0, a1] st h Q else if x = 111 then At call ac_180 594 [a0, a1] st h Q else if x = 112 then At call ac_180 108 [a0, a1] st h Q else if x = 113 then At call ac_180 594 [a0, a1] st h Q else if x = 114 then At call ac_180 594 [a0, a1] st h Q else if x = 115 then At call ac_180 340 [a0, a1] st h Q else if x = 116 then At call ac_180 374 [a0, a1] st h Q else if x = 117 then At call ac_180 594 [a0, a1] st h Q else if x = 118 then At call ac_180 594 [a0, a1] st h Q else if x = 119 then At call ac_180 286 [a0, a1] st h Q else At call ac_180 594 [a0, a1] st h Q := At_swT (k := 98) (ts := [464, 304, 594, 322, 408, 594, 533, 594, 594, 594, 594, 594, 594, 594, 108, 594, 594, 340, 374, 594, 594, 286]) (d := 594) (L' := [a0, a1]) (st' := st) (h' := h) rfl
theorem r180_108 : At call ac_180 108 [vR g m, a1] st h Q ↔ At call ac_180 109 [vR g m, a1] (vR g m :: st) h Q := At_next rfl
theorem r180_109 : At call ac_180 109 [a0, a1] (vR g 27 :: st) h Q ↔ At call ac_180 112 [a0, a1] (vI (h g 27 24) :: st) h Q := At_next rfl
theorem r180_112 : At call ac_180 112 [a0, a1] st h Q ↔ At call ac_180 113 [a0, a1] (vI 1 :: st) h Q := At_next rfl
theorem r180_113 : At call ac_180 113 [a0, a1] (vI y :: vI x :: st) h Q ↔ At call ac_180 114 [a0, a1] (vI (wr (x + y)) :: st) h Q := At_next rfl
theorem r180_114 : At call ac_180 114 [vR g m, a1] st h Q ↔ At call ac_180 115 [vR g m, a1] (vR g m :: st) h Q := At_next rfl
theorem r180_115 : At call ac_180 115 [a0, a1] (vR g 27 :: st) h Q ↔ At call ac_180 118 [a0, a1] (vR g 29 :: st) h Q := At_next rfl
theorem r180_118 : At call ac_180 118 [vR g m, a1] st h Q ↔ At call ac_180 119 [vR g m, a1] (vR g m :: st) h Q := At_next rfl
theorem r180_119 : At call ac_180 119 [a0, a1] (vR g 27 :: st) h Q ↔ At call ac_180 122 [a0, a1] (vI (h g 27 23) :: st) h Q := At_next rfl
theorem r180_122 : At call ac_180 122 [a0, a1] (vI x :: vR g m :: st) h Q ↔ inA h m 0 x ∧ At call ac_180 123 [a0, a1] (vI (h g m x.toNat) :: st) h Q := At_guard rfl
theorem r180_123 : At call ac_180 123 [a0, a1] (vI y :: vI x :: st) h Q ↔ if x < y then At call ac_180 126 [a0, a1] st h Q else At call ac_180 203 [a0, a1] st h Q := At_br rfl
theorem r180_126 : At call ac_180 126 [vR g m, a1] st h Q ↔ At call ac_180 127 [vR g m, a1] (vR g m :: st) h Q := At_next rfl
theorem r180_127 : At call ac_180 127 [a0, a1] (vR g 27 :: st) h Q ↔ At call ac_180 130 [a0, a1] (vR g 30 :: st) h Q := At_next rfl
theorem r180_130 : At call ac_180 130 [a0, a1] st h Q ↔ At call ac_180 133 [a0, a1] (vI 160 :: st) h Q := At_next rfl
theorem r180_133 : At call ac_180 133 [vR g m, a1] st h Q ↔ At call ac_180 134 [vR g m, a1] (vR g m :: st) h Q := At_next rfl
theorem r180_134 : At call ac_180 134 [a0, a1] (vR g 27 :: st) h Q ↔ At call ac_180 137 [a0, a1] (vI (h g 27 23) :: st) h Q := At_next rfl
theorem r180_137 : At call ac_180 137 [a0, a1] (vI y :: vI x :: st) h Q ↔ At call ac_180 138 [a0, a1] (vI (wr (x * y)) :: st) h Q := At_next rfl
theorem r180_138 : At call ac_180 138 [vR g m, a1] st h Q ↔ At call ac_180 139 [vR g m, a1] (vR g m :: st) h Q := At_next rfl
theorem r180_139 : At call ac_180 139 [a0, a1] (vR g 27 :: st) h Q ↔ At call ac_180 142 [a0, a1] (vI (h g 27 24) :: st) h Q := At_next rfl
theorem r180_142 : At call ac_180 142 [a0, a1] (vI y :: vI x :: st) h Q ↔ At call ac_180 143 [a0, a1] (vI (wr (x + y)) :: st) h Q := At_next rfl
theorem r180_143 : At call ac_180 143 [a0, a1] st h Q ↔ At call ac_180 144 [a0, a1] (vI 1 :: st) h Q := At_next rfl
theorem r180_144 : At call ac_180 144 [a0, a1] (vI y :: vI x :: st) h Q ↔ At call ac_180 145 [a0, a1] (vI (wr (x + y)) :: st) h Q := At_next rfl
theorem r180_145 : At call ac_180 145 [a0, a1] (vI x :: vR g m :: st) h Q ↔ inA h m 1 x ∧ At call ac_180 146 [a0, a1] (vJ (h g m x.toNat) :: st) h Q := At_guard rfl
theorem r180_146 : At call ac_180 146 [a0, a1] (vJ x :: st) h Q ↔ At call ac_180 147 [a0, a1] (vI (wr x) :: st) h Q := At_next rfl
theorem r180_147 : At call ac_180 147 [a0, a1] st h Q ↔ At call ac_180 149 [a0, a1] (vI 114 :: st) h Q := At_next rfl
theorem r180_149 : At call ac_180 149 [a0, a1] (vI y :: vI x :: st) h Q ↔ if x = y then At call ac_180 152 [a0, a1] st h Q else At call ac_180 203 [a0, a1] st h Q := At_br rfl
theorem r180_152 : At call ac_180 152 [vR g m, a1] st h Q ↔ At call ac_180 153 [vR g m, a1] (vR g m :: st) h Q := At_next rfl
theorem r180_153 : At call ac_180 153 [a0, a1] st h Q ↔ At call ac_180 155 [a0, a1] (vS 6 :: st) h Q := At_next rfl
theorem r180_155 : At call ac_180 155 [a0, a1] (b1 :: b0 :: st) h Q ↔ st.length ≤ 4 ∧ ∃ v h1, call 176 [b0, b1] h (some v) h1 ∧ At call ac_180 158 [a0, a1] (v :: st) h1 Q := At_gcall rfl
theorem r180_158 : At call ac_180 158 [a0, a1] (vI x :: st) h Q ↔ if x = 0 then At call ac_180 182 [a0, a1] st h Q else At call ac_180 161 [a0, a1] st h Q := At_br rfl
theorem r180_161 : At call ac_180 161 [vR g m, a1] st h Q ↔ At call ac_180 162 [vR g m, a1] (vR g m :: st) h Q := At_next rfl
theorem r180_162 : At call ac_180 162 [a0, a1] st h Q ↔ At call ac_180 163 [a0, a1] (vI 0 :: st) h Q := At_next rfl
theorem r180_163 : At call ac_180 163 [a0, a1] st h Q ↔ At call ac_180 164 [a0, a1] (vI 1 :: st) h Q := At_next rfl
theorem r180_164 : At call ac_180 164 [a0, a1] st h Q ↔ At call ac_180 165 [a0, a1] (vI 3 :: st) h Q := At_next rfl
theorem r180_165 : At call ac_180 165 [a0, a1] (b3 :: b2 :: b1 :: b0 :: st) h Q ↔ st.length ≤ 4 ∧ ∃ v h1, call 178 [b0, b1, b2, b3] h (some v) h1 ∧ At call ac_180 168 [a0, a1] (v :: st) h1 Q := At_gcall rfl
theorem r180_168 : At call ac_180 168 [a0, a1] (vI x :: st) h Q ↔ if x = 0 then At call ac_180 182 [a0, a1] st h Q else At call ac_180 171 [a0, a1] st h Q := At_br rfl
theorem r180_171 : At call ac_180 171 [vR g m, a1] st h Q ↔ At call ac_180 172 [vR g m, a1] (vR g m :: st) h Q := At_next rfl
theorem r180_172 : At call ac_180 172 [a0, a1] st h Q ↔ At call ac_180 173 [a0, a1] (vI 1 :: st) h Q := At_next rfl
theorem r180_173 : At call ac_180 173 [a0, a1] st h Q ↔ At call ac_180 174 [a0, a1] (vI 0 :: st) h Q := At_next rfl
theorem r180_174 : At call ac_180 174 [a0, a1] st h Q ↔ At call ac_180 176 [a0, a1] (vI 99 :: st) h Q := At_next rfl
theorem r180_176 : At call ac_180 176 [a0, a1] (b3 :: b2 :: b1 :: b0 :: st) h Q ↔ st.length ≤ 4 ∧ ∃ v h1, call 178 [b0, b1, b2, b3] h (some v) h1 ∧ At call ac_180 179 [a0, a1] (v :: st) h1 Q := At_gcall rfl
theorem r180_179 : At call ac_180 179 [a0, a1] (vI x :: st) h Q ↔ if x = 0 then At call ac_180 182 [a0, a1] st h Q else At call ac_180 184 [a0, a1] st h Q := At_br rfl
theorem r180_182 : At call ac_180 182 [a0, a1] st h Q ↔ At call ac_180 183 [a0, a1] (vI 0 :: st) h Q := At_next rfl
theorem r180_183 : At call ac_180 183 [a0, a1] [vI x] h Q ↔ (x = 0 ∨ x = 1) ∧ Q (some (vI x)) h := At_guardR rfl
theorem r180_184 : At call ac_180 184 [vR g m, a1] st h Q ↔ At call ac_180 185 [vR g m, a1] (vR g m :: st) h Q := At_next rfl
theorem r180_185 : At call ac_180 185 [a0, a1] (vR g 27 :: st) h Q ↔ At call ac_180 188 [a0, a1] (vR g 26 :: st) h Q := At_next rfl
theorem r180_188 : At call ac_180 188 [vR g m, a1] st h Q ↔ At call ac_180 189 [vR g m, a1] (vR g m :: st) h Q := At_next rfl
theorem r180_189 : At call ac_180 189 [a0, a1] (vR g 27 :: st) h Q ↔ At call ac_180 192 [a0, a1] (vR g 36 :: st) h Q := At_next rfl
theorem r180_192 : At call ac_180 192 [a0, a1] st h Q ↔ At call ac_180 193 [a0, a1] (vI 0 :: st) h Q := At_next rfl
theorem r180_193 : At call ac_180 193 [a0, a1] (vI x :: vR g m :: st) h Q ↔ inA h m 0 x ∧ At call ac_180 194 [a0, a1] (vI (h g m x.toNat) :: st) h Q := At_guard rfl
theorem r180_194 : At call ac_180 194 [vR g m, a1] st h Q ↔ At call ac_180 195 [vR g m, a1] (vR g m :: st) h Q := At_next rfl
theorem r180_195 : At call ac_180 195 [a0, a1] (vR g 27 :: st) h Q ↔ At call ac_180 198 [a0, a1] (vR g 36 :: st) h Q := At_next rfl
theorem r180_198 : At call ac_180 198 [a0, a1] st h Q ↔ At call ac_180 199 [a0, a1] (vI 1 :: st) h Q := At_next rfl
theorem r180_199 : At call ac_180 199 [a0, a1] (vI x :: vR g m :: st) h Q ↔ inA h m 0 x ∧ At call ac_180 200 [a0, a1] (vI (h g m x.toNat) :: st) h Q := At_guard rfl
theorem r180_200 : At call ac_180 200 [a0, a1] (vI y :: vI x :: vR g m :: st) h Q ↔ (inA h m 0 x ∧ m ≠ 37) ∧ At call ac_180 201 [a0, a1] st (up3 h g m x.toNat y) Q := At_guard rfl
theorem r180_201 : At call ac_180 201 [a0, a1] st h Q ↔ At call ac_180 202 [a0, a1] (vI 1 :: st) h Q := At_next rfl
theorem r180_202 : At call ac_180 202 [a0, a1] [vI x] h Q ↔ (x = 0 ∨ x = 1) ∧ Q (some (vI x)) h := At_guardR rfl
theorem r180_203 : At call ac_180 203 [vR g m, a1] st h Q ↔ At call ac_180 204 [vR g m, a1] (vR g m :: st) h Q := At_next rfl
theorem r180_204 : At call ac_180 204 [a0, a1] st h Q ↔ At call ac_180 206 [a0, a1] (vS 0 :: st) h Q := At_next rfl
theorem r180_206 : At call ac_180 206 [vR g m, a1] st h Q ↔ At call ac_180 207 [vR g m, a1] (vR g m :: st) h Q := At_next rfl
theorem r180_207 : At call ac_180 207 [a0, a1] (vR g 27 :: st) h Q ↔ At call ac_180 210 [a0, a1] (vI (h g 27 7) :: st) h Q := At_next rfl
theorem r180_210 : At call ac_180 210 [a0, a1] st h Q ↔ At call ac_180 212 [a0, a1] (vI 8 :: st) h Q := At_next rfl
theorem r180_212 : At call ac_180 212 [a0, a1] (vI y :: vI x :: st) h Q ↔ if x < y then At call ac_180 215 [a0, a1] st h Q else At call ac_180 219 [a0, a1] st h Q := At_br rfl
theorem r180_215 : At call ac_180 215 [a0, a1] st h Q ↔ At call ac_180 216 [a0, a1] (vI 1 :: st) h Q := At_next rfl
theorem r180_216 : At call ac_180 216 [a0, a1] st h Q ↔ At call ac_180 220 [a0, a1] st h Q := At_next rfl
theorem r180_219 : At call ac_180 219 [a0, a1] st h Q ↔ At call ac_180 220 [a0, a1] (vI 0 :: st) h Q := At_next rfl
theorem r180_220 : At call ac_180 220 [a0, a1] (b2 :: b1 :: b0 :: st) h Q ↔ st.length ≤ 4 ∧ ∃ v h1, call 177 [b0, b1, b2] h (some v) h1 ∧ At call ac_180 223 [a0, a1] (v :: st) h1 Q := At_gcall rfl
theorem r180_223 : At call ac_180 223 [a0, a1] (vI x :: st) h Q ↔ if x = 0 then At call ac_180 259 [a0, a1] st h Q else At call ac_180 226 [a0, a1] st h Q := At_br rfl
theorem r180_226 : At call ac_180 226 [vR g m, a1] st h Q ↔ At call ac_180 227 [vR g m, a1] (vR g m :: st) h Q := At_next rfl
theorem r180_227 : At call ac_180 227 [a0, a1] st h Q ↔ At call ac_180 228 [a0, a1] (vI 0 :: st) h Q := At_next rfl
theorem r180_228 : At call ac_180 228 [a0, a1] st h Q ↔ At call ac_180 229 [a0, a1] (vI 0 :: st) h Q := At_next rfl
theorem r180_229 : At call ac_180 229 [a0, a1] st h Q ↔ At call ac_180 231 [a0, a1] (vI 6 :: st) h Q := At_next rfl
theorem r180_231 : At call ac_180 231 [a0, a1] (b3 :: b2 :: b1 :: b0 :: st) h Q ↔ st.length ≤ 4 ∧ ∃ v h1, call 178 [b0, b1, b2, b3] h (some v) h1 ∧ At call ac_180 234 [a0, a1] (v :: st) h1 Q := At_gcall rfl
theorem r180_234 : At call ac_180 234 [a0, a1] (vI x :: st) h Q ↔ if x = 0 then At call ac_180 259 [a0, a1] st h Q else At call ac_180 237 [a0, a1] st h Q := At_br rfl
theorem r180_237 : At call ac_180 237 [vR g m, a1] st h Q ↔ At call ac_180 238 [vR g m, a1] (vR g m :: st) h Q := At_next rfl
theorem r180_238 : At call ac_180 238 [a0, a1] st h Q ↔ At call ac_180 239 [a0, a1] (vI 1 :: st) h Q := At_next rfl
theorem r180_239 : At call ac_180 239 [a0, a1] st h Q ↔ At call ac_180 240 [a0, a1] (vI 0 :: st) h Q := At_next rfl
theorem r180_240 : At call ac_180 240 [a0, a1] st h Q ↔ At call ac_180 242 [a0, a1] (vI 9 :: st) h Q := At_next rfl
theorem r180_242 : At call ac_180 242 [a0, a1] (b3 :: b2 :: b1 :: b0 :: st) h Q ↔ st.length ≤ 4 ∧ ∃ v h1, call 178 [b0, b1, b2, b3] h (some v) h1 ∧ At call ac_180 245 [a0, a1] (v :: st) h1 Q := At_gcall rfl
theorem r180_245 : At call ac_180 245 [a0, a1] (vI x :: st) h Q ↔ if x = 0 then At call ac_180 259 [a0, a1] st h Q else At call ac_180 248 [a0, a1] st h Q := At_br rfl
theorem r180_248 : At call ac_180 248 [vR g m, a1] st h Q ↔ At call ac_180 249 [vR g m, a1] (vR g m :: st) h Q := At_next rfl
theorem r180_249 : At call ac_180 249 [a0, a1] st h Q ↔ At call ac_180 250 [a0, a1] (vI 2 :: st) h Q := At_next rfl
theorem r180_250 : At call ac_180 250 [a0, a1] st h Q ↔ At call ac_180 251 [a0, a1] (vI 0 :: st) h Q := At_next rfl
theorem r180_251 : At call ac_180 251 [a0, a1] st h Q ↔ At call ac_180 253 [a0, a1] (vI 99 :: st) h Q := At_next rfl
theorem r180_253 : At call ac_180 253 [a0, a1] (b3 :: b2 :: b1 :: b0 :: st) h Q ↔ st.length ≤ 4 ∧ ∃ v h1, call 178 [b0, b1, b2, b3] h (some v) h1 ∧ At call ac_180 256 [a0, a1] (v :: st) h1 Q := At_gcall rfl
theorem r180_256 : At call ac_180 256 [a0, a1] (vI x :: st) h Q ↔ if x = 0 then At call ac_180 259 [a0, a1] st h Q else At call ac_180 261 [a0, a1] st h Q := At_br rfl
theorem r180_259 : At call ac_180 259 [a0, a1] st h Q ↔ At call ac_180 260 [a0, a1] (vI 0 :: st) h Q := At_next rfl
theorem r180_260 : At call ac_180 260 [a0, a1] [vI x] h Q ↔ (x = 0 ∨ x = 1) ∧ Q (some (vI x)) h := At_guardR rfl
theorem r180_261 : At call ac_180 261 [vR g m, a1] st h Q ↔ At call ac_180 262 [vR g m, a1] (vR g m :: st) h Q := At_next rfl
theorem r180_262 : At call ac_180 262 [vR g m, a1] st h Q ↔ At call ac_180 263 [vR g m, a1] (vR g m :: st) h Q := At_next rfl
theorem r180_263 : At call ac_180 263 [a0, a1] (vR g 27 :: st) h Q ↔ At call ac_180 266 [a0, a1] (vR g 36 :: st) h Q := At_next rfl
theorem r180_266 : At call ac_180 266 [a0, a1] st h Q ↔ At call ac_180 267 [a0, a1] (vI 0 :: st) h Q := At_next rfl
theorem r180_267 : At call ac_180 267 [a0, a1] (vI x :: vR g m :: st) h Q ↔ inA h m 0 x ∧ At call ac_180 268 [a0, a1] (vI (h g m x.toNat) :: st) h Q := At_guard rfl
theorem r180_268 : At call ac_180 268 [vR g m, a1] st h Q ↔ At call ac_180 269 [vR g m, a1] (vR g m :: st) h Q := At_next rfl
theorem r180_269 : At call ac_180 269 [a0, a1] (vR g 27 :: st) h Q ↔ At call ac_180 272 [a0, a1] (vR g 36 :: st) h Q := At_next rfl
theorem r180_272 : At call ac_180 272 [a0, a1] st h Q ↔ At call ac_180 273 [a0, a1] (vI 1 :: st) h Q := At_next rfl
theorem r180_273 : At call ac_180 273 [a0, a1] (vI x :: vR g m :: st) h Q ↔ inA h m 0 x ∧ At call ac_180 274 [a0, a1] (vI (h g m x.toNat) :: st) h Q := At_guard rfl
theorem r180_274 : At call ac_180 274 [vR g m, a1] st h Q ↔ At call ac_180 275 [vR g m, a1] (vR g m :: st) h Q := At_next rfl
theorem r180_275 : At call ac_180 275 [a0, a1] (vR g 27 :: st) h Q ↔ At call ac_180 278 [a0, a1] (vR g 36 :: st) h Q := At_next rfl
theorem r180_278 : At call ac_180 278 [a0, a1] st h Q ↔ At call ac_180 279 [a0, a1] (vI 2 :: st) h Q := At_next rfl
theorem r180_279 : At call ac_180 279 [a0, a1] (vI x :: vR g m :: st) h Q ↔ inA h m 0 x ∧ At call ac_180 280 [a0, a1] (vI (h g m x.toNat) :: st) h Q := At_guard rfl
theorem r180_280 : At call ac_180 280 [a0, a1] (b3 :: b2 :: b1 :: b0 :: st) h Q ↔ st.length ≤ 4 ∧ ∃ v h1, call 163 [b0, b1, b2, b3] h (some v) h1 ∧ At call ac_180 283 [a0, a1] (v :: st) h1 Q := At_gcall rfl
theorem r180_283 : At call ac_180 283 [a0, a1] (vI x :: st) h Q ↔ At call ac_180 284 [a0, a1] st h Q := At_next rfl
theorem r180_284 : At call ac_180 284 [a0, a1] st h Q ↔ At call ac_180 285 [a0, a1] (vI 1 :: st) h Q := At_next rfl
theorem r180_285 : At call ac_180 285 [a0, a1] [vI x] h Q ↔ (x = 0 ∨ x = 1) ∧ Q (some (vI x)) h := At_guardR rfl
theorem r180_286 : At call ac_180 286 [vR g m, a1] st h Q ↔ At call ac_180 287 [vR g m, a1] (vR g m :: st) h Q := At_next rfl
theorem r180_287 : At call ac_180 287 [a0, a1] st h Q ↔ At call ac_180 289 [a0, a1] (vS 1 :: st) h Q := At_next rfl
theorem r180_289 : At call ac_180 289 [a0, a1] (b1 :: b0 :: st) h Q ↔ st.length ≤ 4 ∧ ∃ v h1, call 176 [b0, b1] h (some v) h1 ∧ At call ac_180 292 [a0, a1] (v :: st) h1 Q := At_gcall rfl
theorem r180_292 : At call ac_180 292 [a0, a1] (vI x :: st) h Q ↔ if x = 0 then At call ac_180 295 [a0, a1] st h Q else At call ac_180 297 [a0, a1] st h Q := At_br rfl
theorem r180_295 : At call ac_180 295 [a0, a1] st h Q ↔ At call ac_180 296 [a0, a1] (vI 0 :: st) h Q := At_next rfl
theorem r180_296 : At call ac_180 296 [a0, a1] [vI x] h Q ↔ (x = 0 ∨ x = 1) ∧ Q (some (vI x)) h := At_guardR rfl
theorem r180_297 : At call ac_180 297 [vR g m, a1] st h Q ↔ At call ac_180 298 [vR g m, a1] (vR g m :: st) h Q := At_next rfl
theorem r180_298 : At call ac_180 298 [a0, a1] st h Q ↔ At call ac_180 299 [a0, a1] (vI (-1) :: st) h Q := At_next rfl
theorem r180_299 : At call ac_180 299 [a0, a1] (vI x :: vR g 27 :: st) h Q ↔ At call ac_180 302 [a0, a1] st (up3 h g 27 13 x) Q := At_next rfl
theorem r180_302 : At call ac_180 302 [a0, a1] st h Q ↔ At call ac_180 303 [a0, a1] (vI 1 :: st) h Q := At_next rfl
theorem r180_303 : At call ac_180 303 [a0, a1] [vI x] h Q ↔ (x = 0 ∨ x = 1) ∧ Q (some (vI x)) h := At_guardR rfl
theorem r180_304 : At call ac_180 304 [vR g m, a1] st h Q ↔ At call ac_180 305 [vR g m, a1] (vR g m :: st) h Q := At_next rfl
theorem r180_305 : At call ac_180 305 [a0, a1] st h Q ↔ At call ac_180 307 [a0, a1] (vS 2 :: st) h Q := At_next rfl
theorem r180_307 : At call ac_180 307 [a0, a1] (b1 :: b0 :: st) h Q ↔ st.length ≤ 4 ∧ ∃ v h1, call 176 [b0, b1] h (some v) h1 ∧ At call ac_180 310 [a0, a1] (v :: st) h1 Q := At_gcall rfl
theorem r180_310 : At call ac_180 310 [a0, a1] (vI x :: st) h Q ↔ if x = 0 then At call ac_180 313 [a0, a1] st h Q else At call ac_180 315 [a0, a1] st h Q := At_br rfl
theorem r180_313 : At call ac_180 313 [a0, a1] st h Q ↔ At call ac_180 314 [a0, a1] (vI 0 :: st) h Q := At_next rfl
theorem r180_314 : At call ac_180 314 [a0, a1] [vI x] h Q ↔ (x = 0 ∨ x = 1) ∧ Q (some (vI x)) h := At_guardR rfl
theorem r180_315 : At call ac_180 315 [vR g m, a1] st h Q ↔ At call ac_180 316 [vR g m, a1] (vR g m :: st) h Q := At_next rfl
theorem r180_316 : At call ac_180 316 [a0, a1] st h Q ↔ At call ac_180 317 [a0, a1] (vI 0 :: st) h Q := At_next rfl
theorem r180_317 : At call ac_180 317 [a0, a1] (vI x :: vR g 27 :: st) h Q ↔ At call ac_180 320 [a0, a1] st (up3 h g 27 13 x) Q := At_next rfl
theorem r180_320 : At call ac_180 320 [a0, a1] st h Q ↔ At call ac_180 321 [a0, a1] (vI 1 :: st) h Q := At_next rfl
theorem r180_321 : At call ac_180 321 [a0, a1] [vI x] h Q ↔ (x = 0 ∨ x = 1) ∧ Q (some (vI x)) h := At_guardR rfl
theorem r180_322 : At call ac_180 322 [vR g m, a1] st h Q ↔ At call ac_180 323 [vR g m, a1] (vR g m :: st) h Q := At_next rfl
theorem r180_323 : At call ac_180 323 [a0, a1] st h Q ↔ At call ac_180 325 [a0, a1] (vS 3 :: st) h Q := At_next rfl
theorem r180_325 : At call ac_180 325 [a0, a1] (b1 :: b0 :: st) h Q ↔ st.length ≤ 4 ∧ ∃ v h1, call 176 [b0, b1] h (some v) h1 ∧ At call ac_180 328 [a0, a1] (v :: st) h1 Q := At_gcall rfl
theorem r180_328 : At call ac_180 328 [a0, a1] (vI x :: st) h Q ↔ if x = 0 then At call ac_180 331 [a0, a1] st h Q else At call ac_180 333 [a0, a1] st h Q := At_br rfl
theorem r180_331 : At call ac_180 331 [a0, a1] st h Q ↔ At call ac_180 332 [a0, a1] (vI 0 :: st) h Q := At_next rfl
theorem r180_332 : At call ac_180 332 [a0, a1] [vI x] h Q ↔ (x = 0 ∨ x = 1) ∧ Q (some (vI x)) h := At_guardR rfl
theorem r180_333 : At call ac_180 333 [vR g m, a1] st h Q ↔ At call ac_180 334 [vR g m, a1] (vR g m :: st) h Q := At_next rfl
theorem r180_334 : At call ac_180 334 [a0, a1] st h Q ↔ At call ac_180 335 [a0, a1] (vI 1 :: st) h Q := At_next rfl
theorem r180_335 : At call ac_180 335 [a0, a1] (vI x :: vR g 27 :: st) h Q ↔ At call ac_180 338 [a0, a1] st (up3 h g 27 13 x) Q := At_next rfl
theorem r180_338 : At call ac_180 338 [a0, a1] st h Q ↔ At call ac_180 339 [a0, a1] (vI 1 :: st) h Q := At_next rfl
theorem r180_339 : At call ac_180 339 [a0, a1] [vI x] h Q ↔ (x = 0 ∨ x = 1) ∧ Q (some (vI x)) h := At_guardR rfl
theorem r180_340 : At call ac_180 340 [vR g m, a1] st h Q ↔ At call ac_180 341 [vR g m, a1] (vR g m :: st) h Q := At_next rfl
theorem r180_341 : At call ac_180 341 [a0, a1] st h Q ↔ At call ac_180 343 [a0, a1] (vS 4 :: st) h Q := At_next rfl
theorem r180_343 : At call ac_180 343 [a0, a1] (b1 :: b0 :: st) h Q ↔ st.length ≤ 4 ∧ ∃ v h1, call 176 [b0, b1] h (some v) h1 ∧ At call ac_180 346 [a0, a1] (v :: st) h1 Q := At_gcall rfl
theorem r180_346 : At call ac_180 346 [a0, a1] (vI x :: st) h Q ↔ if x = 0 then At call ac_180 360 [a0, a1] st h Q else At call ac_180 349 [a0, a1] st h Q := At_br rfl
theorem r180_349 : At call ac_180 349 [vR g m, a1] st h Q ↔ At call ac_180 350 [vR g m, a1] (vR g m :: st) h Q := At_next rfl
theorem r180_350 : At call ac_180 350 [a0, a1] st h Q ↔ At call ac_180 351 [a0, a1] (vI 0 :: st) h Q := At_next rfl
theorem r180_351 : At call ac_180 351 [a0, a1] st h Q ↔ At call ac_180 352 [a0, a1] (vI 0 :: st) h Q := At_next rfl
theorem r180_352 : At call ac_180 352 [a0, a1] st h Q ↔ At call ac_180 354 [a0, a1] (vI 18 :: st) h Q := At_next rfl
theorem r180_354 : At call ac_180 354 [a0, a1] (b3 :: b2 :: b1 :: b0 :: st) h Q ↔ st.length ≤ 4 ∧ ∃ v h1, call 178 [b0, b1, b2, b3] h (some v) h1 ∧ At call ac_180 357 [a0, a1] (v :: st) h1 Q := At_gcall rfl
theorem r180_357 : At call ac_180 357 [a0, a1] (vI x :: st) h Q ↔ if x = 0 then At call ac_180 360 [a0, a1] st h Q else At call ac_180 362 [a0, a1] st h Q := At_br rfl
theorem r180_360 : At call ac_180 360 [a0, a1] st h Q ↔ At call ac_180 361 [a0, a1] (vI 0 :: st) h Q := At_next rfl
theorem r180_361 : At call ac_180 361 [a0, a1] [vI x] h Q ↔ (x = 0 ∨ x = 1) ∧ Q (some (vI x)) h := At_guardR rfl
theorem r180_362 : At call ac_180 362 [vR g m, a1] st h Q ↔ At call ac_180 363 [vR g m, a1] (vR g m :: st) h Q := At_next rfl
theorem r180_363 : At call ac_180 363 [vR g m, a1] st h Q ↔ At call ac_180 364 [vR g m, a1] (vR g m :: st) h Q := At_next rfl
theorem r180_364 : At call ac_180 364 [a0, a1] (vR g 27 :: st) h Q ↔ At call ac_180 367 [a0, a1] (vR g 36 :: st) h Q := At_next rfl
theorem r180_367 : At call ac_180 367 [a0, a1] st h Q ↔ At call ac_180 368 [a0, a1] (vI 0 :: st) h Q := At_next rfl
theorem r180_368 : At call ac_180 368 [a0, a1] (vI x :: vR g m :: st) h Q ↔ inA h m 0 x ∧ At call ac_180 369 [a0, a1] (vI (h g m x.toNat) :: st) h Q := At_guard rfl
theorem r180_369 : At call ac_180 369 [a0, a1] (vI x :: vR g 27 :: st) h Q ↔ At call ac_180 372 [a0, a1] st (up3 h g 27 14 x) Q := At_next rfl
theorem r180_372 : At call ac_180 372 [a0, a1] st h Q ↔ At call ac_180 373 [a0, a1] (vI 1 :: st) h Q := At_next rfl
theorem r180_373 : At call ac_180 373 [a0, a1] [vI x] h Q ↔ (x = 0 ∨ x = 1) ∧ Q (some (vI x)) h := At_guardR rfl
theorem r180_374 : At call ac_180 374 [vR g m, a1] st h Q ↔ At call ac_180 375 [vR g m, a1] (vR g m :: st) h Q := At_next rfl
theorem r180_375 : At call ac_180 375 [a0, a1] st h Q ↔ At call ac_180 377 [a0, a1] (vS 5 :: st) h Q := At_next rfl
theorem r180_377 : At call ac_180 377 [a0, a1] (b1 :: b0 :: st) h Q ↔ st.length ≤ 4 ∧ ∃ v h1, call 176 [b0, b1] h (some v) h1 ∧ At call ac_180 380 [a0, a1] (v :: st) h1 Q := At_gcall rfl
theorem r180_380 : At call ac_180 380 [a0, a1] (vI x :: st) h Q ↔ if x = 0 then At call ac_180 394 [a0, a1] st h Q else At call ac_180 383 [a0, a1] st h Q := At_br rfl
theorem r180_383 : At call ac_180 383 [vR g m, a1] st h Q ↔ At call ac_180 384 [vR g m, a1] (vR g m :: st) h Q := At_next rfl
theorem r180_384 : At call ac_180 384 [a0, a1] st h Q ↔ At call ac_180 385 [a0, a1] (vI 0 :: st) h Q := At_next rfl
theorem r180_385 : At call ac_180 385 [a0, a1] st h Q ↔ At call ac_180 386 [a0, a1] (vI 0 :: st) h Q := At_next rfl
theorem r180_386 : At call ac_180 386 [a0, a1] st h Q ↔ At call ac_180 388 [a0, a1] (vI 23 :: st) h Q := At_next rfl
theorem r180_388 : At call ac_180 388 [a0, a1] (b3 :: b2 :: b1 :: b0 :: st) h Q ↔ st.length ≤ 4 ∧ ∃ v h1, call 178 [b0, b1, b2, b3] h (some v) h1 ∧ At call ac_180 391 [a0, a1] (v :: st) h1 Q := At_gcall rfl
theorem r180_391 : At call ac_180 391 [a0, a1] (vI x :: st) h Q ↔ if x = 0 then At call ac_180 394 [a0, a1] st h Q else At call ac_180 396 [a0, a1] st h Q := At_br rfl
theorem r180_394 : At call ac_180 394 [a0, a1] st h Q ↔ At call ac_180 395 [a0, a1] (vI 0 :: st) h Q := At_next rfl
theorem r180_395 : At call ac_180 395 [a0, a1] [vI x] h Q ↔ (x = 0 ∨ x = 1) ∧ Q (some (vI x)) h := At_guardR rfl
theorem r180_396 : At call ac_180 396 [vR g m, a1] st h Q ↔ At call ac_180 397 [vR g m, a1] (vR g m :: st) h Q := At_next rfl
theorem r180_397 : At call ac_180 397 [vR g m, a1] st h Q ↔ At call ac_180 398 [vR g m, a1] (vR g m :: st) h Q := At_next rfl
theorem r180_398 : At call ac_180 398 [a0, a1] (vR g 27 :: st) h Q ↔ At call ac_180 401 [a0, a1] (vR g 36 :: st) h Q := At_next rfl
set_option maxRecDepth 20000 in
theorem r180_401 : At call ac_180 401 [a0, a1] st h Q ↔ At call ac_180 402 [a0, a1] (vI 0 :: st) h Q := At_next rfl
set_option maxRecDepth 20000 in
theorem r180_402 : At call ac_180 402 [a0, a1] (vI x :: vR g m :: st) h Q ↔ inA h m 0 x ∧ At call ac_180 403 [a0, a1] (vI (h g m x.toNat) :: st) h Q := At_guard rfl
set_option maxRecDepth 20000 in
theorem r180_403 : At call ac_180 403 [a0, a1] (vI x :: vR g 27 :: st) h Q ↔ At call ac_180 406 [a0, a1] st (up3 h g 27 15 x) Q := At_next rfl
set_option maxRecDepth 20000 in
theorem r180_406 : At call ac_180 406 [a0, a1] st h Q ↔ At call ac_180 407 [a0, a1] (vI 1 :: st) h Q := At_next rfl
set_option maxRecDepth 20000 in
theorem r180_407 : At call ac_180 407 [a0, a1] [vI x] h Q ↔ (x = 0 ∨ x = 1) ∧ Q (some (vI x)) h := At_guardR rfl
set_option maxRecDepth 20000 in
theorem r180_408 : At call ac_180 408 [vR g m, a1] st h Q ↔ At call ac_180 409 [vR g m, a1] (vR g m :: st) h Q := At_next rfl
set_option maxRecDepth 20000 in
theorem r180_409 : At call ac_180 409 [a0, a1] st h Q ↔ At call ac_180 411 [a0, a1] (vS 7 :: st) h Q := At_next rfl
set_option maxRecDepth 20000 in
theorem r180_411 : At call ac_180 411 [a0, a1] (b1 :: b0 :: st) h Q ↔ st.length ≤ 4 ∧ ∃ v h1, call 176 [b0, b1] h (some v) h1 ∧ At call ac_180 414 [a0, a1] (v :: st) h1 Q := At_gcall rfl
set_option maxRecDepth 20000 in
theorem r180_414 : At call ac_180 414 [a0, a1] (vI x :: st) h Q ↔ if x = 0 then At call ac_180 443 [a0, a1] st h Q else At call ac_180 417 [a0, a1] st h Q := At_br rfl
set_option maxRecDepth 20000 in
theorem r180_417 : At call ac_180 417 [vR g m, a1] st h Q ↔ At call ac_180 418 [vR g m, a1] (vR g m :: st) h Q := At_next rfl
set_option maxRecDepth 20000 in
theorem r180_418 : At call ac_180 418 [a0, a1] st h Q ↔ At call ac_180 419 [a0, a1] (vI 0 :: st) h Q := At_next rfl
set_option maxRecDepth 20000 in
theorem r180_419 : At call ac_180 419 [a0, a1] st h Q ↔ At call ac_180 420 [a0, a1] (vI 0 :: st) h Q := At_next rfl
set_option maxRecDepth 20000 in
theorem r180_420 : At call ac_180 420 [vR g m, a1] st h Q ↔ At call ac_180 421 [vR g m, a1] (vR g m :: st) h Q := At_next rfl
set_option maxRecDepth 20000 in
theorem r180_421 : At call ac_180 421 [a0, a1] (vR g 27 :: st) h Q ↔ At call ac_180 424 [a0, a1] (vI (h g 27 7) :: st) h Q := At_next rfl
set_option maxRecDepth 20000 in
theorem r180_424 : At call ac_180 424 [a0, a1] st h Q ↔ At call ac_180 425 [a0, a1] (vI 1 :: st) h Q := At_next rfl
set_option maxRecDepth 20000 in
theorem r180_425 : At call ac_180 425 [a0, a1] (vI y :: vI x :: st) h Q ↔ At call ac_180 426 [a0, a1] (vI (wr (x - y)) :: st) h Q := At_next rfl
set_option maxRecDepth 20000 in
theorem r180_426 : At call ac_180 426 [a0, a1] (b3 :: b2 :: b1 :: b0 :: st) h Q ↔ st.length ≤ 4 ∧ ∃ v h1, call 178 [b0, b1, b2, b3] h (some v) h1 ∧ At call ac_180 429 [a0, a1] (v :: st) h1 Q := At_gcall rfl
set_option maxRecDepth 20000 in
theorem r180_429 : At call ac_180 429 [a0, a1] (vI x :: st) h Q ↔ if x = 0 then At call ac_180 443 [a0, a1] st h Q else At call ac_180 432 [a0, a1] st h Q := At_br rfl
set_option maxRecDepth 20000 in
theorem r180_432 : At call ac_180 432 [vR g m, a1] st h Q ↔ At call ac_180 433 [vR g m, a1] (vR g m :: st) h Q := At_next rfl
set_option maxRecDepth 20000 in
theorem r180_433 : At call ac_180 433 [a0, a1] st h Q ↔ At call ac_180 434 [a0, a1] (vI 1 :: st) h Q := At_next rfl
set_option maxRecDepth 20000 in
theorem r180_434 : At call ac_180 434 [a0, a1] st h Q ↔ At call ac_180 435 [a0, a1] (vI 0 :: st) h Q := At_next rfl
set_option maxRecDepth 20000 in
theorem r180_435 : At call ac_180 435 [a0, a1] st h Q ↔ At call ac_180 437 [a0, a1] (vI 99 :: st) h Q := At_next rfl
set_option maxRecDepth 20000 in
theorem r180_437 : At call ac_180 437 [a0, a1] (b3 :: b2 :: b1 :: b0 :: st) h Q ↔ st.length ≤ 4 ∧ ∃ v h1, call 178 [b0, b1, b2, b3] h (some v) h1 ∧ At call ac_180 440 [a0, a1] (v :: st) h1 Q := At_gcall rfl
set_option maxRecDepth 20000 in
theorem r180_440 : At call ac_180 440 [a0, a1] (vI x :: st) h Q ↔ if x = 0 then At call ac_180 443 [a0, a1] st h Q else At call ac_180 445 [a0, a1] st h Q := At_br rfl
set_option maxRecDepth 20000 in
theorem r180_443 : At call ac_180 443 [a0, a1] st h Q ↔ At call ac_180 444 [a0, a1] (vI 0 :: st) h Q := At_next rfl
set_option maxRecDepth 20000 in
theorem r180_444 : At call ac_180 444 [a0, a1] [vI x] h Q ↔ (x = 0 ∨ x = 1) ∧ Q (some (vI x)) h := At_guardR rfl
set_option maxRecDepth 20000 in
theorem r180_445 : At call ac_180 445 [vR g m, a1] st h Q ↔ At call ac_180 446 [vR g m, a1] (vR g m :: st) h Q := At_next rfl
set_option maxRecDepth 20000 in
theorem r180_446 : At call ac_180 446 [a0, a1] (vR g 27 :: st) h Q ↔ At call ac_180 449 [a0, a1] (vR g 22 :: st) h Q := At_next rfl
set_option maxRecDepth 20000 in
theorem r180_449 : At call ac_180 449 [vR g m, a1] st h Q ↔ At call ac_180 450 [vR g m, a1] (vR g m :: st) h Q := At_next rfl
set_option maxRecDepth 20000 in
theorem r180_450 : At call ac_180 450 [a0, a1] (vR g 27 :: st) h Q ↔ At call ac_180 453 [a0, a1] (vR g 36 :: st) h Q := At_next rfl
set_option maxRecDepth 20000 in
theorem r180_453 : At call ac_180 453 [a0, a1] st h Q ↔ At call ac_180 454 [a0, a1] (vI 0 :: st) h Q := At_next rfl
set_option maxRecDepth 20000 in
theorem r180_454 : At call ac_180 454 [a0, a1] (vI x :: vR g m :: st) h Q ↔ inA h m 0 x ∧ At call ac_180 455 [a0, a1] (vI (h g m x.toNat) :: st) h Q := At_guard rfl
set_option maxRecDepth 20000 in
theorem r180_455 : At call ac_180 455 [vR g m, a1] st h Q ↔ At call ac_180 456 [vR g m, a1] (vR g m :: st) h Q := At_next rfl
set_option maxRecDepth 20000 in
theorem r180_456 : At call ac_180 456 [a0, a1] (vR g 27 :: st) h Q ↔ At call ac_180 459 [a0, a1] (vR g 36 :: st) h Q := At_next rfl
set_option maxRecDepth 20000 in
theorem r180_459 : At call ac_180 459 [a0, a1] st h Q ↔ At call ac_180 460 [a0, a1] (vI 1 :: st) h Q := At_next rfl
set_option maxRecDepth 20000 in
theorem r180_460 : At call ac_180 460 [a0, a1] (vI x :: vR g m :: st) h Q ↔ inA h m 0 x ∧ At call ac_180 461 [a0, a1] (vI (h g m x.toNat) :: st) h Q := At_guard rfl
set_option maxRecDepth 20000 in
theorem r180_461 : At call ac_180 461 [a0, a1] (vI y :: vI x :: vR g m :: st) h Q ↔ (inA h m 0 x ∧ m ≠ 37) ∧ At call ac_180 462 [a0, a1] st (up3 h g m x.toNat y) Q := At_guard rfl
set_option maxRecDepth 20000 in
theorem r180_462 : At call ac_180 462 [a0, a1] st h Q ↔ At call ac_180 463 [a0, a1] (vI 1 :: st) h Q := At_next rfl
set_option maxRecDepth 20000 in
theorem r180_463 : At call ac_180 463 [a0, a1] [vI x] h Q ↔ (x = 0 ∨ x = 1) ∧ Q (some (vI x)) h := At_guardR rfl
set_option maxRecDepth 20000 in
theorem r180_464 : At call ac_180 464 [vR g m, a1] st h Q ↔ At call ac_180 465 [vR g m, a1] (vR g m :: st) h Q := At_next rfl
set_option maxRecDepth 20000 in
theorem r180_465 : At call ac_180 465 [a0, a1] st h Q ↔ At call ac_180 467 [a0, a1] (vS 8 :: st) h Q := At_next rfl
set_option maxRecDepth 20000 in
theorem r180_467 : At call ac_180 467 [vR g m, a1] st h Q ↔ At call ac_180 468 [vR g m, a1] (vR g m :: st) h Q := At_next rfl
set_option maxRecDepth 20000 in
theorem r180_468 : At call ac_180 468 [a0, a1] (b0 :: st) h Q ↔ st.length ≤ 4 ∧ ∃ v h1, call 170 [b0] h (some v) h1 ∧ At call ac_180 471 [a0, a1] (v :: st) h1 Q := At_gcall rfl
set_option maxRecDepth 20000 in
theorem r180_471 : At call ac_180 471 [a0, a1] st h Q ↔ At call ac_180 472 [a0, a1] (vI (-1) :: st) h Q := At_next rfl
set_option maxRecDepth 20000 in
theorem r180_472 : At call ac_180 472 [a0, a1] (vI y :: vI x :: st) h Q ↔ if x = y then At call ac_180 479 [a0, a1] st h Q else At call ac_180 475 [a0, a1] st h Q := At_br rfl
set_option maxRecDepth 20000 in
theorem r180_475 : At call ac_180 475 [a0, a1] st h Q ↔ At call ac_180 476 [a0, a1] (vI 1 :: st) h Q := At_next rfl
set_option maxRecDepth 20000 in
theorem r180_476 : At call ac_180 476 [a0, a1] st h Q ↔ At call ac_180 480 [a0, a1] st h Q := At_next rfl
set_option maxRecDepth 20000 in
theorem r180_479 : At call ac_180 479 [a0, a1] st h Q ↔ At call ac_180 480 [a0, a1] (vI 0 :: st) h Q := At_next rfl
set_option maxRecDepth 20000 in
theorem r180_480 : At call ac_180 480 [a0, a1] (b2 :: b1 :: b0 :: st) h Q ↔ st.length ≤ 4 ∧ ∃ v h1, call 177 [b0, b1, b2] h (some v) h1 ∧ At call ac_180 483 [a0, a1] (v :: st) h1 Q := At_gcall rfl
set_option maxRecDepth 20000 in
theorem r180_483 : At call ac_180 483 [a0, a1] (vI x :: st) h Q ↔ if x = 0 then At call ac_180 512 [a0, a1] st h Q else At call ac_180 486 [a0, a1] st h Q := At_br rfl
set_option maxRecDepth 20000 in
theorem r180_486 : At call ac_180 486 [vR g m, a1] st h Q ↔ At call ac_180 487 [vR g m, a1] (vR g m :: st) h Q := At_next rfl
set_option maxRecDepth 20000 in
theorem r180_487 : At call ac_180 487 [a0, a1] st h Q ↔ At call ac_180 488 [a0, a1] (vI 0 :: st) h Q := At_next rfl
set_option maxRecDepth 20000 in
theorem r180_488 : At call ac_180 488 [a0, a1] st h Q ↔ At call ac_180 489 [a0, a1] (vI 0 :: st) h Q := At_next rfl
set_option maxRecDepth 20000 in
theorem r180_489 : At call ac_180 489 [vR g m, a1] st h Q ↔ At call ac_180 490 [vR g m, a1] (vR g m :: st) h Q := At_next rfl
set_option maxRecDepth 20000 in
theorem r180_490 : At call ac_180 490 [a0, a1] (vR g 27 :: st) h Q ↔ At call ac_180 493 [a0, a1] (vI (h g 27 7) :: st) h Q := At_next rfl
set_option maxRecDepth 20000 in
theorem r180_493 : At call ac_180 493 [a0, a1] st h Q ↔ At call ac_180 494 [a0, a1] (vI 1 :: st) h Q := At_next rfl
set_option maxRecDepth 20000 in
theorem r180_494 : At call ac_180 494 [a0, a1] (vI y :: vI x :: st) h Q ↔ At call ac_180 495 [a0, a1] (vI (wr (x - y)) :: st) h Q := At_next rfl
set_option maxRecDepth 20000 in
theorem r180_495 : At call ac_180 495 [a0, a1] (b3 :: b2 :: b1 :: b0 :: st) h Q ↔ st.length ≤ 4 ∧ ∃ v h1, call 178 [b0, b1, b2, b3] h (some v) h1 ∧ At call ac_180 498 [a0, a1] (v :: st) h1 Q := At_gcall rfl
set_option maxRecDepth 20000 in
theorem r180_498 : At call ac_180 498 [a0, a1] (vI x :: st) h Q ↔ if x = 0 then At call ac_180 512 [a0, a1] st h Q else At call ac_180 501 [a0, a1] st h Q := At_br rfl
set_option maxRecDepth 20000 in
theorem r180_501 : At call ac_180 501 [vR g m, a1] st h Q ↔ At call ac_180 502 [vR g m, a1] (vR g m :: st) h Q := At_next rfl
set_option maxRecDepth 20000 in
theorem r180_502 : At call ac_180 502 [a0, a1] st h Q ↔ At call ac_180 503 [a0, a1] (vI 1 :: st) h Q := At_next rfl
set_option maxRecDepth 20000 in
theorem r180_503 : At call ac_180 503 [a0, a1] st h Q ↔ At call ac_180 504 [a0, a1] (vI 1 :: st) h Q := At_next rfl
set_option maxRecDepth 20000 in
theorem r180_504 : At call ac_180 504 [a0, a1] st h Q ↔ At call ac_180 506 [a0, a1] (vI 99 :: st) h Q := At_next rfl
set_option maxRecDepth 20000 in
theorem r180_506 : At call ac_180 506 [a0, a1] (b3 :: b2 :: b1 :: b0 :: st) h Q ↔ st.length ≤ 4 ∧ ∃ v h1, call 178 [b0, b1, b2, b3] h (some v) h1 ∧ At call ac_180 509 [a0, a1] (v :: st) h1 Q := At_gcall rfl
set_option maxRecDepth 20000 in
theorem r180_509 : At call ac_180 509 [a0, a1] (vI x :: st) h Q ↔ if x = 0 then At call ac_180 512 [a0, a1] st h Q else At call ac_180 514 [a0, a1] st h Q := At_br rfl
set_option maxRecDepth 20000 in
theorem r180_512 : At call ac_180 512 [a0, a1] st h Q ↔ At call ac_180 513 [a0, a1] (vI 0 :: st) h Q := At_next rfl
set_option maxRecDepth 20000 in
theorem r180_513 : At call ac_180 513 [a0, a1] [vI x] h Q ↔ (x = 0 ∨ x = 1) ∧ Q (some (vI x)) h := At_guardR rfl
set_option maxRecDepth 20000 in
theorem r180_514 : At call ac_180 514 [vR g m, a1] st h Q ↔ At call ac_180 515 [vR g m, a1] (vR g m :: st) h Q := At_next rfl
set_option maxRecDepth 20000 in
theorem r180_515 : At call ac_180 515 [vR g m, a1] st h Q ↔ At call ac_180 516 [vR g m, a1] (vR g m :: st) h Q := At_next rfl
set_option maxRecDepth 20000 in
theorem r180_516 : At call ac_180 516 [a0, a1] (vR g 27 :: st) h Q ↔ At call ac_180 519 [a0, a1] (vR g 36 :: st) h Q := At_next rfl
set_option maxRecDepth 20000 in
theorem r180_519 : At call ac_180 519 [a0, a1] st h Q ↔ At call ac_180 520 [a0, a1] (vI 1 :: st) h Q := At_next rfl
set_option maxRecDepth 20000 in
theorem r180_520 : At call ac_180 520 [a0, a1] (vI x :: vR g m :: st) h Q ↔ inA h m 0 x ∧ At call ac_180 521 [a0, a1] (vI (h g m x.toNat) :: st) h Q := At_guard rfl
set_option maxRecDepth 20000 in
theorem r180_521 : At call ac_180 521 [vR g m, a1] st h Q ↔ At call ac_180 522 [vR g m, a1] (vR g m :: st) h Q := At_next rfl
set_option maxRecDepth 20000 in
theorem r180_522 : At call ac_180 522 [a0, a1] (vR g 27 :: st) h Q ↔ At call ac_180 525 [a0, a1] (vR g 36 :: st) h Q := At_next rfl
set_option maxRecDepth 20000 in
theorem r180_525 : At call ac_180 525 [a0, a1] st h Q ↔ At call ac_180 526 [a0, a1] (vI 0 :: st) h Q := At_next rfl
set_option maxRecDepth 20000 in
theorem r180_526 : At call ac_180 526 [a0, a1] (vI x :: vR g m :: st) h Q ↔ inA h m 0 x ∧ At call ac_180 527 [a0, a1] (vI (h g m x.toNat) :: st) h Q := At_guard rfl
set_option maxRecDepth 20000 in
theorem r180_527 : At call ac_180 527 [a0, a1] (b2 :: b1 :: b0 :: st) h Q ↔ st.length ≤ 4 ∧ ∃ v h1, call 171 [b0, b1, b2] h (some v) h1 ∧ At call ac_180 530 [a0, a1] (v :: st) h1 Q := At_gcall rfl
set_option maxRecDepth 20000 in
theorem r180_530 : At call ac_180 530 [a0, a1] (vI x :: st) h Q ↔ At call ac_180 531 [a0, a1] st h Q := At_next rfl
set_option maxRecDepth 20000 in
theorem r180_531 : At call ac_180 531 [a0, a1] st h Q ↔ At call ac_180 532 [a0, a1] (vI 1 :: st) h Q := At_next rfl
set_option maxRecDepth 20000 in
theorem r180_532 : At call ac_180 532 [a0, a1] [vI x] h Q ↔ (x = 0 ∨ x = 1) ∧ Q (some (vI x)) h := At_guardR rfl
set_option maxRecDepth 20000 in
theorem r180_533 : At call ac_180 533 [vR g m, a1] st h Q ↔ At call ac_180 534 [vR g m, a1] (vR g m :: st) h Q := At_next rfl
set_option maxRecDepth 20000 in
theorem r180_534 : At call ac_180 534 [a0, a1] st h Q ↔ At call ac_180 536 [a0, a1] (vS 9 :: st) h Q := At_next rfl
set_option maxRecDepth 20000 in
theorem r180_536 : At call ac_180 536 [a0, a1] (b1 :: b0 :: st) h Q ↔ st.length ≤ 4 ∧ ∃ v h1, call 176 [b0, b1] h (some v) h1 ∧ At call ac_180 539 [a0, a1] (v :: st) h1 Q := At_gcall rfl
set_option maxRecDepth 20000 in
theorem r180_539 : At call ac_180 539 [a0, a1] (vI x :: st) h Q ↔ if x = 0 then At call ac_180 542 [a0, a1] st h Q else At call ac_180 544 [a0, a1] st h Q := At_br rfl
set_option maxRecDepth 20000 in
theorem r180_542 : At call ac_180 542 [a0, a1] st h Q ↔ At call ac_180 543 [a0, a1] (vI 0 :: st) h Q := At_next rfl
set_option maxRecDepth 20000 in
theorem r180_543 : At call ac_180 543 [a0, a1] [vI x] h Q ↔ (x = 0 ∨ x = 1) ∧ Q (some (vI x)) h := At_guardR rfl
set_option maxRecDepth 20000 in
theorem r180_544 : At call ac_180 544 [vR g m, a1] st h Q ↔ At call ac_180 545 [vR g m, a1] (vR g m :: st) h Q := At_next rfl
set_option maxRecDepth 20000 in
theorem r180_545 : At call ac_180 545 [a0, a1] (vR g 27 :: st) h Q ↔ At call ac_180 548 [a0, a1] (vI (h g 27 24) :: st) h Q := At_next rfl
set_option maxRecDepth 20000 in
theorem r180_548 : At call ac_180 548 [a0, a1] st h Q ↔ At call ac_180 549 [a0, a1] (vI 1 :: st) h Q := At_next rfl
set_option maxRecDepth 20000 in
theorem r180_549 : At call ac_180 549 [a0, a1] (vI y :: vI x :: st) h Q ↔ At call ac_180 550 [a0, a1] (vI (wr (x + y)) :: st) h Q := At_next rfl
set_option maxRecDepth 20000 in
theorem r180_550 : At call ac_180 550 [a0, a1] (vI x :: st) h Q ↔ At call ac_180 551 [a0, vI x] st h Q := At_next rfl
set_option maxRecDepth 20000 in
theorem r180_551 : At call ac_180 551 [vR g m, a1] st h Q ↔ At call ac_180 552 [vR g m, a1] (vR g m :: st) h Q := At_next rfl
set_option maxRecDepth 20000 in
theorem r180_552 : At call ac_180 552 [a0, a1] st h Q ↔ At call ac_180 553 [a0, a1] (vI 0 :: st) h Q := At_next rfl
set_option maxRecDepth 20000 in
theorem r180_553 : At call ac_180 553 [a0, a1] st h Q ↔ At call ac_180 554 [a0, a1] (vI 0 :: st) h Q := At_next rfl
set_option maxRecDepth 20000 in
theorem r180_554 : At call ac_180 554 [a0, a1] st h Q ↔ At call ac_180 556 [a0, a1] (vI 6 :: st) h Q := At_next rfl
set_option maxRecDepth 20000 in
theorem r180_556 : At call ac_180 556 [a0, a1] (b3 :: b2 :: b1 :: b0 :: st) h Q ↔ st.length ≤ 4 ∧ ∃ v h1, call 178 [b0, b1, b2, b3] h (some v) h1 ∧ At call ac_180 559 [a0, a1] (v :: st) h1 Q := At_gcall rfl
set_option maxRecDepth 20000 in
theorem r180_559 : At call ac_180 559 [a0, a1] (vI x :: st) h Q ↔ if x = 0 then At call ac_180 580 [a0, a1] st h Q else At call ac_180 562 [a0, a1] st h Q := At_br rfl
set_option maxRecDepth 20000 in
theorem r180_562 : At call ac_180 562 [vR g m, a1] st h Q ↔ At call ac_180 563 [vR g m, a1] (vR g m :: st) h Q := At_next rfl
set_option maxRecDepth 20000 in
theorem r180_563 : At call ac_180 563 [a0, vI x] st h Q ↔ At call ac_180 564 [a0, vI x] (vI x :: st) h Q := At_next rfl
set_option maxRecDepth 20000 in
theorem r180_564 : At call ac_180 564 [vR g m, a1] st h Q ↔ At call ac_180 565 [vR g m, a1] (vR g m :: st) h Q := At_next rfl
set_option maxRecDepth 20000 in
theorem r180_565 : At call ac_180 565 [vR g m, a1] st h Q ↔ At call ac_180 566 [vR g m, a1] (vR g m :: st) h Q := At_next rfl
set_option maxRecDepth 20000 in
theorem r180_566 : At call ac_180 566 [a0, a1] (vR g 27 :: st) h Q ↔ At call ac_180 569 [a0, a1] (vR g 36 :: st) h Q := At_next rfl
set_option maxRecDepth 20000 in
theorem r180_569 : At call ac_180 569 [a0, a1] st h Q ↔ At call ac_180 570 [a0, a1] (vI 0 :: st) h Q := At_next rfl
set_option maxRecDepth 20000 in
theorem r180_570 : At call ac_180 570 [a0, a1] (vI x :: vR g m :: st) h Q ↔ inA h m 0 x ∧ At call ac_180 571 [a0, a1] (vI (h g m x.toNat) :: st) h Q := At_guard rfl
set_option maxRecDepth 20000 in
theorem r180_571 : At call ac_180 571 [a0, a1] (b1 :: b0 :: st) h Q ↔ st.length ≤ 4 ∧ ∃ v h1, call 186 [b0, b1] h (some v) h1 ∧ At call ac_180 574 [a0, a1] (v :: st) h1 Q := At_gcall rfl
set_option maxRecDepth 20000 in
theorem r180_574 : At call ac_180 574 [a0, a1] (b2 :: b1 :: b0 :: st) h Q ↔ st.length ≤ 4 ∧ ∃ v h1, call 179 [b0, b1, b2] h (some v) h1 ∧ At call ac_180 577 [a0, a1] (v :: st) h1 Q := At_gcall rfl
set_option maxRecDepth 20000 in
theorem r180_577 : At call ac_180 577 [a0, a1] (vI x :: st) h Q ↔ if x = 0 then At call ac_180 580 [a0, a1] st h Q else At call ac_180 582 [a0, a1] st h Q := At_br rfl
set_option maxRecDepth 20000 in
theorem r180_580 : At call ac_180 580 [a0, a1] st h Q ↔ At call ac_180 581 [a0, a1] (vI 0 :: st) h Q := At_next rfl
set_option maxRecDepth 20000 in
theorem r180_581 : At call ac_180 581 [a0, a1] [vI x] h Q ↔ (x = 0 ∨ x = 1) ∧ Q (some (vI x)) h := At_guardR rfl
set_option maxRecDepth 20000 in
theorem r180_582 : At call ac_180 582 [vR g m, a1] st h Q ↔ At call ac_180 583 [vR g m, a1] (vR g m :: st) h Q := At_next rfl
set_option maxRecDepth 20000 in
theorem r180_583 : At call ac_180 583 [vR g m, a1] st h Q ↔ At call ac_180 584 [vR g m, a1] (vR g m :: st) h Q := At_next rfl
set_option maxRecDepth 20000 in
theorem r180_584 : At call ac_180 584 [a0, a1] (vR g 27 :: st) h Q ↔ At call ac_180 587 [a0, a1] (vR g 36 :: st) h Q := At_next rfl
set_option maxRecDepth 20000 in
theorem r180_587 : At call ac_180 587 [a0, a1] st h Q ↔ At call ac_180 588 [a0, a1] (vI 0 :: st) h Q := At_next rfl
set_option maxRecDepth 20000 in
theorem r180_588 : At call ac_180 588 [a0, a1] (vI x :: vR g m :: st) h Q ↔ inA h m 0 x ∧ At call ac_180 589 [a0, a1] (vI (h g m x.toNat) :: st) h Q := At_guard rfl
set_option maxRecDepth 20000 in
theorem r180_589 : At call ac_180 589 [a0, a1] (b1 :: b0 :: st) h Q ↔ st.length ≤ 4 ∧ ∃ h1, call 189 [b0, b1] h none h1 ∧ At call ac_180 592 [a0, a1] st h1 Q := At_gcallv rfl
set_option maxRecDepth 20000 in
theorem r180_592 : At call ac_180 592 [a0, a1] st h Q ↔ At call ac_180 593 [a0, a1] (vI 1 :: st) h Q := At_next rfl
set_option maxRecDepth 20000 in
theorem r180_593 : At call ac_180 593 [a0, a1] [vI x] h Q ↔ (x = 0 ∨ x = 1) ∧ Q (some (vI x)) h := At_guardR rfl
set_option maxRecDepth 20000 in
theorem r180_594 : At call ac_180 594 [a0, a1] st h Q ↔ At call ac_180 595 [a0, a1] (vI 0 :: st) h Q := At_next rfl
set_option maxRecDepth 20000 in
theorem r180_595 : At call ac_180 595 [a0, a1] [vI x] h Q ↔ (x = 0 ∨ x = 1) ∧ Q (some (vI x)) h := At_guardR rfl
theorem r181_0 : At call ac_181 0 [vR g m, a1, a2, a3, a4] st h Q ↔ At call ac_181 1 [vR g m, a1, a2, a3, a4] (vR g m :: st) h Q := At_next rfl
theorem r181_1 : At call ac_181 1 [a0, vI x, a2, a3, a4] st h Q ↔ At call ac_181 2 [a0, vI x, a2, a3, a4] (vI x :: st) h Q := At_next rfl
theorem r181_2 : At call ac_181 2 [a0, a1, a2, a3, a4] (b1 :: b0 :: st) h Q ↔ st.length ≤ 4 ∧ ∃ v h1, call 149 [b0, b1] h (some v) h1 ∧ At call ac_181 5 [a0, a1, a2, a3, a4] (v :: st) h1 Q := At_gcall rfl
theorem r181_5 : At call ac_181 5 [a0, a1, a2, a3, a4] (vI x :: st) h Q ↔ At call ac_181 6 [a0, a1, vI x, a3, a4] st h Q := At_next rfl
theorem r181_6 : At call ac_181 6 [a0, a1, vI x, a3, a4] st h Q ↔ At call ac_181 7 [a0, a1, vI x, a3, a4] (vI x :: st) h Q := At_next rfl
theorem r181_7 : At call ac_181 7 [a0, a1, a2, a3, a4] (vI x :: st) h Q ↔ if x < 0 then At call ac_181 10 [a0, a1, a2, a3, a4] st h Q else At call ac_181 16 [a0, a1, a2, a3, a4] st h Q := At_br rfl
theorem r181_10 : At call ac_181 10 [vR g m, a1, a2, a3, a4] st h Q ↔ At call ac_181 11 [vR g m, a1, a2, a3, a4] (vR g m :: st) h Q := At_next rfl
theorem r181_11 : At call ac_181 11 [a0, a1, vI x, a3, a4] st h Q ↔ At call ac_181 12 [a0, a1, vI x, a3, a4] (vI x :: st) h Q := At_next rfl
theorem r181_12 : At call ac_181 12 [a0, a1, a2, a3, a4] (b1 :: b0 :: st) h Q ↔ st.length ≤ 4 ∧ ∃ v h1, call 142 [b0, b1] h (some v) h1 ∧ At call ac_181 15 [a0, a1, a2, a3, a4] (v :: st) h1 Q := At_gcall rfl
theorem r181_15 : At call ac_181 15 [a0, a1, a2, a3, a4] [vI x] h Q ↔ Q (some (vI x)) h := At_ret rfl
theorem r181_16 : At call ac_181 16 [vR g m, a1, a2, a3, a4] st h Q ↔ At call ac_181 17 [vR g m, a1, a2, a3, a4] (vR g m :: st) h Q := At_next rfl
theorem r181_17 : At call ac_181 17 [vR g m, a1, a2, a3, a4] st h Q ↔ At call ac_181 18 [vR g m, a1, a2, a3, a4] (vR g m :: st) h Q := At_next rfl
theorem r181_18 : At call ac_181 18 [a0, a1, a2, a3, a4] (vR g 27 :: st) h Q ↔ At call ac_181 21 [a0, a1, a2, a3, a4] (vR g 34 :: st) h Q := At_next rfl
theorem r181_21 : At call ac_181 21 [a0, a1, a2, a3, a4] (b1 :: b0 :: st) h Q ↔ st.length ≤ 4 ∧ ∃ h1, call 231 [b0, b1] h none h1 ∧ At call ac_181 24 [a0, a1, a2, a3, a4] st h1 Q := At_gcallv rfl
theorem r181_24 : At call ac_181 24 [vR g m, a1, a2, a3, a4] st h Q ↔ At call ac_181 25 [vR g m, a1, a2, a3, a4] (vR g m :: st) h Q := At_next rfl
theorem r181_25 : At call ac_181 25 [a0, vI x, a2, a3, a4] st h Q ↔ At call ac_181 26 [a0, vI x, a2, a3, a4] (vI x :: st) h Q := At_next rfl
theorem r181_26 : At call ac_181 26 [a0, a1, a2, a3, a4] (vI x :: vR g 27 :: st) h Q ↔ At call ac_181 29 [a0, a1, a2, a3, a4] st (up3 h g 27 23 x) Q := At_next rfl
theorem r181_29 : At call ac_181 29 [vR g m, a1, a2, a3, a4] st h Q ↔ At call ac_181 30 [vR g m, a1, a2, a3, a4] (vR g m :: st) h Q := At_next rfl
theorem r181_30 : At call ac_181 30 [a0, a1, a2, a3, a4] st h Q ↔ At call ac_181 31 [a0, a1, a2, a3, a4] (vI 0 :: st) h Q := At_next rfl
theorem r181_31 : At call ac_181 31 [a0, a1, a2, a3, a4] (vI x :: vR g 27 :: st) h Q ↔ At call ac_181 34 [a0, a1, a2, a3, a4] st (up3 h g 27 24 x) Q := At_next rfl
theorem r181_34 : At call ac_181 34 [a0, a1, a2, a3, a4] st h Q ↔ At call ac_181 35 [a0, a1, a2, a3, a4] (vI 0 :: st) h Q := At_next rfl
theorem r181_35 : At call ac_181 35 [a0, a1, a2, a3, a4] (vI x :: st) h Q ↔ At call ac_181 36 [a0, a1, a2, vI x, a4] st h Q := At_next rfl
theorem r181_36 : At call ac_181 36 [a0, a1, a2, a3, a4] st h Q ↔ At call ac_181 37 [a0, a1, a2, a3, a4] (vI 1 :: st) h Q := At_next rfl
theorem r181_37 : At call ac_181 37 [a0, a1, a2, a3, a4] (vI x :: st) h Q ↔ At call ac_181 39 [a0, a1, a2, a3, vI x] st h Q := At_next rfl
theorem r181_39 : At call ac_181 39 [a0, a1, a2, a3, vI x] st h Q ↔ At call ac_181 41 [a0, a1, a2, a3, vI x] (vI x :: st) h Q := At_next rfl
theorem r181_41 : At call ac_181 41 [a0, a1, a2, a3, a4] (vI x :: st) h Q ↔ if x = 0 then At call ac_181 99 [a0, a1, a2, a3, a4] st h Q else At call ac_181 44 [a0, a1, a2, a3, a4] st h Q := At_br rfl
theorem r181_44 : At call ac_181 44 [vR g m, a1, a2, a3, a4] st h Q ↔ At call ac_181 45 [vR g m, a1, a2, a3, a4] (vR g m :: st) h Q := At_next rfl
theorem r181_45 : At call ac_181 45 [a0, a1, a2, a3, a4] (b0 :: st) h Q ↔ st.length ≤ 4 ∧ ∃ v h1, call 180 [b0] h (some v) h1 ∧ At call ac_181 48 [a0, a1, a2, a3, a4] (v :: st) h1 Q := At_gcall rfl
theorem r181_48 : At call ac_181 48 [a0, a1, a2, a3, a4] (vI x :: st) h Q ↔ At call ac_181 50 [a0, a1, a2, a3, vI x] st h Q := At_next rfl
theorem r181_50 : At call ac_181 50 [a0, a1, a2, a3, vI x] st h Q ↔ At call ac_181 52 [a0, a1, a2, a3, vI x] (vI x :: st) h Q := At_next rfl
theorem r181_52 : At call ac_181 52 [a0, a1, a2, a3, a4] (vI x :: st) h Q ↔ if x = 0 then At call ac_181 58 [a0, a1, a2, a3, a4] st h Q else At call ac_181 55 [a0, a1, a2, a3, a4] st h Q := At_br rfl
theorem r181_55 : At call ac_181 55 [a0, a1, a2, vI x, a4] st h Q ↔ At call ac_181 58 [a0, a1, a2, vI (wr (x + 1)), a4] st h Q := At_next rfl
theorem r181_58 : At call ac_181 58 [a0, a1, a2, a3, vI x] st h Q ↔ At call ac_181 60 [a0, a1, a2, a3, vI x] (vI x :: st) h Q := At_next rfl
theorem r181_60 : At call ac_181 60 [a0, a1, a2, a3, a4] (vI x :: st) h Q ↔ if x = 0 then At call ac_181 83 [a0, a1, a2, a3, a4] st h Q else At call ac_181 63 [a0, a1, a2, a3, a4] st h Q := At_br rfl
theorem r181_63 : At call ac_181 63 [vR g m, a1, a2, a3, a4] st h Q ↔ At call ac_181 64 [vR g m, a1, a2, a3, a4] (vR g m :: st) h Q := At_next rfl
theorem r181_64 : At call ac_181 64 [a0, a1, a2, a3, a4] (vR g 27 :: st) h Q ↔ At call ac_181 67 [a0, a1, a2, a3, a4] (vI (h g 27 24) :: st) h Q := At_next rfl
theorem r181_67 : At call ac_181 67 [vR g m, a1, a2, a3, a4] st h Q ↔ At call ac_181 68 [vR g m, a1, a2, a3, a4] (vR g m :: st) h Q := At_next rfl
theorem r181_68 : At call ac_181 68 [a0, a1, a2, a3, a4] (vR g 27 :: st) h Q ↔ At call ac_181 71 [a0, a1, a2, a3, a4] (vR g 29 :: st) h Q := At_next rfl
theorem r181_71 : At call ac_181 71 [a0, vI x, a2, a3, a4] st h Q ↔ At call ac_181 72 [a0, vI x, a2, a3, a4] (vI x :: st) h Q := At_next rfl
theorem r181_72 : At call ac_181 72 [a0, a1, a2, a3, a4] (vI x :: vR g m :: st) h Q ↔ inA h m 0 x ∧ At call ac_181 73 [a0, a1, a2, a3, a4] (vI (h g m x.toNat) :: st) h Q := At_guard rfl
theorem r181_73 : At call ac_181 73 [a0, a1, a2, a3, a4] (vI y :: vI x :: st) h Q ↔ if x = y then At call ac_181 76 [a0, a1, a2, a3, a4] st h Q else At call ac_181 83 [a0, a1, a2, a3, a4] st h Q := At_br rfl
theorem r181_76 : At call ac_181 76 [vR g m, a1, a2, a3, a4] st h Q ↔ At call ac_181 77 [vR g m, a1, a2, a3, a4] (vR g m :: st) h Q := At_next rfl
theorem r181_77 : At call ac_181 77 [a0, a1, a2, a3, a4] st h Q ↔ At call ac_181 78 [a0, a1, a2, a3, a4] (vI (-1) :: st) h Q := At_next rfl
theorem r181_78 : At call ac_181 78 [a0, a1, a2, a3, a4] (vI x :: vR g 27 :: st) h Q ↔ At call ac_181 81 [a0, a1, a2, a3, a4] st (up3 h g 27 20 x) Q := At_next rfl
theorem r181_81 : At call ac_181 81 [a0, a1, a2, vI x, a4] st h Q ↔ At call ac_181 82 [a0, a1, a2, vI x, a4] (vI x :: st) h Q := At_next rfl
theorem r181_82 : At call ac_181 82 [a0, a1, a2, a3, a4] [vI x] h Q ↔ Q (some (vI x)) h := At_ret rfl
theorem r181_83 : At call ac_181 83 [a0, a1, a2, a3, vI x] st h Q ↔ At call ac_181 85 [a0, a1, a2, a3, vI x] (vI x :: st) h Q := At_next rfl
theorem r181_85 : At call ac_181 85 [a0, a1, a2, a3, a4] (vI x :: st) h Q ↔ if x = 0 then At call ac_181 39 [a0, a1, a2, a3, a4] st h Q else At call ac_181 88 [a0, a1, a2, a3, a4] st h Q := At_br rfl
theorem r181_88 : At call ac_181 88 [vR g m, a1, a2, a3, a4] st h Q ↔ At call ac_181 89 [vR g m, a1, a2, a3, a4] (vR g m :: st) h Q := At_next rfl
theorem r181_89 : At call ac_181 89 [a0, a1, a2, a3, a4] st h Q ↔ At call ac_181 91 [a0, a1, a2, a3, a4] (vI 59 :: st) h Q := At_next rfl
theorem r181_91 : At call ac_181 91 [a0, a1, a2, a3, a4] (b1 :: b0 :: st) h Q ↔ st.length ≤ 4 ∧ ∃ v h1, call 175 [b0, b1] h (some v) h1 ∧ At call ac_181 94 [a0, a1, a2, a3, a4] (v :: st) h1 Q := At_gcall rfl
theorem r181_94 : At call ac_181 94 [a0, a1, a2, a3, a4] (vI x :: st) h Q ↔ At call ac_181 96 [a0, a1, a2, a3, vI x] st h Q := At_next rfl
theorem r181_96 : At call ac_181 96 [a0, a1, a2, a3, a4] st h Q ↔ At call ac_181 39 [a0, a1, a2, a3, a4] st h Q := At_next rfl
theorem r181_99 : At call ac_181 99 [vR g m, a1, a2, a3, a4] st h Q ↔ At call ac_181 100 [vR g m, a1, a2, a3, a4] (vR g m :: st) h Q := At_next rfl
theorem r181_100 : At call ac_181 100 [vR g m, a1, a2, a3, a4] st h Q ↔ At call ac_181 101 [vR g m, a1, a2, a3, a4] (vR g m :: st) h Q := At_next rfl
theorem r181_101 : At call ac_181 101 [a0, a1, a2, a3, a4] (vR g 27 :: st) h Q ↔ At call ac_181 104 [a0, a1, a2, a3, a4] (vI (h g 27 24) :: st) h Q := At_next rfl
theorem r181_104 : At call ac_181 104 [a0, a1, a2, a3, a4] (vI x :: vR g 27 :: st) h Q ↔ At call ac_181 107 [a0, a1, a2, a3, a4] st (up3 h g 27 20 x) Q := At_next rfl
theorem r181_107 : At call ac_181 107 [vR g m, a1, a2, a3, a4] st h Q ↔ At call ac_181 108 [vR g m, a1, a2, a3, a4] (vR g m :: st) h Q := At_next rfl
theorem r181_108 : At call ac_181 108 [vR g m, a1, a2, a3, a4] st h Q ↔ At call ac_181 109 [vR g m, a1, a2, a3, a4] (vR g m :: st) h Q := At_next rfl
theorem r181_109 : At call ac_181 109 [a0, a1, a2, a3, a4] (vR g 27 :: st) h Q ↔ At call ac_181 112 [a0, a1, a2, a3, a4] (vR g 34 :: st) h Q := At_next rfl
theorem r181_112 : At call ac_181 112 [a0, a1, a2, a3, a4] (b1 :: b0 :: st) h Q ↔ st.length ≤ 4 ∧ ∃ h1, call 232 [b0, b1] h none h1 ∧ At call ac_181 115 [a0, a1, a2, a3, a4] st h1 Q := At_gcallv rfl
theorem r181_115 : At call ac_181 115 [vR g m, a1, a2, a3, a4] st h Q ↔ At call ac_181 116 [vR g m, a1, a2, a3, a4] (vR g m :: st) h Q := At_next rfl
theorem r181_116 : At call ac_181 116 [a0, a1, a2, a3, a4] st h Q ↔ At call ac_181 118 [a0, a1, a2, a3, a4] (vI (-6) :: st) h Q := At_next rfl
theorem r181_118 : At call ac_181 118 [a0, a1, a2, a3, a4] (b1 :: b0 :: st) h Q ↔ st.length ≤ 4 ∧ ∃ v h1, call 142 [b0, b1] h (some v) h1 ∧ At call ac_181 121 [a0, a1, a2, a3, a4] (v :: st) h1 Q := At_gcall rfl
theorem r181_121 : At call ac_181 121 [a0, a1, a2, a3, a4] [vI x] h Q ↔ Q (some (vI x)) h := At_ret rfl
theorem r182_0 : At call ac_182 0 [vR g m] st h Q ↔ At call ac_182 1 [vR g m] (vR g m :: st) h Q := At_next rfl
theorem r182_1 : At call ac_182 1 [a0] (vR g 27 :: st) h Q ↔ At call ac_182 4 [a0] (vI (h g 27 20) :: st) h Q := At_next rfl
theorem r182_4 : At call ac_182 4 [a0] [vI x] h Q ↔ Q (some (vI x)) h := At_ret rfl
theorem r183_0 : At call ac_183 0 [a0, a1, a2] st h Q ↔ At call ac_183 1 [a0, a1, a2] (vI 0 :: st) h Q := At_next rfl
theorem r183_1 : At call ac_183 1 [a0, a1, a2] (vI x :: st) h Q ↔ At call ac_183 2 [a0, vI x, a2] st h Q := At_next rfl
theorem r183_2 : At call ac_183 2 [a0, a1, a2] st h Q ↔ At call ac_183 3 [a0, a1, a2] (vI 0 :: st) h Q := At_next rfl
theorem r183_3 : At call ac_183 3 [a0, a1, a2] (vI x :: st) h Q ↔ At call ac_183 4 [a0, a1, vI x] st h Q := At_next rfl
theorem r183_4 : At call ac_183 4 [a0, a1, vI x] st h Q ↔ At call ac_183 5 [a0, a1, vI x] (vI x :: st) h Q := At_next rfl
theorem r183_5 : At call ac_183 5 [vR g m, a1, a2] st h Q ↔ At call ac_183 6 [vR g m, a1, a2] (vR g m :: st) h Q := At_next rfl
theorem r183_6 : At call ac_183 6 [a0, a1, a2] (vR g 27 :: st) h Q ↔ At call ac_183 9 [a0, a1, a2] (vI (h g 27 8) :: st) h Q := At_next rfl
theorem r183_9 : At call ac_183 9 [a0, a1, a2] (vI y :: vI x :: st) h Q ↔ if x < y then At call ac_183 12 [a0, a1, a2] st h Q else At call ac_183 32 [a0, a1, a2] st h Q := At_br rfl
theorem r183_12 : At call ac_183 12 [vR g m, a1, a2] st h Q ↔ At call ac_183 13 [vR g m, a1, a2] (vR g m :: st) h Q := At_next rfl
theorem r183_13 : At call ac_183 13 [a0, a1, a2] (vR g 27 :: st) h Q ↔ At call ac_183 16 [a0, a1, a2] (vR g 25 :: st) h Q := At_next rfl
theorem r183_16 : At call ac_183 16 [a0, a1, vI x] st h Q ↔ At call ac_183 17 [a0, a1, vI x] (vI x :: st) h Q := At_next rfl
theorem r183_17 : At call ac_183 17 [a0, a1, a2] (vI x :: vR g m :: st) h Q ↔ inA h m 0 x ∧ At call ac_183 18 [a0, a1, a2] (vI (h g m x.toNat) :: st) h Q := At_guard rfl
theorem r183_18 : At call ac_183 18 [a0, a1, a2] st h Q ↔ At call ac_183 20 [a0, a1, a2] (vI 100 :: st) h Q := At_next rfl
theorem r183_20 : At call ac_183 20 [a0, a1, a2] (vI y :: vI x :: st) h Q ↔ if x = y then At call ac_183 23 [a0, a1, a2] st h Q else At call ac_183 26 [a0, a1, a2] st h Q := At_br rfl
theorem r183_23 : At call ac_183 23 [a0, vI x, a2] st h Q ↔ At call ac_183 26 [a0, vI (wr (x + 1)), a2] st h Q := At_next rfl
theorem r183_26 : At call ac_183 26 [a0, a1, vI x] st h Q ↔ At call ac_183 29 [a0, a1, vI (wr (x + 1))] st h Q := At_next rfl
theorem r183_29 : At call ac_183 29 [a0, a1, a2] st h Q ↔ At call ac_183 4 [a0, a1, a2] st h Q := At_next rfl
theorem r183_32 : At call ac_183 32 [a0, vI x, a2] st h Q ↔ At call ac_183 33 [a0, vI x, a2] (vI x :: st) h Q := At_next rfl
theorem r183_33 : At call ac_183 33 [a0, a1, a2] [vI x] h Q ↔ Q (some (vI x)) h := At_ret rfl
theorem r184_0 : At call ac_184 0 [a0, a1, a2] st h Q ↔ At call ac_184 1 [a0, a1, a2] (vI 0 :: st) h Q := At_next rfl
theorem r184_1 : At call ac_184 1 [a0, a1, a2] (vI x :: st) h Q ↔ At call ac_184 2 [a0, vI x, a2] st h Q := At_next rfl
theorem r184_2 : At call ac_184 2 [a0, a1, a2] st h Q ↔ At call ac_184 3 [a0, a1, a2] (vI 0 :: st) h Q := At_next rfl
theorem r184_3 : At call ac_184 3 [a0, a1, a2] (vI x :: st) h Q ↔ At call ac_184 4 [a0, a1, vI x] st h Q := At_next rfl
theorem r184_4 : At call ac_184 4 [a0, a1, vI x] st h Q ↔ At call ac_184 5 [a0, a1, vI x] (vI x :: st) h Q := At_next rfl
theorem r184_5 : At call ac_184 5 [vR g m, a1, a2] st h Q ↔ At call ac_184 6 [vR g m, a1, a2] (vR g m :: st) h Q := At_next rfl
theorem r184_6 : At call ac_184 6 [a0, a1, a2] (vR g 27 :: st) h Q ↔ At call ac_184 9 [a0, a1, a2] (vI (h g 27 8) :: st) h Q := At_next rfl
theorem r184_9 : At call ac_184 9 [a0, a1, a2] (vI y :: vI x :: st) h Q ↔ if x < y then At call ac_184 12 [a0, a1, a2] st h Q else At call ac_184 38 [a0, a1, a2] st h Q := At_br rfl
theorem r184_12 : At call ac_184 12 [vR g m, a1, a2] st h Q ↔ At call ac_184 13 [vR g m, a1, a2] (vR g m :: st) h Q := At_next rfl
theorem r184_13 : At call ac_184 13 [a0, a1, a2] (vR g 27 :: st) h Q ↔ At call ac_184 16 [a0, a1, a2] (vR g 25 :: st) h Q := At_next rfl
theorem r184_16 : At call ac_184 16 [a0, a1, vI x] st h Q ↔ At call ac_184 17 [a0, a1, vI x] (vI x :: st) h Q := At_next rfl
theorem r184_17 : At call ac_184 17 [a0, a1, a2] (vI x :: vR g m :: st) h Q ↔ inA h m 0 x ∧ At call ac_184 18 [a0, a1, a2] (vI (h g m x.toNat) :: st) h Q := At_guard rfl
theorem r184_18 : At call ac_184 18 [a0, a1, a2] st h Q ↔ At call ac_184 20 [a0, a1, a2] (vI 100 :: st) h Q := At_next rfl
theorem r184_20 : At call ac_184 20 [a0, a1, a2] (vI y :: vI x :: st) h Q ↔ if x = y then At call ac_184 23 [a0, a1, a2] st h Q else At call ac_184 32 [a0, a1, a2] st h Q := At_br rfl
theorem r184_23 : At call ac_184 23 [a0, vI x, a2] st h Q ↔ At call ac_184 24 [a0, vI x, a2] (vI x :: st) h Q := At_next rfl
theorem r184_24 : At call ac_184 24 [vR g m, a1, a2] st h Q ↔ At call ac_184 25 [vR g m, a1, a2] (vR g m :: st) h Q := At_next rfl
theorem r184_25 : At call ac_184 25 [a0, a1, a2] (vR g 27 :: st) h Q ↔ At call ac_184 28 [a0, a1, a2] (vR g 24 :: st) h Q := At_next rfl
theorem r184_28 : At call ac_184 28 [a0, a1, vI x] st h Q ↔ At call ac_184 29 [a0, a1, vI x] (vI x :: st) h Q := At_next rfl
theorem r184_29 : At call ac_184 29 [a0, a1, a2] (vI x :: vR g m :: st) h Q ↔ inA h m 0 x ∧ At call ac_184 30 [a0, a1, a2] (vI (h g m x.toNat) :: st) h Q := At_guard rfl
theorem r184_30 : At call ac_184 30 [a0, a1, a2] (vI y :: vI x :: st) h Q ↔ At call ac_184 31 [a0, a1, a2] (vI (wr (x + y)) :: st) h Q := At_next rfl
theorem r184_31 : At call ac_184 31 [a0, a1, a2] (vI x :: st) h Q ↔ At call ac_184 32 [a0, vI x, a2] st h Q := At_next rfl
theorem r184_32 : At call ac_184 32 [a0, a1, vI x] st h Q ↔ At call ac_184 35 [a0, a1, vI (wr (x + 1))] st h Q := At_next rfl
theorem r184_35 : At call ac_184 35 [a0, a1, a2] st h Q ↔ At call ac_184 4 [a0, a1, a2] st h Q := At_next rfl
theorem r184_38 : At call ac_184 38 [a0, vI x, a2] st h Q ↔ At call ac_184 39 [a0, vI x, a2] (vI x :: st) h Q := At_next rfl
theorem r184_39 : At call ac_184 39 [a0, a1, a2] [vI x] h Q ↔ Q (some (vI x)) h := At_ret rfl
theorem r185_0 : At call ac_185 0 [a0, a1, a2, a3] st h Q ↔ At call ac_185 1 [a0, a1, a2, a3] (vI (-1) :: st) h Q := At_next rfl
theorem r185_1 : At call ac_185 1 [a0, a1, a2, a3] (vI x :: st) h Q ↔ At call ac_185 2 [a0, a1, vI x, a3] st h Q := At_next rfl
theorem r185_2 : At call ac_185 2 [a0, a1, a2, a3] st h Q ↔ At call ac_185 3 [a0, a1, a2, a3] (vI 0 :: st) h Q := At_next rfl
theorem r185_3 : At call ac_185 3 [a0, a1, a2, a3] (vI x :: st) h Q ↔ At call ac_185 4 [a0, a1, a2, vI x] st h Q := At_next rfl
theorem r185_4 : At call ac_185 4 [a0, a1, a2, vI x] st h Q ↔ At call ac_185 5 [a0, a1, a2, vI x] (vI x :: st) h Q := At_next rfl
theorem r185_5 : At call ac_185 5 [vR g m, a1, a2, a3] st h Q ↔ At call ac_185 6 [vR g m, a1, a2, a3] (vR g m :: st) h Q := At_next rfl
theorem r185_6 : At call ac_185 6 [a0, a1, a2, a3] (vR g 27 :: st) h Q ↔ At call ac_185 9 [a0, a1, a2, a3] (vI (h g 27 8) :: st) h Q := At_next rfl
theorem r185_9 : At call ac_185 9 [a0, a1, a2, a3] (vI y :: vI x :: st) h Q ↔ if x < y then At call ac_185 12 [a0, a1, a2, a3] st h Q else At call ac_185 50 [a0, a1, a2, a3] st h Q := At_br rfl
theorem r185_12 : At call ac_185 12 [vR g m, a1, a2, a3] st h Q ↔ At call ac_185 13 [vR g m, a1, a2, a3] (vR g m :: st) h Q := At_next rfl
theorem r185_13 : At call ac_185 13 [a0, a1, a2, a3] (vR g 27 :: st) h Q ↔ At call ac_185 16 [a0, a1, a2, a3] (vR g 25 :: st) h Q := At_next rfl
theorem r185_16 : At call ac_185 16 [a0, a1, a2, vI x] st h Q ↔ At call ac_185 17 [a0, a1, a2, vI x] (vI x :: st) h Q := At_next rfl
theorem r185_17 : At call ac_185 17 [a0, a1, a2, a3] (vI x :: vR g m :: st) h Q ↔ inA h m 0 x ∧ At call ac_185 18 [a0, a1, a2, a3] (vI (h g m x.toNat) :: st) h Q := At_guard rfl
theorem r185_18 : At call ac_185 18 [a0, vI x, a2, a3] st h Q ↔ At call ac_185 19 [a0, vI x, a2, a3] (vI x :: st) h Q := At_next rfl
theorem r185_19 : At call ac_185 19 [a0, a1, a2, a3] (vI y :: vI x :: st) h Q ↔ if x = y then At call ac_185 22 [a0, a1, a2, a3] st h Q else At call ac_185 44 [a0, a1, a2, a3] st h Q := At_br rfl
theorem r185_22 : At call ac_185 22 [a0, a1, vI x, a3] st h Q ↔ At call ac_185 23 [a0, a1, vI x, a3] (vI x :: st) h Q := At_next rfl
theorem r185_23 : At call ac_185 23 [a0, a1, a2, a3] st h Q ↔ At call ac_185 24 [a0, a1, a2, a3] (vI (-1) :: st) h Q := At_next rfl
theorem r185_24 : At call ac_185 24 [a0, a1, a2, a3] (vI y :: vI x :: st) h Q ↔ if x = y then At call ac_185 42 [a0, a1, a2, a3] st h Q else At call ac_185 27 [a0, a1, a2, a3] st h Q := At_br rfl
theorem r185_27 : At call ac_185 27 [vR g m, a1, a2, a3] st h Q ↔ At call ac_185 28 [vR g m, a1, a2, a3] (vR g m :: st) h Q := At_next rfl
theorem r185_28 : At call ac_185 28 [a0, a1, a2, a3] (vR g 27 :: st) h Q ↔ At call ac_185 31 [a0, a1, a2, a3] (vR g 24 :: st) h Q := At_next rfl
theorem r185_31 : At call ac_185 31 [a0, a1, a2, vI x] st h Q ↔ At call ac_185 32 [a0, a1, a2, vI x] (vI x :: st) h Q := At_next rfl
theorem r185_32 : At call ac_185 32 [a0, a1, a2, a3] (vI x :: vR g m :: st) h Q ↔ inA h m 0 x ∧ At call ac_185 33 [a0, a1, a2, a3] (vI (h g m x.toNat) :: st) h Q := At_guard rfl
theorem r185_33 : At call ac_185 33 [vR g m, a1, a2, a3] st h Q ↔ At call ac_185 34 [vR g m, a1, a2, a3] (vR g m :: st) h Q := At_next rfl
theorem r185_34 : At call ac_185 34 [a0, a1, a2, a3] (vR g 27 :: st) h Q ↔ At call ac_185 37 [a0, a1, a2, a3] (vR g 24 :: st) h Q := At_next rfl
theorem r185_37 : At call ac_185 37 [a0, a1, vI x, a3] st h Q ↔ At call ac_185 38 [a0, a1, vI x, a3] (vI x :: st) h Q := At_next rfl
theorem r185_38 : At call ac_185 38 [a0, a1, a2, a3] (vI x :: vR g m :: st) h Q ↔ inA h m 0 x ∧ At call ac_185 39 [a0, a1, a2, a3] (vI (h g m x.toNat) :: st) h Q := At_guard rfl
theorem r185_39 : At call ac_185 39 [a0, a1, a2, a3] (vI y :: vI x :: st) h Q ↔ if y < x then At call ac_185 42 [a0, a1, a2, a3] st h Q else At call ac_185 44 [a0, a1, a2, a3] st h Q := At_br rfl
theorem r185_42 : At call ac_185 42 [a0, a1, a2, vI x] st h Q ↔ At call ac_185 43 [a0, a1, a2, vI x] (vI x :: st) h Q := At_next rfl
theorem r185_43 : At call ac_185 43 [a0, a1, a2, a3] (vI x :: st) h Q ↔ At call ac_185 44 [a0, a1, vI x, a3] st h Q := At_next rfl
theorem r185_44 : At call ac_185 44 [a0, a1, a2, vI x] st h Q ↔ At call ac_185 47 [a0, a1, a2, vI (wr (x + 1))] st h Q := At_next rfl
theorem r185_47 : At call ac_185 47 [a0, a1, a2, a3] st h Q ↔ At call ac_185 4 [a0, a1, a2, a3] st h Q := At_next rfl
theorem r185_50 : At call ac_185 50 [a0, a1, vI x, a3] st h Q ↔ At call ac_185 51 [a0, a1, vI x, a3] (vI x :: st) h Q := At_next rfl
theorem r185_51 : At call ac_185 51 [a0, a1, a2, a3] [vI x] h Q ↔ Q (some (vI x)) h := At_ret rfl
theorem r186_0 : At call ac_186 0 [a0, vI x] st h Q ↔ At call ac_186 1 [a0, vI x] (vI x :: st) h Q := At_next rfl
theorem r186_1 : At call ac_186 1 [a0, a1] (vI x :: st) h Q ↔ if x = 0 then At call ac_186 44 [a0, a1] st h Q else if x = 1 then At call ac_186 46 [a0, a1] st h Q else if x = 2 then At call ac_186 90 [a0, a1] st h Q else if x = 3 then At call ac_186 109 [a0, a1] st h Q else if x = 4 then At call ac_186 122 [a0, a1] st h Q else if x = 5 then At call ac_186 162 [a0, a1] st h Q else if x = 6 then At call ac_186 175 [a0, a1] st h Q else At call ac_186 202 [a0, a1] st h Q := At_swT (k := 0) (ts := [44, 46, 90, 109, 122, 162, 175]) (d := 202) (L' := [a0, a1]) (st' := st) (h' := h) rfl
theorem r186_44 : At call ac_186 44 [a0, a1] st h Q ↔ At call ac_186 45 [a0, a1] (vI 1 :: st) h Q := At_next rfl
theorem r186_45 : At call ac_186 45 [a0, a1] [vI x] h Q ↔ (x = 0 ∨ x = 1) ∧ Q (some (vI x)) h := At_guardR rfl
theorem r186_46 : At call ac_186 46 [vR g m, a1] st h Q ↔ At call ac_186 47 [vR g m, a1] (vR g m :: st) h Q := At_next rfl
theorem r186_47 : At call ac_186 47 [a0, a1] (vR g 27 :: st) h Q ↔ At call ac_186 50 [a0, a1] (vI (h g 27 7) :: st) h Q := At_next rfl
theorem r186_50 : At call ac_186 50 [a0, a1] (vI x :: st) h Q ↔ if 0 < x then At call ac_186 53 [a0, a1] st h Q else At call ac_186 88 [a0, a1] st h Q := At_br rfl
theorem r186_53 : At call ac_186 53 [vR g m, a1] st h Q ↔ At call ac_186 54 [vR g m, a1] (vR g m :: st) h Q := At_next rfl
theorem r186_54 : At call ac_186 54 [a0, a1] (vR g 27 :: st) h Q ↔ At call ac_186 57 [a0, a1] (vR g 22 :: st) h Q := At_next rfl
theorem r186_57 : At call ac_186 57 [vR g m, a1] st h Q ↔ At call ac_186 58 [vR g m, a1] (vR g m :: st) h Q := At_next rfl
theorem r186_58 : At call ac_186 58 [a0, a1] (vR g 27 :: st) h Q ↔ At call ac_186 61 [a0, a1] (vI (h g 27 9) :: st) h Q := At_next rfl
theorem r186_61 : At call ac_186 61 [a0, a1] (vI x :: vR g m :: st) h Q ↔ inA h m 0 x ∧ At call ac_186 62 [a0, a1] (vI (h g m x.toNat) :: st) h Q := At_guard rfl
theorem r186_62 : At call ac_186 62 [a0, a1] st h Q ↔ At call ac_186 64 [a0, a1] (vI 10 :: st) h Q := At_next rfl
theorem r186_64 : At call ac_186 64 [a0, a1] (vI y :: vI x :: st) h Q ↔ if x < y then At call ac_186 88 [a0, a1] st h Q else At call ac_186 67 [a0, a1] st h Q := At_br rfl
theorem r186_67 : At call ac_186 67 [vR g m, a1] st h Q ↔ At call ac_186 68 [vR g m, a1] (vR g m :: st) h Q := At_next rfl
theorem r186_68 : At call ac_186 68 [a0, a1] (b0 :: st) h Q ↔ st.length ≤ 4 ∧ ∃ v h1, call 183 [b0] h (some v) h1 ∧ At call ac_186 71 [a0, a1] (v :: st) h1 Q := At_gcall rfl
theorem r186_71 : At call ac_186 71 [a0, a1] st h Q ↔ At call ac_186 73 [a0, a1] (vI 6 :: st) h Q := At_next rfl
theorem r186_73 : At call ac_186 73 [a0, a1] (vI y :: vI x :: st) h Q ↔ if x < y then At call ac_186 76 [a0, a1] st h Q else At call ac_186 88 [a0, a1] st h Q := At_br rfl
theorem r186_76 : At call ac_186 76 [vR g m, a1] st h Q ↔ At call ac_186 77 [vR g m, a1] (vR g m :: st) h Q := At_next rfl
theorem r186_77 : At call ac_186 77 [a0, a1] (b0 :: st) h Q ↔ st.length ≤ 4 ∧ ∃ v h1, call 170 [b0] h (some v) h1 ∧ At call ac_186 80 [a0, a1] (v :: st) h1 Q := At_gcall rfl
theorem r186_80 : At call ac_186 80 [a0, a1] st h Q ↔ At call ac_186 81 [a0, a1] (vI (-1) :: st) h Q := At_next rfl
theorem r186_81 : At call ac_186 81 [a0, a1] (vI y :: vI x :: st) h Q ↔ if x = y then At call ac_186 88 [a0, a1] st h Q else At call ac_186 84 [a0, a1] st h Q := At_br rfl
theorem r186_84 : At call ac_186 84 [a0, a1] st h Q ↔ At call ac_186 85 [a0, a1] (vI 1 :: st) h Q := At_next rfl
theorem r186_85 : At call ac_186 85 [a0, a1] st h Q ↔ At call ac_186 89 [a0, a1] st h Q := At_next rfl
theorem r186_88 : At call ac_186 88 [a0, a1] st h Q ↔ At call ac_186 89 [a0, a1] (vI 0 :: st) h Q := At_next rfl
theorem r186_89 : At call ac_186 89 [a0, a1] [vI x] h Q ↔ (x = 0 ∨ x = 1) ∧ Q (some (vI x)) h := At_guardR rfl
theorem r186_90 : At call ac_186 90 [vR g m, a1] st h Q ↔ At call ac_186 91 [vR g m, a1] (vR g m :: st) h Q := At_next rfl
theorem r186_91 : At call ac_186 91 [a0, a1] (vR g 27 :: st) h Q ↔ At call ac_186 94 [a0, a1] (vI (h g 27 9) :: st) h Q := At_next rfl
theorem r186_94 : At call ac_186 94 [a0, a1] st h Q ↔ At call ac_186 95 [a0, a1] (vI 1 :: st) h Q := At_next rfl
theorem r186_95 : At call ac_186 95 [a0, a1] (vI y :: vI x :: st) h Q ↔ At call ac_186 96 [a0, a1] (vI (wr (x + y)) :: st) h Q := At_next rfl
theorem r186_96 : At call ac_186 96 [vR g m, a1] st h Q ↔ At call ac_186 97 [vR g m, a1] (vR g m :: st) h Q := At_next rfl
theorem r186_97 : At call ac_186 97 [a0, a1] (vR g 27 :: st) h Q ↔ At call ac_186 100 [a0, a1] (vI (h g 27 7) :: st) h Q := At_next rfl
theorem r186_100 : At call ac_186 100 [a0, a1] (vI y :: vI x :: st) h Q ↔ if x < y then At call ac_186 103 [a0, a1] st h Q else At call ac_186 107 [a0, a1] st h Q := At_br rfl
theorem r186_103 : At call ac_186 103 [a0, a1] st h Q ↔ At call ac_186 104 [a0, a1] (vI 1 :: st) h Q := At_next rfl
theorem r186_104 : At call ac_186 104 [a0, a1] st h Q ↔ At call ac_186 108 [a0, a1] st h Q := At_next rfl
theorem r186_107 : At call ac_186 107 [a0, a1] st h Q ↔ At call ac_186 108 [a0, a1] (vI 0 :: st) h Q := At_next rfl
theorem r186_108 : At call ac_186 108 [a0, a1] [vI x] h Q ↔ (x = 0 ∨ x = 1) ∧ Q (some (vI x)) h := At_guardR rfl
theorem r186_109 : At call ac_186 109 [vR g m, a1] st h Q ↔ At call ac_186 110 [vR g m, a1] (vR g m :: st) h Q := At_next rfl
theorem r186_110 : At call ac_186 110 [a0, a1] (vR g 27 :: st) h Q ↔ At call ac_186 113 [a0, a1] (vI (h g 27 9) :: st) h Q := At_next rfl
theorem r186_113 : At call ac_186 113 [a0, a1] (vI x :: st) h Q ↔ if 0 < x then At call ac_186 116 [a0, a1] st h Q else At call ac_186 120 [a0, a1] st h Q := At_br rfl
theorem r186_116 : At call ac_186 116 [a0, a1] st h Q ↔ At call ac_186 117 [a0, a1] (vI 1 :: st) h Q := At_next rfl
theorem r186_117 : At call ac_186 117 [a0, a1] st h Q ↔ At call ac_186 121 [a0, a1] st h Q := At_next rfl
theorem r186_120 : At call ac_186 120 [a0, a1] st h Q ↔ At call ac_186 121 [a0, a1] (vI 0 :: st) h Q := At_next rfl
theorem r186_121 : At call ac_186 121 [a0, a1] [vI x] h Q ↔ (x = 0 ∨ x = 1) ∧ Q (some (vI x)) h := At_guardR rfl
theorem r186_122 : At call ac_186 122 [vR g m, a1] st h Q ↔ At call ac_186 123 [vR g m, a1] (vR g m :: st) h Q := At_next rfl
theorem r186_123 : At call ac_186 123 [a0, a1] (vR g 27 :: st) h Q ↔ At call ac_186 126 [a0, a1] (vI (h g 27 11) :: st) h Q := At_next rfl
theorem r186_126 : At call ac_186 126 [vR g m, a1] st h Q ↔ At call ac_186 127 [vR g m, a1] (vR g m :: st) h Q := At_next rfl
theorem r186_127 : At call ac_186 127 [a0, a1] (vR g 27 :: st) h Q ↔ At call ac_186 130 [a0, a1] (vI (h g 27 15) :: st) h Q := At_next rfl
theorem r186_130 : At call ac_186 130 [a0, a1] (vI y :: vI x :: st) h Q ↔ if x < y then At call ac_186 133 [a0, a1] st h Q else At call ac_186 160 [a0, a1] st h Q := At_br rfl
theorem r186_133 : At call ac_186 133 [vR g m, a1] st h Q ↔ At call ac_186 134 [vR g m, a1] (vR g m :: st) h Q := At_next rfl
theorem r186_134 : At call ac_186 134 [a0, a1] (b0 :: st) h Q ↔ st.length ≤ 4 ∧ ∃ v h1, call 183 [b0] h (some v) h1 ∧ At call ac_186 137 [a0, a1] (v :: st) h1 Q := At_gcall rfl
theorem r186_137 : At call ac_186 137 [a0, a1] (vI x :: st) h Q ↔ if 0 < x then At call ac_186 140 [a0, a1] st h Q else At call ac_186 160 [a0, a1] st h Q := At_br rfl
theorem r186_140 : At call ac_186 140 [vR g m, a1] st h Q ↔ At call ac_186 141 [vR g m, a1] (vR g m :: st) h Q := At_next rfl
theorem r186_141 : At call ac_186 141 [a0, a1] (vR g 27 :: st) h Q ↔ At call ac_186 144 [a0, a1] (vR g 24 :: st) h Q := At_next rfl
theorem r186_144 : At call ac_186 144 [vR g m, a1] st h Q ↔ At call ac_186 145 [vR g m, a1] (vR g m :: st) h Q := At_next rfl
theorem r186_145 : At call ac_186 145 [a0, a1] st h Q ↔ At call ac_186 147 [a0, a1] (vI 100 :: st) h Q := At_next rfl
theorem r186_147 : At call ac_186 147 [a0, a1] (b1 :: b0 :: st) h Q ↔ st.length ≤ 4 ∧ ∃ v h1, call 185 [b0, b1] h (some v) h1 ∧ At call ac_186 150 [a0, a1] (v :: st) h1 Q := At_gcall rfl
theorem r186_150 : At call ac_186 150 [a0, a1] (vI x :: vR g m :: st) h Q ↔ inA h m 0 x ∧ At call ac_186 151 [a0, a1] (vI (h g m x.toNat) :: st) h Q := At_guard rfl
theorem r186_151 : At call ac_186 151 [a0, a1] st h Q ↔ At call ac_186 153 [a0, a1] (vI 10 :: st) h Q := At_next rfl
theorem r186_153 : At call ac_186 153 [a0, a1] (vI y :: vI x :: st) h Q ↔ if x < y then At call ac_186 160 [a0, a1] st h Q else At call ac_186 156 [a0, a1] st h Q := At_br rfl
theorem r186_156 : At call ac_186 156 [a0, a1] st h Q ↔ At call ac_186 157 [a0, a1] (vI 1 :: st) h Q := At_next rfl
theorem r186_157 : At call ac_186 157 [a0, a1] st h Q ↔ At call ac_186 161 [a0, a1] st h Q := At_next rfl
theorem r186_160 : At call ac_186 160 [a0, a1] st h Q ↔ At call ac_186 161 [a0, a1] (vI 0 :: st) h Q := At_next rfl
theorem r186_161 : At call ac_186 161 [a0, a1] [vI x] h Q ↔ (x = 0 ∨ x = 1) ∧ Q (some (vI x)) h := At_guardR rfl
theorem r186_162 : At call ac_186 162 [vR g m, a1] st h Q ↔ At call ac_186 163 [vR g m, a1] (vR g m :: st) h Q := At_next rfl
theorem r186_163 : At call ac_186 163 [a0, a1] (b0 :: st) h Q ↔ st.length ≤ 4 ∧ ∃ v h1, call 183 [b0] h (some v) h1 ∧ At call ac_186 166 [a0, a1] (v :: st) h1 Q := At_gcall rfl
theorem r186_166 : At call ac_186 166 [a0, a1] (vI x :: st) h Q ↔ if 0 < x then At call ac_186 169 [a0, a1] st h Q else At call ac_186 173 [a0, a1] st h Q := At_br rfl
theorem r186_169 : At call ac_186 169 [a0, a1] st h Q ↔ At call ac_186 170 [a0, a1] (vI 1 :: st) h Q := At_next rfl
theorem r186_170 : At call ac_186 170 [a0, a1] st h Q ↔ At call ac_186 174 [a0, a1] st h Q := At_next rfl
theorem r186_173 : At call ac_186 173 [a0, a1] st h Q ↔ At call ac_186 174 [a0, a1] (vI 0 :: st) h Q := At_next rfl
theorem r186_174 : At call ac_186 174 [a0, a1] [vI x] h Q ↔ (x = 0 ∨ x = 1) ∧ Q (some (vI x)) h := At_guardR rfl
theorem r186_175 : At call ac_186 175 [vR g m, a1] st h Q ↔ At call ac_186 176 [vR g m, a1] (vR g m :: st) h Q := At_next rfl
theorem r186_176 : At call ac_186 176 [vR g m, a1] st h Q ↔ At call ac_186 177 [vR g m, a1] (vR g m :: st) h Q := At_next rfl
theorem r186_177 : At call ac_186 177 [a0, a1] (vR g 27 :: st) h Q ↔ At call ac_186 180 [a0, a1] (vI (h g 27 9) :: st) h Q := At_next rfl
theorem r186_180 : At call ac_186 180 [a0, a1] (b1 :: b0 :: st) h Q ↔ st.length ≤ 4 ∧ ∃ v h1, call 185 [b0, b1] h (some v) h1 ∧ At call ac_186 183 [a0, a1] (v :: st) h1 Q := At_gcall rfl
theorem r186_183 : At call ac_186 183 [a0, a1] st h Q ↔ At call ac_186 184 [a0, a1] (vI (-1) :: st) h Q := At_next rfl
theorem r186_184 : At call ac_186 184 [a0, a1] (vI y :: vI x :: st) h Q ↔ if x = y then At call ac_186 200 [a0, a1] st h Q else At call ac_186 187 [a0, a1] st h Q := At_br rfl
theorem r186_187 : At call ac_186 187 [vR g m, a1] st h Q ↔ At call ac_186 188 [vR g m, a1] (vR g m :: st) h Q := At_next rfl
theorem r186_188 : At call ac_186 188 [a0, a1] (b0 :: st) h Q ↔ st.length ≤ 4 ∧ ∃ v h1, call 183 [b0] h (some v) h1 ∧ At call ac_186 191 [a0, a1] (v :: st) h1 Q := At_gcall rfl
theorem r186_191 : At call ac_186 191 [a0, a1] st h Q ↔ At call ac_186 193 [a0, a1] (vI 6 :: st) h Q := At_next rfl
theorem r186_193 : At call ac_186 193 [a0, a1] (vI y :: vI x :: st) h Q ↔ if x < y then At call ac_186 196 [a0, a1] st h Q else At call ac_186 200 [a0, a1] st h Q := At_br rfl
theorem r186_196 : At call ac_186 196 [a0, a1] st h Q ↔ At call ac_186 197 [a0, a1] (vI 1 :: st) h Q := At_next rfl
theorem r186_197 : At call ac_186 197 [a0, a1] st h Q ↔ At call ac_186 201 [a0, a1] st h Q := At_next rfl
theorem r186_200 : At call ac_186 200 [a0, a1] st h Q ↔ At call ac_186 201 [a0, a1] (vI 0 :: st) h Q := At_next rfl
theorem r186_201 : At call ac_186 201 [a0, a1] [vI x] h Q ↔ (x = 0 ∨ x = 1) ∧ Q (some (vI x)) h := At_guardR rfl
theorem r186_202 : At call ac_186 202 [a0, a1] st h Q ↔ At call ac_186 203 [a0, a1] (vI 0 :: st) h Q := At_next rfl
theorem r186_203 : At call ac_186 203 [a0, a1] [vI x] h Q ↔ (x = 0 ∨ x = 1) ∧ Q (some (vI x)) h := At_guardR rfl
theorem r187_0 : At call ac_187 0 [a0, vI x, a2] st h Q ↔ At call ac_187 1 [a0, vI x, a2] (vI x :: st) h Q := At_next rfl
theorem r187_1 : At call ac_187 1 [a0, a1, a2] (vI x :: st) h Q ↔ if x = 1 then At call ac_187 40 [a0, a1, a2] st h Q else if x = 2 then At call ac_187 71 [a0, a1, a2] st h Q else if x = 3 then At call ac_187 82 [a0, a1, a2] st h Q else if x = 4 then At call ac_187 93 [a0, a1, a2] st h Q else if x = 5 then At call ac_187 134 [a0, a1, a2] st h Q else if x = 6 then At call ac_187 172 [a0, a1, a2] st h Q else At call ac_187 188 [a0, a1, a2] st h Q := At_swT (k := 1) (ts := [40, 71, 82, 93, 134, 172]) (d := 188) (L' := [a0, a1, a2]) (st' := st) (h' := h) rfl
theorem r187_40 : At call ac_187 40 [vR g m, a1, a2] st h Q ↔ At call ac_187 41 [vR g m, a1, a2] (vR g m :: st) h Q := At_next rfl
theorem r187_41 : At call ac_187 41 [vR g m, a1, a2] st h Q ↔ At call ac_187 42 [vR g m, a1, a2] (vR g m :: st) h Q := At_next rfl
theorem r187_42 : At call ac_187 42 [a0, a1, a2] (vR g 27 :: st) h Q ↔ At call ac_187 45 [a0, a1, a2] (vR g 22 :: st) h Q := At_next rfl
theorem r187_45 : At call ac_187 45 [vR g m, a1, a2] st h Q ↔ At call ac_187 46 [vR g m, a1, a2] (vR g m :: st) h Q := At_next rfl
theorem r187_46 : At call ac_187 46 [a0, a1, a2] (vR g 27 :: st) h Q ↔ At call ac_187 49 [a0, a1, a2] (vI (h g 27 9) :: st) h Q := At_next rfl
theorem r187_49 : At call ac_187 49 [a0, a1, a2] (vI x :: vR g m :: st) h Q ↔ inA h m 0 x ∧ At call ac_187 50 [a0, a1, a2] (vI (h g m x.toNat) :: st) h Q := At_guard rfl
theorem r187_50 : At call ac_187 50 [a0, a1, a2] st h Q ↔ At call ac_187 52 [a0, a1, a2] (vI 100 :: st) h Q := At_next rfl
theorem r187_52 : At call ac_187 52 [a0, a1, a2] (b2 :: b1 :: b0 :: st) h Q ↔ st.length ≤ 4 ∧ ∃ v h1, call 171 [b0, b1, b2] h (some v) h1 ∧ At call ac_187 55 [a0, a1, a2] (v :: st) h1 Q := At_gcall rfl
theorem r187_55 : At call ac_187 55 [a0, a1, a2] (vI x :: st) h Q ↔ At call ac_187 56 [a0, a1, a2] st h Q := At_next rfl
theorem r187_56 : At call ac_187 56 [vR g m, a1, a2] st h Q ↔ At call ac_187 57 [vR g m, a1, a2] (vR g m :: st) h Q := At_next rfl
theorem r187_57 : At call ac_187 57 [a0, a1, a2] (vR g 27 :: st) h Q ↔ At call ac_187 60 [a0, a1, a2] (vR g 22 :: st) h Q := At_next rfl
theorem r187_60 : At call ac_187 60 [vR g m, a1, a2] st h Q ↔ At call ac_187 61 [vR g m, a1, a2] (vR g m :: st) h Q := At_next rfl
theorem r187_61 : At call ac_187 61 [a0, a1, a2] (vR g 27 :: st) h Q ↔ At call ac_187 64 [a0, a1, a2] (vI (h g 27 9) :: st) h Q := At_next rfl
theorem r187_64 : At call ac_187 64 [a0, a1, a2] (vI x :: vR g m :: st) h Q ↔ At call ac_187 65 [a0, a1, a2] (vI x :: vR g m :: vI x :: vR g m :: st) h Q := At_next rfl
theorem r187_65 : At call ac_187 65 [a0, a1, a2] (vI x :: vR g m :: st) h Q ↔ inA h m 0 x ∧ At call ac_187 66 [a0, a1, a2] (vI (h g m x.toNat) :: st) h Q := At_guard rfl
theorem r187_66 : At call ac_187 66 [a0, a1, a2] st h Q ↔ At call ac_187 68 [a0, a1, a2] (vI 10 :: st) h Q := At_next rfl
theorem r187_68 : At call ac_187 68 [a0, a1, a2] (vI y :: vI x :: st) h Q ↔ At call ac_187 69 [a0, a1, a2] (vI (wr (x - y)) :: st) h Q := At_next rfl
theorem r187_69 : At call ac_187 69 [a0, a1, a2] (vI y :: vI x :: vR g m :: st) h Q ↔ (inA h m 0 x ∧ m ≠ 37) ∧ At call ac_187 70 [a0, a1, a2] st (up3 h g m x.toNat y) Q := At_guard rfl
theorem r187_70 : At call ac_187 70 [a0, a1, a2] [] h Q ↔ Q none h := At_ret rfl
theorem r187_71 : At call ac_187 71 [vR g m, a1, a2] st h Q ↔ At call ac_187 72 [vR g m, a1, a2] (vR g m :: st) h Q := At_next rfl
theorem r187_72 : At call ac_187 72 [a0, a1, a2] (vI x :: st) h Q ↔ At call ac_187 73 [a0, a1, a2] (vI x :: vI x :: st) h Q := At_next rfl
theorem r187_72r : At call ac_187 72 [a0, a1, a2] (.inr (.inr v) :: st) h Q ↔ At call ac_187 73 [a0, a1, a2] (.inr (.inr v) :: .inr (.inr v) :: st) h Q := At_next rfl
theorem r187_73 : At call ac_187 73 [a0, a1, a2] (vR g 27 :: st) h Q ↔ At call ac_187 76 [a0, a1, a2] (vI (h g 27 9) :: st) h Q := At_next rfl
theorem r187_76 : At call ac_187 76 [a0, a1, a2] st h Q ↔ At call ac_187 77 [a0, a1, a2] (vI 1 :: st) h Q := At_next rfl
theorem r187_77 : At call ac_187 77 [a0, a1, a2] (vI y :: vI x :: st) h Q ↔ At call ac_187 78 [a0, a1, a2] (vI (wr (x + y)) :: st) h Q := At_next rfl
theorem r187_78 : At call ac_187 78 [a0, a1, a2] (vI x :: vR g 27 :: st) h Q ↔ At call ac_187 81 [a0, a1, a2] st (up3 h g 27 9 x) Q := At_next rfl
theorem r187_81 : At call ac_187 81 [a0, a1, a2] [] h Q ↔ Q none h := At_ret rfl
theorem r187_82 : At call ac_187 82 [vR g m, a1, a2] st h Q ↔ At call ac_187 83 [vR g m, a1, a2] (vR g m :: st) h Q := At_next rfl
theorem r187_83 : At call ac_187 83 [a0, a1, a2] (vI x :: st) h Q ↔ At call ac_187 84 [a0, a1, a2] (vI x :: vI x :: st) h Q := At_next rfl
theorem r187_83r : At call ac_187 83 [a0, a1, a2] (.inr (.inr v) :: st) h Q ↔ At call ac_187 84 [a0, a1, a2] (.inr (.inr v) :: .inr (.inr v) :: st) h Q := At_next rfl
theorem r187_84 : At call ac_187 84 [a0, a1, a2] (vR g 27 :: st) h Q ↔ At call ac_187 87 [a0, a1, a2] (vI (h g 27 9) :: st) h Q := At_next rfl
theorem r187_87 : At call ac_187 87 [a0, a1, a2] st h Q ↔ At call ac_187 88 [a0, a1, a2] (vI 1 :: st) h Q := At_next rfl
theorem r187_88 : At call ac_187 88 [a0, a1, a2] (vI y :: vI x :: st) h Q ↔ At call ac_187 89 [a0, a1, a2] (vI (wr (x - y)) :: st) h Q := At_next rfl
theorem r187_89 : At call ac_187 89 [a0, a1, a2] (vI x :: vR g 27 :: st) h Q ↔ At call ac_187 92 [a0, a1, a2] st (up3 h g 27 9 x) Q := At_next rfl
theorem r187_92 : At call ac_187 92 [a0, a1, a2] [] h Q ↔ Q none h := At_ret rfl
theorem r187_93 : At call ac_187 93 [vR g m, a1, a2] st h Q ↔ At call ac_187 94 [vR g m, a1, a2] (vR g m :: st) h Q := At_next rfl
theorem r187_94 : At call ac_187 94 [a0, a1, a2] st h Q ↔ At call ac_187 96 [a0, a1, a2] (vI 100 :: st) h Q := At_next rfl
theorem r187_96 : At call ac_187 96 [a0, a1, a2] (b1 :: b0 :: st) h Q ↔ st.length ≤ 4 ∧ ∃ v h1, call 185 [b0, b1] h (some v) h1 ∧ At call ac_187 99 [a0, a1, a2] (v :: st) h1 Q := At_gcall rfl
theorem r187_99 : At call ac_187 99 [a0, a1, a2] (vI x :: st) h Q ↔ At call ac_187 100 [a0, a1, vI x] st h Q := At_next rfl
theorem r187_100 : At call ac_187 100 [vR g m, a1, a2] st h Q ↔ At call ac_187 101 [vR g m, a1, a2] (vR g m :: st) h Q := At_next rfl
theorem r187_101 : At call ac_187 101 [a0, a1, a2] st h Q ↔ At call ac_187 103 [a0, a1, a2] (vI 99999 :: st) h Q := At_next rfl
theorem r187_103 : At call ac_187 103 [vR g m, a1, a2] st h Q ↔ At call ac_187 104 [vR g m, a1, a2] (vR g m :: st) h Q := At_next rfl
theorem r187_104 : At call ac_187 104 [a0, a1, a2] (vR g 27 :: st) h Q ↔ At call ac_187 107 [a0, a1, a2] (vI (h g 27 10) :: st) h Q := At_next rfl
theorem r187_107 : At call ac_187 107 [vR g m, a1, a2] st h Q ↔ At call ac_187 108 [vR g m, a1, a2] (vR g m :: st) h Q := At_next rfl
theorem r187_108 : At call ac_187 108 [a0, a1, a2] (vR g 27 :: st) h Q ↔ At call ac_187 111 [a0, a1, a2] (vR g 26 :: st) h Q := At_next rfl
theorem r187_111 : At call ac_187 111 [vR g m, a1, a2] st h Q ↔ At call ac_187 112 [vR g m, a1, a2] (vR g m :: st) h Q := At_next rfl
theorem r187_112 : At call ac_187 112 [a0, a1, a2] (vR g 27 :: st) h Q ↔ At call ac_187 115 [a0, a1, a2] (vR g 24 :: st) h Q := At_next rfl
theorem r187_115 : At call ac_187 115 [a0, a1, vI x] st h Q ↔ At call ac_187 116 [a0, a1, vI x] (vI x :: st) h Q := At_next rfl
theorem r187_116 : At call ac_187 116 [a0, a1, a2] (vI x :: vR g m :: st) h Q ↔ inA h m 0 x ∧ At call ac_187 117 [a0, a1, a2] (vI (h g m x.toNat) :: st) h Q := At_guard rfl
theorem r187_117 : At call ac_187 117 [a0, a1, a2] (b0 :: st) h Q ↔ st.length ≤ 4 ∧ ∃ v h1, call 162 [b0] h (some v) h1 ∧ At call ac_187 120 [a0, a1, a2] (v :: st) h1 Q := At_gcall rfl
theorem r187_120 : At call ac_187 120 [a0, a1, a2] (vI x :: vR g m :: st) h Q ↔ inA h m 0 x ∧ At call ac_187 121 [a0, a1, a2] (vI (h g m x.toNat) :: st) h Q := At_guard rfl
theorem r187_121 : At call ac_187 121 [a0, a1, a2] (vI y :: vI x :: st) h Q ↔ At call ac_187 122 [a0, a1, a2] (vI (wr (x + y)) :: st) h Q := At_next rfl
theorem r187_122 : At call ac_187 122 [a0, a1, a2] (vI y :: vI x :: st) h Q ↔ st.length ≤ 4 ∧ At call ac_187 125 [a0, a1, a2] (vI (amin x y) :: st) h Q := At_guard rfl
theorem r187_125 : At call ac_187 125 [a0, a1, a2] (vI x :: vR g 27 :: st) h Q ↔ At call ac_187 128 [a0, a1, a2] st (up3 h g 27 10 x) Q := At_next rfl
theorem r187_128 : At call ac_187 128 [vR g m, a1, a2] st h Q ↔ At call ac_187 129 [vR g m, a1, a2] (vR g m :: st) h Q := At_next rfl
theorem r187_129 : At call ac_187 129 [a0, a1, vI x] st h Q ↔ At call ac_187 130 [a0, a1, vI x] (vI x :: st) h Q := At_next rfl
theorem r187_130 : At call ac_187 130 [a0, a1, a2] (b1 :: b0 :: st) h Q ↔ st.length ≤ 4 ∧ ∃ h1, call 188 [b0, b1] h none h1 ∧ At call ac_187 133 [a0, a1, a2] st h1 Q := At_gcallv rfl
theorem r187_133 : At call ac_187 133 [a0, a1, a2] [] h Q ↔ Q none h := At_ret rfl
theorem r187_134 : At call ac_187 134 [a0, a1, a2] st h Q ↔ At call ac_187 135 [a0, a1, a2] (vI 0 :: st) h Q := At_next rfl
theorem r187_135 : At call ac_187 135 [a0, a1, a2] (vI x :: st) h Q ↔ At call ac_187 136 [a0, a1, vI x] st h Q := At_next rfl
theorem r187_136 : At call ac_187 136 [a0, a1, vI x] st h Q ↔ At call ac_187 137 [a0, a1, vI x] (vI x :: st) h Q := At_next rfl
theorem r187_137 : At call ac_187 137 [vR g m, a1, a2] st h Q ↔ At call ac_187 138 [vR g m, a1, a2] (vR g m :: st) h Q := At_next rfl
theorem r187_138 : At call ac_187 138 [a0, a1, a2] (vR g 27 :: st) h Q ↔ At call ac_187 141 [a0, a1, a2] (vI (h g 27 8) :: st) h Q := At_next rfl
theorem r187_141 : At call ac_187 141 [a0, a1, a2] (vI y :: vI x :: st) h Q ↔ if x < y then At call ac_187 144 [a0, a1, a2] st h Q else At call ac_187 171 [a0, a1, a2] st h Q := At_br rfl
theorem r187_144 : At call ac_187 144 [vR g m, a1, a2] st h Q ↔ At call ac_187 145 [vR g m, a1, a2] (vR g m :: st) h Q := At_next rfl
theorem r187_145 : At call ac_187 145 [a0, a1, a2] (vR g 27 :: st) h Q ↔ At call ac_187 148 [a0, a1, a2] (vR g 25 :: st) h Q := At_next rfl
theorem r187_148 : At call ac_187 148 [a0, a1, vI x] st h Q ↔ At call ac_187 149 [a0, a1, vI x] (vI x :: st) h Q := At_next rfl
theorem r187_149 : At call ac_187 149 [a0, a1, a2] (vI x :: vR g m :: st) h Q ↔ inA h m 0 x ∧ At call ac_187 150 [a0, a1, a2] (vI (h g m x.toNat) :: st) h Q := At_guard rfl
theorem r187_150 : At call ac_187 150 [a0, a1, a2] st h Q ↔ At call ac_187 152 [a0, a1, a2] (vI 100 :: st) h Q := At_next rfl
theorem r187_152 : At call ac_187 152 [a0, a1, a2] (vI y :: vI x :: st) h Q ↔ if x = y then At call ac_187 155 [a0, a1, a2] st h Q else At call ac_187 165 [a0, a1, a2] st h Q := At_br rfl
theorem r187_155 : At call ac_187 155 [vR g m, a1, a2] st h Q ↔ At call ac_187 156 [vR g m, a1, a2] (vR g m :: st) h Q := At_next rfl
theorem r187_156 : At call ac_187 156 [a0, a1, a2] (vR g 27 :: st) h Q ↔ At call ac_187 159 [a0, a1, a2] (vR g 25 :: st) h Q := At_next rfl
theorem r187_159 : At call ac_187 159 [a0, a1, vI x] st h Q ↔ At call ac_187 160 [a0, a1, vI x] (vI x :: st) h Q := At_next rfl
theorem r187_160 : At call ac_187 160 [vR g m, a1, a2] st h Q ↔ At call ac_187 161 [vR g m, a1, a2] (vR g m :: st) h Q := At_next rfl
theorem r187_161 : At call ac_187 161 [a0, a1, a2] (vR g 27 :: st) h Q ↔ At call ac_187 164 [a0, a1, a2] (vI (h g 27 9) :: st) h Q := At_next rfl
theorem r187_164 : At call ac_187 164 [a0, a1, a2] (vI y :: vI x :: vR g m :: st) h Q ↔ (inA h m 0 x ∧ m ≠ 37) ∧ At call ac_187 165 [a0, a1, a2] st (up3 h g m x.toNat y) Q := At_guard rfl
theorem r187_165 : At call ac_187 165 [a0, a1, vI x] st h Q ↔ At call ac_187 168 [a0, a1, vI (wr (x + 1))] st h Q := At_next rfl
theorem r187_168 : At call ac_187 168 [a0, a1, a2] st h Q ↔ At call ac_187 136 [a0, a1, a2] st h Q := At_next rfl
theorem r187_171 : At call ac_187 171 [a0, a1, a2] [] h Q ↔ Q none h := At_ret rfl
theorem r187_172 : At call ac_187 172 [vR g m, a1, a2] st h Q ↔ At call ac_187 173 [vR g m, a1, a2] (vR g m :: st) h Q := At_next rfl
theorem r187_173 : At call ac_187 173 [a0, a1, a2] (vR g 27 :: st) h Q ↔ At call ac_187 176 [a0, a1, a2] (vR g 25 :: st) h Q := At_next rfl
theorem r187_176 : At call ac_187 176 [vR g m, a1, a2] st h Q ↔ At call ac_187 177 [vR g m, a1, a2] (vR g m :: st) h Q := At_next rfl
theorem r187_177 : At call ac_187 177 [vR g m, a1, a2] st h Q ↔ At call ac_187 178 [vR g m, a1, a2] (vR g m :: st) h Q := At_next rfl
theorem r187_178 : At call ac_187 178 [a0, a1, a2] (vR g 27 :: st) h Q ↔ At call ac_187 181 [a0, a1, a2] (vI (h g 27 9) :: st) h Q := At_next rfl
theorem r187_181 : At call ac_187 181 [a0, a1, a2] (b1 :: b0 :: st) h Q ↔ st.length ≤ 4 ∧ ∃ v h1, call 185 [b0, b1] h (some v) h1 ∧ At call ac_187 184 [a0, a1, a2] (v :: st) h1 Q := At_gcall rfl
theorem r187_184 : At call ac_187 184 [a0, a1, a2] st h Q ↔ At call ac_187 186 [a0, a1, a2] (vI 100 :: st) h Q := At_next rfl
theorem r187_186 : At call ac_187 186 [a0, a1, a2] (vI y :: vI x :: vR g m :: st) h Q ↔ (inA h m 0 x ∧ m ≠ 37) ∧ At call ac_187 187 [a0, a1, a2] st (up3 h g m x.toNat y) Q := At_guard rfl
theorem r187_187 : At call ac_187 187 [a0, a1, a2] [] h Q ↔ Q none h := At_ret rfl
theorem r187_188 : At call ac_187 188 [a0, a1, a2] [] h Q ↔ Q none h := At_ret rfl
theorem r188_0 : At call ac_188 0 [vR g m, a1] st h Q ↔ At call ac_188 1 [vR g m, a1] (vR g m :: st) h Q := At_next rfl
theorem r188_1 : At call ac_188 1 [a0, a1] (vR g 27 :: st) h Q ↔ At call ac_188 4 [a0, a1] (vR g 24 :: st) h Q := At_next rfl
theorem r188_4 : At call ac_188 4 [a0, vI x] st h Q ↔ At call ac_188 5 [a0, vI x] (vI x :: st) h Q := At_next rfl
theorem r188_5 : At call ac_188 5 [a0, a1] st h Q ↔ At call ac_188 6 [a0, a1] (vI 0 :: st) h Q := At_next rfl
theorem r188_6 : At call ac_188 6 [a0, a1] (vI y :: vI x :: vR g m :: st) h Q ↔ (inA h m 0 x ∧ m ≠ 37) ∧ At call ac_188 7 [a0, a1] st (up3 h g m x.toNat y) Q := At_guard rfl
theorem r188_7 : At call ac_188 7 [vR g m, a1] st h Q ↔ At call ac_188 8 [vR g m, a1] (vR g m :: st) h Q := At_next rfl
theorem r188_8 : At call ac_188 8 [a0, a1] (vR g 27 :: st) h Q ↔ At call ac_188 11 [a0, a1] (vR g 25 :: st) h Q := At_next rfl
theorem r188_11 : At call ac_188 11 [a0, vI x] st h Q ↔ At call ac_188 12 [a0, vI x] (vI x :: st) h Q := At_next rfl
theorem r188_12 : At call ac_188 12 [a0, a1] st h Q ↔ At call ac_188 15 [a0, a1] (vI 200 :: st) h Q := At_next rfl
theorem r188_15 : At call ac_188 15 [a0, a1] (vI y :: vI x :: vR g m :: st) h Q ↔ (inA h m 0 x ∧ m ≠ 37) ∧ At call ac_188 16 [a0, a1] st (up3 h g m x.toNat y) Q := At_guard rfl
theorem r188_16 : At call ac_188 16 [a0, a1] [] h Q ↔ Q none h := At_ret rfl
theorem r189_0 : At call ac_189 0 [vR g m, a1, a2, a3] st h Q ↔ At call ac_189 1 [vR g m, a1, a2, a3] (vR g m :: st) h Q := At_next rfl
theorem r189_1 : At call ac_189 1 [a0, vI x, a2, a3] st h Q ↔ At call ac_189 2 [a0, vI x, a2, a3] (vI x :: st) h Q := At_next rfl
theorem r189_2 : At call ac_189 2 [a0, a1, a2, a3] (b1 :: b0 :: st) h Q ↔ st.length ≤ 4 ∧ ∃ h1, call 187 [b0, b1] h none h1 ∧ At call ac_189 5 [a0, a1, a2, a3] st h1 Q := At_gcallv rfl
theorem r189_5 : At call ac_189 5 [a0, a1, a2, a3] st h Q ↔ At call ac_189 6 [a0, a1, a2, a3] (vI 0 :: st) h Q := At_next rfl
theorem r189_6 : At call ac_189 6 [a0, a1, a2, a3] (vI x :: st) h Q ↔ At call ac_189 7 [a0, a1, vI x, a3] st h Q := At_next rfl
theorem r189_7 : At call ac_189 7 [a0, a1, vI x, a3] st h Q ↔ At call ac_189 8 [a0, a1, vI x, a3] (vI x :: st) h Q := At_next rfl
theorem r189_8 : At call ac_189 8 [vR g m, a1, a2, a3] st h Q ↔ At call ac_189 9 [vR g m, a1, a2, a3] (vR g m :: st) h Q := At_next rfl
theorem r189_9 : At call ac_189 9 [a0, a1, a2, a3] (vR g 27 :: st) h Q ↔ At call ac_189 12 [a0, a1, a2, a3] (vI (h g 27 8) :: st) h Q := At_next rfl
theorem r189_12 : At call ac_189 12 [a0, a1, a2, a3] (vI y :: vI x :: st) h Q ↔ if x < y then At call ac_189 15 [a0, a1, a2, a3] st h Q else At call ac_189 96 [a0, a1, a2, a3] st h Q := At_br rfl
theorem r189_15 : At call ac_189 15 [vR g m, a1, a2, a3] st h Q ↔ At call ac_189 16 [vR g m, a1, a2, a3] (vR g m :: st) h Q := At_next rfl
theorem r189_16 : At call ac_189 16 [a0, a1, a2, a3] (vR g 27 :: st) h Q ↔ At call ac_189 19 [a0, a1, a2, a3] (vR g 25 :: st) h Q := At_next rfl
theorem r189_19 : At call ac_189 19 [a0, a1, vI x, a3] st h Q ↔ At call ac_189 20 [a0, a1, vI x, a3] (vI x :: st) h Q := At_next rfl
theorem r189_20 : At call ac_189 20 [a0, a1, a2, a3] (vI x :: vR g m :: st) h Q ↔ inA h m 0 x ∧ At call ac_189 21 [a0, a1, a2, a3] (vI (h g m x.toNat) :: st) h Q := At_guard rfl
theorem r189_21 : At call ac_189 21 [a0, a1, a2, a3] st h Q ↔ At call ac_189 24 [a0, a1, a2, a3] (vI 200 :: st) h Q := At_next rfl
theorem r189_24 : At call ac_189 24 [a0, a1, a2, a3] (vI y :: vI x :: st) h Q ↔ if x = y then At call ac_189 27 [a0, a1, a2, a3] st h Q else At call ac_189 30 [a0, a1, a2, a3] st h Q := At_br rfl
theorem r189_27 : At call ac_189 27 [a0, a1, a2, a3] st h Q ↔ At call ac_189 90 [a0, a1, a2, a3] st h Q := At_next rfl
theorem r189_30 : At call ac_189 30 [vR g m, a1, a2, a3] st h Q ↔ At call ac_189 31 [vR g m, a1, a2, a3] (vR g m :: st) h Q := At_next rfl
theorem r189_31 : At call ac_189 31 [a0, a1, a2, a3] (vR g 27 :: st) h Q ↔ At call ac_189 34 [a0, a1, a2, a3] (vR g 24 :: st) h Q := At_next rfl
theorem r189_34 : At call ac_189 34 [a0, a1, vI x, a3] st h Q ↔ At call ac_189 35 [a0, a1, vI x, a3] (vI x :: st) h Q := At_next rfl
theorem r189_35 : At call ac_189 35 [a0, a1, a2, a3] (vI x :: vR g m :: st) h Q ↔ At call ac_189 36 [a0, a1, a2, a3] (vI x :: vR g m :: vI x :: vR g m :: st) h Q := At_next rfl
theorem r189_36 : At call ac_189 36 [a0, a1, a2, a3] (vI x :: vR g m :: st) h Q ↔ inA h m 0 x ∧ At call ac_189 37 [a0, a1, a2, a3] (vI (h g m x.toNat) :: st) h Q := At_guard rfl
theorem r189_37 : At call ac_189 37 [vR g m, a1, a2, a3] st h Q ↔ At call ac_189 38 [vR g m, a1, a2, a3] (vR g m :: st) h Q := At_next rfl
theorem r189_38 : At call ac_189 38 [a0, a1, a2, a3] (vR g 27 :: st) h Q ↔ At call ac_189 41 [a0, a1, a2, a3] (vR g 25 :: st) h Q := At_next rfl
theorem r189_41 : At call ac_189 41 [a0, a1, vI x, a3] st h Q ↔ At call ac_189 42 [a0, a1, vI x, a3] (vI x :: st) h Q := At_next rfl
theorem r189_42 : At call ac_189 42 [a0, a1, a2, a3] (vI x :: vR g m :: st) h Q ↔ inA h m 0 x ∧ At call ac_189 43 [a0, a1, a2, a3] (vI (h g m x.toNat) :: st) h Q := At_guard rfl
theorem r189_43 : At call ac_189 43 [a0, a1, a2, a3] st h Q ↔ At call ac_189 45 [a0, a1, a2, a3] (vI 100 :: st) h Q := At_next rfl
theorem r189_45 : At call ac_189 45 [a0, a1, a2, a3] (vI y :: vI x :: st) h Q ↔ if x < y then At call ac_189 48 [a0, a1, a2, a3] st h Q else At call ac_189 61 [a0, a1, a2, a3] st h Q := At_br rfl
theorem r189_48 : At call ac_189 48 [vR g m, a1, a2, a3] st h Q ↔ At call ac_189 49 [vR g m, a1, a2, a3] (vR g m :: st) h Q := At_next rfl
theorem r189_49 : At call ac_189 49 [vR g m, a1, a2, a3] st h Q ↔ At call ac_189 50 [vR g m, a1, a2, a3] (vR g m :: st) h Q := At_next rfl
theorem r189_50 : At call ac_189 50 [a0, a1, a2, a3] (vR g 27 :: st) h Q ↔ At call ac_189 53 [a0, a1, a2, a3] (vR g 25 :: st) h Q := At_next rfl
theorem r189_53 : At call ac_189 53 [a0, a1, vI x, a3] st h Q ↔ At call ac_189 54 [a0, a1, vI x, a3] (vI x :: st) h Q := At_next rfl
theorem r189_54 : At call ac_189 54 [a0, a1, a2, a3] (vI x :: vR g m :: st) h Q ↔ inA h m 0 x ∧ At call ac_189 55 [a0, a1, a2, a3] (vI (h g m x.toNat) :: st) h Q := At_guard rfl
theorem r189_55 : At call ac_189 55 [a0, a1, a2, a3] (b1 :: b0 :: st) h Q ↔ st.length ≤ 4 ∧ ∃ v h1, call 159 [b0, b1] h (some v) h1 ∧ At call ac_189 58 [a0, a1, a2, a3] (v :: st) h1 Q := At_gcall rfl
theorem r189_58 : At call ac_189 58 [a0, a1, a2, a3] st h Q ↔ At call ac_189 74 [a0, a1, a2, a3] st h Q := At_next rfl
theorem r189_61 : At call ac_189 61 [vR g m, a1, a2, a3] st h Q ↔ At call ac_189 62 [vR g m, a1, a2, a3] (vR g m :: st) h Q := At_next rfl
theorem r189_62 : At call ac_189 62 [a0, a1, a2, a3] (b0 :: st) h Q ↔ st.length ≤ 4 ∧ ∃ v h1, call 158 [b0] h (some v) h1 ∧ At call ac_189 65 [a0, a1, a2, a3] (v :: st) h1 Q := At_gcall rfl
theorem r189_65 : At call ac_189 65 [a0, a1, a2, a3] (vI x :: st) h Q ↔ if x = 0 then At call ac_189 73 [a0, a1, a2, a3] st h Q else At call ac_189 68 [a0, a1, a2, a3] st h Q := At_br rfl
theorem r189_68 : At call ac_189 68 [a0, a1, a2, a3] st h Q ↔ At call ac_189 70 [a0, a1, a2, a3] (vI 6 :: st) h Q := At_next rfl
theorem r189_70 : At call ac_189 70 [a0, a1, a2, a3] st h Q ↔ At call ac_189 74 [a0, a1, a2, a3] st h Q := At_next rfl
theorem r189_73 : At call ac_189 73 [a0, a1, a2, a3] st h Q ↔ At call ac_189 74 [a0, a1, a2, a3] (vI 3 :: st) h Q := At_next rfl
theorem r189_74 : At call ac_189 74 [a0, a1, a2, a3] (vI y :: vI x :: st) h Q ↔ At call ac_189 75 [a0, a1, a2, a3] (vI (wr (x - y)) :: st) h Q := At_next rfl
theorem r189_75 : At call ac_189 75 [a0, a1, a2, a3] (vI y :: vI x :: vR g m :: st) h Q ↔ (inA h m 0 x ∧ m ≠ 37) ∧ At call ac_189 76 [a0, a1, a2, a3] st (up3 h g m x.toNat y) Q := At_guard rfl
theorem r189_76 : At call ac_189 76 [vR g m, a1, a2, a3] st h Q ↔ At call ac_189 77 [vR g m, a1, a2, a3] (vR g m :: st) h Q := At_next rfl
theorem r189_77 : At call ac_189 77 [a0, a1, a2, a3] (vR g 27 :: st) h Q ↔ At call ac_189 80 [a0, a1, a2, a3] (vR g 24 :: st) h Q := At_next rfl
theorem r189_80 : At call ac_189 80 [a0, a1, vI x, a3] st h Q ↔ At call ac_189 81 [a0, a1, vI x, a3] (vI x :: st) h Q := At_next rfl
theorem r189_81 : At call ac_189 81 [a0, a1, a2, a3] (vI x :: vR g m :: st) h Q ↔ inA h m 0 x ∧ At call ac_189 82 [a0, a1, a2, a3] (vI (h g m x.toNat) :: st) h Q := At_guard rfl
theorem r189_82 : At call ac_189 82 [a0, a1, a2, a3] (vI x :: st) h Q ↔ if 0 < x then At call ac_189 90 [a0, a1, a2, a3] st h Q else At call ac_189 85 [a0, a1, a2, a3] st h Q := At_br rfl
theorem r189_85 : At call ac_189 85 [vR g m, a1, a2, a3] st h Q ↔ At call ac_189 86 [vR g m, a1, a2, a3] (vR g m :: st) h Q := At_next rfl
theorem r189_86 : At call ac_189 86 [a0, a1, vI x, a3] st h Q ↔ At call ac_189 87 [a0, a1, vI x, a3] (vI x :: st) h Q := At_next rfl
theorem r189_87 : At call ac_189 87 [a0, a1, a2, a3] (b1 :: b0 :: st) h Q ↔ st.length ≤ 4 ∧ ∃ h1, call 188 [b0, b1] h none h1 ∧ At call ac_189 90 [a0, a1, a2, a3] st h1 Q := At_gcallv rfl
theorem r189_90 : At call ac_189 90 [a0, a1, vI x, a3] st h Q ↔ At call ac_189 93 [a0, a1, vI (wr (x + 1)), a3] st h Q := At_next rfl
theorem r189_93 : At call ac_189 93 [a0, a1, a2, a3] st h Q ↔ At call ac_189 7 [a0, a1, a2, a3] st h Q := At_next rfl
theorem r189_96 : At call ac_189 96 [a0, a1, a2, a3] st h Q ↔ At call ac_189 97 [a0, a1, a2, a3] (vI 0 :: st) h Q := At_next rfl
theorem r189_97 : At call ac_189 97 [a0, a1, a2, a3] (vI x :: st) h Q ↔ At call ac_189 98 [a0, a1, vI x, a3] st h Q := At_next rfl
theorem r189_98 : At call ac_189 98 [a0, a1, vI x, a3] st h Q ↔ At call ac_189 99 [a0, a1, vI x, a3] (vI x :: st) h Q := At_next rfl
theorem r189_99 : At call ac_189 99 [vR g m, a1, a2, a3] st h Q ↔ At call ac_189 100 [vR g m, a1, a2, a3] (vR g m :: st) h Q := At_next rfl
theorem r189_100 : At call ac_189 100 [a0, a1, a2, a3] (vR g 27 :: st) h Q ↔ At call ac_189 103 [a0, a1, a2, a3] (vI (h g 27 7) :: st) h Q := At_next rfl
theorem r189_103 : At call ac_189 103 [a0, a1, a2, a3] (vI y :: vI x :: st) h Q ↔ if x < y then At call ac_189 106 [a0, a1, a2, a3] st h Q else At call ac_189 141 [a0, a1, a2, a3] st h Q := At_br rfl
theorem r189_106 : At call ac_189 106 [vR g m, a1, a2, a3] st h Q ↔ At call ac_189 107 [vR g m, a1, a2, a3] (vR g m :: st) h Q := At_next rfl
theorem r189_107 : At call ac_189 107 [a0, a1, a2, a3] (b0 :: st) h Q ↔ st.length ≤ 4 ∧ ∃ v h1, call 158 [b0] h (some v) h1 ∧ At call ac_189 110 [a0, a1, a2, a3] (v :: st) h1 Q := At_gcall rfl
theorem r189_110 : At call ac_189 110 [a0, a1, a2, a3] (vI x :: st) h Q ↔ if x = 0 then At call ac_189 141 [a0, a1, a2, a3] st h Q else At call ac_189 113 [a0, a1, a2, a3] st h Q := At_br rfl
theorem r189_113 : At call ac_189 113 [vR g m, a1, a2, a3] st h Q ↔ At call ac_189 114 [vR g m, a1, a2, a3] (vR g m :: st) h Q := At_next rfl
theorem r189_114 : At call ac_189 114 [a0, a1, a2, a3] (vR g 27 :: st) h Q ↔ At call ac_189 117 [a0, a1, a2, a3] (vR g 22 :: st) h Q := At_next rfl
theorem r189_117 : At call ac_189 117 [a0, a1, vI x, a3] st h Q ↔ At call ac_189 118 [a0, a1, vI x, a3] (vI x :: st) h Q := At_next rfl
theorem r189_118 : At call ac_189 118 [a0, a1, a2, a3] st h Q ↔ At call ac_189 119 [a0, a1, a2, a3] (vI 0 :: st) h Q := At_next rfl
theorem r189_119 : At call ac_189 119 [vR g m, a1, a2, a3] st h Q ↔ At call ac_189 120 [vR g m, a1, a2, a3] (vR g m :: st) h Q := At_next rfl
theorem r189_120 : At call ac_189 120 [a0, a1, a2, a3] (vR g 27 :: st) h Q ↔ At call ac_189 123 [a0, a1, a2, a3] (vR g 22 :: st) h Q := At_next rfl
theorem r189_123 : At call ac_189 123 [a0, a1, vI x, a3] st h Q ↔ At call ac_189 124 [a0, a1, vI x, a3] (vI x :: st) h Q := At_next rfl
theorem r189_124 : At call ac_189 124 [a0, a1, a2, a3] (vI x :: vR g m :: st) h Q ↔ inA h m 0 x ∧ At call ac_189 125 [a0, a1, a2, a3] (vI (h g m x.toNat) :: st) h Q := At_guard rfl
theorem r189_125 : At call ac_189 125 [vR g m, a1, a2, a3] st h Q ↔ At call ac_189 126 [vR g m, a1, a2, a3] (vR g m :: st) h Q := At_next rfl
theorem r189_126 : At call ac_189 126 [a0, a1, vI x, a3] st h Q ↔ At call ac_189 127 [a0, a1, vI x, a3] (vI x :: st) h Q := At_next rfl
theorem r189_127 : At call ac_189 127 [a0, a1, a2, a3] (b1 :: b0 :: st) h Q ↔ st.length ≤ 4 ∧ ∃ v h1, call 161 [b0, b1] h (some v) h1 ∧ At call ac_189 130 [a0, a1, a2, a3] (v :: st) h1 Q := At_gcall rfl
theorem r189_130 : At call ac_189 130 [a0, a1, a2, a3] (vI y :: vI x :: st) h Q ↔ At call ac_189 131 [a0, a1, a2, a3] (vI (wr (x - y)) :: st) h Q := At_next rfl
theorem r189_131 : At call ac_189 131 [a0, a1, a2, a3] (vI y :: vI x :: st) h Q ↔ st.length ≤ 4 ∧ At call ac_189 134 [a0, a1, a2, a3] (vI (amax x y) :: st) h Q := At_guard rfl
theorem r189_134 : At call ac_189 134 [a0, a1, a2, a3] (vI y :: vI x :: vR g m :: st) h Q ↔ (inA h m 0 x ∧ m ≠ 37) ∧ At call ac_189 135 [a0, a1, a2, a3] st (up3 h g m x.toNat y) Q := At_guard rfl
theorem r189_135 : At call ac_189 135 [a0, a1, vI x, a3] st h Q ↔ At call ac_189 138 [a0, a1, vI (wr (x + 1)), a3] st h Q := At_next rfl
theorem r189_138 : At call ac_189 138 [a0, a1, a2, a3] st h Q ↔ At call ac_189 98 [a0, a1, a2, a3] st h Q := At_next rfl
theorem r189_141 : At call ac_189 141 [vR g m, a1, a2, a3] st h Q ↔ At call ac_189 142 [vR g m, a1, a2, a3] (vR g m :: st) h Q := At_next rfl
theorem r189_142 : At call ac_189 142 [a0, a1, a2, a3] (vR g 27 :: st) h Q ↔ At call ac_189 145 [a0, a1, a2, a3] (vI (h g 27 13) :: st) h Q := At_next rfl
theorem r189_145 : At call ac_189 145 [a0, a1, a2, a3] (vI x :: st) h Q ↔ if x = 0 then At call ac_189 241 [a0, a1, a2, a3] st h Q else At call ac_189 148 [a0, a1, a2, a3] st h Q := At_br rfl
theorem r189_148 : At call ac_189 148 [a0, a1, a2, a3] st h Q ↔ At call ac_189 149 [a0, a1, a2, a3] (vI 0 :: st) h Q := At_next rfl
theorem r189_149 : At call ac_189 149 [a0, a1, a2, a3] (vI x :: st) h Q ↔ At call ac_189 150 [a0, a1, vI x, a3] st h Q := At_next rfl
theorem r189_150 : At call ac_189 150 [a0, a1, vI x, a3] st h Q ↔ At call ac_189 151 [a0, a1, vI x, a3] (vI x :: st) h Q := At_next rfl
theorem r189_151 : At call ac_189 151 [vR g m, a1, a2, a3] st h Q ↔ At call ac_189 152 [vR g m, a1, a2, a3] (vR g m :: st) h Q := At_next rfl
theorem r189_152 : At call ac_189 152 [a0, a1, a2, a3] (vR g 27 :: st) h Q ↔ At call ac_189 155 [a0, a1, a2, a3] (vI (h g 27 7) :: st) h Q := At_next rfl
theorem r189_155 : At call ac_189 155 [a0, a1, a2, a3] (vI y :: vI x :: st) h Q ↔ if x < y then At call ac_189 158 [a0, a1, a2, a3] st h Q else At call ac_189 175 [a0, a1, a2, a3] st h Q := At_br rfl
theorem r189_158 : At call ac_189 158 [vR g m, a1, a2, a3] st h Q ↔ At call ac_189 159 [vR g m, a1, a2, a3] (vR g m :: st) h Q := At_next rfl
theorem r189_159 : At call ac_189 159 [a0, a1, a2, a3] (vR g 27 :: st) h Q ↔ At call ac_189 162 [a0, a1, a2, a3] (vR g 23 :: st) h Q := At_next rfl
theorem r189_162 : At call ac_189 162 [a0, a1, vI x, a3] st h Q ↔ At call ac_189 163 [a0, a1, vI x, a3] (vI x :: st) h Q := At_next rfl
theorem r189_163 : At call ac_189 163 [vR g m, a1, a2, a3] st h Q ↔ At call ac_189 164 [vR g m, a1, a2, a3] (vR g m :: st) h Q := At_next rfl
theorem r189_164 : At call ac_189 164 [a0, a1, vI x, a3] st h Q ↔ At call ac_189 165 [a0, a1, vI x, a3] (vI x :: st) h Q := At_next rfl
theorem r189_165 : At call ac_189 165 [a0, a1, a2, a3] (b1 :: b0 :: st) h Q ↔ st.length ≤ 4 ∧ ∃ v h1, call 160 [b0, b1] h (some v) h1 ∧ At call ac_189 168 [a0, a1, a2, a3] (v :: st) h1 Q := At_gcall rfl
theorem r189_168 : At call ac_189 168 [a0, a1, a2, a3] (vI y :: vI x :: vR g m :: st) h Q ↔ (inA h m 0 x ∧ m ≠ 37) ∧ At call ac_189 169 [a0, a1, a2, a3] st (up3 h g m x.toNat y) Q := At_guard rfl
theorem r189_169 : At call ac_189 169 [a0, a1, vI x, a3] st h Q ↔ At call ac_189 172 [a0, a1, vI (wr (x + 1)), a3] st h Q := At_next rfl
theorem r189_172 : At call ac_189 172 [a0, a1, a2, a3] st h Q ↔ At call ac_189 150 [a0, a1, a2, a3] st h Q := At_next rfl
theorem r189_175 : At call ac_189 175 [a0, a1, a2, a3] st h Q ↔ At call ac_189 176 [a0, a1, a2, a3] (vI 0 :: st) h Q := At_next rfl
theorem r189_176 : At call ac_189 176 [a0, a1, a2, a3] (vI x :: st) h Q ↔ At call ac_189 177 [a0, a1, vI x, a3] st h Q := At_next rfl
theorem r189_177 : At call ac_189 177 [a0, a1, vI x, a3] st h Q ↔ At call ac_189 178 [a0, a1, vI x, a3] (vI x :: st) h Q := At_next rfl
theorem r189_178 : At call ac_189 178 [vR g m, a1, a2, a3] st h Q ↔ At call ac_189 179 [vR g m, a1, a2, a3] (vR g m :: st) h Q := At_next rfl
theorem r189_179 : At call ac_189 179 [a0, a1, a2, a3] (vR g 27 :: st) h Q ↔ At call ac_189 182 [a0, a1, a2, a3] (vI (h g 27 7) :: st) h Q := At_next rfl
theorem r189_182 : At call ac_189 182 [a0, a1, a2, a3] (vI y :: vI x :: st) h Q ↔ if x < y then At call ac_189 185 [a0, a1, a2, a3] st h Q else At call ac_189 241 [a0, a1, a2, a3] st h Q := At_br rfl
theorem r189_185 : At call ac_189 185 [a0, a1, vI x, a3] st h Q ↔ At call ac_189 186 [a0, a1, vI x, a3] (vI x :: st) h Q := At_next rfl
theorem r189_186 : At call ac_189 186 [vR g m, a1, a2, a3] st h Q ↔ At call ac_189 187 [vR g m, a1, a2, a3] (vR g m :: st) h Q := At_next rfl
theorem r189_187 : At call ac_189 187 [a0, a1, a2, a3] (vR g 27 :: st) h Q ↔ At call ac_189 190 [a0, a1, a2, a3] (vI (h g 27 13) :: st) h Q := At_next rfl
theorem r189_190 : At call ac_189 190 [a0, a1, a2, a3] (vI y :: vI x :: st) h Q ↔ At call ac_189 191 [a0, a1, a2, a3] (vI (wr (x - y)) :: st) h Q := At_next rfl
theorem r189_191 : At call ac_189 191 [a0, a1, a2, a3] (vI x :: st) h Q ↔ At call ac_189 192 [a0, a1, a2, vI x] st h Q := At_next rfl
theorem r189_192 : At call ac_189 192 [vR g m, a1, a2, a3] st h Q ↔ At call ac_189 193 [vR g m, a1, a2, a3] (vR g m :: st) h Q := At_next rfl
theorem r189_193 : At call ac_189 193 [a0, a1, a2, a3] (vR g 27 :: st) h Q ↔ At call ac_189 196 [a0, a1, a2, a3] (vR g 22 :: st) h Q := At_next rfl
theorem r189_196 : At call ac_189 196 [a0, a1, vI x, a3] st h Q ↔ At call ac_189 197 [a0, a1, vI x, a3] (vI x :: st) h Q := At_next rfl
theorem r189_197 : At call ac_189 197 [a0, a1, a2, a3] st h Q ↔ At call ac_189 199 [a0, a1, a2, a3] (vI 99 :: st) h Q := At_next rfl
theorem r189_199 : At call ac_189 199 [vR g m, a1, a2, a3] st h Q ↔ At call ac_189 200 [vR g m, a1, a2, a3] (vR g m :: st) h Q := At_next rfl
theorem r189_200 : At call ac_189 200 [a0, a1, a2, a3] (vR g 27 :: st) h Q ↔ At call ac_189 203 [a0, a1, a2, a3] (vR g 22 :: st) h Q := At_next rfl
theorem r189_203 : At call ac_189 203 [a0, a1, vI x, a3] st h Q ↔ At call ac_189 204 [a0, a1, vI x, a3] (vI x :: st) h Q := At_next rfl
theorem r189_204 : At call ac_189 204 [a0, a1, a2, a3] (vI x :: vR g m :: st) h Q ↔ inA h m 0 x ∧ At call ac_189 205 [a0, a1, a2, a3] (vI (h g m x.toNat) :: st) h Q := At_guard rfl
theorem r189_205 : At call ac_189 205 [vR g m, a1, a2, a3] st h Q ↔ At call ac_189 206 [vR g m, a1, a2, a3] (vR g m :: st) h Q := At_next rfl
theorem r189_206 : At call ac_189 206 [a0, a1, a2, a3] (vR g 27 :: st) h Q ↔ At call ac_189 209 [a0, a1, a2, a3] (vR g 23 :: st) h Q := At_next rfl
theorem r189_209 : At call ac_189 209 [a0, a1, vI x, a3] st h Q ↔ At call ac_189 210 [a0, a1, vI x, a3] (vI x :: st) h Q := At_next rfl
theorem r189_210 : At call ac_189 210 [a0, a1, a2, a3] (vI x :: vR g m :: st) h Q ↔ inA h m 0 x ∧ At call ac_189 211 [a0, a1, a2, a3] (vI (h g m x.toNat) :: st) h Q := At_guard rfl
theorem r189_211 : At call ac_189 211 [a0, a1, a2, a3] (vI y :: vI x :: st) h Q ↔ At call ac_189 212 [a0, a1, a2, a3] (vI (wr (x - y)) :: st) h Q := At_next rfl
theorem r189_212 : At call ac_189 212 [vR g m, a1, a2, a3] st h Q ↔ At call ac_189 213 [vR g m, a1, a2, a3] (vR g m :: st) h Q := At_next rfl
theorem r189_213 : At call ac_189 213 [a0, a1, a2, vI x] st h Q ↔ At call ac_189 214 [a0, a1, a2, vI x] (vI x :: st) h Q := At_next rfl
theorem r189_214 : At call ac_189 214 [a0, a1, a2, a3] (b1 :: b0 :: st) h Q ↔ st.length ≤ 4 ∧ ∃ v h1, call 145 [b0, b1] h (some v) h1 ∧ At call ac_189 217 [a0, a1, a2, a3] (v :: st) h1 Q := At_gcall rfl
theorem r189_217 : At call ac_189 217 [a0, a1, a2, a3] (vI x :: st) h Q ↔ if x = 0 then At call ac_189 229 [a0, a1, a2, a3] st h Q else At call ac_189 220 [a0, a1, a2, a3] st h Q := At_br rfl
theorem r189_220 : At call ac_189 220 [vR g m, a1, a2, a3] st h Q ↔ At call ac_189 221 [vR g m, a1, a2, a3] (vR g m :: st) h Q := At_next rfl
theorem r189_221 : At call ac_189 221 [a0, a1, a2, a3] (vR g 27 :: st) h Q ↔ At call ac_189 224 [a0, a1, a2, a3] (vR g 23 :: st) h Q := At_next rfl
theorem r189_224 : At call ac_189 224 [a0, a1, a2, vI x] st h Q ↔ At call ac_189 225 [a0, a1, a2, vI x] (vI x :: st) h Q := At_next rfl
theorem r189_225 : At call ac_189 225 [a0, a1, a2, a3] (vI x :: vR g m :: st) h Q ↔ inA h m 0 x ∧ At call ac_189 226 [a0, a1, a2, a3] (vI (h g m x.toNat) :: st) h Q := At_guard rfl
theorem r189_226 : At call ac_189 226 [a0, a1, a2, a3] st h Q ↔ At call ac_189 230 [a0, a1, a2, a3] st h Q := At_next rfl
theorem r189_229 : At call ac_189 229 [a0, a1, a2, a3] st h Q ↔ At call ac_189 230 [a0, a1, a2, a3] (vI 0 :: st) h Q := At_next rfl
theorem r189_230 : At call ac_189 230 [a0, a1, a2, a3] (vI y :: vI x :: st) h Q ↔ At call ac_189 231 [a0, a1, a2, a3] (vI (wr (x + y)) :: st) h Q := At_next rfl
theorem r189_231 : At call ac_189 231 [a0, a1, a2, a3] (vI y :: vI x :: st) h Q ↔ st.length ≤ 4 ∧ At call ac_189 234 [a0, a1, a2, a3] (vI (amin x y) :: st) h Q := At_guard rfl
theorem r189_234 : At call ac_189 234 [a0, a1, a2, a3] (vI y :: vI x :: vR g m :: st) h Q ↔ (inA h m 0 x ∧ m ≠ 37) ∧ At call ac_189 235 [a0, a1, a2, a3] st (up3 h g m x.toNat y) Q := At_guard rfl
theorem r189_235 : At call ac_189 235 [a0, a1, vI x, a3] st h Q ↔ At call ac_189 238 [a0, a1, vI (wr (x + 1)), a3] st h Q := At_next rfl
theorem r189_238 : At call ac_189 238 [a0, a1, a2, a3] st h Q ↔ At call ac_189 177 [a0, a1, a2, a3] st h Q := At_next rfl
theorem r189_241 : At call ac_189 241 [a0, a1, a2, a3] st h Q ↔ At call ac_189 242 [a0, a1, a2, a3] (vI 0 :: st) h Q := At_next rfl
theorem r189_242 : At call ac_189 242 [a0, a1, a2, a3] (vI x :: st) h Q ↔ At call ac_189 243 [a0, a1, vI x, a3] st h Q := At_next rfl
theorem r189_243 : At call ac_189 243 [a0, a1, vI x, a3] st h Q ↔ At call ac_189 244 [a0, a1, vI x, a3] (vI x :: st) h Q := At_next rfl
theorem r189_244 : At call ac_189 244 [vR g m, a1, a2, a3] st h Q ↔ At call ac_189 245 [vR g m, a1, a2, a3] (vR g m :: st) h Q := At_next rfl
theorem r189_245 : At call ac_189 245 [a0, a1, a2, a3] (vR g 27 :: st) h Q ↔ At call ac_189 248 [a0, a1, a2, a3] (vI (h g 27 7) :: st) h Q := At_next rfl
theorem r189_248 : At call ac_189 248 [a0, a1, a2, a3] (vI y :: vI x :: st) h Q ↔ if x < y then At call ac_189 251 [a0, a1, a2, a3] st h Q else At call ac_189 291 [a0, a1, a2, a3] st h Q := At_br rfl
theorem r189_251 : At call ac_189 251 [vR g m, a1, a2, a3] st h Q ↔ At call ac_189 252 [vR g m, a1, a2, a3] (vR g m :: st) h Q := At_next rfl
theorem r189_252 : At call ac_189 252 [a0, a1, a2, a3] (vR g 27 :: st) h Q ↔ At call ac_189 255 [a0, a1, a2, a3] (vR g 20 :: st) h Q := At_next rfl
theorem r189_255 : At call ac_189 255 [a0, a1, vI x, a3] st h Q ↔ At call ac_189 256 [a0, a1, vI x, a3] (vI x :: st) h Q := At_next rfl
theorem r189_256 : At call ac_189 256 [a0, a1, a2, a3] (vI x :: vR g m :: st) h Q ↔ inA h m 0 x ∧ At call ac_189 257 [a0, a1, a2, a3] (vI (h g m x.toNat) :: st) h Q := At_guard rfl
theorem r189_257 : At call ac_189 257 [a0, a1, a2, a3] st h Q ↔ At call ac_189 258 [a0, a1, a2, a3] (vI 5 :: st) h Q := At_next rfl
theorem r189_258 : At call ac_189 258 [a0, a1, a2, a3] (vI y :: vI x :: st) h Q ↔ if x = y then At call ac_189 261 [a0, a1, a2, a3] st h Q else At call ac_189 285 [a0, a1, a2, a3] st h Q := At_br rfl
theorem r189_261 : At call ac_189 261 [vR g m, a1, a2, a3] st h Q ↔ At call ac_189 262 [vR g m, a1, a2, a3] (vR g m :: st) h Q := At_next rfl
theorem r189_262 : At call ac_189 262 [a0, a1, a2, a3] (vR g 27 :: st) h Q ↔ At call ac_189 265 [a0, a1, a2, a3] (vR g 22 :: st) h Q := At_next rfl
theorem r189_265 : At call ac_189 265 [a0, a1, vI x, a3] st h Q ↔ At call ac_189 266 [a0, a1, vI x, a3] (vI x :: st) h Q := At_next rfl
theorem r189_266 : At call ac_189 266 [a0, a1, a2, a3] st h Q ↔ At call ac_189 268 [a0, a1, a2, a3] (vI 99 :: st) h Q := At_next rfl
theorem r189_268 : At call ac_189 268 [vR g m, a1, a2, a3] st h Q ↔ At call ac_189 269 [vR g m, a1, a2, a3] (vR g m :: st) h Q := At_next rfl
theorem r189_269 : At call ac_189 269 [a0, a1, a2, a3] (vR g 27 :: st) h Q ↔ At call ac_189 272 [a0, a1, a2, a3] (vR g 22 :: st) h Q := At_next rfl
theorem r189_272 : At call ac_189 272 [a0, a1, vI x, a3] st h Q ↔ At call ac_189 273 [a0, a1, vI x, a3] (vI x :: st) h Q := At_next rfl
theorem r189_273 : At call ac_189 273 [a0, a1, a2, a3] (vI x :: vR g m :: st) h Q ↔ inA h m 0 x ∧ At call ac_189 274 [a0, a1, a2, a3] (vI (h g m x.toNat) :: st) h Q := At_guard rfl
theorem r189_274 : At call ac_189 274 [vR g m, a1, a2, a3] st h Q ↔ At call ac_189 275 [vR g m, a1, a2, a3] (vR g m :: st) h Q := At_next rfl
theorem r189_275 : At call ac_189 275 [a0, a1, a2, a3] (vR g 27 :: st) h Q ↔ At call ac_189 278 [a0, a1, a2, a3] (vR g 21 :: st) h Q := At_next rfl
theorem r189_278 : At call ac_189 278 [a0, a1, vI x, a3] st h Q ↔ At call ac_189 279 [a0, a1, vI x, a3] (vI x :: st) h Q := At_next rfl
theorem r189_279 : At call ac_189 279 [a0, a1, a2, a3] (vI x :: vR g m :: st) h Q ↔ inA h m 0 x ∧ At call ac_189 280 [a0, a1, a2, a3] (vI (h g m x.toNat) :: st) h Q := At_guard rfl
theorem r189_280 : At call ac_189 280 [a0, a1, a2, a3] (vI y :: vI x :: st) h Q ↔ At call ac_189 281 [a0, a1, a2, a3] (vI (wr (x + y)) :: st) h Q := At_next rfl
theorem r189_281 : At call ac_189 281 [a0, a1, a2, a3] (vI y :: vI x :: st) h Q ↔ st.length ≤ 4 ∧ At call ac_189 284 [a0, a1, a2, a3] (vI (amin x y) :: st) h Q := At_guard rfl
theorem r189_284 : At call ac_189 284 [a0, a1, a2, a3] (vI y :: vI x :: vR g m :: st) h Q ↔ (inA h m 0 x ∧ m ≠ 37) ∧ At call ac_189 285 [a0, a1, a2, a3] st (up3 h g m x.toNat y) Q := At_guard rfl
theorem r189_285 : At call ac_189 285 [a0, a1, vI x, a3] st h Q ↔ At call ac_189 288 [a0, a1, vI (wr (x + 1)), a3] st h Q := At_next rfl
theorem r189_288 : At call ac_189 288 [a0, a1, a2, a3] st h Q ↔ At call ac_189 243 [a0, a1, a2, a3] st h Q := At_next rfl
theorem r189_291 : At call ac_189 291 [vR g m, a1, a2, a3] st h Q ↔ At call ac_189 292 [vR g m, a1, a2, a3] (vR g m :: st) h Q := At_next rfl
theorem r189_292 : At call ac_189 292 [a0, a1, a2, a3] (vI x :: st) h Q ↔ At call ac_189 293 [a0, a1, a2, a3] (vI x :: vI x :: st) h Q := At_next rfl
theorem r189_292r : At call ac_189 292 [a0, a1, a2, a3] (.inr (.inr v) :: st) h Q ↔ At call ac_189 293 [a0, a1, a2, a3] (.inr (.inr v) :: .inr (.inr v) :: st) h Q := At_next rfl
theorem r189_293 : At call ac_189 293 [a0, a1, a2, a3] (vR g 27 :: st) h Q ↔ At call ac_189 296 [a0, a1, a2, a3] (vI (h g 27 11) :: st) h Q := At_next rfl
theorem r189_296 : At call ac_189 296 [a0, a1, a2, a3] st h Q ↔ At call ac_189 297 [a0, a1, a2, a3] (vI 1 :: st) h Q := At_next rfl
theorem r189_297 : At call ac_189 297 [a0, a1, a2, a3] (vI y :: vI x :: st) h Q ↔ At call ac_189 298 [a0, a1, a2, a3] (vI (wr (x + y)) :: st) h Q := At_next rfl
theorem r189_298 : At call ac_189 298 [a0, a1, a2, a3] (vI x :: vR g 27 :: st) h Q ↔ At call ac_189 301 [a0, a1, a2, a3] st (up3 h g 27 11 x) Q := At_next rfl
theorem r189_301 : At call ac_189 301 [vR g m, a1, a2, a3] st h Q ↔ At call ac_189 302 [vR g m, a1, a2, a3] (vR g m :: st) h Q := At_next rfl
theorem r189_302 : At call ac_189 302 [a0, a1, a2, a3] (vR g 27 :: st) h Q ↔ At call ac_189 305 [a0, a1, a2, a3] (vI (h g 27 11) :: st) h Q := At_next rfl
theorem r189_305 : At call ac_189 305 [a0, a1, a2, a3] st h Q ↔ At call ac_189 307 [a0, a1, a2, a3] (vI 24 :: st) h Q := At_next rfl
theorem r189_307 : At call ac_189 307 [a0, a1, a2, a3] (vI y :: vI x :: st) h Q ↔ if x < y then At call ac_189 310 [a0, a1, a2, a3] st h Q else At call ac_189 311 [a0, a1, a2, a3] st h Q := At_br rfl
theorem r189_310 : At call ac_189 310 [a0, a1, a2, a3] [] h Q ↔ Q none h := At_ret rfl
theorem r189_311 : At call ac_189 311 [vR g m, a1, a2, a3] st h Q ↔ At call ac_189 312 [vR g m, a1, a2, a3] (vR g m :: st) h Q := At_next rfl
theorem r189_312 : At call ac_189 312 [a0, a1, a2, a3] st h Q ↔ At call ac_189 313 [a0, a1, a2, a3] (vI 0 :: st) h Q := At_next rfl
theorem r189_313 : At call ac_189 313 [a0, a1, a2, a3] (vI x :: vR g 27 :: st) h Q ↔ At call ac_189 316 [a0, a1, a2, a3] st (up3 h g 27 11 x) Q := At_next rfl
theorem r189_316 : At call ac_189 316 [vR g m, a1, a2, a3] st h Q ↔ At call ac_189 317 [vR g m, a1, a2, a3] (vR g m :: st) h Q := At_next rfl
theorem r189_317 : At call ac_189 317 [a0, a1, a2, a3] (vI x :: st) h Q ↔ At call ac_189 318 [a0, a1, a2, a3] (vI x :: vI x :: st) h Q := At_next rfl
theorem r189_317r : At call ac_189 317 [a0, a1, a2, a3] (.inr (.inr v) :: st) h Q ↔ At call ac_189 318 [a0, a1, a2, a3] (.inr (.inr v) :: .inr (.inr v) :: st) h Q := At_next rfl
theorem r189_318 : At call ac_189 318 [a0, a1, a2, a3] (vR g 27 :: st) h Q ↔ At call ac_189 321 [a0, a1, a2, a3] (vI (h g 27 12) :: st) h Q := At_next rfl
theorem r189_321 : At call ac_189 321 [a0, a1, a2, a3] st h Q ↔ At call ac_189 322 [a0, a1, a2, a3] (vI 1 :: st) h Q := At_next rfl
theorem r189_322 : At call ac_189 322 [a0, a1, a2, a3] (vI y :: vI x :: st) h Q ↔ At call ac_189 323 [a0, a1, a2, a3] (vI (wr (x + y)) :: st) h Q := At_next rfl
theorem r189_323 : At call ac_189 323 [a0, a1, a2, a3] (vI x :: vR g 27 :: st) h Q ↔ At call ac_189 326 [a0, a1, a2, a3] st (up3 h g 27 12 x) Q := At_next rfl
theorem r189_326 : At call ac_189 326 [a0, a1, a2, a3] [] h Q ↔ Q none h := At_ret rfl
theorem r190_0 : At call ac_190 0 [a0, a1, a2] st h Q ↔ At call ac_190 1 [a0, a1, a2] (vI 0 :: st) h Q := At_next rfl
theorem r190_1 : At call ac_190 1 [a0, a1, a2] (vI x :: st) h Q ↔ At call ac_190 2 [a0, vI x, a2] st h Q := At_next rfl
theorem r190_2 : At call ac_190 2 [a0, a1, a2] st h Q ↔ At call ac_190 3 [a0, a1, a2] (vI 0 :: st) h Q := At_next rfl
theorem r190_3 : At call ac_190 3 [a0, a1, a2] (vI x :: st) h Q ↔ At call ac_190 4 [a0, a1, vI x] st h Q := At_next rfl
theorem r190_4 : At call ac_190 4 [a0, a1, vI x] st h Q ↔ At call ac_190 5 [a0, a1, vI x] (vI x :: st) h Q := At_next rfl
theorem r190_5 : At call ac_190 5 [a0, a1, a2] st h Q ↔ At call ac_190 7 [a0, a1, a2] (vI 7 :: st) h Q := At_next rfl
theorem r190_7 : At call ac_190 7 [a0, a1, a2] (vI y :: vI x :: st) h Q ↔ if x < y then At call ac_190 10 [a0, a1, a2] st h Q else At call ac_190 30 [a0, a1, a2] st h Q := At_br rfl
theorem r190_10 : At call ac_190 10 [vR g m, a1, a2] st h Q ↔ At call ac_190 11 [vR g m, a1, a2] (vR g m :: st) h Q := At_next rfl
theorem r190_11 : At call ac_190 11 [a0, a1, vI x] st h Q ↔ At call ac_190 12 [a0, a1, vI x] (vI x :: st) h Q := At_next rfl
theorem r190_12 : At call ac_190 12 [a0, a1, a2] (b1 :: b0 :: st) h Q ↔ st.length ≤ 4 ∧ ∃ v h1, call 186 [b0, b1] h (some v) h1 ∧ At call ac_190 15 [a0, a1, a2] (v :: st) h1 Q := At_gcall rfl
theorem r190_15 : At call ac_190 15 [a0, a1, a2] (vI x :: st) h Q ↔ if x = 0 then At call ac_190 24 [a0, a1, a2] st h Q else At call ac_190 18 [a0, a1, a2] st h Q := At_br rfl
theorem r190_18 : At call ac_190 18 [a0, vI x, a2] st h Q ↔ At call ac_190 19 [a0, vI x, a2] (vI x :: st) h Q := At_next rfl
theorem r190_19 : At call ac_190 19 [a0, a1, a2] st h Q ↔ At call ac_190 20 [a0, a1, a2] (vI 1 :: st) h Q := At_next rfl
theorem r190_20 : At call ac_190 20 [a0, a1, vI x] st h Q ↔ At call ac_190 21 [a0, a1, vI x] (vI x :: st) h Q := At_next rfl
theorem r190_21 : At call ac_190 21 [a0, a1, a2] (vI y :: vI x :: st) h Q ↔ At call ac_190 22 [a0, a1, a2] (vI (opShl x y) :: st) h Q := At_next rfl
theorem r190_22 : At call ac_190 22 [a0, a1, a2] (vI y :: vI x :: st) h Q ↔ At call ac_190 23 [a0, a1, a2] (vI (opOr x y) :: st) h Q := At_next rfl
theorem r190_23 : At call ac_190 23 [a0, a1, a2] (vI x :: st) h Q ↔ At call ac_190 24 [a0, vI x, a2] st h Q := At_next rfl
theorem r190_24 : At call ac_190 24 [a0, a1, vI x] st h Q ↔ At call ac_190 27 [a0, a1, vI (wr (x + 1))] st h Q := At_next rfl
theorem r190_27 : At call ac_190 27 [a0, a1, a2] st h Q ↔ At call ac_190 4 [a0, a1, a2] st h Q := At_next rfl
theorem r190_30 : At call ac_190 30 [a0, vI x, a2] st h Q ↔ At call ac_190 31 [a0, vI x, a2] (vI x :: st) h Q := At_next rfl
theorem r190_31 : At call ac_190 31 [a0, a1, a2] [vI x] h Q ↔ Q (some (vI x)) h := At_ret rfl
theorem r191_0 : At call ac_191 0 [a0, a1, a2] st h Q ↔ At call ac_191 1 [a0, a1, a2] (vI 0 :: st) h Q := At_next rfl
theorem r191_1 : At call ac_191 1 [a0, a1, a2] (vI x :: st) h Q ↔ At call ac_191 2 [a0, a1, vI x] st h Q := At_next rfl
theorem r191_2 : At call ac_191 2 [a0, a1, vI x] st h Q ↔ At call ac_191 3 [a0, a1, vI x] (vI x :: st) h Q := At_next rfl
theorem r191_3 : At call ac_191 3 [a0, vI x, a2] st h Q ↔ At call ac_191 4 [a0, vI x, a2] (vI x :: st) h Q := At_next rfl
theorem r191_4 : At call ac_191 4 [a0, a1, a2] (vI y :: vI x :: st) h Q ↔ if x < y then At call ac_191 7 [a0, a1, a2] st h Q else At call ac_191 18 [a0, a1, a2] st h Q := At_br rfl
theorem r191_7 : At call ac_191 7 [vR g m, a1, a2] st h Q ↔ At call ac_191 8 [vR g m, a1, a2] (vR g m :: st) h Q := At_next rfl
theorem r191_8 : At call ac_191 8 [a0, a1, a2] st h Q ↔ At call ac_191 9 [a0, a1, a2] (vI 0 :: st) h Q := At_next rfl
theorem r191_9 : At call ac_191 9 [a0, a1, a2] (b1 :: b0 :: st) h Q ↔ st.length ≤ 4 ∧ ∃ h1, call 189 [b0, b1] h none h1 ∧ At call ac_191 12 [a0, a1, a2] st h1 Q := At_gcallv rfl
theorem r191_12 : At call ac_191 12 [a0, a1, vI x] st h Q ↔ At call ac_191 15 [a0, a1, vI (wr (x + 1))] st h Q := At_next rfl
theorem r191_15 : At call ac_191 15 [a0, a1, a2] st h Q ↔ At call ac_191 2 [a0, a1, a2] st h Q := At_next rfl
theorem r191_18 : At call ac_191 18 [a0, a1, a2] [] h Q ↔ Q none h := At_ret rfl
theorem r192_0 : At call ac_192 0 [vI x] st h Q ↔ At call ac_192 1 [vI x] (vI x :: st) h Q := At_next rfl
theorem r192_1 : At call ac_192 1 [a0] st h Q ↔ At call ac_192 2 [a0] (vI 0 :: st) h Q := At_next rfl
theorem r192_2 : At call ac_192 2 [a0] st h Q ↔ At call ac_192 4 [a0] (vI 99 :: st) h Q := At_next rfl
theorem r192_4 : At call ac_192 4 [a0] (b2 :: b1 :: b0 :: st) h Q ↔ st.length ≤ 4 ∧ ∃ v h1, call 144 [b0, b1, b2] h (some v) h1 ∧ At call ac_192 7 [a0] (v :: st) h1 Q := At_gcall rfl
theorem r192_7 : At call ac_192 7 [a0] [vI x] h Q ↔ (x = 0 ∨ x = 1) ∧ Q (some (vI x)) h := At_guardR rfl
theorem r193_0 : At call ac_193 0 [vR g m, a1, a2, a3] st h Q ↔ At call ac_193 1 [vR g m, a1, a2, a3] (vR g m :: st) h Q := At_next rfl
theorem r193_1 : At call ac_193 1 [a0, vI x, a2, a3] st h Q ↔ At call ac_193 2 [a0, vI x, a2, a3] (vI x :: st) h Q := At_next rfl
theorem r193_2 : At call ac_193 2 [a0, a1, a2, a3] (b1 :: b0 :: st) h Q ↔ st.length ≤ 4 ∧ ∃ v h1, call 145 [b0, b1] h (some v) h1 ∧ At call ac_193 5 [a0, a1, a2, a3] (v :: st) h1 Q := At_gcall rfl
theorem r193_5 : At call ac_193 5 [a0, a1, a2, a3] (vI x :: st) h Q ↔ if x = 0 then At call ac_193 8 [a0, a1, a2, a3] st h Q else At call ac_193 14 [a0, a1, a2, a3] st h Q := At_br rfl
theorem r193_8 : At call ac_193 8 [vR g m, a1, a2, a3] st h Q ↔ At call ac_193 9 [vR g m, a1, a2, a3] (vR g m :: st) h Q := At_next rfl
theorem r193_9 : At call ac_193 9 [a0, a1, a2, a3] st h Q ↔ At call ac_193 10 [a0, a1, a2, a3] (vI (-1) :: st) h Q := At_next rfl
theorem r193_10 : At call ac_193 10 [a0, a1, a2, a3] (b1 :: b0 :: st) h Q ↔ st.length ≤ 4 ∧ ∃ v h1, call 142 [b0, b1] h (some v) h1 ∧ At call ac_193 13 [a0, a1, a2, a3] (v :: st) h1 Q := At_gcall rfl
theorem r193_13 : At call ac_193 13 [a0, a1, a2, a3] [vI x] h Q ↔ Q (some (vI x)) h := At_ret rfl
theorem r193_14 : At call ac_193 14 [a0, a1, vI x, a3] st h Q ↔ At call ac_193 15 [a0, a1, vI x, a3] (vI x :: st) h Q := At_next rfl
theorem r193_15 : At call ac_193 15 [a0, a1, a2, a3] (b0 :: st) h Q ↔ st.length ≤ 4 ∧ ∃ v h1, call 192 [b0] h (some v) h1 ∧ At call ac_193 18 [a0, a1, a2, a3] (v :: st) h1 Q := At_gcall rfl
theorem r193_18 : At call ac_193 18 [a0, a1, a2, a3] (vI x :: st) h Q ↔ if x = 0 then At call ac_193 21 [a0, a1, a2, a3] st h Q else At call ac_193 28 [a0, a1, a2, a3] st h Q := At_br rfl
theorem r193_21 : At call ac_193 21 [vR g m, a1, a2, a3] st h Q ↔ At call ac_193 22 [vR g m, a1, a2, a3] (vR g m :: st) h Q := At_next rfl
theorem r193_22 : At call ac_193 22 [a0, a1, a2, a3] st h Q ↔ At call ac_193 24 [a0, a1, a2, a3] (vI (-6) :: st) h Q := At_next rfl
theorem r193_24 : At call ac_193 24 [a0, a1, a2, a3] (b1 :: b0 :: st) h Q ↔ st.length ≤ 4 ∧ ∃ v h1, call 142 [b0, b1] h (some v) h1 ∧ At call ac_193 27 [a0, a1, a2, a3] (v :: st) h1 Q := At_gcall rfl
theorem r193_27 : At call ac_193 27 [a0, a1, a2, a3] [vI x] h Q ↔ Q (some (vI x)) h := At_ret rfl
theorem r193_28 : At call ac_193 28 [vR g m, a1, a2, a3] st h Q ↔ At call ac_193 29 [vR g m, a1, a2, a3] (vR g m :: st) h Q := At_next rfl
theorem r193_29 : At call ac_193 29 [vR g m, a1, a2, a3] st h Q ↔ At call ac_193 30 [vR g m, a1, a2, a3] (vR g m :: st) h Q := At_next rfl
theorem r193_30 : At call ac_193 30 [a0, a1, a2, a3] (vR g 27 :: st) h Q ↔ At call ac_193 33 [a0, a1, a2, a3] (vR g 35 :: st) h Q := At_next rfl
theorem r193_33 : At call ac_193 33 [a0, a1, a2, a3] (b1 :: b0 :: st) h Q ↔ st.length ≤ 4 ∧ ∃ h1, call 231 [b0, b1] h none h1 ∧ At call ac_193 36 [a0, a1, a2, a3] st h1 Q := At_gcallv rfl
theorem r193_36 : At call ac_193 36 [vR g m, a1, a2, a3] st h Q ↔ At call ac_193 37 [vR g m, a1, a2, a3] (vR g m :: st) h Q := At_next rfl
theorem r193_37 : At call ac_193 37 [a0, a1, vI x, a3] st h Q ↔ At call ac_193 38 [a0, a1, vI x, a3] (vI x :: st) h Q := At_next rfl
theorem r193_38 : At call ac_193 38 [a0, a1, a2, a3] (b1 :: b0 :: st) h Q ↔ st.length ≤ 4 ∧ ∃ h1, call 191 [b0, b1] h none h1 ∧ At call ac_193 41 [a0, a1, a2, a3] st h1 Q := At_gcallv rfl
theorem r193_41 : At call ac_193 41 [vR g m, a1, a2, a3] st h Q ↔ At call ac_193 42 [vR g m, a1, a2, a3] (vR g m :: st) h Q := At_next rfl
theorem r193_42 : At call ac_193 42 [a0, a1, a2, a3] (vR g 27 :: st) h Q ↔ At call ac_193 45 [a0, a1, a2, a3] (vR g 22 :: st) h Q := At_next rfl
theorem r193_45 : At call ac_193 45 [a0, vI x, a2, a3] st h Q ↔ At call ac_193 46 [a0, vI x, a2, a3] (vI x :: st) h Q := At_next rfl
theorem r193_46 : At call ac_193 46 [a0, a1, a2, a3] (vI x :: vR g m :: st) h Q ↔ inA h m 0 x ∧ At call ac_193 47 [a0, a1, a2, a3] (vI (h g m x.toNat) :: st) h Q := At_guard rfl
theorem r193_47 : At call ac_193 47 [a0, a1, a2, a3] (vI x :: st) h Q ↔ At call ac_193 48 [a0, a1, a2, vI x] st h Q := At_next rfl
theorem r193_48 : At call ac_193 48 [vR g m, a1, a2, a3] st h Q ↔ At call ac_193 49 [vR g m, a1, a2, a3] (vR g m :: st) h Q := At_next rfl
theorem r193_49 : At call ac_193 49 [vR g m, a1, a2, a3] st h Q ↔ At call ac_193 50 [vR g m, a1, a2, a3] (vR g m :: st) h Q := At_next rfl
theorem r193_50 : At call ac_193 50 [a0, a1, a2, a3] (vR g 27 :: st) h Q ↔ At call ac_193 53 [a0, a1, a2, a3] (vR g 35 :: st) h Q := At_next rfl
theorem r193_53 : At call ac_193 53 [a0, a1, a2, a3] (b1 :: b0 :: st) h Q ↔ st.length ≤ 4 ∧ ∃ h1, call 232 [b0, b1] h none h1 ∧ At call ac_193 56 [a0, a1, a2, a3] st h1 Q := At_gcallv rfl
theorem r193_56 : At call ac_193 56 [a0, a1, a2, vI x] st h Q ↔ At call ac_193 57 [a0, a1, a2, vI x] (vI x :: st) h Q := At_next rfl
theorem r193_57 : At call ac_193 57 [a0, a1, a2, a3] [vI x] h Q ↔ Q (some (vI x)) h := At_ret rfl
theorem r194_0 : At call ac_194 0 [vR g m, a1, a2, a3] st h Q ↔ At call ac_194 1 [vR g m, a1, a2, a3] (vR g m :: st) h Q := At_next rfl
theorem r194_1 : At call ac_194 1 [a0, vI x, a2, a3] st h Q ↔ At call ac_194 2 [a0, vI x, a2, a3] (vI x :: st) h Q := At_next rfl
theorem r194_2 : At call ac_194 2 [a0, a1, a2, a3] (b1 :: b0 :: st) h Q ↔ st.length ≤ 4 ∧ ∃ v h1, call 146 [b0, b1] h (some v) h1 ∧ At call ac_194 5 [a0, a1, a2, a3] (v :: st) h1 Q := At_gcall rfl
theorem r194_5 : At call ac_194 5 [a0, a1, a2, a3] (vI x :: st) h Q ↔ if x = 0 then At call ac_194 8 [a0, a1, a2, a3] st h Q else At call ac_194 14 [a0, a1, a2, a3] st h Q := At_br rfl
theorem r194_8 : At call ac_194 8 [vR g m, a1, a2, a3] st h Q ↔ At call ac_194 9 [vR g m, a1, a2, a3] (vR g m :: st) h Q := At_next rfl
theorem r194_9 : At call ac_194 9 [a0, a1, a2, a3] st h Q ↔ At call ac_194 10 [a0, a1, a2, a3] (vI (-1) :: st) h Q := At_next rfl
theorem r194_10 : At call ac_194 10 [a0, a1, a2, a3] (b1 :: b0 :: st) h Q ↔ st.length ≤ 4 ∧ ∃ v h1, call 142 [b0, b1] h (some v) h1 ∧ At call ac_194 13 [a0, a1, a2, a3] (v :: st) h1 Q := At_gcall rfl
theorem r194_13 : At call ac_194 13 [a0, a1, a2, a3] [vI x] h Q ↔ Q (some (vI x)) h := At_ret rfl
theorem r194_14 : At call ac_194 14 [a0, a1, vI x, a3] st h Q ↔ At call ac_194 15 [a0, a1, vI x, a3] (vI x :: st) h Q := At_next rfl
theorem r194_15 : At call ac_194 15 [a0, a1, a2, a3] (b0 :: st) h Q ↔ st.length ≤ 4 ∧ ∃ v h1, call 192 [b0] h (some v) h1 ∧ At call ac_194 18 [a0, a1, a2, a3] (v :: st) h1 Q := At_gcall rfl
theorem r194_18 : At call ac_194 18 [a0, a1, a2, a3] (vI x :: st) h Q ↔ if x = 0 then At call ac_194 21 [a0, a1, a2, a3] st h Q else At call ac_194 28 [a0, a1, a2, a3] st h Q := At_br rfl
theorem r194_21 : At call ac_194 21 [vR g m, a1, a2, a3] st h Q ↔ At call ac_194 22 [vR g m, a1, a2, a3] (vR g m :: st) h Q := At_next rfl
theorem r194_22 : At call ac_194 22 [a0, a1, a2, a3] st h Q ↔ At call ac_194 24 [a0, a1, a2, a3] (vI (-6) :: st) h Q := At_next rfl
theorem r194_24 : At call ac_194 24 [a0, a1, a2, a3] (b1 :: b0 :: st) h Q ↔ st.length ≤ 4 ∧ ∃ v h1, call 142 [b0, b1] h (some v) h1 ∧ At call ac_194 27 [a0, a1, a2, a3] (v :: st) h1 Q := At_gcall rfl
theorem r194_27 : At call ac_194 27 [a0, a1, a2, a3] [vI x] h Q ↔ Q (some (vI x)) h := At_ret rfl
theorem r194_28 : At call ac_194 28 [vR g m, a1, a2, a3] st h Q ↔ At call ac_194 29 [vR g m, a1, a2, a3] (vR g m :: st) h Q := At_next rfl
theorem r194_29 : At call ac_194 29 [vR g m, a1, a2, a3] st h Q ↔ At call ac_194 30 [vR g m, a1, a2, a3] (vR g m :: st) h Q := At_next rfl
theorem r194_30 : At call ac_194 30 [a0, a1, a2, a3] (vR g 27 :: st) h Q ↔ At call ac_194 33 [a0, a1, a2, a3] (vR g 35 :: st) h Q := At_next rfl
theorem r194_33 : At call ac_194 33 [a0, a1, a2, a3] (b1 :: b0 :: st) h Q ↔ st.length ≤ 4 ∧ ∃ h1, call 231 [b0, b1] h none h1 ∧ At call ac_194 36 [a0, a1, a2, a3] st h1 Q := At_gcallv rfl
theorem r194_36 : At call ac_194 36 [vR g m, a1, a2, a3] st h Q ↔ At call ac_194 37 [vR g m, a1, a2, a3] (vR g m :: st) h Q := At_next rfl
theorem r194_37 : At call ac_194 37 [a0, a1, vI x, a3] st h Q ↔ At call ac_194 38 [a0, a1, vI x, a3] (vI x :: st) h Q := At_next rfl
theorem r194_38 : At call ac_194 38 [a0, a1, a2, a3] (b1 :: b0 :: st) h Q ↔ st.length ≤ 4 ∧ ∃ h1, call 191 [b0, b1] h none h1 ∧ At call ac_194 41 [a0, a1, a2, a3] st h1 Q := At_gcallv rfl
theorem r194_41 : At call ac_194 41 [vR g m, a1, a2, a3] st h Q ↔ At call ac_194 42 [vR g m, a1, a2, a3] (vR g m :: st) h Q := At_next rfl
theorem r194_42 : At call ac_194 42 [a0, a1, a2, a3] (vR g 27 :: st) h Q ↔ At call ac_194 45 [a0, a1, a2, a3] (vR g 24 :: st) h Q := At_next rfl
theorem r194_45 : At call ac_194 45 [a0, vI x, a2, a3] st h Q ↔ At call ac_194 46 [a0, vI x, a2, a3] (vI x :: st) h Q := At_next rfl
theorem r194_46 : At call ac_194 46 [a0, a1, a2, a3] (vI x :: vR g m :: st) h Q ↔ inA h m 0 x ∧ At call ac_194 47 [a0, a1, a2, a3] (vI (h g m x.toNat) :: st) h Q := At_guard rfl
theorem r194_47 : At call ac_194 47 [a0, a1, a2, a3] (vI x :: st) h Q ↔ At call ac_194 48 [a0, a1, a2, vI x] st h Q := At_next rfl
theorem r194_48 : At call ac_194 48 [vR g m, a1, a2, a3] st h Q ↔ At call ac_194 49 [vR g m, a1, a2, a3] (vR g m :: st) h Q := At_next rfl
theorem r194_49 : At call ac_194 49 [vR g m, a1, a2, a3] st h Q ↔ At call ac_194 50 [vR g m, a1, a2, a3] (vR g m :: st) h Q := At_next rfl
theorem r194_50 : At call ac_194 50 [a0, a1, a2, a3] (vR g 27 :: st) h Q ↔ At call ac_194 53 [a0, a1, a2, a3] (vR g 35 :: st) h Q := At_next rfl
theorem r194_53 : At call ac_194 53 [a0, a1, a2, a3] (b1 :: b0 :: st) h Q ↔ st.length ≤ 4 ∧ ∃ h1, call 232 [b0, b1] h none h1 ∧ At call ac_194 56 [a0, a1, a2, a3] st h1 Q := At_gcallv rfl
theorem r194_56 : At call ac_194 56 [a0, a1, a2, vI x] st h Q ↔ At call ac_194 57 [a0, a1, a2, vI x] (vI x :: st) h Q := At_next rfl
theorem r194_57 : At call ac_194 57 [a0, a1, a2, a3] [vI x] h Q ↔ Q (some (vI x)) h := At_ret rfl
theorem r195_0 : At call ac_195 0 [a0, a1, a2, a3] st h Q ↔ At call ac_195 1 [a0, a1, a2, a3] (vI 0 :: st) h Q := At_next rfl
theorem r195_1 : At call ac_195 1 [a0, a1, a2, a3] (vI x :: st) h Q ↔ At call ac_195 2 [a0, a1, vI x, a3] st h Q := At_next rfl
theorem r195_2 : At call ac_195 2 [a0, a1, a2, a3] st h Q ↔ At call ac_195 3 [a0, a1, a2, a3] (vI 0 :: st) h Q := At_next rfl
theorem r195_3 : At call ac_195 3 [a0, a1, a2, a3] (vI x :: st) h Q ↔ At call ac_195 4 [a0, a1, a2, vI x] st h Q := At_next rfl
theorem r195_4 : At call ac_195 4 [a0, a1, a2, vI x] st h Q ↔ At call ac_195 5 [a0, a1, a2, vI x] (vI x :: st) h Q := At_next rfl
theorem r195_5 : At call ac_195 5 [vR g m, a1, a2, a3] st h Q ↔ At call ac_195 6 [vR g m, a1, a2, a3] (vR g m :: st) h Q := At_next rfl
theorem r195_6 : At call ac_195 6 [a0, a1, a2, a3] (vR g 27 :: st) h Q ↔ At call ac_195 9 [a0, a1, a2, a3] (vI (h g 27 8) :: st) h Q := At_next rfl
theorem r195_9 : At call ac_195 9 [a0, a1, a2, a3] (vI y :: vI x :: st) h Q ↔ if x < y then At call ac_195 12 [a0, a1, a2, a3] st h Q else At call ac_195 62 [a0, a1, a2, a3] st h Q := At_br rfl
theorem r195_12 : At call ac_195 12 [vR g m, a1, a2, a3] st h Q ↔ At call ac_195 13 [vR g m, a1, a2, a3] (vR g m :: st) h Q := At_next rfl
theorem r195_13 : At call ac_195 13 [a0, a1, a2, a3] (vR g 27 :: st) h Q ↔ At call ac_195 16 [a0, a1, a2, a3] (vR g 25 :: st) h Q := At_next rfl
theorem r195_16 : At call ac_195 16 [a0, a1, a2, vI x] st h Q ↔ At call ac_195 17 [a0, a1, a2, vI x] (vI x :: st) h Q := At_next rfl
theorem r195_17 : At call ac_195 17 [a0, a1, a2, a3] (vI x :: vR g m :: st) h Q ↔ inA h m 0 x ∧ At call ac_195 18 [a0, a1, a2, a3] (vI (h g m x.toNat) :: st) h Q := At_guard rfl
theorem r195_18 : At call ac_195 18 [a0, a1, a2, a3] st h Q ↔ At call ac_195 21 [a0, a1, a2, a3] (vI 200 :: st) h Q := At_next rfl
theorem r195_21 : At call ac_195 21 [a0, a1, a2, a3] (vI y :: vI x :: st) h Q ↔ if x = y then At call ac_195 56 [a0, a1, a2, a3] st h Q else At call ac_195 24 [a0, a1, a2, a3] st h Q := At_br rfl
theorem r195_24 : At call ac_195 24 [a0, vI x, a2, a3] st h Q ↔ At call ac_195 25 [a0, vI x, a2, a3] (vI x :: st) h Q := At_next rfl
theorem r195_25 : At call ac_195 25 [a0, a1, a2, a3] st h Q ↔ At call ac_195 26 [a0, a1, a2, a3] (vI (-1) :: st) h Q := At_next rfl
theorem r195_26 : At call ac_195 26 [a0, a1, a2, a3] (vI y :: vI x :: st) h Q ↔ if x = y then At call ac_195 39 [a0, a1, a2, a3] st h Q else At call ac_195 29 [a0, a1, a2, a3] st h Q := At_br rfl
theorem r195_29 : At call ac_195 29 [vR g m, a1, a2, a3] st h Q ↔ At call ac_195 30 [vR g m, a1, a2, a3] (vR g m :: st) h Q := At_next rfl
theorem r195_30 : At call ac_195 30 [a0, a1, a2, a3] (vR g 27 :: st) h Q ↔ At call ac_195 33 [a0, a1, a2, a3] (vR g 25 :: st) h Q := At_next rfl
theorem r195_33 : At call ac_195 33 [a0, a1, a2, vI x] st h Q ↔ At call ac_195 34 [a0, a1, a2, vI x] (vI x :: st) h Q := At_next rfl
theorem r195_34 : At call ac_195 34 [a0, a1, a2, a3] (vI x :: vR g m :: st) h Q ↔ inA h m 0 x ∧ At call ac_195 35 [a0, a1, a2, a3] (vI (h g m x.toNat) :: st) h Q := At_guard rfl
theorem r195_35 : At call ac_195 35 [a0, vI x, a2, a3] st h Q ↔ At call ac_195 36 [a0, vI x, a2, a3] (vI x :: st) h Q := At_next rfl
theorem r195_36 : At call ac_195 36 [a0, a1, a2, a3] (vI y :: vI x :: st) h Q ↔ if x = y then At call ac_195 39 [a0, a1, a2, a3] st h Q else At call ac_195 56 [a0, a1, a2, a3] st h Q := At_br rfl
theorem r195_39 : At call ac_195 39 [a0, a1, vI x, a3] st h Q ↔ At call ac_195 40 [a0, a1, vI x, a3] (vI x :: st) h Q := At_next rfl
theorem r195_40 : At call ac_195 40 [vR g m, a1, a2, a3] st h Q ↔ At call ac_195 41 [vR g m, a1, a2, a3] (vR g m :: st) h Q := At_next rfl
theorem r195_41 : At call ac_195 41 [a0, a1, a2, a3] (vR g 27 :: st) h Q ↔ At call ac_195 44 [a0, a1, a2, a3] (vR g 26 :: st) h Q := At_next rfl
theorem r195_44 : At call ac_195 44 [vR g m, a1, a2, a3] st h Q ↔ At call ac_195 45 [vR g m, a1, a2, a3] (vR g m :: st) h Q := At_next rfl
theorem r195_45 : At call ac_195 45 [a0, a1, a2, a3] (vR g 27 :: st) h Q ↔ At call ac_195 48 [a0, a1, a2, a3] (vR g 24 :: st) h Q := At_next rfl
theorem r195_48 : At call ac_195 48 [a0, a1, a2, vI x] st h Q ↔ At call ac_195 49 [a0, a1, a2, vI x] (vI x :: st) h Q := At_next rfl
theorem r195_49 : At call ac_195 49 [a0, a1, a2, a3] (vI x :: vR g m :: st) h Q ↔ inA h m 0 x ∧ At call ac_195 50 [a0, a1, a2, a3] (vI (h g m x.toNat) :: st) h Q := At_guard rfl
theorem r195_50 : At call ac_195 50 [a0, a1, a2, a3] (b0 :: st) h Q ↔ st.length ≤ 4 ∧ ∃ v h1, call 162 [b0] h (some v) h1 ∧ At call ac_195 53 [a0, a1, a2, a3] (v :: st) h1 Q := At_gcall rfl
theorem r195_53 : At call ac_195 53 [a0, a1, a2, a3] (vI x :: vR g m :: st) h Q ↔ inA h m 0 x ∧ At call ac_195 54 [a0, a1, a2, a3] (vI (h g m x.toNat) :: st) h Q := At_guard rfl
theorem r195_54 : At call ac_195 54 [a0, a1, a2, a3] (vI y :: vI x :: st) h Q ↔ At call ac_195 55 [a0, a1, a2, a3] (vI (wr (x + y)) :: st) h Q := At_next rfl
theorem r195_55 : At call ac_195 55 [a0, a1, a2, a3] (vI x :: st) h Q ↔ At call ac_195 56 [a0, a1, vI x, a3] st h Q := At_next rfl
theorem r195_56 : At call ac_195 56 [a0, a1, a2, vI x] st h Q ↔ At call ac_195 59 [a0, a1, a2, vI (wr (x + 1))] st h Q := At_next rfl
theorem r195_59 : At call ac_195 59 [a0, a1, a2, a3] st h Q ↔ At call ac_195 4 [a0, a1, a2, a3] st h Q := At_next rfl
theorem r195_62 : At call ac_195 62 [a0, a1, vI x, a3] st h Q ↔ At call ac_195 63 [a0, a1, vI x, a3] (vI x :: st) h Q := At_next rfl
theorem r195_63 : At call ac_195 63 [a0, a1, a2, a3] [vI x] h Q ↔ Q (some (vI x)) h := At_ret rfl
theorem r196_0 : At call ac_196 0 [a0, vI x, a2] st h Q ↔ At call ac_196 1 [a0, vI x, a2] (vI x :: st) h Q := At_next rfl
theorem r196_1 : At call ac_196 1 [a0, a1, a2] (b0 :: st) h Q ↔ st.length ≤ 4 ∧ ∃ v h1, call 192 [b0] h (some v) h1 ∧ At call ac_196 4 [a0, a1, a2] (v :: st) h1 Q := At_gcall rfl
theorem r196_4 : At call ac_196 4 [a0, a1, a2] (vI x :: st) h Q ↔ if x = 0 then At call ac_196 7 [a0, a1, a2] st h Q else At call ac_196 14 [a0, a1, a2] st h Q := At_br rfl
theorem r196_7 : At call ac_196 7 [vR g m, a1, a2] st h Q ↔ At call ac_196 8 [vR g m, a1, a2] (vR g m :: st) h Q := At_next rfl
theorem r196_8 : At call ac_196 8 [a0, a1, a2] st h Q ↔ At call ac_196 10 [a0, a1, a2] (vI (-6) :: st) h Q := At_next rfl
theorem r196_10 : At call ac_196 10 [a0, a1, a2] (b1 :: b0 :: st) h Q ↔ st.length ≤ 4 ∧ ∃ v h1, call 142 [b0, b1] h (some v) h1 ∧ At call ac_196 13 [a0, a1, a2] (v :: st) h1 Q := At_gcall rfl
theorem r196_13 : At call ac_196 13 [a0, a1, a2] [vI x] h Q ↔ Q (some (vI x)) h := At_ret rfl
theorem r196_14 : At call ac_196 14 [vR g m, a1, a2] st h Q ↔ At call ac_196 15 [vR g m, a1, a2] (vR g m :: st) h Q := At_next rfl
theorem r196_15 : At call ac_196 15 [vR g m, a1, a2] st h Q ↔ At call ac_196 16 [vR g m, a1, a2] (vR g m :: st) h Q := At_next rfl
theorem r196_16 : At call ac_196 16 [a0, a1, a2] (vR g 27 :: st) h Q ↔ At call ac_196 19 [a0, a1, a2] (vR g 35 :: st) h Q := At_next rfl
theorem r196_19 : At call ac_196 19 [a0, a1, a2] (b1 :: b0 :: st) h Q ↔ st.length ≤ 4 ∧ ∃ h1, call 231 [b0, b1] h none h1 ∧ At call ac_196 22 [a0, a1, a2] st h1 Q := At_gcallv rfl
theorem r196_22 : At call ac_196 22 [vR g m, a1, a2] st h Q ↔ At call ac_196 23 [vR g m, a1, a2] (vR g m :: st) h Q := At_next rfl
theorem r196_23 : At call ac_196 23 [a0, vI x, a2] st h Q ↔ At call ac_196 24 [a0, vI x, a2] (vI x :: st) h Q := At_next rfl
theorem r196_24 : At call ac_196 24 [a0, a1, a2] (b1 :: b0 :: st) h Q ↔ st.length ≤ 4 ∧ ∃ h1, call 191 [b0, b1] h none h1 ∧ At call ac_196 27 [a0, a1, a2] st h1 Q := At_gcallv rfl
theorem r196_27 : At call ac_196 27 [vR g m, a1, a2] st h Q ↔ At call ac_196 28 [vR g m, a1, a2] (vR g m :: st) h Q := At_next rfl
theorem r196_28 : At call ac_196 28 [a0, a1, a2] (vR g 27 :: st) h Q ↔ At call ac_196 31 [a0, a1, a2] (vI (h g 27 10) :: st) h Q := At_next rfl
theorem r196_31 : At call ac_196 31 [vR g m, a1, a2] st h Q ↔ At call ac_196 32 [vR g m, a1, a2] (vR g m :: st) h Q := At_next rfl
theorem r196_32 : At call ac_196 32 [a0, a1, a2] st h Q ↔ At call ac_196 33 [a0, a1, a2] (vI (-1) :: st) h Q := At_next rfl
theorem r196_33 : At call ac_196 33 [a0, a1, a2] (b1 :: b0 :: st) h Q ↔ st.length ≤ 4 ∧ ∃ v h1, call 195 [b0, b1] h (some v) h1 ∧ At call ac_196 36 [a0, a1, a2] (v :: st) h1 Q := At_gcall rfl
theorem r196_36 : At call ac_196 36 [a0, a1, a2] (vI y :: vI x :: st) h Q ↔ At call ac_196 37 [a0, a1, a2] (vI (wr (x + y)) :: st) h Q := At_next rfl
theorem r196_37 : At call ac_196 37 [a0, a1, a2] (vI x :: st) h Q ↔ At call ac_196 38 [a0, a1, vI x] st h Q := At_next rfl
theorem r196_38 : At call ac_196 38 [vR g m, a1, a2] st h Q ↔ At call ac_196 39 [vR g m, a1, a2] (vR g m :: st) h Q := At_next rfl
theorem r196_39 : At call ac_196 39 [vR g m, a1, a2] st h Q ↔ At call ac_196 40 [vR g m, a1, a2] (vR g m :: st) h Q := At_next rfl
theorem r196_40 : At call ac_196 40 [a0, a1, a2] (vR g 27 :: st) h Q ↔ At call ac_196 43 [a0, a1, a2] (vR g 35 :: st) h Q := At_next rfl
theorem r196_43 : At call ac_196 43 [a0, a1, a2] (b1 :: b0 :: st) h Q ↔ st.length ≤ 4 ∧ ∃ h1, call 232 [b0, b1] h none h1 ∧ At call ac_196 46 [a0, a1, a2] st h1 Q := At_gcallv rfl
theorem r196_46 : At call ac_196 46 [a0, a1, vI x] st h Q ↔ At call ac_196 47 [a0, a1, vI x] (vI x :: st) h Q := At_next rfl
theorem r196_47 : At call ac_196 47 [a0, a1, a2] [vI x] h Q ↔ Q (some (vI x)) h := At_ret rfl
theorem r197_0 : At call ac_197 0 [vR g m, a1, a2, a3, a4] st h Q ↔ At call ac_197 1 [vR g m, a1, a2, a3, a4] (vR g m :: st) h Q := At_next rfl
theorem r197_1 : At call ac_197 1 [a0, vI x, a2, a3, a4] st h Q ↔ At call ac_197 2 [a0, vI x, a2, a3, a4] (vI x :: st) h Q := At_next rfl
theorem r197_2 : At call ac_197 2 [a0, a1, a2, a3, a4] (b1 :: b0 :: st) h Q ↔ st.length ≤ 4 ∧ ∃ v h1, call 145 [b0, b1] h (some v) h1 ∧ At call ac_197 5 [a0, a1, a2, a3, a4] (v :: st) h1 Q := At_gcall rfl
theorem r197_5 : At call ac_197 5 [a0, a1, a2, a3, a4] (vI x :: st) h Q ↔ if x = 0 then At call ac_197 8 [a0, a1, a2, a3, a4] st h Q else At call ac_197 14 [a0, a1, a2, a3, a4] st h Q := At_br rfl
theorem r197_8 : At call ac_197 8 [vR g m, a1, a2, a3, a4] st h Q ↔ At call ac_197 9 [vR g m, a1, a2, a3, a4] (vR g m :: st) h Q := At_next rfl
theorem r197_9 : At call ac_197 9 [a0, a1, a2, a3, a4] st h Q ↔ At call ac_197 10 [a0, a1, a2, a3, a4] (vI (-1) :: st) h Q := At_next rfl
theorem r197_10 : At call ac_197 10 [a0, a1, a2, a3, a4] (b1 :: b0 :: st) h Q ↔ st.length ≤ 4 ∧ ∃ v h1, call 142 [b0, b1] h (some v) h1 ∧ At call ac_197 13 [a0, a1, a2, a3, a4] (v :: st) h1 Q := At_gcall rfl
theorem r197_13 : At call ac_197 13 [a0, a1, a2, a3, a4] [vI x] h Q ↔ Q (some (vI x)) h := At_ret rfl
theorem r197_14 : At call ac_197 14 [vR g m, a1, a2, a3, a4] st h Q ↔ At call ac_197 15 [vR g m, a1, a2, a3, a4] (vR g m :: st) h Q := At_next rfl
theorem r197_15 : At call ac_197 15 [vR g m, a1, a2, a3, a4] st h Q ↔ At call ac_197 16 [vR g m, a1, a2, a3, a4] (vR g m :: st) h Q := At_next rfl
theorem r197_16 : At call ac_197 16 [a0, a1, a2, a3, a4] (vR g 27 :: st) h Q ↔ At call ac_197 19 [a0, a1, a2, a3, a4] (vR g 35 :: st) h Q := At_next rfl
theorem r197_19 : At call ac_197 19 [a0, a1, a2, a3, a4] (b1 :: b0 :: st) h Q ↔ st.length ≤ 4 ∧ ∃ h1, call 231 [b0, b1] h none h1 ∧ At call ac_197 22 [a0, a1, a2, a3, a4] st h1 Q := At_gcallv rfl
theorem r197_22 : At call ac_197 22 [a0, a1, a2, a3, a4] st h Q ↔ At call ac_197 23 [a0, a1, a2, a3, a4] (vI 0 :: st) h Q := At_next rfl
theorem r197_23 : At call ac_197 23 [a0, a1, a2, a3, a4] (vI x :: st) h Q ↔ At call ac_197 24 [a0, a1, vI x, a3, a4] st h Q := At_next rfl
theorem r197_24 : At call ac_197 24 [a0, a1, a2, a3, a4] st h Q ↔ At call ac_197 25 [a0, a1, a2, a3, a4] (vI (-1) :: st) h Q := At_next rfl
theorem r197_25 : At call ac_197 25 [a0, a1, a2, a3, a4] (vI x :: st) h Q ↔ At call ac_197 26 [a0, a1, a2, vI x, a4] st h Q := At_next rfl
theorem r197_26 : At call ac_197 26 [a0, a1, a2, a3, a4] st h Q ↔ At call ac_197 27 [a0, a1, a2, a3, a4] (vI 0 :: st) h Q := At_next rfl
theorem r197_27 : At call ac_197 27 [a0, a1, a2, a3, a4] (vI x :: st) h Q ↔ At call ac_197 29 [a0, a1, a2, a3, vI x] st h Q := At_next rfl
theorem r197_29 : At call ac_197 29 [a0, a1, a2, a3, vI x] st h Q ↔ At call ac_197 31 [a0, a1, a2, a3, vI x] (vI x :: st) h Q := At_next rfl
theorem r197_31 : At call ac_197 31 [a0, a1, a2, a3, a4] st h Q ↔ At call ac_197 33 [a0, a1, a2, a3, a4] (vI 25 :: st) h Q := At_next rfl
theorem r197_33 : At call ac_197 33 [a0, a1, a2, a3, a4] (vI y :: vI x :: st) h Q ↔ if x < y then At call ac_197 36 [a0, a1, a2, a3, a4] st h Q else At call ac_197 67 [a0, a1, a2, a3, a4] st h Q := At_br rfl
theorem r197_36 : At call ac_197 36 [vR g m, a1, a2, a3, a4] st h Q ↔ At call ac_197 37 [vR g m, a1, a2, a3, a4] (vR g m :: st) h Q := At_next rfl
theorem r197_37 : At call ac_197 37 [a0, a1, a2, a3, a4] (vR g 27 :: st) h Q ↔ At call ac_197 40 [a0, a1, a2, a3, a4] (vR g 22 :: st) h Q := At_next rfl
theorem r197_40 : At call ac_197 40 [a0, vI x, a2, a3, a4] st h Q ↔ At call ac_197 41 [a0, vI x, a2, a3, a4] (vI x :: st) h Q := At_next rfl
theorem r197_41 : At call ac_197 41 [a0, a1, a2, a3, a4] (vI x :: vR g m :: st) h Q ↔ inA h m 0 x ∧ At call ac_197 42 [a0, a1, a2, a3, a4] (vI (h g m x.toNat) :: st) h Q := At_guard rfl
theorem r197_42 : At call ac_197 42 [a0, a1, a2, vI x, a4] st h Q ↔ At call ac_197 43 [a0, a1, a2, vI x, a4] (vI x :: st) h Q := At_next rfl
theorem r197_43 : At call ac_197 43 [a0, a1, a2, a3, a4] (vI y :: vI x :: st) h Q ↔ if y < x then At call ac_197 46 [a0, a1, a2, a3, a4] st h Q else At call ac_197 56 [a0, a1, a2, a3, a4] st h Q := At_br rfl
theorem r197_46 : At call ac_197 46 [vR g m, a1, a2, a3, a4] st h Q ↔ At call ac_197 47 [vR g m, a1, a2, a3, a4] (vR g m :: st) h Q := At_next rfl
theorem r197_47 : At call ac_197 47 [a0, a1, a2, a3, a4] (vR g 27 :: st) h Q ↔ At call ac_197 50 [a0, a1, a2, a3, a4] (vR g 22 :: st) h Q := At_next rfl
theorem r197_50 : At call ac_197 50 [a0, vI x, a2, a3, a4] st h Q ↔ At call ac_197 51 [a0, vI x, a2, a3, a4] (vI x :: st) h Q := At_next rfl
theorem r197_51 : At call ac_197 51 [a0, a1, a2, a3, a4] (vI x :: vR g m :: st) h Q ↔ inA h m 0 x ∧ At call ac_197 52 [a0, a1, a2, a3, a4] (vI (h g m x.toNat) :: st) h Q := At_guard rfl
theorem r197_52 : At call ac_197 52 [a0, a1, a2, a3, a4] (vI x :: st) h Q ↔ At call ac_197 53 [a0, a1, a2, vI x, a4] st h Q := At_next rfl
theorem r197_53 : At call ac_197 53 [a0, a1, a2, a3, vI x] st h Q ↔ At call ac_197 55 [a0, a1, a2, a3, vI x] (vI x :: st) h Q := At_next rfl
theorem r197_55 : At call ac_197 55 [a0, a1, a2, a3, a4] (vI x :: st) h Q ↔ At call ac_197 56 [a0, a1, vI x, a3, a4] st h Q := At_next rfl
theorem r197_56 : At call ac_197 56 [vR g m, a1, a2, a3, a4] st h Q ↔ At call ac_197 57 [vR g m, a1, a2, a3, a4] (vR g m :: st) h Q := At_next rfl
theorem r197_57 : At call ac_197 57 [a0, a1, a2, a3, a4] st h Q ↔ At call ac_197 58 [a0, a1, a2, a3, a4] (vI 1 :: st) h Q := At_next rfl
theorem r197_58 : At call ac_197 58 [a0, a1, a2, a3, a4] (b1 :: b0 :: st) h Q ↔ st.length ≤ 4 ∧ ∃ h1, call 191 [b0, b1] h none h1 ∧ At call ac_197 61 [a0, a1, a2, a3, a4] st h1 Q := At_gcallv rfl
theorem r197_61 : At call ac_197 61 [a0, a1, a2, a3, vI x] st h Q ↔ At call ac_197 64 [a0, a1, a2, a3, vI (wr (x + 1))] st h Q := At_next rfl
theorem r197_64 : At call ac_197 64 [a0, a1, a2, a3, a4] st h Q ↔ At call ac_197 29 [a0, a1, a2, a3, a4] st h Q := At_next rfl
theorem r197_67 : At call ac_197 67 [vR g m, a1, a2, a3, a4] st h Q ↔ At call ac_197 68 [vR g m, a1, a2, a3, a4] (vR g m :: st) h Q := At_next rfl
theorem r197_68 : At call ac_197 68 [vR g m, a1, a2, a3, a4] st h Q ↔ At call ac_197 69 [vR g m, a1, a2, a3, a4] (vR g m :: st) h Q := At_next rfl
theorem r197_69 : At call ac_197 69 [a0, a1, a2, a3, a4] (vR g 27 :: st) h Q ↔ At call ac_197 72 [a0, a1, a2, a3, a4] (vR g 35 :: st) h Q := At_next rfl
theorem r197_72 : At call ac_197 72 [a0, a1, a2, a3, a4] (b1 :: b0 :: st) h Q ↔ st.length ≤ 4 ∧ ∃ h1, call 232 [b0, b1] h none h1 ∧ At call ac_197 75 [a0, a1, a2, a3, a4] st h1 Q := At_gcallv rfl
theorem r197_75 : At call ac_197 75 [a0, a1, vI x, a3, a4] st h Q ↔ At call ac_197 76 [a0, a1, vI x, a3, a4] (vI x :: st) h Q := At_next rfl
theorem r197_76 : At call ac_197 76 [a0, a1, a2, a3, a4] [vI x] h Q ↔ Q (some (vI x)) h := At_ret rfl
theorem r198_0 : At call ac_198 0 [vR g m, a1, a2, a3] st h Q ↔ At call ac_198 1 [vR g m, a1, a2, a3] (vR g m :: st) h Q := At_next rfl
theorem r198_1 : At call ac_198 1 [a0, a1, a2, a3] (vR g 27 :: st) h Q ↔ At call ac_198 4 [a0, a1, a2, a3] (vI (h g 27 7) :: st) h Q := At_next rfl
theorem r198_4 : At call ac_198 4 [a0, a1, a2, a3] (vI x :: st) h Q ↔ if x = 0 then At call ac_198 7 [a0, a1, a2, a3] st h Q else At call ac_198 14 [a0, a1, a2, a3] st h Q := At_br rfl
theorem r198_7 : At call ac_198 7 [vR g m, a1, a2, a3] st h Q ↔ At call ac_198 8 [vR g m, a1, a2, a3] (vR g m :: st) h Q := At_next rfl
theorem r198_8 : At call ac_198 8 [a0, a1, a2, a3] st h Q ↔ At call ac_198 10 [a0, a1, a2, a3] (vI (-5) :: st) h Q := At_next rfl
theorem r198_10 : At call ac_198 10 [a0, a1, a2, a3] (b1 :: b0 :: st) h Q ↔ st.length ≤ 4 ∧ ∃ v h1, call 142 [b0, b1] h (some v) h1 ∧ At call ac_198 13 [a0, a1, a2, a3] (v :: st) h1 Q := At_gcall rfl
theorem r198_13 : At call ac_198 13 [a0, a1, a2, a3] [vI x] h Q ↔ Q (some (vI x)) h := At_ret rfl
theorem r198_14 : At call ac_198 14 [a0, vI x, a2, a3] st h Q ↔ At call ac_198 15 [a0, vI x, a2, a3] (vI x :: st) h Q := At_next rfl
theorem r198_15 : At call ac_198 15 [a0, a1, a2, a3] (b0 :: st) h Q ↔ st.length ≤ 4 ∧ ∃ v h1, call 192 [b0] h (some v) h1 ∧ At call ac_198 18 [a0, a1, a2, a3] (v :: st) h1 Q := At_gcall rfl
theorem r198_18 : At call ac_198 18 [a0, a1, a2, a3] (vI x :: st) h Q ↔ if x = 0 then At call ac_198 21 [a0, a1, a2, a3] st h Q else At call ac_198 28 [a0, a1, a2, a3] st h Q := At_br rfl
theorem r198_21 : At call ac_198 21 [vR g m, a1, a2, a3] st h Q ↔ At call ac_198 22 [vR g m, a1, a2, a3] (vR g m :: st) h Q := At_next rfl
theorem r198_22 : At call ac_198 22 [a0, a1, a2, a3] st h Q ↔ At call ac_198 24 [a0, a1, a2, a3] (vI (-6) :: st) h Q := At_next rfl
theorem r198_24 : At call ac_198 24 [a0, a1, a2, a3] (b1 :: b0 :: st) h Q ↔ st.length ≤ 4 ∧ ∃ v h1, call 142 [b0, b1] h (some v) h1 ∧ At call ac_198 27 [a0, a1, a2, a3] (v :: st) h1 Q := At_gcall rfl
theorem r198_27 : At call ac_198 27 [a0, a1, a2, a3] [vI x] h Q ↔ Q (some (vI x)) h := At_ret rfl
theorem r198_28 : At call ac_198 28 [vR g m, a1, a2, a3] st h Q ↔ At call ac_198 29 [vR g m, a1, a2, a3] (vR g m :: st) h Q := At_next rfl
theorem r198_29 : At call ac_198 29 [vR g m, a1, a2, a3] st h Q ↔ At call ac_198 30 [vR g m, a1, a2, a3] (vR g m :: st) h Q := At_next rfl
theorem r198_30 : At call ac_198 30 [a0, a1, a2, a3] (vR g 27 :: st) h Q ↔ At call ac_198 33 [a0, a1, a2, a3] (vR g 35 :: st) h Q := At_next rfl
theorem r198_33 : At call ac_198 33 [a0, a1, a2, a3] (b1 :: b0 :: st) h Q ↔ st.length ≤ 4 ∧ ∃ h1, call 231 [b0, b1] h none h1 ∧ At call ac_198 36 [a0, a1, a2, a3] st h1 Q := At_gcallv rfl
theorem r198_36 : At call ac_198 36 [vR g m, a1, a2, a3] st h Q ↔ At call ac_198 37 [vR g m, a1, a2, a3] (vR g m :: st) h Q := At_next rfl
theorem r198_37 : At call ac_198 37 [a0, vI x, a2, a3] st h Q ↔ At call ac_198 38 [a0, vI x, a2, a3] (vI x :: st) h Q := At_next rfl
theorem r198_38 : At call ac_198 38 [a0, a1, a2, a3] (b1 :: b0 :: st) h Q ↔ st.length ≤ 4 ∧ ∃ h1, call 191 [b0, b1] h none h1 ∧ At call ac_198 41 [a0, a1, a2, a3] st h1 Q := At_gcallv rfl
theorem r198_41 : At call ac_198 41 [a0, a1, a2, a3] st h Q ↔ At call ac_198 42 [a0, a1, a2, a3] (vI 0 :: st) h Q := At_next rfl
theorem r198_42 : At call ac_198 42 [a0, a1, a2, a3] (vI x :: st) h Q ↔ At call ac_198 43 [a0, a1, vI x, a3] st h Q := At_next rfl
theorem r198_43 : At call ac_198 43 [a0, a1, a2, a3] st h Q ↔ At call ac_198 44 [a0, a1, a2, a3] (vI 1 :: st) h Q := At_next rfl
theorem r198_44 : At call ac_198 44 [a0, a1, a2, a3] (vI x :: st) h Q ↔ At call ac_198 45 [a0, a1, a2, vI x] st h Q := At_next rfl
theorem r198_45 : At call ac_198 45 [a0, a1, a2, vI x] st h Q ↔ At call ac_198 46 [a0, a1, a2, vI x] (vI x :: st) h Q := At_next rfl
theorem r198_46 : At call ac_198 46 [vR g m, a1, a2, a3] st h Q ↔ At call ac_198 47 [vR g m, a1, a2, a3] (vR g m :: st) h Q := At_next rfl
theorem r198_47 : At call ac_198 47 [a0, a1, a2, a3] (vR g 27 :: st) h Q ↔ At call ac_198 50 [a0, a1, a2, a3] (vI (h g 27 7) :: st) h Q := At_next rfl
theorem r198_50 : At call ac_198 50 [a0, a1, a2, a3] (vI y :: vI x :: st) h Q ↔ if x < y then At call ac_198 53 [a0, a1, a2, a3] st h Q else At call ac_198 76 [a0, a1, a2, a3] st h Q := At_br rfl
theorem r198_53 : At call ac_198 53 [vR g m, a1, a2, a3] st h Q ↔ At call ac_198 54 [vR g m, a1, a2, a3] (vR g m :: st) h Q := At_next rfl
theorem r198_54 : At call ac_198 54 [a0, a1, a2, a3] (vR g 27 :: st) h Q ↔ At call ac_198 57 [a0, a1, a2, a3] (vR g 22 :: st) h Q := At_next rfl
theorem r198_57 : At call ac_198 57 [a0, a1, a2, vI x] st h Q ↔ At call ac_198 58 [a0, a1, a2, vI x] (vI x :: st) h Q := At_next rfl
theorem r198_58 : At call ac_198 58 [a0, a1, a2, a3] (vI x :: vR g m :: st) h Q ↔ inA h m 0 x ∧ At call ac_198 59 [a0, a1, a2, a3] (vI (h g m x.toNat) :: st) h Q := At_guard rfl
theorem r198_59 : At call ac_198 59 [vR g m, a1, a2, a3] st h Q ↔ At call ac_198 60 [vR g m, a1, a2, a3] (vR g m :: st) h Q := At_next rfl
theorem r198_60 : At call ac_198 60 [a0, a1, a2, a3] (vR g 27 :: st) h Q ↔ At call ac_198 63 [a0, a1, a2, a3] (vR g 22 :: st) h Q := At_next rfl
theorem r198_63 : At call ac_198 63 [a0, a1, vI x, a3] st h Q ↔ At call ac_198 64 [a0, a1, vI x, a3] (vI x :: st) h Q := At_next rfl
theorem r198_64 : At call ac_198 64 [a0, a1, a2, a3] (vI x :: vR g m :: st) h Q ↔ inA h m 0 x ∧ At call ac_198 65 [a0, a1, a2, a3] (vI (h g m x.toNat) :: st) h Q := At_guard rfl
theorem r198_65 : At call ac_198 65 [a0, a1, a2, a3] (vI y :: vI x :: st) h Q ↔ if y < x then At call ac_198 68 [a0, a1, a2, a3] st h Q else At call ac_198 70 [a0, a1, a2, a3] st h Q := At_br rfl
theorem r198_68 : At call ac_198 68 [a0, a1, a2, vI x] st h Q ↔ At call ac_198 69 [a0, a1, a2, vI x] (vI x :: st) h Q := At_next rfl
theorem r198_69 : At call ac_198 69 [a0, a1, a2, a3] (vI x :: st) h Q ↔ At call ac_198 70 [a0, a1, vI x, a3] st h Q := At_next rfl
theorem r198_70 : At call ac_198 70 [a0, a1, a2, vI x] st h Q ↔ At call ac_198 73 [a0, a1, a2, vI (wr (x + 1))] st h Q := At_next rfl
theorem r198_73 : At call ac_198 73 [a0, a1, a2, a3] st h Q ↔ At call ac_198 45 [a0, a1, a2, a3] st h Q := At_next rfl
theorem r198_76 : At call ac_198 76 [vR g m, a1, a2, a3] st h Q ↔ At call ac_198 77 [vR g m, a1, a2, a3] (vR g m :: st) h Q := At_next rfl
theorem r198_77 : At call ac_198 77 [vR g m, a1, a2, a3] st h Q ↔ At call ac_198 78 [vR g m, a1, a2, a3] (vR g m :: st) h Q := At_next rfl
theorem r198_78 : At call ac_198 78 [a0, a1, a2, a3] (vR g 27 :: st) h Q ↔ At call ac_198 81 [a0, a1, a2, a3] (vR g 35 :: st) h Q := At_next rfl
theorem r198_81 : At call ac_198 81 [a0, a1, a2, a3] (b1 :: b0 :: st) h Q ↔ st.length ≤ 4 ∧ ∃ h1, call 232 [b0, b1] h none h1 ∧ At call ac_198 84 [a0, a1, a2, a3] st h1 Q := At_gcallv rfl
theorem r198_84 : At call ac_198 84 [a0, a1, vI x, a3] st h Q ↔ At call ac_198 85 [a0, a1, vI x, a3] (vI x :: st) h Q := At_next rfl
theorem r198_85 : At call ac_198 85 [a0, a1, a2, a3] [vI x] h Q ↔ Q (some (vI x)) h := At_ret rfl
theorem r199_0 : At call ac_199 0 [vR g m, a1, a2] st h Q ↔ At call ac_199 1 [vR g m, a1, a2] (vR g m :: st) h Q := At_next rfl
theorem r199_1 : At call ac_199 1 [a0, vI x, a2] st h Q ↔ At call ac_199 2 [a0, vI x, a2] (vI x :: st) h Q := At_next rfl
theorem r199_2 : At call ac_199 2 [a0, a1, a2] (b1 :: b0 :: st) h Q ↔ st.length ≤ 4 ∧ ∃ v h1, call 146 [b0, b1] h (some v) h1 ∧ At call ac_199 5 [a0, a1, a2] (v :: st) h1 Q := At_gcall rfl
theorem r199_5 : At call ac_199 5 [a0, a1, a2] (vI x :: st) h Q ↔ if x = 0 then At call ac_199 8 [a0, a1, a2] st h Q else At call ac_199 14 [a0, a1, a2] st h Q := At_br rfl
theorem r199_8 : At call ac_199 8 [vR g m, a1, a2] st h Q ↔ At call ac_199 9 [vR g m, a1, a2] (vR g m :: st) h Q := At_next rfl
theorem r199_9 : At call ac_199 9 [a0, a1, a2] st h Q ↔ At call ac_199 10 [a0, a1, a2] (vI (-1) :: st) h Q := At_next rfl
theorem r199_10 : At call ac_199 10 [a0, a1, a2] (b1 :: b0 :: st) h Q ↔ st.length ≤ 4 ∧ ∃ v h1, call 143 [b0, b1] h (some v) h1 ∧ At call ac_199 13 [a0, a1, a2] (v :: st) h1 Q := At_gcall rfl
theorem r199_13 : At call ac_199 13 [a0, a1, a2] [vI x] h Q ↔ Q (some (vI x)) h := At_ret rfl
theorem r199_14 : At call ac_199 14 [vR g m, a1, a2] st h Q ↔ At call ac_199 15 [vR g m, a1, a2] (vR g m :: st) h Q := At_next rfl
theorem r199_15 : At call ac_199 15 [vR g m, a1, a2] st h Q ↔ At call ac_199 16 [vR g m, a1, a2] (vR g m :: st) h Q := At_next rfl
theorem r199_16 : At call ac_199 16 [a0, a1, a2] (vR g 27 :: st) h Q ↔ At call ac_199 19 [a0, a1, a2] (vR g 35 :: st) h Q := At_next rfl
theorem r199_19 : At call ac_199 19 [a0, a1, a2] (b1 :: b0 :: st) h Q ↔ st.length ≤ 4 ∧ ∃ h1, call 231 [b0, b1] h none h1 ∧ At call ac_199 22 [a0, a1, a2] st h1 Q := At_gcallv rfl
theorem r199_22 : At call ac_199 22 [a0, a1, a2] st h Q ↔ At call ac_199 23 [a0, a1, a2] (vI 0 :: st) h Q := At_next rfl
theorem r199_23 : At call ac_199 23 [a0, a1, a2] (vI x :: st) h Q ↔ At call ac_199 24 [a0, a1, vI x] st h Q := At_next rfl
theorem r199_24 : At call ac_199 24 [a0, a1, vI x] st h Q ↔ At call ac_199 25 [a0, a1, vI x] (vI x :: st) h Q := At_next rfl
theorem r199_25 : At call ac_199 25 [a0, a1, a2] st h Q ↔ At call ac_199 27 [a0, a1, a2] (vI 100 :: st) h Q := At_next rfl
theorem r199_27 : At call ac_199 27 [a0, a1, a2] (vI y :: vI x :: st) h Q ↔ if x < y then At call ac_199 30 [a0, a1, a2] st h Q else At call ac_199 52 [a0, a1, a2] st h Q := At_br rfl
theorem r199_30 : At call ac_199 30 [vR g m, a1, a2] st h Q ↔ At call ac_199 31 [vR g m, a1, a2] (vR g m :: st) h Q := At_next rfl
theorem r199_31 : At call ac_199 31 [a0, a1, a2] (vR g 27 :: st) h Q ↔ At call ac_199 34 [a0, a1, a2] (vR g 24 :: st) h Q := At_next rfl
theorem r199_34 : At call ac_199 34 [a0, vI x, a2] st h Q ↔ At call ac_199 35 [a0, vI x, a2] (vI x :: st) h Q := At_next rfl
theorem r199_35 : At call ac_199 35 [a0, a1, a2] (vI x :: vR g m :: st) h Q ↔ inA h m 0 x ∧ At call ac_199 36 [a0, a1, a2] (vI (h g m x.toNat) :: st) h Q := At_guard rfl
theorem r199_36 : At call ac_199 36 [a0, a1, a2] st h Q ↔ At call ac_199 38 [a0, a1, a2] (vI 10 :: st) h Q := At_next rfl
theorem r199_38 : At call ac_199 38 [a0, a1, a2] (vI y :: vI x :: st) h Q ↔ if x < y then At call ac_199 52 [a0, a1, a2] st h Q else At call ac_199 41 [a0, a1, a2] st h Q := At_br rfl
theorem r199_41 : At call ac_199 41 [vR g m, a1, a2] st h Q ↔ At call ac_199 42 [vR g m, a1, a2] (vR g m :: st) h Q := At_next rfl
theorem r199_42 : At call ac_199 42 [a0, a1, a2] st h Q ↔ At call ac_199 43 [a0, a1, a2] (vI 1 :: st) h Q := At_next rfl
theorem r199_43 : At call ac_199 43 [a0, a1, a2] (b1 :: b0 :: st) h Q ↔ st.length ≤ 4 ∧ ∃ h1, call 191 [b0, b1] h none h1 ∧ At call ac_199 46 [a0, a1, a2] st h1 Q := At_gcallv rfl
theorem r199_46 : At call ac_199 46 [a0, a1, vI x] st h Q ↔ At call ac_199 49 [a0, a1, vI (wr (x + 1))] st h Q := At_next rfl
theorem r199_49 : At call ac_199 49 [a0, a1, a2] st h Q ↔ At call ac_199 24 [a0, a1, a2] st h Q := At_next rfl
theorem r199_52 : At call ac_199 52 [vR g m, a1, a2] st h Q ↔ At call ac_199 53 [vR g m, a1, a2] (vR g m :: st) h Q := At_next rfl
theorem r199_53 : At call ac_199 53 [vR g m, a1, a2] st h Q ↔ At call ac_199 54 [vR g m, a1, a2] (vR g m :: st) h Q := At_next rfl
theorem r199_54 : At call ac_199 54 [a0, a1, a2] (vR g 27 :: st) h Q ↔ At call ac_199 57 [a0, a1, a2] (vR g 35 :: st) h Q := At_next rfl
theorem r199_57 : At call ac_199 57 [a0, a1, a2] (b1 :: b0 :: st) h Q ↔ st.length ≤ 4 ∧ ∃ h1, call 232 [b0, b1] h none h1 ∧ At call ac_199 60 [a0, a1, a2] st h1 Q := At_gcallv rfl
theorem r199_60 : At call ac_199 60 [a0, a1, vI x] st h Q ↔ At call ac_199 61 [a0, a1, vI x] (vI x :: st) h Q := At_next rfl
theorem r199_61 : At call ac_199 61 [a0, a1, a2] st h Q ↔ At call ac_199 63 [a0, a1, a2] (vI 100 :: st) h Q := At_next rfl
theorem r199_63 : At call ac_199 63 [a0, a1, a2] (vI y :: vI x :: st) h Q ↔ if x < y then At call ac_199 66 [a0, a1, a2] st h Q else At call ac_199 70 [a0, a1, a2] st h Q := At_br rfl
theorem r199_66 : At call ac_199 66 [a0, a1, vI x] st h Q ↔ At call ac_199 67 [a0, a1, vI x] (vI x :: st) h Q := At_next rfl
theorem r199_67 : At call ac_199 67 [a0, a1, a2] st h Q ↔ At call ac_199 71 [a0, a1, a2] st h Q := At_next rfl
theorem r199_70 : At call ac_199 70 [a0, a1, a2] st h Q ↔ At call ac_199 71 [a0, a1, a2] (vI (-1) :: st) h Q := At_next rfl
theorem r199_71 : At call ac_199 71 [a0, a1, a2] [vI x] h Q ↔ Q (some (vI x)) h := At_ret rfl
theorem r200_0 : At call ac_200 0 [vR g m, a1, a2, a3, a4, a5, a6] st h Q ↔ At call ac_200 1 [vR g m, a1, a2, a3, a4, a5, a6] (vR g m :: st) h Q := At_next rfl
theorem r200_1 : At call ac_200 1 [a0, vI x, a2, a3, a4, a5, a6] st h Q ↔ At call ac_200 2 [a0, vI x, a2, a3, a4, a5, a6] (vI x :: st) h Q := At_next rfl
theorem r200_2 : At call ac_200 2 [a0, a1, a2, a3, a4, a5, a6] (b1 :: b0 :: st) h Q ↔ st.length ≤ 4 ∧ ∃ v h1, call 146 [b0, b1] h (some v) h1 ∧ At call ac_200 5 [a0, a1, a2, a3, a4, a5, a6] (v :: st) h1 Q := At_gcall rfl
theorem r200_5 : At call ac_200 5 [a0, a1, a2, a3, a4, a5, a6] (vI x :: st) h Q ↔ if x = 0 then At call ac_200 20 [a0, a1, a2, a3, a4, a5, a6] st h Q else At call ac_200 8 [a0, a1, a2, a3, a4, a5, a6] st h Q := At_br rfl
theorem r200_8 : At call ac_200 8 [vR g m, a1, a2, a3, a4, a5, a6] st h Q ↔ At call ac_200 9 [vR g m, a1, a2, a3, a4, a5, a6] (vR g m :: st) h Q := At_next rfl
theorem r200_9 : At call ac_200 9 [a0, a1, a2, a3, a4, a5, a6] (vR g 27 :: st) h Q ↔ At call ac_200 12 [a0, a1, a2, a3, a4, a5, a6] (vR g 25 :: st) h Q := At_next rfl
theorem r200_12 : At call ac_200 12 [a0, vI x, a2, a3, a4, a5, a6] st h Q ↔ At call ac_200 13 [a0, vI x, a2, a3, a4, a5, a6] (vI x :: st) h Q := At_next rfl
theorem r200_13 : At call ac_200 13 [a0, a1, a2, a3, a4, a5, a6] (vI x :: vR g m :: st) h Q ↔ inA h m 0 x ∧ At call ac_200 14 [a0, a1, a2, a3, a4, a5, a6] (vI (h g m x.toNat) :: st) h Q := At_guard rfl
theorem r200_14 : At call ac_200 14 [a0, a1, a2, a3, a4, a5, a6] st h Q ↔ At call ac_200 17 [a0, a1, a2, a3, a4, a5, a6] (vI 200 :: st) h Q := At_next rfl
theorem r200_17 : At call ac_200 17 [a0, a1, a2, a3, a4, a5, a6] (vI y :: vI x :: st) h Q ↔ if x = y then At call ac_200 20 [a0, a1, a2, a3, a4, a5, a6] st h Q else At call ac_200 26 [a0, a1, a2, a3, a4, a5, a6] st h Q := At_br rfl
theorem r200_20 : At call ac_200 20 [vR g m, a1, a2, a3, a4, a5, a6] st h Q ↔ At call ac_200 21 [vR g m, a1, a2, a3, a4, a5, a6] (vR g m :: st) h Q := At_next rfl
theorem r200_21 : At call ac_200 21 [a0, a1, a2, a3, a4, a5, a6] st h Q ↔ At call ac_200 22 [a0, a1, a2, a3, a4, a5, a6] (vI (-1) :: st) h Q := At_next rfl
theorem r200_22 : At call ac_200 22 [a0, a1, a2, a3, a4, a5, a6] (b1 :: b0 :: st) h Q ↔ st.length ≤ 4 ∧ ∃ v h1, call 142 [b0, b1] h (some v) h1 ∧ At call ac_200 25 [a0, a1, a2, a3, a4, a5, a6] (v :: st) h1 Q := At_gcall rfl
theorem r200_25 : At call ac_200 25 [a0, a1, a2, a3, a4, a5, a6] [vI x] h Q ↔ Q (some (vI x)) h := At_ret rfl
theorem r200_26 : At call ac_200 26 [a0, a1, vI x, a3, a4, a5, a6] st h Q ↔ At call ac_200 27 [a0, a1, vI x, a3, a4, a5, a6] (vI x :: st) h Q := At_next rfl
theorem r200_27 : At call ac_200 27 [a0, a1, a2, a3, a4, a5, a6] (b0 :: st) h Q ↔ st.length ≤ 4 ∧ ∃ v h1, call 192 [b0] h (some v) h1 ∧ At call ac_200 30 [a0, a1, a2, a3, a4, a5, a6] (v :: st) h1 Q := At_gcall rfl
theorem r200_30 : At call ac_200 30 [a0, a1, a2, a3, a4, a5, a6] (vI x :: st) h Q ↔ if x = 0 then At call ac_200 33 [a0, a1, a2, a3, a4, a5, a6] st h Q else At call ac_200 40 [a0, a1, a2, a3, a4, a5, a6] st h Q := At_br rfl
theorem r200_33 : At call ac_200 33 [vR g m, a1, a2, a3, a4, a5, a6] st h Q ↔ At call ac_200 34 [vR g m, a1, a2, a3, a4, a5, a6] (vR g m :: st) h Q := At_next rfl
theorem r200_34 : At call ac_200 34 [a0, a1, a2, a3, a4, a5, a6] st h Q ↔ At call ac_200 36 [a0, a1, a2, a3, a4, a5, a6] (vI (-6) :: st) h Q := At_next rfl
theorem r200_36 : At call ac_200 36 [a0, a1, a2, a3, a4, a5, a6] (b1 :: b0 :: st) h Q ↔ st.length ≤ 4 ∧ ∃ v h1, call 142 [b0, b1] h (some v) h1 ∧ At call ac_200 39 [a0, a1, a2, a3, a4, a5, a6] (v :: st) h1 Q := At_gcall rfl
theorem r200_39 : At call ac_200 39 [a0, a1, a2, a3, a4, a5, a6] [vI x] h Q ↔ Q (some (vI x)) h := At_ret rfl
theorem r200_40 : At call ac_200 40 [vR g m, a1, a2, a3, a4, a5, a6] st h Q ↔ At call ac_200 41 [vR g m, a1, a2, a3, a4, a5, a6] (vR g m :: st) h Q := At_next rfl
theorem r200_41 : At call ac_200 41 [vR g m, a1, a2, a3, a4, a5, a6] st h Q ↔ At call ac_200 42 [vR g m, a1, a2, a3, a4, a5, a6] (vR g m :: st) h Q := At_next rfl
theorem r200_42 : At call ac_200 42 [a0, a1, a2, a3, a4, a5, a6] (vR g 27 :: st) h Q ↔ At call ac_200 45 [a0, a1, a2, a3, a4, a5, a6] (vR g 35 :: st) h Q := At_next rfl
theorem r200_45 : At call ac_200 45 [a0, a1, a2, a3, a4, a5, a6] (b1 :: b0 :: st) h Q ↔ st.length ≤ 4 ∧ ∃ h1, call 231 [b0, b1] h none h1 ∧ At call ac_200 48 [a0, a1, a2, a3, a4, a5, a6] st h1 Q := At_gcallv rfl
theorem r200_48 : At call ac_200 48 [a0, a1, a2, a3, a4, a5, a6] st h Q ↔ At call ac_200 49 [a0, a1, a2, a3, a4, a5, a6] (vI 0 :: st) h Q := At_next rfl
theorem r200_49 : At call ac_200 49 [a0, a1, a2, a3, a4, a5, a6] (vI x :: st) h Q ↔ At call ac_200 50 [a0, a1, a2, vI x, a4, a5, a6] st h Q := At_next rfl
theorem r200_50 : At call ac_200 50 [a0, a1, a2, a3, a4, a5, a6] st h Q ↔ At call ac_200 51 [a0, a1, a2, a3, a4, a5, a6] (vI (-1) :: st) h Q := At_next rfl
theorem r200_51 : At call ac_200 51 [a0, a1, a2, a3, a4, a5, a6] (vI x :: st) h Q ↔ At call ac_200 53 [a0, a1, a2, a3, vI x, a5, a6] st h Q := At_next rfl
theorem r200_53 : At call ac_200 53 [a0, a1, a2, a3, a4, a5, a6] st h Q ↔ At call ac_200 54 [a0, a1, a2, a3, a4, a5, a6] (vI 0 :: st) h Q := At_next rfl
theorem r200_54 : At call ac_200 54 [a0, a1, a2, a3, a4, a5, a6] (vI x :: st) h Q ↔ At call ac_200 56 [a0, a1, a2, a3, a4, vI x, a6] st h Q := At_next rfl
theorem r200_56 : At call ac_200 56 [a0, a1, a2, a3, a4, vI x, a6] st h Q ↔ At call ac_200 58 [a0, a1, a2, a3, a4, vI x, a6] (vI x :: st) h Q := At_next rfl
theorem r200_58 : At call ac_200 58 [vR g m, a1, a2, a3, a4, a5, a6] st h Q ↔ At call ac_200 59 [vR g m, a1, a2, a3, a4, a5, a6] (vR g m :: st) h Q := At_next rfl
theorem r200_59 : At call ac_200 59 [a0, a1, a2, a3, a4, a5, a6] (vR g 27 :: st) h Q ↔ At call ac_200 62 [a0, a1, a2, a3, a4, a5, a6] (vI (h g 27 7) :: st) h Q := At_next rfl
theorem r200_62 : At call ac_200 62 [a0, a1, a2, a3, a4, a5, a6] (vI y :: vI x :: st) h Q ↔ if x < y then At call ac_200 65 [a0, a1, a2, a3, a4, a5, a6] st h Q else At call ac_200 117 [a0, a1, a2, a3, a4, a5, a6] st h Q := At_br rfl
theorem r200_65 : At call ac_200 65 [vR g m, a1, a2, a3, a4, a5, a6] st h Q ↔ At call ac_200 66 [vR g m, a1, a2, a3, a4, a5, a6] (vR g m :: st) h Q := At_next rfl
theorem r200_66 : At call ac_200 66 [a0, a1, a2, a3, a4, a5, a6] (vR g 27 :: st) h Q ↔ At call ac_200 69 [a0, a1, a2, a3, a4, a5, a6] (vR g 25 :: st) h Q := At_next rfl
theorem r200_69 : At call ac_200 69 [a0, vI x, a2, a3, a4, a5, a6] st h Q ↔ At call ac_200 70 [a0, vI x, a2, a3, a4, a5, a6] (vI x :: st) h Q := At_next rfl
theorem r200_70 : At call ac_200 70 [a0, a1, a2, a3, a4, vI x, a6] st h Q ↔ At call ac_200 72 [a0, a1, a2, a3, a4, vI x, a6] (vI x :: st) h Q := At_next rfl
theorem r200_72 : At call ac_200 72 [a0, a1, a2, a3, a4, a5, a6] (vI y :: vI x :: vR g m :: st) h Q ↔ (inA h m 0 x ∧ m ≠ 37) ∧ At call ac_200 73 [a0, a1, a2, a3, a4, a5, a6] st (up3 h g m x.toNat y) Q := At_guard rfl
theorem r200_73 : At call ac_200 73 [vR g m, a1, a2, a3, a4, a5, a6] st h Q ↔ At call ac_200 74 [vR g m, a1, a2, a3, a4, a5, a6] (vR g m :: st) h Q := At_next rfl
theorem r200_74 : At call ac_200 74 [a0, a1, vI x, a3, a4, a5, a6] st h Q ↔ At call ac_200 75 [a0, a1, vI x, a3, a4, a5, a6] (vI x :: st) h Q := At_next rfl
theorem r200_75 : At call ac_200 75 [a0, a1, a2, a3, a4, a5, a6] (b1 :: b0 :: st) h Q ↔ st.length ≤ 4 ∧ ∃ h1, call 191 [b0, b1] h none h1 ∧ At call ac_200 78 [a0, a1, a2, a3, a4, a5, a6] st h1 Q := At_gcallv rfl
theorem r200_78 : At call ac_200 78 [vR g m, a1, a2, a3, a4, a5, a6] st h Q ↔ At call ac_200 79 [vR g m, a1, a2, a3, a4, a5, a6] (vR g m :: st) h Q := At_next rfl
theorem r200_79 : At call ac_200 79 [a0, a1, a2, a3, a4, a5, a6] (vR g 27 :: st) h Q ↔ At call ac_200 82 [a0, a1, a2, a3, a4, a5, a6] (vR g 24 :: st) h Q := At_next rfl
theorem r200_82 : At call ac_200 82 [a0, vI x, a2, a3, a4, a5, a6] st h Q ↔ At call ac_200 83 [a0, vI x, a2, a3, a4, a5, a6] (vI x :: st) h Q := At_next rfl
theorem r200_83 : At call ac_200 83 [a0, a1, a2, a3, a4, a5, a6] (vI x :: vR g m :: st) h Q ↔ inA h m 0 x ∧ At call ac_200 84 [a0, a1, a2, a3, a4, a5, a6] (vI (h g m x.toNat) :: st) h Q := At_guard rfl
theorem r200_84 : At call ac_200 84 [a0, a1, a2, a3, a4, a5, a6] (vI x :: st) h Q ↔ At call ac_200 86 [a0, a1, a2, a3, a4, a5, vI x] st h Q := At_next rfl
theorem r200_86 : At call ac_200 86 [vR g m, a1, a2, a3, a4, a5, a6] st h Q ↔ At call ac_200 87 [vR g m, a1, a2, a3, a4, a5, a6] (vR g m :: st) h Q := At_next rfl
theorem r200_87 : At call ac_200 87 [vR g m, a1, a2, a3, a4, a5, a6] st h Q ↔ At call ac_200 88 [vR g m, a1, a2, a3, a4, a5, a6] (vR g m :: st) h Q := At_next rfl
theorem r200_88 : At call ac_200 88 [a0, a1, a2, a3, a4, a5, a6] (vR g 27 :: st) h Q ↔ At call ac_200 91 [a0, a1, a2, a3, a4, a5, a6] (vR g 35 :: st) h Q := At_next rfl
theorem r200_91 : At call ac_200 91 [a0, a1, a2, a3, a4, a5, a6] (b1 :: b0 :: st) h Q ↔ st.length ≤ 4 ∧ ∃ h1, call 232 [b0, b1] h none h1 ∧ At call ac_200 94 [a0, a1, a2, a3, a4, a5, a6] st h1 Q := At_gcallv rfl
theorem r200_94 : At call ac_200 94 [a0, a1, a2, a3, a4, a5, vI x] st h Q ↔ At call ac_200 96 [a0, a1, a2, a3, a4, a5, vI x] (vI x :: st) h Q := At_next rfl
theorem r200_96 : At call ac_200 96 [a0, a1, a2, a3, vI x, a5, a6] st h Q ↔ At call ac_200 98 [a0, a1, a2, a3, vI x, a5, a6] (vI x :: st) h Q := At_next rfl
theorem r200_98 : At call ac_200 98 [a0, a1, a2, a3, a4, a5, a6] (vI y :: vI x :: st) h Q ↔ if y < x then At call ac_200 104 [a0, a1, a2, a3, a4, a5, a6] st h Q else At call ac_200 101 [a0, a1, a2, a3, a4, a5, a6] st h Q := At_br rfl
theorem r200_101 : At call ac_200 101 [a0, a1, a2, a3, a4, a5, a6] st h Q ↔ At call ac_200 111 [a0, a1, a2, a3, a4, a5, a6] st h Q := At_next rfl
theorem r200_104 : At call ac_200 104 [a0, a1, a2, a3, a4, a5, vI x] st h Q ↔ At call ac_200 106 [a0, a1, a2, a3, a4, a5, vI x] (vI x :: st) h Q := At_next rfl
theorem r200_106 : At call ac_200 106 [a0, a1, a2, a3, a4, a5, a6] (vI x :: st) h Q ↔ At call ac_200 108 [a0, a1, a2, a3, vI x, a5, a6] st h Q := At_next rfl
theorem r200_108 : At call ac_200 108 [a0, a1, a2, a3, a4, vI x, a6] st h Q ↔ At call ac_200 110 [a0, a1, a2, a3, a4, vI x, a6] (vI x :: st) h Q := At_next rfl
theorem r200_110 : At call ac_200 110 [a0, a1, a2, a3, a4, a5, a6] (vI x :: st) h Q ↔ At call ac_200 111 [a0, a1, a2, vI x, a4, a5, a6] st h Q := At_next rfl
theorem r200_111 : At call ac_200 111 [a0, a1, a2, a3, a4, vI x, a6] st h Q ↔ At call ac_200 114 [a0, a1, a2, a3, a4, vI (wr (x + 1)), a6] st h Q := At_next rfl
theorem r200_114 : At call ac_200 114 [a0, a1, a2, a3, a4, a5, a6] st h Q ↔ At call ac_200 56 [a0, a1, a2, a3, a4, a5, a6] st h Q := At_next rfl
theorem r200_117 : At call ac_200 117 [a0, a1, a2, vI x, a4, a5, a6] st h Q ↔ At call ac_200 118 [a0, a1, a2, vI x, a4, a5, a6] (vI x :: st) h Q := At_next rfl
theorem r200_118 : At call ac_200 118 [a0, a1, a2, a3, a4, a5, a6] [vI x] h Q ↔ Q (some (vI x)) h := At_ret rfl
theorem r201_0 : At call ac_201 0 [a0, vI x, a2, a3, a4, a5, a6, a7, a8, a9, a10, a11] st h Q ↔ At call ac_201 1 [a0, vI x, a2, a3, a4, a5, a6, a7, a8, a9, a10, a11] (vI x :: st) h Q := At_next rfl
theorem r201_1 : At call ac_201 1 [a0, a1, a2, a3, a4, a5, a6, a7, a8, a9, a10, a11] st h Q ↔ At call ac_201 2 [a0, a1, a2, a3, a4, a5, a6, a7, a8, a9, a10, a11] (vI 1 :: st) h Q := At_next rfl
theorem r201_2 : At call ac_201 2 [a0, a1, a2, a3, a4, a5, a6, a7, a8, a9, a10, a11] st h Q ↔ At call ac_201 3 [a0, a1, a2, a3, a4, a5, a6, a7, a8, a9, a10, a11] (vI 4 :: st) h Q := At_next rfl
theorem r201_3 : At call ac_201 3 [a0, a1, a2, a3, a4, a5, a6, a7, a8, a9, a10, a11] (b2 :: b1 :: b0 :: st) h Q ↔ st.length ≤ 4 ∧ ∃ v h1, call 144 [b0, b1, b2] h (some v) h1 ∧ At call ac_201 6 [a0, a1, a2, a3, a4, a5, a6, a7, a8, a9, a10, a11] (v :: st) h1 Q := At_gcall rfl
theorem r201_6 : At call ac_201 6 [a0, a1, a2, a3, a4, a5, a6, a7, a8, a9, a10, a11] (vI x :: st) h Q ↔ if x = 0 then At call ac_201 9 [a0, a1, a2, a3, a4, a5, a6, a7, a8, a9, a10, a11] st h Q else At call ac_201 16 [a0, a1, a2, a3, a4, a5, a6, a7, a8, a9, a10, a11] st h Q := At_br rfl
theorem r201_9 : At call ac_201 9 [vR g m, a1, a2, a3, a4, a5, a6, a7, a8, a9, a10, a11] st h Q ↔ At call ac_201 10 [vR g m, a1, a2, a3, a4, a5, a6, a7, a8, a9, a10, a11] (vR g m :: st) h Q := At_next rfl
theorem r201_10 : At call ac_201 10 [a0, a1, a2, a3, a4, a5, a6, a7, a8, a9, a10, a11] st h Q ↔ At call ac_201 12 [a0, a1, a2, a3, a4, a5, a6, a7, a8, a9, a10, a11] (vI (-6) :: st) h Q := At_next rfl
theorem r201_12 : At call ac_201 12 [a0, a1, a2, a3, a4, a5, a6, a7, a8, a9, a10, a11] (b1 :: b0 :: st) h Q ↔ st.length ≤ 4 ∧ ∃ v h1, call 142 [b0, b1] h (some v) h1 ∧ At call ac_201 15 [a0, a1, a2, a3, a4, a5, a6, a7, a8, a9, a10, a11] (v :: st) h1 Q := At_gcall rfl
theorem r201_15 : At call ac_201 15 [a0, a1, a2, a3, a4, a5, a6, a7, a8, a9, a10, a11] [vI x] h Q ↔ Q (some (vI x)) h := At_ret rfl
theorem r201_16 : At call ac_201 16 [a0, a1, vI x, a3, a4, a5, a6, a7, a8, a9, a10, a11] st h Q ↔ At call ac_201 17 [a0, a1, vI x, a3, a4, a5, a6, a7, a8, a9, a10, a11] (vI x :: st) h Q := At_next rfl
theorem r201_17 : At call ac_201 17 [a0, a1, a2, a3, a4, a5, a6, a7, a8, a9, a10, a11] st h Q ↔ At call ac_201 18 [a0, a1, a2, a3, a4, a5, a6, a7, a8, a9, a10, a11] (vI (-1) :: st) h Q := At_next rfl
theorem r201_18 : At call ac_201 18 [a0, vI x, a2, a3, a4, a5, a6, a7, a8, a9, a10, a11] st h Q ↔ At call ac_201 19 [a0, vI x, a2, a3, a4, a5, a6, a7, a8, a9, a10, a11] (vI x :: st) h Q := At_next rfl
theorem r201_19 : At call ac_201 19 [a0, a1, a2, a3, a4, a5, a6, a7, a8, a9, a10, a11] st h Q ↔ At call ac_201 20 [a0, a1, a2, a3, a4, a5, a6, a7, a8, a9, a10, a11] (vI 1 :: st) h Q := At_next rfl
theorem r201_20 : At call ac_201 20 [a0, a1, a2, a3, a4, a5, a6, a7, a8, a9, a10, a11] (vI y :: vI x :: st) h Q ↔ At call ac_201 21 [a0, a1, a2, a3, a4, a5, a6, a7, a8, a9, a10, a11] (vI (wr (x - y)) :: st) h Q := At_next rfl
theorem r201_21 : At call ac_201 21 [a0, a1, a2, a3, a4, a5, a6, a7, a8, a9, a10, a11] (b2 :: b1 :: b0 :: st) h Q ↔ st.length ≤ 4 ∧ ∃ v h1, call 144 [b0, b1, b2] h (some v) h1 ∧ At call ac_201 24 [a0, a1, a2, a3, a4, a5, a6, a7, a8, a9, a10, a11] (v :: st) h1 Q := At_gcall rfl
theorem r201_24 : At call ac_201 24 [a0, a1, a2, a3, a4, a5, a6, a7, a8, a9, a10, a11] (vI x :: st) h Q ↔ if x = 0 then At call ac_201 27 [a0, a1, a2, a3, a4, a5, a6, a7, a8, a9, a10, a11] st h Q else At call ac_201 34 [a0, a1, a2, a3, a4, a5, a6, a7, a8, a9, a10, a11] st h Q := At_br rfl
theorem r201_27 : At call ac_201 27 [vR g m, a1, a2, a3, a4, a5, a6, a7, a8, a9, a10, a11] st h Q ↔ At call ac_201 28 [vR g m, a1, a2, a3, a4, a5, a6, a7, a8, a9, a10, a11] (vR g m :: st) h Q := At_next rfl
theorem r201_28 : At call ac_201 28 [a0, a1, a2, a3, a4, a5, a6, a7, a8, a9, a10, a11] st h Q ↔ At call ac_201 30 [a0, a1, a2, a3, a4, a5, a6, a7, a8, a9, a10, a11] (vI (-5) :: st) h Q := At_next rfl
theorem r201_30 : At call ac_201 30 [a0, a1, a2, a3, a4, a5, a6, a7, a8, a9, a10, a11] (b1 :: b0 :: st) h Q ↔ st.length ≤ 4 ∧ ∃ v h1, call 142 [b0, b1] h (some v) h1 ∧ At call ac_201 33 [a0, a1, a2, a3, a4, a5, a6, a7, a8, a9, a10, a11] (v :: st) h1 Q := At_gcall rfl
theorem r201_33 : At call ac_201 33 [a0, a1, a2, a3, a4, a5, a6, a7, a8, a9, a10, a11] [vI x] h Q ↔ Q (some (vI x)) h := At_ret rfl
theorem r201_34 : At call ac_201 34 [a0, a1, a2, a3, a4, a5, a6, a7, a8, a9, a10, a11] st h Q ↔ At call ac_201 35 [a0, a1, a2, a3, a4, a5, a6, a7, a8, a9, a10, a11] (vI 1 :: st) h Q := At_next rfl
theorem r201_35 : At call ac_201 35 [a0, a1, a2, a3, a4, a5, a6, a7, a8, a9, a10, a11] (vI x :: st) h Q ↔ At call ac_201 36 [a0, a1, a2, vI x, a4, a5, a6, a7, a8, a9, a10, a11] st h Q := At_next rfl
theorem r201_36 : At call ac_201 36 [a0, a1, a2, a3, a4, a5, a6, a7, a8, a9, a10, a11] st h Q ↔ At call ac_201 37 [a0, a1, a2, a3, a4, a5, a6, a7, a8, a9, a10, a11] (vI 0 :: st) h Q := At_next rfl
theorem r201_37 : At call ac_201 37 [a0, a1, a2, a3, a4, a5, a6, a7, a8, a9, a10, a11] (vI x :: st) h Q ↔ At call ac_201 39 [a0, a1, a2, a3, vI x, a5, a6, a7, a8, a9, a10, a11] st h Q := At_next rfl
theorem r201_39 : At call ac_201 39 [a0, a1, a2, a3, vI x, a5, a6, a7, a8, a9, a10, a11] st h Q ↔ At call ac_201 41 [a0, a1, a2, a3, vI x, a5, a6, a7, a8, a9, a10, a11] (vI x :: st) h Q := At_next rfl
theorem r201_41 : At call ac_201 41 [a0, vI x, a2, a3, a4, a5, a6, a7, a8, a9, a10, a11] st h Q ↔ At call ac_201 42 [a0, vI x, a2, a3, a4, a5, a6, a7, a8, a9, a10, a11] (vI x :: st) h Q := At_next rfl
theorem r201_42 : At call ac_201 42 [a0, a1, a2, a3, a4, a5, a6, a7, a8, a9, a10, a11] (vI y :: vI x :: st) h Q ↔ if x < y then At call ac_201 45 [a0, a1, a2, a3, a4, a5, a6, a7, a8, a9, a10, a11] st h Q else At call ac_201 56 [a0, a1, a2, a3, a4, a5, a6, a7, a8, a9, a10, a11] st h Q := At_br rfl
theorem r201_45 : At call ac_201 45 [a0, a1, a2, vI x, a4, a5, a6, a7, a8, a9, a10, a11] st h Q ↔ At call ac_201 46 [a0, a1, a2, vI x, a4, a5, a6, a7, a8, a9, a10, a11] (vI x :: st) h Q := At_next rfl
theorem r201_46 : At call ac_201 46 [a0, a1, a2, a3, a4, a5, a6, a7, a8, a9, a10, a11] st h Q ↔ At call ac_201 48 [a0, a1, a2, a3, a4, a5, a6, a7, a8, a9, a10, a11] (vI 7 :: st) h Q := At_next rfl
theorem r201_48 : At call ac_201 48 [a0, a1, a2, a3, a4, a5, a6, a7, a8, a9, a10, a11] (vI y :: vI x :: st) h Q ↔ At call ac_201 49 [a0, a1, a2, a3, a4, a5, a6, a7, a8, a9, a10, a11] (vI (wr (x * y)) :: st) h Q := At_next rfl
theorem r201_49 : At call ac_201 49 [a0, a1, a2, a3, a4, a5, a6, a7, a8, a9, a10, a11] (vI x :: st) h Q ↔ At call ac_201 50 [a0, a1, a2, vI x, a4, a5, a6, a7, a8, a9, a10, a11] st h Q := At_next rfl
theorem r201_50 : At call ac_201 50 [a0, a1, a2, a3, vI x, a5, a6, a7, a8, a9, a10, a11] st h Q ↔ At call ac_201 53 [a0, a1, a2, a3, vI (wr (x + 1)), a5, a6, a7, a8, a9, a10, a11] st h Q := At_next rfl
theorem r201_53 : At call ac_201 53 [a0, a1, a2, a3, a4, a5, a6, a7, a8, a9, a10, a11] st h Q ↔ At call ac_201 39 [a0, a1, a2, a3, a4, a5, a6, a7, a8, a9, a10, a11] st h Q := At_next rfl
theorem r201_56 : At call ac_201 56 [vR g m, a1, a2, a3, a4, a5, a6, a7, a8, a9, a10, a11] st h Q ↔ At call ac_201 57 [vR g m, a1, a2, a3, a4, a5, a6, a7, a8, a9, a10, a11] (vR g m :: st) h Q := At_next rfl
theorem r201_57 : At call ac_201 57 [vR g m, a1, a2, a3, a4, a5, a6, a7, a8, a9, a10, a11] st h Q ↔ At call ac_201 58 [vR g m, a1, a2, a3, a4, a5, a6, a7, a8, a9, a10, a11] (vR g m :: st) h Q := At_next rfl
theorem r201_58 : At call ac_201 58 [a0, a1, a2, a3, a4, a5, a6, a7, a8, a9, a10, a11] (vR g 27 :: st) h Q ↔ At call ac_201 61 [a0, a1, a2, a3, a4, a5, a6, a7, a8, a9, a10, a11] (vR g 35 :: st) h Q := At_next rfl
theorem r201_61 : At call ac_201 61 [a0, a1, a2, a3, a4, a5, a6, a7, a8, a9, a10, a11] (b1 :: b0 :: st) h Q ↔ st.length ≤ 4 ∧ ∃ h1, call 231 [b0, b1] h none h1 ∧ At call ac_201 64 [a0, a1, a2, a3, a4, a5, a6, a7, a8, a9, a10, a11] st h1 Q := At_gcallv rfl
theorem r201_64 : At call ac_201 64 [a0, a1, a2, a3, a4, a5, a6, a7, a8, a9, a10, a11] st h Q ↔ At call ac_201 65 [a0, a1, a2, a3, a4, a5, a6, a7, a8, a9, a10, a11] (vI (-1) :: st) h Q := At_next rfl
theorem r201_65 : At call ac_201 65 [a0, a1, a2, a3, a4, a5, a6, a7, a8, a9, a10, a11] (vI x :: st) h Q ↔ At call ac_201 67 [a0, a1, a2, a3, vI x, a5, a6, a7, a8, a9, a10, a11] st h Q := At_next rfl
theorem r201_67 : At call ac_201 67 [a0, a1, a2, a3, a4, a5, a6, a7, a8, a9, a10, a11] st h Q ↔ At call ac_201 68 [a0, a1, a2, a3, a4, a5, a6, a7, a8, a9, a10, a11] (vI 0 :: st) h Q := At_next rfl
theorem r201_68 : At call ac_201 68 [a0, a1, a2, a3, a4, a5, a6, a7, a8, a9, a10, a11] (vI x :: st) h Q ↔ At call ac_201 70 [a0, a1, a2, a3, a4, vI x, a6, a7, a8, a9, a10, a11] st h Q := At_next rfl
theorem r201_70 : At call ac_201 70 [a0, a1, a2, a3, a4, a5, a6, a7, a8, a9, a10, a11] st h Q ↔ At call ac_201 71 [a0, a1, a2, a3, a4, a5, a6, a7, a8, a9, a10, a11] (vI 0 :: st) h Q := At_next rfl
theorem r201_71 : At call ac_201 71 [a0, a1, a2, a3, a4, a5, a6, a7, a8, a9, a10, a11] (vI x :: st) h Q ↔ At call ac_201 73 [a0, a1, a2, a3, a4, a5, vI x, a7, a8, a9, a10, a11] st h Q := At_next rfl
theorem r201_73 : At call ac_201 73 [a0, a1, a2, a3, a4, a5, a6, a7, a8, a9, a10, a11] st h Q ↔ At call ac_201 74 [a0, a1, a2, a3, a4, a5, a6, a7, a8, a9, a10, a11] (vI 0 :: st) h Q := At_next rfl
theorem r201_74 : At call ac_201 74 [a0, a1, a2, a3, a4, a5, a6, a7, a8, a9, a10, a11] (vI x :: st) h Q ↔ At call ac_201 76 [a0, a1, a2, a3, a4, a5, a6, vI x, a8, a9, a10, a11] st h Q := At_next rfl
theorem r201_76 : At call ac_201 76 [a0, a1, a2, a3, a4, a5, a6, vI x, a8, a9, a10, a11] st h Q ↔ At call ac_201 78 [a0, a1, a2, a3, a4, a5, a6, vI x, a8, a9, a10, a11] (vI x :: st) h Q := At_next rfl
theorem r201_78 : At call ac_201 78 [a0, a1, a2, vI x, a4, a5, a6, a7, a8, a9, a10, a11] st h Q ↔ At call ac_201 79 [a0, a1, a2, vI x, a4, a5, a6, a7, a8, a9, a10, a11] (vI x :: st) h Q := At_next rfl
theorem r201_79 : At call ac_201 79 [a0, a1, a2, a3, a4, a5, a6, a7, a8, a9, a10, a11] (vI y :: vI x :: st) h Q ↔ if x < y then At call ac_201 82 [a0, a1, a2, a3, a4, a5, a6, a7, a8, a9, a10, a11] st h Q else At call ac_201 212 [a0, a1, a2, a3, a4, a5, a6, a7, a8, a9, a10, a11] st h Q := At_br rfl
theorem r201_82 : At call ac_201 82 [a0, a1, a2, a3, a4, a5, a6, a7, a8, a9, a10, a11] st h Q ↔ At call ac_201 83 [a0, a1, a2, a3, a4, a5, a6, a7, a8, a9, a10, a11] (vI 1 :: st) h Q := At_next rfl
theorem r201_83 : At call ac_201 83 [a0, a1, a2, a3, a4, a5, a6, a7, a8, a9, a10, a11] (vI x :: st) h Q ↔ At call ac_201 85 [a0, a1, a2, a3, a4, a5, a6, a7, vI x, a9, a10, a11] st h Q := At_next rfl
theorem r201_85 : At call ac_201 85 [a0, a1, a2, vI x, a4, a5, a6, a7, a8, a9, a10, a11] st h Q ↔ At call ac_201 86 [a0, a1, a2, vI x, a4, a5, a6, a7, a8, a9, a10, a11] (vI x :: st) h Q := At_next rfl
theorem r201_86 : At call ac_201 86 [a0, a1, a2, a3, a4, a5, a6, a7, a8, a9, a10, a11] (vI x :: st) h Q ↔ At call ac_201 88 [a0, a1, a2, a3, a4, a5, a6, a7, a8, vI x, a10, a11] st h Q := At_next rfl
theorem r201_88 : At call ac_201 88 [a0, a1, a2, a3, a4, a5, a6, a7, a8, a9, a10, a11] st h Q ↔ At call ac_201 89 [a0, a1, a2, a3, a4, a5, a6, a7, a8, a9, a10, a11] (vI 0 :: st) h Q := At_next rfl
theorem r201_89 : At call ac_201 89 [a0, a1, a2, a3, a4, a5, a6, a7, a8, a9, a10, a11] (vI x :: st) h Q ↔ At call ac_201 91 [a0, a1, a2, a3, a4, a5, a6, a7, a8, a9, vI x, a11] st h Q := At_next rfl
theorem r201_91 : At call ac_201 91 [a0, a1, a2, a3, a4, a5, a6, a7, a8, a9, vI x, a11] st h Q ↔ At call ac_201 93 [a0, a1, a2, a3, a4, a5, a6, a7, a8, a9, vI x, a11] (vI x :: st) h Q := At_next rfl
theorem r201_93 : At call ac_201 93 [a0, vI x, a2, a3, a4, a5, a6, a7, a8, a9, a10, a11] st h Q ↔ At call ac_201 94 [a0, vI x, a2, a3, a4, a5, a6, a7, a8, a9, a10, a11] (vI x :: st) h Q := At_next rfl
theorem r201_94 : At call ac_201 94 [a0, a1, a2, a3, a4, a5, a6, a7, a8, a9, a10, a11] (vI y :: vI x :: st) h Q ↔ if x < y then At call ac_201 97 [a0, a1, a2, a3, a4, a5, a6, a7, a8, a9, a10, a11] st h Q else At call ac_201 144 [a0, a1, a2, a3, a4, a5, a6, a7, a8, a9, a10, a11] st h Q := At_br rfl
theorem r201_97 : At call ac_201 97 [a0, a1, a2, a3, a4, a5, a6, a7, vI x, a9, a10, a11] st h Q ↔ At call ac_201 99 [a0, a1, a2, a3, a4, a5, a6, a7, vI x, a9, a10, a11] (vI x :: st) h Q := At_next rfl
theorem r201_99 : At call ac_201 99 [a0, a1, a2, a3, a4, a5, a6, a7, a8, a9, a10, a11] (vI x :: st) h Q ↔ if x = 0 then At call ac_201 144 [a0, a1, a2, a3, a4, a5, a6, a7, a8, a9, a10, a11] st h Q else At call ac_201 102 [a0, a1, a2, a3, a4, a5, a6, a7, a8, a9, a10, a11] st h Q := At_br rfl
theorem r201_102 : At call ac_201 102 [a0, a1, a2, a3, a4, a5, a6, a7, a8, vI x, a10, a11] st h Q ↔ At call ac_201 104 [a0, a1, a2, a3, a4, a5, a6, a7, a8, vI x, a10, a11] (vI x :: st) h Q := At_next rfl
theorem r201_104 : At call ac_201 104 [a0, a1, a2, a3, a4, a5, a6, a7, a8, a9, a10, a11] st h Q ↔ At call ac_201 106 [a0, a1, a2, a3, a4, a5, a6, a7, a8, a9, a10, a11] (vI 7 :: st) h Q := At_next rfl
theorem r201_106 : At call ac_201 106 [a0, a1, a2, a3, a4, a5, a6, a7, a8, a9, a10, a11] (vI y :: vI x :: st) h Q ↔ y ≠ 0 ∧ At call ac_201 107 [a0, a1, a2, a3, a4, a5, a6, a7, a8, a9, a10, a11] (vI (opDiv x y) :: st) h Q := At_guard rfl
theorem r201_107 : At call ac_201 107 [a0, a1, a2, a3, a4, a5, a6, a7, a8, a9, a10, a11] (vI x :: st) h Q ↔ At call ac_201 109 [a0, a1, a2, a3, a4, a5, a6, a7, a8, vI x, a10, a11] st h Q := At_next rfl
theorem r201_109 : At call ac_201 109 [a0, a1, a2, a3, a4, a5, a6, vI x, a8, a9, a10, a11] st h Q ↔ At call ac_201 111 [a0, a1, a2, a3, a4, a5, a6, vI x, a8, a9, a10, a11] (vI x :: st) h Q := At_next rfl
theorem r201_111 : At call ac_201 111 [a0, a1, a2, a3, a4, a5, a6, a7, a8, vI x, a10, a11] st h Q ↔ At call ac_201 113 [a0, a1, a2, a3, a4, a5, a6, a7, a8, vI x, a10, a11] (vI x :: st) h Q := At_next rfl
theorem r201_113 : At call ac_201 113 [a0, a1, a2, a3, a4, a5, a6, a7, a8, a9, a10, a11] (vI y :: vI x :: st) h Q ↔ y ≠ 0 ∧ At call ac_201 114 [a0, a1, a2, a3, a4, a5, a6, a7, a8, a9, a10, a11] (vI (opDiv x y) :: st) h Q := At_guard rfl
theorem r201_114 : At call ac_201 114 [a0, a1, a2, a3, a4, a5, a6, a7, a8, a9, a10, a11] st h Q ↔ At call ac_201 116 [a0, a1, a2, a3, a4, a5, a6, a7, a8, a9, a10, a11] (vI 7 :: st) h Q := At_next rfl
theorem r201_116 : At call ac_201 116 [a0, a1, a2, a3, a4, a5, a6, a7, a8, a9, a10, a11] (vI y :: vI x :: st) h Q ↔ y ≠ 0 ∧ At call ac_201 117 [a0, a1, a2, a3, a4, a5, a6, a7, a8, a9, a10, a11] (vI (opRem x y) :: st) h Q := At_guard rfl
theorem r201_117 : At call ac_201 117 [a0, a1, a2, a3, a4, a5, a6, a7, a8, a9, a10, a11] (vI x :: st) h Q ↔ At call ac_201 119 [a0, a1, a2, a3, a4, a5, a6, a7, a8, a9, a10, vI x] st h Q := At_next rfl
theorem r201_119 : At call ac_201 119 [vR g m, a1, a2, a3, a4, a5, a6, a7, a8, a9, a10, a11] st h Q ↔ At call ac_201 120 [vR g m, a1, a2, a3, a4, a5, a6, a7, a8, a9, a10, a11] (vR g m :: st) h Q := At_next rfl
theorem r201_120 : At call ac_201 120 [a0, a1, a2, a3, a4, a5, a6, a7, a8, a9, a10, vI x] st h Q ↔ At call ac_201 122 [a0, a1, a2, a3, a4, a5, a6, a7, a8, a9, a10, vI x] (vI x :: st) h Q := At_next rfl
theorem r201_122 : At call ac_201 122 [a0, a1, a2, a3, a4, a5, a6, a7, a8, a9, a10, a11] (b1 :: b0 :: st) h Q ↔ st.length ≤ 4 ∧ ∃ v h1, call 186 [b0, b1] h (some v) h1 ∧ At call ac_201 125 [a0, a1, a2, a3, a4, a5, a6, a7, a8, a9, a10, a11] (v :: st) h1 Q := At_gcall rfl
theorem r201_125 : At call ac_201 125 [a0, a1, a2, a3, a4, a5, a6, a7, a8, a9, a10, a11] (vI x :: st) h Q ↔ At call ac_201 127 [a0, a1, a2, a3, a4, a5, a6, a7, vI x, a9, a10, a11] st h Q := At_next rfl
theorem r201_127 : At call ac_201 127 [a0, a1, a2, a3, a4, a5, a6, a7, vI x, a9, a10, a11] st h Q ↔ At call ac_201 129 [a0, a1, a2, a3, a4, a5, a6, a7, vI x, a9, a10, a11] (vI x :: st) h Q := At_next rfl
theorem r201_129 : At call ac_201 129 [a0, a1, a2, a3, a4, a5, a6, a7, a8, a9, a10, a11] (vI x :: st) h Q ↔ if x = 0 then At call ac_201 138 [a0, a1, a2, a3, a4, a5, a6, a7, a8, a9, a10, a11] st h Q else At call ac_201 132 [a0, a1, a2, a3, a4, a5, a6, a7, a8, a9, a10, a11] st h Q := At_br rfl
theorem r201_132 : At call ac_201 132 [vR g m, a1, a2, a3, a4, a5, a6, a7, a8, a9, a10, a11] st h Q ↔ At call ac_201 133 [vR g m, a1, a2, a3, a4, a5, a6, a7, a8, a9, a10, a11] (vR g m :: st) h Q := At_next rfl
theorem r201_133 : At call ac_201 133 [a0, a1, a2, a3, a4, a5, a6, a7, a8, a9, a10, vI x] st h Q ↔ At call ac_201 135 [a0, a1, a2, a3, a4, a5, a6, a7, a8, a9, a10, vI x] (vI x :: st) h Q := At_next rfl
theorem r201_135 : At call ac_201 135 [a0, a1, a2, a3, a4, a5, a6, a7, a8, a9, a10, a11] (b1 :: b0 :: st) h Q ↔ st.length ≤ 4 ∧ ∃ h1, call 189 [b0, b1] h none h1 ∧ At call ac_201 138 [a0, a1, a2, a3, a4, a5, a6, a7, a8, a9, a10, a11] st h1 Q := At_gcallv rfl
theorem r201_138 : At call ac_201 138 [a0, a1, a2, a3, a4, a5, a6, a7, a8, a9, vI x, a11] st h Q ↔ At call ac_201 141 [a0, a1, a2, a3, a4, a5, a6, a7, a8, a9, vI (wr (x + 1)), a11] st h Q := At_next rfl
theorem r201_141 : At call ac_201 141 [a0, a1, a2, a3, a4, a5, a6, a7, a8, a9, a10, a11] st h Q ↔ At call ac_201 91 [a0, a1, a2, a3, a4, a5, a6, a7, a8, a9, a10, a11] st h Q := At_next rfl
theorem r201_144 : At call ac_201 144 [a0, a1, a2, a3, a4, a5, a6, a7, vI x, a9, a10, a11] st h Q ↔ At call ac_201 146 [a0, a1, a2, a3, a4, a5, a6, a7, vI x, a9, a10, a11] (vI x :: st) h Q := At_next rfl
theorem r201_146 : At call ac_201 146 [a0, a1, a2, a3, a4, a5, a6, a7, a8, a9, a10, a11] (vI x :: st) h Q ↔ if x = 0 then At call ac_201 198 [a0, a1, a2, a3, a4, a5, a6, a7, a8, a9, a10, a11] st h Q else At call ac_201 149 [a0, a1, a2, a3, a4, a5, a6, a7, a8, a9, a10, a11] st h Q := At_br rfl
theorem r201_149 : At call ac_201 149 [a0, a1, a2, a3, vI x, a5, a6, a7, a8, a9, a10, a11] st h Q ↔ At call ac_201 151 [a0, a1, a2, a3, vI x, a5, a6, a7, a8, a9, a10, a11] (vI x :: st) h Q := At_next rfl
theorem r201_151 : At call ac_201 151 [a0, a1, a2, a3, a4, a5, a6, a7, a8, a9, a10, a11] st h Q ↔ At call ac_201 152 [a0, a1, a2, a3, a4, a5, a6, a7, a8, a9, a10, a11] (vI (-1) :: st) h Q := At_next rfl
theorem r201_152 : At call ac_201 152 [a0, a1, a2, a3, a4, a5, a6, a7, a8, a9, a10, a11] (vI y :: vI x :: st) h Q ↔ if x = y then At call ac_201 182 [a0, a1, a2, a3, a4, a5, a6, a7, a8, a9, a10, a11] st h Q else At call ac_201 155 [a0, a1, a2, a3, a4, a5, a6, a7, a8, a9, a10, a11] st h Q := At_br rfl
theorem r201_155 : At call ac_201 155 [vR g m, a1, a2, a3, a4, a5, a6, a7, a8, a9, a10, a11] st h Q ↔ At call ac_201 156 [vR g m, a1, a2, a3, a4, a5, a6, a7, a8, a9, a10, a11] (vR g m :: st) h Q := At_next rfl
theorem r201_156 : At call ac_201 156 [a0, a1, a2, a3, a4, a5, a6, a7, a8, a9, a10, a11] (vR g 27 :: st) h Q ↔ At call ac_201 159 [a0, a1, a2, a3, a4, a5, a6, a7, a8, a9, a10, a11] (vI (h g 27 10) :: st) h Q := At_next rfl
theorem r201_159 : At call ac_201 159 [a0, a1, a2, a3, a4, vI x, a6, a7, a8, a9, a10, a11] st h Q ↔ At call ac_201 161 [a0, a1, a2, a3, a4, vI x, a6, a7, a8, a9, a10, a11] (vI x :: st) h Q := At_next rfl
theorem r201_161 : At call ac_201 161 [a0, a1, a2, a3, a4, a5, a6, a7, a8, a9, a10, a11] (vI y :: vI x :: st) h Q ↔ if y < x then At call ac_201 182 [a0, a1, a2, a3, a4, a5, a6, a7, a8, a9, a10, a11] st h Q else At call ac_201 164 [a0, a1, a2, a3, a4, a5, a6, a7, a8, a9, a10, a11] st h Q := At_br rfl
theorem r201_164 : At call ac_201 164 [vR g m, a1, a2, a3, a4, a5, a6, a7, a8, a9, a10, a11] st h Q ↔ At call ac_201 165 [vR g m, a1, a2, a3, a4, a5, a6, a7, a8, a9, a10, a11] (vR g m :: st) h Q := At_next rfl
theorem r201_165 : At call ac_201 165 [a0, a1, a2, a3, a4, a5, a6, a7, a8, a9, a10, a11] (vR g 27 :: st) h Q ↔ At call ac_201 168 [a0, a1, a2, a3, a4, a5, a6, a7, a8, a9, a10, a11] (vI (h g 27 10) :: st) h Q := At_next rfl
theorem r201_168 : At call ac_201 168 [a0, a1, a2, a3, a4, vI x, a6, a7, a8, a9, a10, a11] st h Q ↔ At call ac_201 170 [a0, a1, a2, a3, a4, vI x, a6, a7, a8, a9, a10, a11] (vI x :: st) h Q := At_next rfl
theorem r201_170 : At call ac_201 170 [a0, a1, a2, a3, a4, a5, a6, a7, a8, a9, a10, a11] (vI y :: vI x :: st) h Q ↔ if x = y then At call ac_201 173 [a0, a1, a2, a3, a4, a5, a6, a7, a8, a9, a10, a11] st h Q else At call ac_201 198 [a0, a1, a2, a3, a4, a5, a6, a7, a8, a9, a10, a11] st h Q := At_br rfl
theorem r201_173 : At call ac_201 173 [vR g m, a1, a2, a3, a4, a5, a6, a7, a8, a9, a10, a11] st h Q ↔ At call ac_201 174 [vR g m, a1, a2, a3, a4, a5, a6, a7, a8, a9, a10, a11] (vR g m :: st) h Q := At_next rfl
theorem r201_174 : At call ac_201 174 [a0, a1, a2, a3, a4, a5, a6, a7, a8, a9, a10, a11] (b0 :: st) h Q ↔ st.length ≤ 4 ∧ ∃ v h1, call 184 [b0] h (some v) h1 ∧ At call ac_201 177 [a0, a1, a2, a3, a4, a5, a6, a7, a8, a9, a10, a11] (v :: st) h1 Q := At_gcall rfl
theorem r201_177 : At call ac_201 177 [a0, a1, a2, a3, a4, a5, vI x, a7, a8, a9, a10, a11] st h Q ↔ At call ac_201 179 [a0, a1, a2, a3, a4, a5, vI x, a7, a8, a9, a10, a11] (vI x :: st) h Q := At_next rfl
theorem r201_179 : At call ac_201 179 [a0, a1, a2, a3, a4, a5, a6, a7, a8, a9, a10, a11] (vI y :: vI x :: st) h Q ↔ if y < x then At call ac_201 182 [a0, a1, a2, a3, a4, a5, a6, a7, a8, a9, a10, a11] st h Q else At call ac_201 198 [a0, a1, a2, a3, a4, a5, a6, a7, a8, a9, a10, a11] st h Q := At_br rfl
theorem r201_182 : At call ac_201 182 [a0, a1, a2, a3, a4, a5, a6, vI x, a8, a9, a10, a11] st h Q ↔ At call ac_201 184 [a0, a1, a2, a3, a4, a5, a6, vI x, a8, a9, a10, a11] (vI x :: st) h Q := At_next rfl
theorem r201_184 : At call ac_201 184 [a0, a1, a2, a3, a4, a5, a6, a7, a8, a9, a10, a11] (vI x :: st) h Q ↔ At call ac_201 186 [a0, a1, a2, a3, vI x, a5, a6, a7, a8, a9, a10, a11] st h Q := At_next rfl
theorem r201_186 : At call ac_201 186 [vR g m, a1, a2, a3, a4, a5, a6, a7, a8, a9, a10, a11] st h Q ↔ At call ac_201 187 [vR g m, a1, a2, a3, a4, a5, a6, a7, a8, a9, a10, a11] (vR g m :: st) h Q := At_next rfl
theorem r201_187 : At call ac_201 187 [a0, a1, a2, a3, a4, a5, a6, a7, a8, a9, a10, a11] (vR g 27 :: st) h Q ↔ At call ac_201 190 [a0, a1, a2, a3, a4, a5, a6, a7, a8, a9, a10, a11] (vI (h g 27 10) :: st) h Q := At_next rfl
theorem r201_190 : At call ac_201 190 [a0, a1, a2, a3, a4, a5, a6, a7, a8, a9, a10, a11] (vI x :: st) h Q ↔ At call ac_201 192 [a0, a1, a2, a3, a4, vI x, a6, a7, a8, a9, a10, a11] st h Q := At_next rfl
theorem r201_192 : At call ac_201 192 [vR g m, a1, a2, a3, a4, a5, a6, a7, a8, a9, a10, a11] st h Q ↔ At call ac_201 193 [vR g m, a1, a2, a3, a4, a5, a6, a7, a8, a9, a10, a11] (vR g m :: st) h Q := At_next rfl
theorem r201_193 : At call ac_201 193 [a0, a1, a2, a3, a4, a5, a6, a7, a8, a9, a10, a11] (b0 :: st) h Q ↔ st.length ≤ 4 ∧ ∃ v h1, call 184 [b0] h (some v) h1 ∧ At call ac_201 196 [a0, a1, a2, a3, a4, a5, a6, a7, a8, a9, a10, a11] (v :: st) h1 Q := At_gcall rfl
theorem r201_196 : At call ac_201 196 [a0, a1, a2, a3, a4, a5, a6, a7, a8, a9, a10, a11] (vI x :: st) h Q ↔ At call ac_201 198 [a0, a1, a2, a3, a4, a5, vI x, a7, a8, a9, a10, a11] st h Q := At_next rfl
theorem r201_198 : At call ac_201 198 [vR g m, a1, a2, a3, a4, a5, a6, a7, a8, a9, a10, a11] st h Q ↔ At call ac_201 199 [vR g m, a1, a2, a3, a4, a5, a6, a7, a8, a9, a10, a11] (vR g m :: st) h Q := At_next rfl
theorem r201_199 : At call ac_201 199 [vR g m, a1, a2, a3, a4, a5, a6, a7, a8, a9, a10, a11] st h Q ↔ At call ac_201 200 [vR g m, a1, a2, a3, a4, a5, a6, a7, a8, a9, a10, a11] (vR g m :: st) h Q := At_next rfl
theorem r201_200 : At call ac_201 200 [a0, a1, a2, a3, a4, a5, a6, a7, a8, a9, a10, a11] (vR g 27 :: st) h Q ↔ At call ac_201 203 [a0, a1, a2, a3, a4, a5, a6, a7, a8, a9, a10, a11] (vR g 35 :: st) h Q := At_next rfl
theorem r201_203 : At call ac_201 203 [a0, a1, a2, a3, a4, a5, a6, a7, a8, a9, a10, a11] (b1 :: b0 :: st) h Q ↔ st.length ≤ 4 ∧ ∃ h1, call 232 [b0, b1] h none h1 ∧ At call ac_201 206 [a0, a1, a2, a3, a4, a5, a6, a7, a8, a9, a10, a11] st h1 Q := At_gcallv rfl
theorem r201_206 : At call ac_201 206 [a0, a1, a2, a3, a4, a5, a6, vI x, a8, a9, a10, a11] st h Q ↔ At call ac_201 209 [a0, a1, a2, a3, a4, a5, a6, vI (wr (x + 1)), a8, a9, a10, a11] st h Q := At_next rfl
theorem r201_209 : At call ac_201 209 [a0, a1, a2, a3, a4, a5, a6, a7, a8, a9, a10, a11] st h Q ↔ At call ac_201 76 [a0, a1, a2, a3, a4, a5, a6, a7, a8, a9, a10, a11] st h Q := At_next rfl
theorem r201_212 : At call ac_201 212 [a0, a1, vI x, a3, a4, a5, a6, a7, a8, a9, a10, a11] st h Q ↔ At call ac_201 213 [a0, a1, vI x, a3, a4, a5, a6, a7, a8, a9, a10, a11] (vI x :: st) h Q := At_next rfl
theorem r201_213 : At call ac_201 213 [a0, a1, a2, a3, a4, a5, a6, a7, a8, a9, a10, a11] st h Q ↔ At call ac_201 214 [a0, a1, a2, a3, a4, a5, a6, a7, a8, a9, a10, a11] (vI (-1) :: st) h Q := At_next rfl
theorem r201_214 : At call ac_201 214 [a0, a1, a2, a3, a4, a5, a6, a7, a8, a9, a10, a11] (vI y :: vI x :: st) h Q ↔ if x = y then At call ac_201 217 [a0, a1, a2, a3, a4, a5, a6, a7, a8, a9, a10, a11] st h Q else At call ac_201 220 [a0, a1, a2, a3, a4, a5, a6, a7, a8, a9, a10, a11] st h Q := At_br rfl
theorem r201_217 : At call ac_201 217 [a0, a1, a2, a3, a4, vI x, a6, a7, a8, a9, a10, a11] st h Q ↔ At call ac_201 219 [a0, a1, a2, a3, a4, vI x, a6, a7, a8, a9, a10, a11] (vI x :: st) h Q := At_next rfl
theorem r201_219 : At call ac_201 219 [a0, a1, a2, a3, a4, a5, a6, a7, a8, a9, a10, a11] [vI x] h Q ↔ Q (some (vI x)) h := At_ret rfl
theorem r201_220 : At call ac_201 220 [a0, vI x, a2, a3, a4, a5, a6, a7, a8, a9, a10, a11] st h Q ↔ At call ac_201 221 [a0, vI x, a2, a3, a4, a5, a6, a7, a8, a9, a10, a11] (vI x :: st) h Q := At_next rfl
theorem r201_221 : At call ac_201 221 [a0, a1, a2, a3, a4, a5, a6, a7, a8, a9, a10, a11] st h Q ↔ At call ac_201 222 [a0, a1, a2, a3, a4, a5, a6, a7, a8, a9, a10, a11] (vI 1 :: st) h Q := At_next rfl
theorem r201_222 : At call ac_201 222 [a0, a1, a2, a3, a4, a5, a6, a7, a8, a9, a10, a11] (vI y :: vI x :: st) h Q ↔ At call ac_201 223 [a0, a1, a2, a3, a4, a5, a6, a7, a8, a9, a10, a11] (vI (wr (x - y)) :: st) h Q := At_next rfl
theorem r201_223 : At call ac_201 223 [a0, a1, a2, a3, a4, a5, a6, a7, a8, a9, a10, a11] (vI x :: st) h Q ↔ At call ac_201 225 [a0, a1, a2, a3, a4, a5, a6, vI x, a8, a9, a10, a11] st h Q := At_next rfl
theorem r201_225 : At call ac_201 225 [a0, a1, a2, a3, a4, a5, a6, vI x, a8, a9, a10, a11] st h Q ↔ At call ac_201 227 [a0, a1, a2, a3, a4, a5, a6, vI x, a8, a9, a10, a11] (vI x :: st) h Q := At_next rfl
theorem r201_227 : At call ac_201 227 [a0, a1, vI x, a3, a4, a5, a6, a7, a8, a9, a10, a11] st h Q ↔ At call ac_201 228 [a0, a1, vI x, a3, a4, a5, a6, a7, a8, a9, a10, a11] (vI x :: st) h Q := At_next rfl
theorem r201_228 : At call ac_201 228 [a0, a1, a2, a3, a4, a5, a6, a7, a8, a9, a10, a11] (vI y :: vI x :: st) h Q ↔ if y < x then At call ac_201 231 [a0, a1, a2, a3, a4, a5, a6, a7, a8, a9, a10, a11] st h Q else At call ac_201 244 [a0, a1, a2, a3, a4, a5, a6, a7, a8, a9, a10, a11] st h Q := At_br rfl
theorem r201_231 : At call ac_201 231 [a0, a1, a2, a3, vI x, a5, a6, a7, a8, a9, a10, a11] st h Q ↔ At call ac_201 233 [a0, a1, a2, a3, vI x, a5, a6, a7, a8, a9, a10, a11] (vI x :: st) h Q := At_next rfl
theorem r201_233 : At call ac_201 233 [a0, a1, a2, a3, a4, a5, a6, a7, a8, a9, a10, a11] st h Q ↔ At call ac_201 235 [a0, a1, a2, a3, a4, a5, a6, a7, a8, a9, a10, a11] (vI 7 :: st) h Q := At_next rfl
theorem r201_235 : At call ac_201 235 [a0, a1, a2, a3, a4, a5, a6, a7, a8, a9, a10, a11] (vI y :: vI x :: st) h Q ↔ y ≠ 0 ∧ At call ac_201 236 [a0, a1, a2, a3, a4, a5, a6, a7, a8, a9, a10, a11] (vI (opDiv x y) :: st) h Q := At_guard rfl
theorem r201_236 : At call ac_201 236 [a0, a1, a2, a3, a4, a5, a6, a7, a8, a9, a10, a11] (vI x :: st) h Q ↔ At call ac_201 238 [a0, a1, a2, a3, vI x, a5, a6, a7, a8, a9, a10, a11] st h Q := At_next rfl
theorem r201_238 : At call ac_201 238 [a0, a1, a2, a3, a4, a5, a6, vI x, a8, a9, a10, a11] st h Q ↔ At call ac_201 241 [a0, a1, a2, a3, a4, a5, a6, vI (wr (x + (-1))), a8, a9, a10, a11] st h Q := At_next rfl
theorem r201_241 : At call ac_201 241 [a0, a1, a2, a3, a4, a5, a6, a7, a8, a9, a10, a11] st h Q ↔ At call ac_201 225 [a0, a1, a2, a3, a4, a5, a6, a7, a8, a9, a10, a11] st h Q := At_next rfl
theorem r201_244 : At call ac_201 244 [a0, a1, a2, a3, vI x, a5, a6, a7, a8, a9, a10, a11] st h Q ↔ At call ac_201 246 [a0, a1, a2, a3, vI x, a5, a6, a7, a8, a9, a10, a11] (vI x :: st) h Q := At_next rfl
theorem r201_246 : At call ac_201 246 [a0, a1, a2, a3, a4, a5, a6, a7, a8, a9, a10, a11] st h Q ↔ At call ac_201 248 [a0, a1, a2, a3, a4, a5, a6, a7, a8, a9, a10, a11] (vI 7 :: st) h Q := At_next rfl
theorem r201_248 : At call ac_201 248 [a0, a1, a2, a3, a4, a5, a6, a7, a8, a9, a10, a11] (vI y :: vI x :: st) h Q ↔ y ≠ 0 ∧ At call ac_201 249 [a0, a1, a2, a3, a4, a5, a6, a7, a8, a9, a10, a11] (vI (opRem x y) :: st) h Q := At_guard rfl
theorem r201_249 : At call ac_201 249 [a0, a1, a2, a3, a4, a5, a6, a7, a8, a9, a10, a11] [vI x] h Q ↔ Q (some (vI x)) h := At_ret rfl
theorem r202_0 : At call ac_202 0 [vR g m, a1, a2, a3] st h Q ↔ At call ac_202 1 [vR g m, a1, a2, a3] (vR g m :: st) h Q := At_next rfl
theorem r202_1 : At call ac_202 1 [a0, vI x, a2, a3] st h Q ↔ At call ac_202 2 [a0, vI x, a2, a3] (vI x :: st) h Q := At_next rfl
theorem r202_2 : At call ac_202 2 [a0, a1, a2, a3] (b1 :: b0 :: st) h Q ↔ st.length ≤ 4 ∧ ∃ v h1, call 186 [b0, b1] h (some v) h1 ∧ At call ac_202 5 [a0, a1, a2, a3] (v :: st) h1 Q := At_gcall rfl
theorem r202_5 : At call ac_202 5 [a0, a1, a2, a3] (vI x :: st) h Q ↔ if x = 0 then At call ac_202 12 [a0, a1, a2, a3] st h Q else At call ac_202 8 [a0, a1, a2, a3] st h Q := At_br rfl
theorem r202_8 : At call ac_202 8 [a0, vI x, a2, a3] st h Q ↔ At call ac_202 9 [a0, vI x, a2, a3] (vI x :: st) h Q := At_next rfl
theorem r202_9 : At call ac_202 9 [a0, a1, a2, a3] st h Q ↔ At call ac_202 37 [a0, a1, a2, a3] st h Q := At_next rfl
theorem r202_12 : At call ac_202 12 [vR g m, a1, a2, a3] st h Q ↔ At call ac_202 13 [vR g m, a1, a2, a3] (vR g m :: st) h Q := At_next rfl
theorem r202_13 : At call ac_202 13 [a0, a1, vI x, a3] st h Q ↔ At call ac_202 14 [a0, a1, vI x, a3] (vI x :: st) h Q := At_next rfl
theorem r202_14 : At call ac_202 14 [a0, a1, a2, a3] (b1 :: b0 :: st) h Q ↔ st.length ≤ 4 ∧ ∃ v h1, call 186 [b0, b1] h (some v) h1 ∧ At call ac_202 17 [a0, a1, a2, a3] (v :: st) h1 Q := At_gcall rfl
theorem r202_17 : At call ac_202 17 [a0, a1, a2, a3] (vI x :: st) h Q ↔ if x = 0 then At call ac_202 24 [a0, a1, a2, a3] st h Q else At call ac_202 20 [a0, a1, a2, a3] st h Q := At_br rfl
theorem r202_20 : At call ac_202 20 [a0, a1, vI x, a3] st h Q ↔ At call ac_202 21 [a0, a1, vI x, a3] (vI x :: st) h Q := At_next rfl
theorem r202_21 : At call ac_202 21 [a0, a1, a2, a3] st h Q ↔ At call ac_202 37 [a0, a1, a2, a3] st h Q := At_next rfl
theorem r202_24 : At call ac_202 24 [vR g m, a1, a2, a3] st h Q ↔ At call ac_202 25 [vR g m, a1, a2, a3] (vR g m :: st) h Q := At_next rfl
theorem r202_25 : At call ac_202 25 [a0, a1, a2, vI x] st h Q ↔ At call ac_202 26 [a0, a1, a2, vI x] (vI x :: st) h Q := At_next rfl
theorem r202_26 : At call ac_202 26 [a0, a1, a2, a3] (b1 :: b0 :: st) h Q ↔ st.length ≤ 4 ∧ ∃ v h1, call 186 [b0, b1] h (some v) h1 ∧ At call ac_202 29 [a0, a1, a2, a3] (v :: st) h1 Q := At_gcall rfl
theorem r202_29 : At call ac_202 29 [a0, a1, a2, a3] (vI x :: st) h Q ↔ if x = 0 then At call ac_202 36 [a0, a1, a2, a3] st h Q else At call ac_202 32 [a0, a1, a2, a3] st h Q := At_br rfl
theorem r202_32 : At call ac_202 32 [a0, a1, a2, vI x] st h Q ↔ At call ac_202 33 [a0, a1, a2, vI x] (vI x :: st) h Q := At_next rfl
theorem r202_33 : At call ac_202 33 [a0, a1, a2, a3] st h Q ↔ At call ac_202 37 [a0, a1, a2, a3] st h Q := At_next rfl
theorem r202_36 : At call ac_202 36 [a0, a1, a2, a3] st h Q ↔ At call ac_202 37 [a0, a1, a2, a3] (vI 0 :: st) h Q := At_next rfl
theorem r202_37 : At call ac_202 37 [a0, a1, a2, a3] [vI x] h Q ↔ Q (some (vI x)) h := At_ret rfl
theorem r203_0 : At call ac_203 0 [a0, vI x] st h Q ↔ At call ac_203 1 [a0, vI x] (vI x :: st) h Q := At_next rfl
theorem r203_1 : At call ac_203 1 [a0, a1] (vI x :: st) h Q ↔ if x = 0 then At call ac_203 28 [a0, a1] st h Q else if x = 1 then At call ac_203 36 [a0, a1] st h Q else if x = 2 then At call ac_203 44 [a0, a1] st h Q else At call ac_203 85 [a0, a1] st h Q := At_swT (k := 0) (ts := [28, 36, 44]) (d := 85) (L' := [a0, a1]) (st' := st) (h' := h) rfl
theorem r203_28 : At call ac_203 28 [vR g m, a1] st h Q ↔ At call ac_203 29 [vR g m, a1] (vR g m :: st) h Q := At_next rfl
theorem r203_29 : At call ac_203 29 [a0, a1] st h Q ↔ At call ac_203 30 [a0, a1] (vI 4 :: st) h Q := At_next rfl
theorem r203_30 : At call ac_203 30 [a0, a1] st h Q ↔ At call ac_203 31 [a0, a1] (vI 1 :: st) h Q := At_next rfl
theorem r203_31 : At call ac_203 31 [a0, a1] st h Q ↔ At call ac_203 32 [a0, a1] (vI 0 :: st) h Q := At_next rfl
theorem r203_32 : At call ac_203 32 [a0, a1] (b3 :: b2 :: b1 :: b0 :: st) h Q ↔ st.length ≤ 4 ∧ ∃ v h1, call 202 [b0, b1, b2, b3] h (some v) h1 ∧ At call ac_203 35 [a0, a1] (v :: st) h1 Q := At_gcall rfl
theorem r203_35 : At call ac_203 35 [a0, a1] [vI x] h Q ↔ Q (some (vI x)) h := At_ret rfl
theorem r203_36 : At call ac_203 36 [vR g m, a1] st h Q ↔ At call ac_203 37 [vR g m, a1] (vR g m :: st) h Q := At_next rfl
theorem r203_37 : At call ac_203 37 [a0, a1] st h Q ↔ At call ac_203 38 [a0, a1] (vI 1 :: st) h Q := At_next rfl
theorem r203_38 : At call ac_203 38 [a0, a1] st h Q ↔ At call ac_203 39 [a0, a1] (vI 4 :: st) h Q := At_next rfl
theorem r203_39 : At call ac_203 39 [a0, a1] st h Q ↔ At call ac_203 40 [a0, a1] (vI 0 :: st) h Q := At_next rfl
theorem r203_40 : At call ac_203 40 [a0, a1] (b3 :: b2 :: b1 :: b0 :: st) h Q ↔ st.length ≤ 4 ∧ ∃ v h1, call 202 [b0, b1, b2, b3] h (some v) h1 ∧ At call ac_203 43 [a0, a1] (v :: st) h1 Q := At_gcall rfl
theorem r203_43 : At call ac_203 43 [a0, a1] [vI x] h Q ↔ Q (some (vI x)) h := At_ret rfl
theorem r203_44 : At call ac_203 44 [vR g m, a1] st h Q ↔ At call ac_203 45 [vR g m, a1] (vR g m :: st) h Q := At_next rfl
theorem r203_45 : At call ac_203 45 [a0, a1] (b0 :: st) h Q ↔ st.length ≤ 4 ∧ ∃ v h1, call 183 [b0] h (some v) h1 ∧ At call ac_203 48 [a0, a1] (v :: st) h1 Q := At_gcall rfl
theorem r203_48 : At call ac_203 48 [a0, a1] (vI x :: st) h Q ↔ if 0 < x then At call ac_203 51 [a0, a1] st h Q else At call ac_203 77 [a0, a1] st h Q := At_br rfl
theorem r203_51 : At call ac_203 51 [vR g m, a1] st h Q ↔ At call ac_203 52 [vR g m, a1] (vR g m :: st) h Q := At_next rfl
theorem r203_52 : At call ac_203 52 [a0, a1] (vR g 27 :: st) h Q ↔ At call ac_203 55 [a0, a1] (vR g 24 :: st) h Q := At_next rfl
theorem r203_55 : At call ac_203 55 [vR g m, a1] st h Q ↔ At call ac_203 56 [vR g m, a1] (vR g m :: st) h Q := At_next rfl
theorem r203_56 : At call ac_203 56 [a0, a1] st h Q ↔ At call ac_203 58 [a0, a1] (vI 100 :: st) h Q := At_next rfl
theorem r203_58 : At call ac_203 58 [a0, a1] (b1 :: b0 :: st) h Q ↔ st.length ≤ 4 ∧ ∃ v h1, call 185 [b0, b1] h (some v) h1 ∧ At call ac_203 61 [a0, a1] (v :: st) h1 Q := At_gcall rfl
theorem r203_61 : At call ac_203 61 [a0, a1] (vI x :: vR g m :: st) h Q ↔ inA h m 0 x ∧ At call ac_203 62 [a0, a1] (vI (h g m x.toNat) :: st) h Q := At_guard rfl
theorem r203_62 : At call ac_203 62 [a0, a1] st h Q ↔ At call ac_203 64 [a0, a1] (vI 70 :: st) h Q := At_next rfl
theorem r203_64 : At call ac_203 64 [a0, a1] (vI y :: vI x :: st) h Q ↔ if x < y then At call ac_203 77 [a0, a1] st h Q else At call ac_203 67 [a0, a1] st h Q := At_br rfl
theorem r203_67 : At call ac_203 67 [vR g m, a1] st h Q ↔ At call ac_203 68 [vR g m, a1] (vR g m :: st) h Q := At_next rfl
theorem r203_68 : At call ac_203 68 [a0, a1] st h Q ↔ At call ac_203 69 [a0, a1] (vI 4 :: st) h Q := At_next rfl
theorem r203_69 : At call ac_203 69 [a0, a1] st h Q ↔ At call ac_203 70 [a0, a1] (vI 1 :: st) h Q := At_next rfl
theorem r203_70 : At call ac_203 70 [a0, a1] st h Q ↔ At call ac_203 71 [a0, a1] (vI 0 :: st) h Q := At_next rfl
theorem r203_71 : At call ac_203 71 [a0, a1] (b3 :: b2 :: b1 :: b0 :: st) h Q ↔ st.length ≤ 4 ∧ ∃ v h1, call 202 [b0, b1, b2, b3] h (some v) h1 ∧ At call ac_203 74 [a0, a1] (v :: st) h1 Q := At_gcall rfl
theorem r203_74 : At call ac_203 74 [a0, a1] st h Q ↔ At call ac_203 84 [a0, a1] st h Q := At_next rfl
theorem r203_77 : At call ac_203 77 [vR g m, a1] st h Q ↔ At call ac_203 78 [vR g m, a1] (vR g m :: st) h Q := At_next rfl
theorem r203_78 : At call ac_203 78 [a0, a1] st h Q ↔ At call ac_203 79 [a0, a1] (vI 1 :: st) h Q := At_next rfl
theorem r203_79 : At call ac_203 79 [a0, a1] st h Q ↔ At call ac_203 80 [a0, a1] (vI 4 :: st) h Q := At_next rfl
theorem r203_80 : At call ac_203 80 [a0, a1] st h Q ↔ At call ac_203 81 [a0, a1] (vI 0 :: st) h Q := At_next rfl
theorem r203_81 : At call ac_203 81 [a0, a1] (b3 :: b2 :: b1 :: b0 :: st) h Q ↔ st.length ≤ 4 ∧ ∃ v h1, call 202 [b0, b1, b2, b3] h (some v) h1 ∧ At call ac_203 84 [a0, a1] (v :: st) h1 Q := At_gcall rfl
theorem r203_84 : At call ac_203 84 [a0, a1] [vI x] h Q ↔ Q (some (vI x)) h := At_ret rfl
theorem r203_85 : At call ac_203 85 [vR g m, a1] st h Q ↔ At call ac_203 86 [vR g m, a1] (vR g m :: st) h Q := At_next rfl
theorem r203_86 : At call ac_203 86 [a0, a1] st h Q ↔ At call ac_203 87 [a0, a1] (vI 1 :: st) h Q := At_next rfl
theorem r203_87 : At call ac_203 87 [a0, a1] (b1 :: b0 :: st) h Q ↔ st.length ≤ 4 ∧ ∃ v h1, call 186 [b0, b1] h (some v) h1 ∧ At call ac_203 90 [a0, a1] (v :: st) h1 Q := At_gcall rfl
theorem r203_90 : At call ac_203 90 [a0, a1] (vI x :: st) h Q ↔ if x = 0 then At call ac_203 95 [a0, a1] st h Q else At call ac_203 93 [a0, a1] st h Q := At_br rfl
theorem r203_93 : At call ac_203 93 [a0, a1] st h Q ↔ At call ac_203 94 [a0, a1] (vI 1 :: st) h Q := At_next rfl
theorem r203_94 : At call ac_203 94 [a0, a1] [vI x] h Q ↔ Q (some (vI x)) h := At_ret rfl
theorem r203_95 : At call ac_203 95 [vR g m, a1] st h Q ↔ At call ac_203 96 [vR g m, a1] (vR g m :: st) h Q := At_next rfl
theorem r203_96 : At call ac_203 96 [a0, a1] (vR g 27 :: st) h Q ↔ At call ac_203 99 [a0, a1] (vI (h g 27 7) :: st) h Q := At_next rfl
theorem r203_99 : At call ac_203 99 [a0, a1] (vI x :: st) h Q ↔ if 0 < x then At call ac_203 102 [a0, a1] st h Q else At call ac_203 128 [a0, a1] st h Q := At_br rfl
theorem r203_102 : At call ac_203 102 [vR g m, a1] st h Q ↔ At call ac_203 103 [vR g m, a1] (vR g m :: st) h Q := At_next rfl
theorem r203_103 : At call ac_203 103 [a0, a1] (vR g 27 :: st) h Q ↔ At call ac_203 106 [a0, a1] (vR g 20 :: st) h Q := At_next rfl
theorem r203_106 : At call ac_203 106 [vR g m, a1] st h Q ↔ At call ac_203 107 [vR g m, a1] (vR g m :: st) h Q := At_next rfl
theorem r203_107 : At call ac_203 107 [a0, a1] (vR g 27 :: st) h Q ↔ At call ac_203 110 [a0, a1] (vI (h g 27 9) :: st) h Q := At_next rfl
theorem r203_110 : At call ac_203 110 [a0, a1] (vI x :: vR g m :: st) h Q ↔ inA h m 0 x ∧ At call ac_203 111 [a0, a1] (vI (h g m x.toNat) :: st) h Q := At_guard rfl
theorem r203_111 : At call ac_203 111 [a0, a1] st h Q ↔ At call ac_203 112 [a0, a1] (vI 1 :: st) h Q := At_next rfl
theorem r203_112 : At call ac_203 112 [a0, a1] (b1 :: b0 :: st) h Q ↔ st.length ≤ 4 ∧ ∃ v h1, call 156 [b0, b1] h (some v) h1 ∧ At call ac_203 115 [a0, a1] (v :: st) h1 Q := At_gcall rfl
theorem r203_115 : At call ac_203 115 [a0, a1] (vI x :: st) h Q ↔ if x = 0 then At call ac_203 128 [a0, a1] st h Q else At call ac_203 118 [a0, a1] st h Q := At_br rfl
theorem r203_118 : At call ac_203 118 [vR g m, a1] st h Q ↔ At call ac_203 119 [vR g m, a1] (vR g m :: st) h Q := At_next rfl
theorem r203_119 : At call ac_203 119 [a0, a1] st h Q ↔ At call ac_203 120 [a0, a1] (vI 5 :: st) h Q := At_next rfl
theorem r203_120 : At call ac_203 120 [a0, a1] (b1 :: b0 :: st) h Q ↔ st.length ≤ 4 ∧ ∃ v h1, call 186 [b0, b1] h (some v) h1 ∧ At call ac_203 123 [a0, a1] (v :: st) h1 Q := At_gcall rfl
theorem r203_123 : At call ac_203 123 [a0, a1] (vI x :: st) h Q ↔ if x = 0 then At call ac_203 128 [a0, a1] st h Q else At call ac_203 126 [a0, a1] st h Q := At_br rfl
theorem r203_126 : At call ac_203 126 [a0, a1] st h Q ↔ At call ac_203 127 [a0, a1] (vI 5 :: st) h Q := At_next rfl
theorem r203_127 : At call ac_203 127 [a0, a1] [vI x] h Q ↔ Q (some (vI x)) h := At_ret rfl
theorem r203_128 : At call ac_203 128 [vR g m, a1] st h Q ↔ At call ac_203 129 [vR g m, a1] (vR g m :: st) h Q := At_next rfl
theorem r203_129 : At call ac_203 129 [a0, a1] st h Q ↔ At call ac_203 130 [a0, a1] (vI 2 :: st) h Q := At_next rfl
theorem r203_130 : At call ac_203 130 [a0, a1] st h Q ↔ At call ac_203 131 [a0, a1] (vI 4 :: st) h Q := At_next rfl
theorem r203_131 : At call ac_203 131 [a0, a1] st h Q ↔ At call ac_203 132 [a0, a1] (vI 0 :: st) h Q := At_next rfl
theorem r203_132 : At call ac_203 132 [a0, a1] (b3 :: b2 :: b1 :: b0 :: st) h Q ↔ st.length ≤ 4 ∧ ∃ v h1, call 202 [b0, b1, b2, b3] h (some v) h1 ∧ At call ac_203 135 [a0, a1] (v :: st) h1 Q := At_gcall rfl
theorem r203_135 : At call ac_203 135 [a0, a1] [vI x] h Q ↔ Q (some (vI x)) h := At_ret rfl
theorem r204_0 : At call ac_204 0 [a0, a1, a2, a3] st h Q ↔ At call ac_204 1 [a0, a1, a2, a3] (vI 0 :: st) h Q := At_next rfl
theorem r204_1 : At call ac_204 1 [a0, a1, a2, a3] (vI x :: st) h Q ↔ At call ac_204 2 [a0, a1, a2, vI x] st h Q := At_next rfl
theorem r204_2 : At call ac_204 2 [a0, a1, a2, vI x] st h Q ↔ At call ac_204 3 [a0, a1, a2, vI x] (vI x :: st) h Q := At_next rfl
theorem r204_3 : At call ac_204 3 [a0, a1, vI x, a3] st h Q ↔ At call ac_204 4 [a0, a1, vI x, a3] (vI x :: st) h Q := At_next rfl
theorem r204_4 : At call ac_204 4 [a0, a1, a2, a3] (vI y :: vI x :: st) h Q ↔ if x < y then At call ac_204 7 [a0, a1, a2, a3] st h Q else At call ac_204 22 [a0, a1, a2, a3] st h Q := At_br rfl
theorem r204_7 : At call ac_204 7 [vR g m, a1, a2, a3] st h Q ↔ At call ac_204 8 [vR g m, a1, a2, a3] (vR g m :: st) h Q := At_next rfl
theorem r204_8 : At call ac_204 8 [vR g m, a1, a2, a3] st h Q ↔ At call ac_204 9 [vR g m, a1, a2, a3] (vR g m :: st) h Q := At_next rfl
theorem r204_9 : At call ac_204 9 [a0, vI x, a2, a3] st h Q ↔ At call ac_204 10 [a0, vI x, a2, a3] (vI x :: st) h Q := At_next rfl
theorem r204_10 : At call ac_204 10 [a0, a1, a2, a3] (b1 :: b0 :: st) h Q ↔ st.length ≤ 4 ∧ ∃ v h1, call 203 [b0, b1] h (some v) h1 ∧ At call ac_204 13 [a0, a1, a2, a3] (v :: st) h1 Q := At_gcall rfl
theorem r204_13 : At call ac_204 13 [a0, a1, a2, a3] (b1 :: b0 :: st) h Q ↔ st.length ≤ 4 ∧ ∃ h1, call 189 [b0, b1] h none h1 ∧ At call ac_204 16 [a0, a1, a2, a3] st h1 Q := At_gcallv rfl
theorem r204_16 : At call ac_204 16 [a0, a1, a2, vI x] st h Q ↔ At call ac_204 19 [a0, a1, a2, vI (wr (x + 1))] st h Q := At_next rfl
theorem r204_19 : At call ac_204 19 [a0, a1, a2, a3] st h Q ↔ At call ac_204 2 [a0, a1, a2, a3] st h Q := At_next rfl
theorem r204_22 : At call ac_204 22 [a0, a1, a2, a3] [] h Q ↔ Q none h := At_ret rfl
theorem r205_0 : At call ac_205 0 [vI x, a1] st h Q ↔ At call ac_205 1 [vI x, a1] (vI x :: st) h Q := At_next rfl
theorem r205_1 : At call ac_205 1 [a0, a1] st h Q ↔ At call ac_205 2 [a0, a1] (vI 0 :: st) h Q := At_next rfl
theorem r205_2 : At call ac_205 2 [a0, a1] st h Q ↔ At call ac_205 3 [a0, a1] (vI 3 :: st) h Q := At_next rfl
theorem r205_3 : At call ac_205 3 [a0, a1] (b2 :: b1 :: b0 :: st) h Q ↔ st.length ≤ 4 ∧ ∃ v h1, call 144 [b0, b1, b2] h (some v) h1 ∧ At call ac_205 6 [a0, a1] (v :: st) h1 Q := At_gcall rfl
theorem r205_6 : At call ac_205 6 [a0, a1] (vI x :: st) h Q ↔ if x = 0 then At call ac_205 23 [a0, a1] st h Q else At call ac_205 9 [a0, a1] st h Q := At_br rfl
theorem r205_9 : At call ac_205 9 [a0, vI x] st h Q ↔ At call ac_205 10 [a0, vI x] (vI x :: st) h Q := At_next rfl
theorem r205_10 : At call ac_205 10 [a0, a1] st h Q ↔ At call ac_205 11 [a0, a1] (vI 0 :: st) h Q := At_next rfl
theorem r205_11 : At call ac_205 11 [a0, a1] st h Q ↔ At call ac_205 13 [a0, a1] (vI 48 :: st) h Q := At_next rfl
theorem r205_13 : At call ac_205 13 [a0, a1] (b2 :: b1 :: b0 :: st) h Q ↔ st.length ≤ 4 ∧ ∃ v h1, call 144 [b0, b1, b2] h (some v) h1 ∧ At call ac_205 16 [a0, a1] (v :: st) h1 Q := At_gcall rfl
theorem r205_16 : At call ac_205 16 [a0, a1] (vI x :: st) h Q ↔ if x = 0 then At call ac_205 23 [a0, a1] st h Q else At call ac_205 19 [a0, a1] st h Q := At_br rfl
theorem r205_19 : At call ac_205 19 [a0, a1] st h Q ↔ At call ac_205 20 [a0, a1] (vI 1 :: st) h Q := At_next rfl
theorem r205_20 : At call ac_205 20 [a0, a1] st h Q ↔ At call ac_205 24 [a0, a1] st h Q := At_next rfl
theorem r205_23 : At call ac_205 23 [a0, a1] st h Q ↔ At call ac_205 24 [a0, a1] (vI 0 :: st) h Q := At_next rfl
theorem r205_24 : At call ac_205 24 [a0, a1] [vI x] h Q ↔ (x = 0 ∨ x = 1) ∧ Q (some (vI x)) h := At_guardR rfl
theorem r206_0 : At call ac_206 0 [a0, a1, a2, vI x, a4] st h Q ↔ At call ac_206 1 [a0, a1, a2, vI x, a4] (vI x :: st) h Q := At_next rfl
theorem r206_1 : At call ac_206 1 [a0, a1, a2, a3, a4] st h Q ↔ At call ac_206 2 [a0, a1, a2, a3, a4] (vI 0 :: st) h Q := At_next rfl
theorem r206_2 : At call ac_206 2 [a0, a1, a2, a3, a4] st h Q ↔ At call ac_206 3 [a0, a1, a2, a3, a4] (vI 2 :: st) h Q := At_next rfl
theorem r206_3 : At call ac_206 3 [a0, a1, a2, a3, a4] (b2 :: b1 :: b0 :: st) h Q ↔ st.length ≤ 4 ∧ ∃ v h1, call 144 [b0, b1, b2] h (some v) h1 ∧ At call ac_206 6 [a0, a1, a2, a3, a4] (v :: st) h1 Q := At_gcall rfl
theorem r206_6 : At call ac_206 6 [a0, a1, a2, a3, a4] (vI x :: st) h Q ↔ if x = 0 then At call ac_206 9 [a0, a1, a2, a3, a4] st h Q else At call ac_206 16 [a0, a1, a2, a3, a4] st h Q := At_br rfl
theorem r206_9 : At call ac_206 9 [vR g m, a1, a2, a3, a4] st h Q ↔ At call ac_206 10 [vR g m, a1, a2, a3, a4] (vR g m :: st) h Q := At_next rfl
theorem r206_10 : At call ac_206 10 [a0, a1, a2, a3, a4] st h Q ↔ At call ac_206 12 [a0, a1, a2, a3, a4] (vI (-5) :: st) h Q := At_next rfl
theorem r206_12 : At call ac_206 12 [a0, a1, a2, a3, a4] (b1 :: b0 :: st) h Q ↔ st.length ≤ 4 ∧ ∃ v h1, call 142 [b0, b1] h (some v) h1 ∧ At call ac_206 15 [a0, a1, a2, a3, a4] (v :: st) h1 Q := At_gcall rfl
theorem r206_15 : At call ac_206 15 [a0, a1, a2, a3, a4] [vI x] h Q ↔ Q (some (vI x)) h := At_ret rfl
theorem r206_16 : At call ac_206 16 [a0, vI x, a2, a3, a4] st h Q ↔ At call ac_206 17 [a0, vI x, a2, a3, a4] (vI x :: st) h Q := At_next rfl
theorem r206_17 : At call ac_206 17 [a0, a1, vI x, a3, a4] st h Q ↔ At call ac_206 18 [a0, a1, vI x, a3, a4] (vI x :: st) h Q := At_next rfl
theorem r206_18 : At call ac_206 18 [a0, a1, a2, a3, a4] (b1 :: b0 :: st) h Q ↔ st.length ≤ 4 ∧ ∃ v h1, call 205 [b0, b1] h (some v) h1 ∧ At call ac_206 21 [a0, a1, a2, a3, a4] (v :: st) h1 Q := At_gcall rfl
theorem r206_21 : At call ac_206 21 [a0, a1, a2, a3, a4] (vI x :: st) h Q ↔ if x = 0 then At call ac_206 24 [a0, a1, a2, a3, a4] st h Q else At call ac_206 31 [a0, a1, a2, a3, a4] st h Q := At_br rfl
theorem r206_24 : At call ac_206 24 [vR g m, a1, a2, a3, a4] st h Q ↔ At call ac_206 25 [vR g m, a1, a2, a3, a4] (vR g m :: st) h Q := At_next rfl
theorem r206_25 : At call ac_206 25 [a0, a1, a2, a3, a4] st h Q ↔ At call ac_206 27 [a0, a1, a2, a3, a4] (vI (-6) :: st) h Q := At_next rfl
theorem r206_27 : At call ac_206 27 [a0, a1, a2, a3, a4] (b1 :: b0 :: st) h Q ↔ st.length ≤ 4 ∧ ∃ v h1, call 142 [b0, b1] h (some v) h1 ∧ At call ac_206 30 [a0, a1, a2, a3, a4] (v :: st) h1 Q := At_gcall rfl
theorem r206_30 : At call ac_206 30 [a0, a1, a2, a3, a4] [vI x] h Q ↔ Q (some (vI x)) h := At_ret rfl
theorem r206_31 : At call ac_206 31 [vR g m, a1, a2, a3, a4] st h Q ↔ At call ac_206 32 [vR g m, a1, a2, a3, a4] (vR g m :: st) h Q := At_next rfl
theorem r206_32 : At call ac_206 32 [vR g m, a1, a2, a3, a4] st h Q ↔ At call ac_206 33 [vR g m, a1, a2, a3, a4] (vR g m :: st) h Q := At_next rfl
theorem r206_33 : At call ac_206 33 [a0, a1, a2, a3, a4] (vR g 27 :: st) h Q ↔ At call ac_206 36 [a0, a1, a2, a3, a4] (vR g 35 :: st) h Q := At_next rfl
theorem r206_36 : At call ac_206 36 [a0, a1, a2, a3, a4] (b1 :: b0 :: st) h Q ↔ st.length ≤ 4 ∧ ∃ h1, call 231 [b0, b1] h none h1 ∧ At call ac_206 39 [a0, a1, a2, a3, a4] st h1 Q := At_gcallv rfl
theorem r206_39 : At call ac_206 39 [vR g m, a1, a2, a3, a4] st h Q ↔ At call ac_206 40 [vR g m, a1, a2, a3, a4] (vR g m :: st) h Q := At_next rfl
theorem r206_40 : At call ac_206 40 [a0, vI x, a2, a3, a4] st h Q ↔ At call ac_206 41 [a0, vI x, a2, a3, a4] (vI x :: st) h Q := At_next rfl
theorem r206_41 : At call ac_206 41 [a0, a1, vI x, a3, a4] st h Q ↔ At call ac_206 42 [a0, a1, vI x, a3, a4] (vI x :: st) h Q := At_next rfl
theorem r206_42 : At call ac_206 42 [a0, a1, a2, a3, a4] (b2 :: b1 :: b0 :: st) h Q ↔ st.length ≤ 4 ∧ ∃ h1, call 204 [b0, b1, b2] h none h1 ∧ At call ac_206 45 [a0, a1, a2, a3, a4] st h1 Q := At_gcallv rfl
theorem r206_45 : At call ac_206 45 [a0, a1, a2, vI x, a4] st h Q ↔ At call ac_206 46 [a0, a1, a2, vI x, a4] (vI x :: st) h Q := At_next rfl
theorem r206_46 : At call ac_206 46 [a0, a1, a2, a3, a4] (vI x :: st) h Q ↔ if x = 0 then At call ac_206 49 [a0, a1, a2, a3, a4] st h Q else At call ac_206 56 [a0, a1, a2, a3, a4] st h Q := At_br rfl
theorem r206_49 : At call ac_206 49 [vR g m, a1, a2, a3, a4] st h Q ↔ At call ac_206 50 [vR g m, a1, a2, a3, a4] (vR g m :: st) h Q := At_next rfl
theorem r206_50 : At call ac_206 50 [a0, a1, a2, a3, a4] (vR g 27 :: st) h Q ↔ At call ac_206 53 [a0, a1, a2, a3, a4] (vI (h g 27 10) :: st) h Q := At_next rfl
theorem r206_53 : At call ac_206 53 [a0, a1, a2, a3, a4] st h Q ↔ At call ac_206 72 [a0, a1, a2, a3, a4] st h Q := At_next rfl
theorem r206_56 : At call ac_206 56 [a0, a1, a2, vI x, a4] st h Q ↔ At call ac_206 57 [a0, a1, a2, vI x, a4] (vI x :: st) h Q := At_next rfl
theorem r206_57 : At call ac_206 57 [a0, a1, a2, a3, a4] st h Q ↔ At call ac_206 58 [a0, a1, a2, a3, a4] (vI 1 :: st) h Q := At_next rfl
theorem r206_58 : At call ac_206 58 [a0, a1, a2, a3, a4] (vI y :: vI x :: st) h Q ↔ if x = y then At call ac_206 61 [a0, a1, a2, a3, a4] st h Q else At call ac_206 68 [a0, a1, a2, a3, a4] st h Q := At_br rfl
theorem r206_61 : At call ac_206 61 [vR g m, a1, a2, a3, a4] st h Q ↔ At call ac_206 62 [vR g m, a1, a2, a3, a4] (vR g m :: st) h Q := At_next rfl
theorem r206_62 : At call ac_206 62 [a0, a1, a2, a3, a4] (b0 :: st) h Q ↔ st.length ≤ 4 ∧ ∃ v h1, call 184 [b0] h (some v) h1 ∧ At call ac_206 65 [a0, a1, a2, a3, a4] (v :: st) h1 Q := At_gcall rfl
theorem r206_65 : At call ac_206 65 [a0, a1, a2, a3, a4] st h Q ↔ At call ac_206 72 [a0, a1, a2, a3, a4] st h Q := At_next rfl
theorem r206_68 : At call ac_206 68 [vR g m, a1, a2, a3, a4] st h Q ↔ At call ac_206 69 [vR g m, a1, a2, a3, a4] (vR g m :: st) h Q := At_next rfl
theorem r206_69 : At call ac_206 69 [a0, a1, a2, a3, a4] (vR g 27 :: st) h Q ↔ At call ac_206 72 [a0, a1, a2, a3, a4] (vI (h g 27 9) :: st) h Q := At_next rfl
theorem r206_72 : At call ac_206 72 [a0, a1, a2, a3, a4] (vI x :: st) h Q ↔ At call ac_206 74 [a0, a1, a2, a3, vI x] st h Q := At_next rfl
theorem r206_74 : At call ac_206 74 [vR g m, a1, a2, a3, a4] st h Q ↔ At call ac_206 75 [vR g m, a1, a2, a3, a4] (vR g m :: st) h Q := At_next rfl
theorem r206_75 : At call ac_206 75 [vR g m, a1, a2, a3, a4] st h Q ↔ At call ac_206 76 [vR g m, a1, a2, a3, a4] (vR g m :: st) h Q := At_next rfl
theorem r206_76 : At call ac_206 76 [a0, a1, a2, a3, a4] (vR g 27 :: st) h Q ↔ At call ac_206 79 [a0, a1, a2, a3, a4] (vR g 35 :: st) h Q := At_next rfl
theorem r206_79 : At call ac_206 79 [a0, a1, a2, a3, a4] (b1 :: b0 :: st) h Q ↔ st.length ≤ 4 ∧ ∃ h1, call 232 [b0, b1] h none h1 ∧ At call ac_206 82 [a0, a1, a2, a3, a4] st h1 Q := At_gcallv rfl
theorem r206_82 : At call ac_206 82 [a0, a1, a2, a3, vI x] st h Q ↔ At call ac_206 84 [a0, a1, a2, a3, vI x] (vI x :: st) h Q := At_next rfl
theorem r206_84 : At call ac_206 84 [a0, a1, a2, a3, a4] [vI x] h Q ↔ Q (some (vI x)) h := At_ret rfl
theorem r207_0 : At call ac_207 0 [vR g m, a1, a2, a3] st h Q ↔ At call ac_207 1 [vR g m, a1, a2, a3] (vR g m :: st) h Q := At_next rfl
theorem r207_1 : At call ac_207 1 [vR g m, a1, a2, a3] st h Q ↔ At call ac_207 2 [vR g m, a1, a2, a3] (vR g m :: st) h Q := At_next rfl
theorem r207_2 : At call ac_207 2 [a0, a1, a2, a3] (vR g 27 :: st) h Q ↔ At call ac_207 5 [a0, a1, a2, a3] (vR g 35 :: st) h Q := At_next rfl
theorem r207_5 : At call ac_207 5 [a0, a1, a2, a3] (b1 :: b0 :: st) h Q ↔ st.length ≤ 4 ∧ ∃ h1, call 231 [b0, b1] h none h1 ∧ At call ac_207 8 [a0, a1, a2, a3] st h1 Q := At_gcallv rfl
theorem r207_8 : At call ac_207 8 [vR g m, a1, a2, a3] st h Q ↔ At call ac_207 9 [vR g m, a1, a2, a3] (vR g m :: st) h Q := At_next rfl
theorem r207_9 : At call ac_207 9 [a0, vI x, a2, a3] st h Q ↔ At call ac_207 10 [a0, vI x, a2, a3] (vI x :: st) h Q := At_next rfl
theorem r207_10 : At call ac_207 10 [a0, a1, vI x, a3] st h Q ↔ At call ac_207 11 [a0, a1, vI x, a3] (vI x :: st) h Q := At_next rfl
theorem r207_11 : At call ac_207 11 [a0, a1, a2, a3] (b2 :: b1 :: b0 :: st) h Q ↔ st.length ≤ 4 ∧ ∃ h1, call 204 [b0, b1, b2] h none h1 ∧ At call ac_207 14 [a0, a1, a2, a3] st h1 Q := At_gcallv rfl
theorem r207_14 : At call ac_207 14 [vR g m, a1, a2, a3] st h Q ↔ At call ac_207 15 [vR g m, a1, a2, a3] (vR g m :: st) h Q := At_next rfl
theorem r207_15 : At call ac_207 15 [a0, a1, a2, a3] (vR g 27 :: st) h Q ↔ At call ac_207 18 [a0, a1, a2, a3] (vI (h g 27 10) :: st) h Q := At_next rfl
theorem r207_18 : At call ac_207 18 [a0, a1, a2, a3] (vI x :: st) h Q ↔ At call ac_207 19 [a0, a1, a2, vI x] st h Q := At_next rfl
theorem r207_19 : At call ac_207 19 [vR g m, a1, a2, a3] st h Q ↔ At call ac_207 20 [vR g m, a1, a2, a3] (vR g m :: st) h Q := At_next rfl
theorem r207_20 : At call ac_207 20 [vR g m, a1, a2, a3] st h Q ↔ At call ac_207 21 [vR g m, a1, a2, a3] (vR g m :: st) h Q := At_next rfl
theorem r207_21 : At call ac_207 21 [a0, a1, a2, a3] (vR g 27 :: st) h Q ↔ At call ac_207 24 [a0, a1, a2, a3] (vR g 35 :: st) h Q := At_next rfl
theorem r207_24 : At call ac_207 24 [a0, a1, a2, a3] (b1 :: b0 :: st) h Q ↔ st.length ≤ 4 ∧ ∃ h1, call 232 [b0, b1] h none h1 ∧ At call ac_207 27 [a0, a1, a2, a3] st h1 Q := At_gcallv rfl
theorem r207_27 : At call ac_207 27 [a0, a1, a2, vI x] st h Q ↔ At call ac_207 28 [a0, a1, a2, vI x] (vI x :: st) h Q := At_next rfl
theorem r207_28 : At call ac_207 28 [a0, a1, a2, a3] [vI x] h Q ↔ Q (some (vI x)) h := At_ret rfl
theorem r208_0 : At call ac_208 0 [a0, a1, a2, a3] st h Q ↔ At call ac_208 1 [a0, a1, a2, a3] (vI 0 :: st) h Q := At_next rfl
theorem r208_1 : At call ac_208 1 [a0, vI x, a2, a3] st h Q ↔ At call ac_208 2 [a0, vI x, a2, a3] (vI x :: st) h Q := At_next rfl
theorem r208_2 : At call ac_208 2 [a0, a1, a2, a3] (b1 :: b0 :: st) h Q ↔ st.length ≤ 4 ∧ ∃ v h1, call 205 [b0, b1] h (some v) h1 ∧ At call ac_208 5 [a0, a1, a2, a3] (v :: st) h1 Q := At_gcall rfl
theorem r208_5 : At call ac_208 5 [a0, a1, a2, a3] (vI x :: st) h Q ↔ if x = 0 then At call ac_208 8 [a0, a1, a2, a3] st h Q else At call ac_208 15 [a0, a1, a2, a3] st h Q := At_br rfl
theorem r208_8 : At call ac_208 8 [vR g m, a1, a2, a3] st h Q ↔ At call ac_208 9 [vR g m, a1, a2, a3] (vR g m :: st) h Q := At_next rfl
theorem r208_9 : At call ac_208 9 [a0, a1, a2, a3] st h Q ↔ At call ac_208 11 [a0, a1, a2, a3] (vI (-6) :: st) h Q := At_next rfl
theorem r208_11 : At call ac_208 11 [a0, a1, a2, a3] (b1 :: b0 :: st) h Q ↔ st.length ≤ 4 ∧ ∃ v h1, call 142 [b0, b1] h (some v) h1 ∧ At call ac_208 14 [a0, a1, a2, a3] (v :: st) h1 Q := At_gcall rfl
theorem r208_14 : At call ac_208 14 [a0, a1, a2, a3] [vI x] h Q ↔ Q (some (vI x)) h := At_ret rfl
theorem r208_15 : At call ac_208 15 [a0, a1, a2, a3] st h Q ↔ At call ac_208 16 [a0, a1, a2, a3] (vI 0 :: st) h Q := At_next rfl
theorem r208_16 : At call ac_208 16 [a0, a1, a2, a3] (vI x :: st) h Q ↔ At call ac_208 17 [a0, a1, vI x, a3] st h Q := At_next rfl
theorem r208_17 : At call ac_208 17 [a0, a1, a2, a3] st h Q ↔ At call ac_208 18 [a0, a1, a2, a3] (vI 1 :: st) h Q := At_next rfl
theorem r208_18 : At call ac_208 18 [a0, a1, a2, a3] (vI x :: st) h Q ↔ At call ac_208 19 [a0, a1, a2, vI x] st h Q := At_next rfl
theorem r208_19 : At call ac_208 19 [a0, a1, a2, vI x] st h Q ↔ At call ac_208 20 [a0, a1, a2, vI x] (vI x :: st) h Q := At_next rfl
theorem r208_20 : At call ac_208 20 [a0, a1, a2, a3] st h Q ↔ At call ac_208 21 [a0, a1, a2, a3] (vI 4 :: st) h Q := At_next rfl
theorem r208_21 : At call ac_208 21 [a0, a1, a2, a3] (vI y :: vI x :: st) h Q ↔ if x < y then At call ac_208 24 [a0, a1, a2, a3] st h Q else At call ac_208 47 [a0, a1, a2, a3] st h Q := At_br rfl
theorem r208_24 : At call ac_208 24 [vR g m, a1, a2, a3] st h Q ↔ At call ac_208 25 [vR g m, a1, a2, a3] (vR g m :: st) h Q := At_next rfl
theorem r208_25 : At call ac_208 25 [a0, a1, a2, vI x] st h Q ↔ At call ac_208 26 [a0, a1, a2, vI x] (vI x :: st) h Q := At_next rfl
theorem r208_26 : At call ac_208 26 [a0, vI x, a2, a3] st h Q ↔ At call ac_208 27 [a0, vI x, a2, a3] (vI x :: st) h Q := At_next rfl
theorem r208_27 : At call ac_208 27 [a0, a1, a2, a3] (b2 :: b1 :: b0 :: st) h Q ↔ st.length ≤ 4 ∧ ∃ v h1, call 207 [b0, b1, b2] h (some v) h1 ∧ At call ac_208 30 [a0, a1, a2, a3] (v :: st) h1 Q := At_gcall rfl
theorem r208_30 : At call ac_208 30 [vR g m, a1, a2, a3] st h Q ↔ At call ac_208 31 [vR g m, a1, a2, a3] (vR g m :: st) h Q := At_next rfl
theorem r208_31 : At call ac_208 31 [a0, a1, vI x, a3] st h Q ↔ At call ac_208 32 [a0, a1, vI x, a3] (vI x :: st) h Q := At_next rfl
theorem r208_32 : At call ac_208 32 [a0, vI x, a2, a3] st h Q ↔ At call ac_208 33 [a0, vI x, a2, a3] (vI x :: st) h Q := At_next rfl
theorem r208_33 : At call ac_208 33 [a0, a1, a2, a3] (b2 :: b1 :: b0 :: st) h Q ↔ st.length ≤ 4 ∧ ∃ v h1, call 207 [b0, b1, b2] h (some v) h1 ∧ At call ac_208 36 [a0, a1, a2, a3] (v :: st) h1 Q := At_gcall rfl
theorem r208_36 : At call ac_208 36 [a0, a1, a2, a3] (vI y :: vI x :: st) h Q ↔ if y < x then At call ac_208 39 [a0, a1, a2, a3] st h Q else At call ac_208 41 [a0, a1, a2, a3] st h Q := At_br rfl
theorem r208_39 : At call ac_208 39 [a0, a1, a2, vI x] st h Q ↔ At call ac_208 40 [a0, a1, a2, vI x] (vI x :: st) h Q := At_next rfl
theorem r208_40 : At call ac_208 40 [a0, a1, a2, a3] (vI x :: st) h Q ↔ At call ac_208 41 [a0, a1, vI x, a3] st h Q := At_next rfl
theorem r208_41 : At call ac_208 41 [a0, a1, a2, vI x] st h Q ↔ At call ac_208 44 [a0, a1, a2, vI (wr (x + 1))] st h Q := At_next rfl
theorem r208_44 : At call ac_208 44 [a0, a1, a2, a3] st h Q ↔ At call ac_208 19 [a0, a1, a2, a3] st h Q := At_next rfl
theorem r208_47 : At call ac_208 47 [a0, a1, vI x, a3] st h Q ↔ At call ac_208 48 [a0, a1, vI x, a3] (vI x :: st) h Q := At_next rfl
theorem r208_48 : At call ac_208 48 [a0, a1, a2, a3] [vI x] h Q ↔ Q (some (vI x)) h := At_ret rfl
theorem r209_0 : At call ac_209 0 [a0, vI x, a2, a3, a4, a5] st h Q ↔ At call ac_209 1 [a0, vI x, a2, a3, a4, a5] (vI x :: st) h Q := At_next rfl
theorem r209_1 : At call ac_209 1 [a0, a1, vI x, a3, a4, a5] st h Q ↔ At call ac_209 2 [a0, a1, vI x, a3, a4, a5] (vI x :: st) h Q := At_next rfl
theorem r209_2 : At call ac_209 2 [a0, a1, a2, a3, a4, a5] (b1 :: b0 :: st) h Q ↔ st.length ≤ 4 ∧ ∃ v h1, call 205 [b0, b1] h (some v) h1 ∧ At call ac_209 5 [a0, a1, a2, a3, a4, a5] (v :: st) h1 Q := At_gcall rfl
theorem r209_5 : At call ac_209 5 [a0, a1, a2, a3, a4, a5] (vI x :: st) h Q ↔ if x = 0 then At call ac_209 18 [a0, a1, a2, a3, a4, a5] st h Q else At call ac_209 8 [a0, a1, a2, a3, a4, a5] st h Q := At_br rfl
theorem r209_8 : At call ac_209 8 [a0, a1, a2, vI x, a4, a5] st h Q ↔ At call ac_209 9 [a0, a1, a2, vI x, a4, a5] (vI x :: st) h Q := At_next rfl
theorem r209_9 : At call ac_209 9 [a0, a1, a2, a3, a4, a5] st h Q ↔ At call ac_209 10 [a0, a1, a2, a3, a4, a5] (vI 0 :: st) h Q := At_next rfl
theorem r209_10 : At call ac_209 10 [a0, a1, a2, a3, a4, a5] st h Q ↔ At call ac_209 12 [a0, a1, a2, a3, a4, a5] (vI 99999 :: st) h Q := At_next rfl
theorem r209_12 : At call ac_209 12 [a0, a1, a2, a3, a4, a5] (b2 :: b1 :: b0 :: st) h Q ↔ st.length ≤ 4 ∧ ∃ v h1, call 144 [b0, b1, b2] h (some v) h1 ∧ At call ac_209 15 [a0, a1, a2, a3, a4, a5] (v :: st) h1 Q := At_gcall rfl
theorem r209_15 : At call ac_209 15 [a0, a1, a2, a3, a4, a5] (vI x :: st) h Q ↔ if x = 0 then At call ac_209 18 [a0, a1, a2, a3, a4, a5] st h Q else At call ac_209 25 [a0, a1, a2, a3, a4, a5] st h Q := At_br rfl
theorem r209_18 : At call ac_209 18 [vR g m, a1, a2, a3, a4, a5] st h Q ↔ At call ac_209 19 [vR g m, a1, a2, a3, a4, a5] (vR g m :: st) h Q := At_next rfl
theorem r209_19 : At call ac_209 19 [a0, a1, a2, a3, a4, a5] st h Q ↔ At call ac_209 21 [a0, a1, a2, a3, a4, a5] (vI (-6) :: st) h Q := At_next rfl
theorem r209_21 : At call ac_209 21 [a0, a1, a2, a3, a4, a5] (b1 :: b0 :: st) h Q ↔ st.length ≤ 4 ∧ ∃ v h1, call 143 [b0, b1] h (some v) h1 ∧ At call ac_209 24 [a0, a1, a2, a3, a4, a5] (v :: st) h1 Q := At_gcall rfl
theorem r209_24 : At call ac_209 24 [a0, a1, a2, a3, a4, a5] [vI x] h Q ↔ Q (some (vI x)) h := At_ret rfl
theorem r209_25 : At call ac_209 25 [vR g m, a1, a2, a3, a4, a5] st h Q ↔ At call ac_209 26 [vR g m, a1, a2, a3, a4, a5] (vR g m :: st) h Q := At_next rfl
theorem r209_26 : At call ac_209 26 [a0, a1, a2, a3, a4, a5] (vR g 27 :: st) h Q ↔ At call ac_209 29 [a0, a1, a2, a3, a4, a5] (vI (h g 27 15) :: st) h Q := At_next rfl
theorem r209_29 : At call ac_209 29 [a0, a1, a2, a3, a4, a5] (vI x :: st) h Q ↔ At call ac_209 31 [a0, a1, a2, a3, vI x, a5] st h Q := At_next rfl
theorem r209_31 : At call ac_209 31 [a0, a1, a2, a3, a4, a5] st h Q ↔ At call ac_209 32 [a0, a1, a2, a3, a4, a5] (vI (-1) :: st) h Q := At_next rfl
theorem r209_32 : At call ac_209 32 [a0, a1, a2, a3, a4, a5] (vI x :: st) h Q ↔ At call ac_209 34 [a0, a1, a2, a3, a4, vI x] st h Q := At_next rfl
theorem r209_34 : At call ac_209 34 [vR g m, a1, a2, a3, a4, a5] st h Q ↔ At call ac_209 35 [vR g m, a1, a2, a3, a4, a5] (vR g m :: st) h Q := At_next rfl
theorem r209_35 : At call ac_209 35 [a0, a1, a2, a3, a4, a5] st h Q ↔ At call ac_209 37 [a0, a1, a2, a3, a4, a5] (vI 23 :: st) h Q := At_next rfl
theorem r209_37 : At call ac_209 37 [a0, a1, a2, a3, a4, a5] (vI x :: vR g 27 :: st) h Q ↔ At call ac_209 40 [a0, a1, a2, a3, a4, a5] st (up3 h g 27 15 x) Q := At_next rfl
theorem r209_40 : At call ac_209 40 [vR g m, a1, a2, a3, a4, a5] st h Q ↔ At call ac_209 41 [vR g m, a1, a2, a3, a4, a5] (vR g m :: st) h Q := At_next rfl
theorem r209_41 : At call ac_209 41 [a0, a1, a2, a3, a4, a5] (vR g 27 :: st) h Q ↔ At call ac_209 44 [a0, a1, a2, a3, a4, a5] (vI (h g 27 15) :: st) h Q := At_next rfl
theorem r209_44 : At call ac_209 44 [a0, a1, a2, a3, a4, a5] (vI x :: st) h Q ↔ if x < 0 then At call ac_209 76 [a0, a1, a2, a3, a4, a5] st h Q else At call ac_209 47 [a0, a1, a2, a3, a4, a5] st h Q := At_br rfl
theorem r209_47 : At call ac_209 47 [vR g m, a1, a2, a3, a4, a5] st h Q ↔ At call ac_209 48 [vR g m, a1, a2, a3, a4, a5] (vR g m :: st) h Q := At_next rfl
theorem r209_48 : At call ac_209 48 [a0, vI x, a2, a3, a4, a5] st h Q ↔ At call ac_209 49 [a0, vI x, a2, a3, a4, a5] (vI x :: st) h Q := At_next rfl
theorem r209_49 : At call ac_209 49 [a0, a1, vI x, a3, a4, a5] st h Q ↔ At call ac_209 50 [a0, a1, vI x, a3, a4, a5] (vI x :: st) h Q := At_next rfl
theorem r209_50 : At call ac_209 50 [a0, a1, a2, a3, a4, a5] (b2 :: b1 :: b0 :: st) h Q ↔ st.length ≤ 4 ∧ ∃ v h1, call 207 [b0, b1, b2] h (some v) h1 ∧ At call ac_209 53 [a0, a1, a2, a3, a4, a5] (v :: st) h1 Q := At_gcall rfl
theorem r209_53 : At call ac_209 53 [a0, a1, a2, vI x, a4, a5] st h Q ↔ At call ac_209 54 [a0, a1, a2, vI x, a4, a5] (vI x :: st) h Q := At_next rfl
theorem r209_54 : At call ac_209 54 [a0, a1, a2, a3, a4, a5] (vI y :: vI x :: st) h Q ↔ if x < y then At call ac_209 63 [a0, a1, a2, a3, a4, a5] st h Q else At call ac_209 57 [a0, a1, a2, a3, a4, a5] st h Q := At_br rfl
theorem r209_57 : At call ac_209 57 [vR g m, a1, a2, a3, a4, a5] st h Q ↔ At call ac_209 58 [vR g m, a1, a2, a3, a4, a5] (vR g m :: st) h Q := At_next rfl
theorem r209_58 : At call ac_209 58 [a0, a1, a2, a3, a4, a5] (vR g 27 :: st) h Q ↔ At call ac_209 61 [a0, a1, a2, a3, a4, a5] (vI (h g 27 15) :: st) h Q := At_next rfl
theorem r209_61 : At call ac_209 61 [a0, a1, a2, a3, a4, a5] (vI x :: st) h Q ↔ At call ac_209 63 [a0, a1, a2, a3, a4, vI x] st h Q := At_next rfl
theorem r209_63 : At call ac_209 63 [vR g m, a1, a2, a3, a4, a5] st h Q ↔ At call ac_209 64 [vR g m, a1, a2, a3, a4, a5] (vR g m :: st) h Q := At_next rfl
theorem r209_64 : At call ac_209 64 [a0, a1, a2, a3, a4, a5] (vI x :: st) h Q ↔ At call ac_209 65 [a0, a1, a2, a3, a4, a5] (vI x :: vI x :: st) h Q := At_next rfl
theorem r209_64r : At call ac_209 64 [a0, a1, a2, a3, a4, a5] (.inr (.inr v) :: st) h Q ↔ At call ac_209 65 [a0, a1, a2, a3, a4, a5] (.inr (.inr v) :: .inr (.inr v) :: st) h Q := At_next rfl
theorem r209_65 : At call ac_209 65 [a0, a1, a2, a3, a4, a5] (vR g 27 :: st) h Q ↔ At call ac_209 68 [a0, a1, a2, a3, a4, a5] (vI (h g 27 15) :: st) h Q := At_next rfl
theorem r209_68 : At call ac_209 68 [a0, a1, a2, a3, a4, a5] st h Q ↔ At call ac_209 69 [a0, a1, a2, a3, a4, a5] (vI 1 :: st) h Q := At_next rfl
theorem r209_69 : At call ac_209 69 [a0, a1, a2, a3, a4, a5] (vI y :: vI x :: st) h Q ↔ At call ac_209 70 [a0, a1, a2, a3, a4, a5] (vI (wr (x - y)) :: st) h Q := At_next rfl
theorem r209_70 : At call ac_209 70 [a0, a1, a2, a3, a4, a5] (vI x :: vR g 27 :: st) h Q ↔ At call ac_209 73 [a0, a1, a2, a3, a4, a5] st (up3 h g 27 15 x) Q := At_next rfl
theorem r209_73 : At call ac_209 73 [a0, a1, a2, a3, a4, a5] st h Q ↔ At call ac_209 40 [a0, a1, a2, a3, a4, a5] st h Q := At_next rfl
theorem r209_76 : At call ac_209 76 [vR g m, a1, a2, a3, a4, a5] st h Q ↔ At call ac_209 77 [vR g m, a1, a2, a3, a4, a5] (vR g m :: st) h Q := At_next rfl
theorem r209_77 : At call ac_209 77 [a0, a1, a2, a3, vI x, a5] st h Q ↔ At call ac_209 79 [a0, a1, a2, a3, vI x, a5] (vI x :: st) h Q := At_next rfl
theorem r209_79 : At call ac_209 79 [a0, a1, a2, a3, a4, a5] (vI x :: vR g 27 :: st) h Q ↔ At call ac_209 82 [a0, a1, a2, a3, a4, a5] st (up3 h g 27 15 x) Q := At_next rfl
theorem r209_82 : At call ac_209 82 [a0, a1, a2, a3, a4, vI x] st h Q ↔ At call ac_209 84 [a0, a1, a2, a3, a4, vI x] (vI x :: st) h Q := At_next rfl
theorem r209_84 : At call ac_209 84 [a0, a1, a2, a3, a4, a5] [vI x] h Q ↔ Q (some (vI x)) h := At_ret rfl
theorem r210_0 : At call ac_210 0 [a0, a1, a2, a3, a4] st h Q ↔ At call ac_210 1 [a0, a1, a2, a3, a4] (vI 0 :: st) h Q := At_next rfl
theorem r210_1 : At call ac_210 1 [a0, vI x, a2, a3, a4] st h Q ↔ At call ac_210 2 [a0, vI x, a2, a3, a4] (vI x :: st) h Q := At_next rfl
theorem r210_2 : At call ac_210 2 [a0, a1, a2, a3, a4] (b1 :: b0 :: st) h Q ↔ st.length ≤ 4 ∧ ∃ v h1, call 205 [b0, b1] h (some v) h1 ∧ At call ac_210 5 [a0, a1, a2, a3, a4] (v :: st) h1 Q := At_gcall rfl
theorem r210_5 : At call ac_210 5 [a0, a1, a2, a3, a4] (vI x :: st) h Q ↔ if x = 0 then At call ac_210 8 [a0, a1, a2, a3, a4] st h Q else At call ac_210 15 [a0, a1, a2, a3, a4] st h Q := At_br rfl
theorem r210_8 : At call ac_210 8 [vR g m, a1, a2, a3, a4] st h Q ↔ At call ac_210 9 [vR g m, a1, a2, a3, a4] (vR g m :: st) h Q := At_next rfl
theorem r210_9 : At call ac_210 9 [a0, a1, a2, a3, a4] st h Q ↔ At call ac_210 11 [a0, a1, a2, a3, a4] (vI (-6) :: st) h Q := At_next rfl
theorem r210_11 : At call ac_210 11 [a0, a1, a2, a3, a4] (b1 :: b0 :: st) h Q ↔ st.length ≤ 4 ∧ ∃ v h1, call 143 [b0, b1] h (some v) h1 ∧ At call ac_210 14 [a0, a1, a2, a3, a4] (v :: st) h1 Q := At_gcall rfl
theorem r210_14 : At call ac_210 14 [a0, a1, a2, a3, a4] [vI x] h Q ↔ Q (some (vI x)) h := At_ret rfl
theorem r210_15 : At call ac_210 15 [vR g m, a1, a2, a3, a4] st h Q ↔ At call ac_210 16 [vR g m, a1, a2, a3, a4] (vR g m :: st) h Q := At_next rfl
theorem r210_16 : At call ac_210 16 [a0, a1, a2, a3, a4] (vR g 27 :: st) h Q ↔ At call ac_210 19 [a0, a1, a2, a3, a4] (vR g 26 :: st) h Q := At_next rfl
theorem r210_19 : At call ac_210 19 [a0, a1, a2, a3, a4] st h Q ↔ At call ac_210 20 [a0, a1, a2, a3, a4] (vI 3 :: st) h Q := At_next rfl
theorem r210_20 : At call ac_210 20 [a0, a1, a2, a3, a4] (vI x :: vR g m :: st) h Q ↔ inA h m 0 x ∧ At call ac_210 21 [a0, a1, a2, a3, a4] (vI (h g m x.toNat) :: st) h Q := At_guard rfl
theorem r210_21 : At call ac_210 21 [a0, a1, a2, a3, a4] (vI x :: st) h Q ↔ At call ac_210 22 [a0, a1, vI x, a3, a4] st h Q := At_next rfl
theorem r210_22 : At call ac_210 22 [a0, a1, a2, a3, a4] st h Q ↔ At call ac_210 23 [a0, a1, a2, a3, a4] (vI (-1) :: st) h Q := At_next rfl
theorem r210_23 : At call ac_210 23 [a0, a1, a2, a3, a4] (vI x :: st) h Q ↔ At call ac_210 24 [a0, a1, a2, vI x, a4] st h Q := At_next rfl
theorem r210_24 : At call ac_210 24 [a0, a1, a2, a3, a4] st h Q ↔ At call ac_210 26 [a0, a1, a2, a3, a4] (vI 99 :: st) h Q := At_next rfl
theorem r210_26 : At call ac_210 26 [a0, a1, a2, a3, a4] (vI x :: st) h Q ↔ At call ac_210 28 [a0, a1, a2, a3, vI x] st h Q := At_next rfl
theorem r210_28 : At call ac_210 28 [a0, a1, a2, a3, vI x] st h Q ↔ At call ac_210 30 [a0, a1, a2, a3, vI x] (vI x :: st) h Q := At_next rfl
theorem r210_30 : At call ac_210 30 [a0, a1, a2, a3, a4] (vI x :: st) h Q ↔ if x < 0 then At call ac_210 65 [a0, a1, a2, a3, a4] st h Q else At call ac_210 33 [a0, a1, a2, a3, a4] st h Q := At_br rfl
theorem r210_33 : At call ac_210 33 [vR g m, a1, a2, a3, a4] st h Q ↔ At call ac_210 34 [vR g m, a1, a2, a3, a4] (vR g m :: st) h Q := At_next rfl
theorem r210_34 : At call ac_210 34 [a0, a1, a2, a3, a4] (vR g 27 :: st) h Q ↔ At call ac_210 37 [a0, a1, a2, a3, a4] (vR g 26 :: st) h Q := At_next rfl
theorem r210_37 : At call ac_210 37 [a0, a1, a2, a3, a4] st h Q ↔ At call ac_210 38 [a0, a1, a2, a3, a4] (vI 3 :: st) h Q := At_next rfl
theorem r210_38 : At call ac_210 38 [a0, a1, a2, a3, vI x] st h Q ↔ At call ac_210 40 [a0, a1, a2, a3, vI x] (vI x :: st) h Q := At_next rfl
theorem r210_40 : At call ac_210 40 [a0, a1, a2, a3, a4] (vI y :: vI x :: vR g m :: st) h Q ↔ (inA h m 0 x ∧ m ≠ 37) ∧ At call ac_210 41 [a0, a1, a2, a3, a4] st (up3 h g m x.toNat y) Q := At_guard rfl
theorem r210_41 : At call ac_210 41 [vR g m, a1, a2, a3, a4] st h Q ↔ At call ac_210 42 [vR g m, a1, a2, a3, a4] (vR g m :: st) h Q := At_next rfl
theorem r210_42 : At call ac_210 42 [a0, a1, a2, a3, a4] st h Q ↔ At call ac_210 43 [a0, a1, a2, a3, a4] (vI 1 :: st) h Q := At_next rfl
theorem r210_43 : At call ac_210 43 [a0, vI x, a2, a3, a4] st h Q ↔ At call ac_210 44 [a0, vI x, a2, a3, a4] (vI x :: st) h Q := At_next rfl
theorem r210_44 : At call ac_210 44 [a0, a1, a2, a3, a4] (b2 :: b1 :: b0 :: st) h Q ↔ st.length ≤ 4 ∧ ∃ v h1, call 207 [b0, b1, b2] h (some v) h1 ∧ At call ac_210 47 [a0, a1, a2, a3, a4] (v :: st) h1 Q := At_gcall rfl
theorem r210_47 : At call ac_210 47 [vR g m, a1, a2, a3, a4] st h Q ↔ At call ac_210 48 [vR g m, a1, a2, a3, a4] (vR g m :: st) h Q := At_next rfl
theorem r210_48 : At call ac_210 48 [a0, a1, a2, a3, a4] st h Q ↔ At call ac_210 49 [a0, a1, a2, a3, a4] (vI 0 :: st) h Q := At_next rfl
theorem r210_49 : At call ac_210 49 [a0, vI x, a2, a3, a4] st h Q ↔ At call ac_210 50 [a0, vI x, a2, a3, a4] (vI x :: st) h Q := At_next rfl
theorem r210_50 : At call ac_210 50 [a0, a1, a2, a3, a4] (b2 :: b1 :: b0 :: st) h Q ↔ st.length ≤ 4 ∧ ∃ v h1, call 207 [b0, b1, b2] h (some v) h1 ∧ At call ac_210 53 [a0, a1, a2, a3, a4] (v :: st) h1 Q := At_gcall rfl
theorem r210_53 : At call ac_210 53 [a0, a1, a2, a3, a4] (vI y :: vI x :: st) h Q ↔ if y < x then At call ac_210 56 [a0, a1, a2, a3, a4] st h Q else At call ac_210 59 [a0, a1, a2, a3, a4] st h Q := At_br rfl
theorem r210_56 : At call ac_210 56 [a0, a1, a2, a3, vI x] st h Q ↔ At call ac_210 58 [a0, a1, a2, a3, vI x] (vI x :: st) h Q := At_next rfl
theorem r210_58 : At call ac_210 58 [a0, a1, a2, a3, a4] (vI x :: st) h Q ↔ At call ac_210 59 [a0, a1, a2, vI x, a4] st h Q := At_next rfl
theorem r210_59 : At call ac_210 59 [a0, a1, a2, a3, vI x] st h Q ↔ At call ac_210 62 [a0, a1, a2, a3, vI (wr (x + (-1)))] st h Q := At_next rfl
theorem r210_62 : At call ac_210 62 [a0, a1, a2, a3, a4] st h Q ↔ At call ac_210 28 [a0, a1, a2, a3, a4] st h Q := At_next rfl
theorem r210_65 : At call ac_210 65 [vR g m, a1, a2, a3, a4] st h Q ↔ At call ac_210 66 [vR g m, a1, a2, a3, a4] (vR g m :: st) h Q := At_next rfl
theorem r210_66 : At call ac_210 66 [a0, a1, a2, a3, a4] (vR g 27 :: st) h Q ↔ At call ac_210 69 [a0, a1, a2, a3, a4] (vR g 26 :: st) h Q := At_next rfl
theorem r210_69 : At call ac_210 69 [a0, a1, a2, a3, a4] st h Q ↔ At call ac_210 70 [a0, a1, a2, a3, a4] (vI 3 :: st) h Q := At_next rfl
theorem r210_70 : At call ac_210 70 [a0, a1, vI x, a3, a4] st h Q ↔ At call ac_210 71 [a0, a1, vI x, a3, a4] (vI x :: st) h Q := At_next rfl
theorem r210_71 : At call ac_210 71 [a0, a1, a2, a3, a4] (vI y :: vI x :: vR g m :: st) h Q ↔ (inA h m 0 x ∧ m ≠ 37) ∧ At call ac_210 72 [a0, a1, a2, a3, a4] st (up3 h g m x.toNat y) Q := At_guard rfl
theorem r210_72 : At call ac_210 72 [a0, a1, a2, vI x, a4] st h Q ↔ At call ac_210 73 [a0, a1, a2, vI x, a4] (vI x :: st) h Q := At_next rfl
theorem r210_73 : At call ac_210 73 [a0, a1, a2, a3, a4] [vI x] h Q ↔ Q (some (vI x)) h := At_ret rfl
theorem r211_0 : At call ac_211 0 [vR g m, a1, a2] st h Q ↔ At call ac_211 1 [vR g m, a1, a2] (vR g m :: st) h Q := At_next rfl
theorem r211_1 : At call ac_211 1 [a0, a1, a2] (vR g 27 :: st) h Q ↔ At call ac_211 4 [a0, a1, a2] (vR g 30 :: st) h Q := At_next rfl
theorem r211_4 : At call ac_211 4 [a0, a1, a2] st h Q ↔ At call ac_211 7 [a0, a1, a2] (vI 160 :: st) h Q := At_next rfl
theorem r211_7 : At call ac_211 7 [a0, vI x, a2] st h Q ↔ At call ac_211 8 [a0, vI x, a2] (vI x :: st) h Q := At_next rfl
theorem r211_8 : At call ac_211 8 [a0, a1, a2] (vI y :: vI x :: st) h Q ↔ At call ac_211 9 [a0, a1, a2] (vI (wr (x * y)) :: st) h Q := At_next rfl
theorem r211_9 : At call ac_211 9 [a0, a1, vI x] st h Q ↔ At call ac_211 10 [a0, a1, vI x] (vI x :: st) h Q := At_next rfl
theorem r211_10 : At call ac_211 10 [a0, a1, a2] (vI y :: vI x :: st) h Q ↔ At call ac_211 11 [a0, a1, a2] (vI (wr (x + y)) :: st) h Q := At_next rfl
theorem r211_11 : At call ac_211 11 [a0, a1, a2] (vI x :: vR g m :: st) h Q ↔ inA h m 1 x ∧ At call ac_211 12 [a0, a1, a2] (vJ (h g m x.toNat) :: st) h Q := At_guard rfl
theorem r211_12 : At call ac_211 12 [a0, a1, a2] (vJ x :: st) h Q ↔ At call ac_211 13 [a0, a1, a2] (vI (wr x) :: st) h Q := At_next rfl
theorem r211_13 : At call ac_211 13 [a0, a1, a2] [vI x] h Q ↔ Q (some (vI x)) h := At_ret rfl
theorem r212_0 : At call ac_212 0 [vR g m, a1, a2, a3, a4, a5, a6, a7] st h Q ↔ At call ac_212 1 [vR g m, a1, a2, a3, a4, a5, a6, a7] (vR g m :: st) h Q := At_next rfl
theorem r212_1 : At call ac_212 1 [a0, vI x, a2, a3, a4, a5, a6, a7] st h Q ↔ At call ac_212 2 [a0, vI x, a2, a3, a4, a5, a6, a7] (vI x :: st) h Q := At_next rfl
theorem r212_2 : At call ac_212 2 [a0, a1, a2, a3, a4, a5, a6, a7] (b1 :: b0 :: st) h Q ↔ st.length ≤ 4 ∧ ∃ v h1, call 149 [b0, b1] h (some v) h1 ∧ At call ac_212 5 [a0, a1, a2, a3, a4, a5, a6, a7] (v :: st) h1 Q := At_gcall rfl
theorem r212_5 : At call ac_212 5 [a0, a1, a2, a3, a4, a5, a6, a7] (vI x :: st) h Q ↔ At call ac_212 6 [a0, a1, a2, vI x, a4, a5, a6, a7] st h Q := At_next rfl
theorem r212_6 : At call ac_212 6 [a0, a1, a2, vI x, a4, a5, a6, a7] st h Q ↔ At call ac_212 7 [a0, a1, a2, vI x, a4, a5, a6, a7] (vI x :: st) h Q := At_next rfl
theorem r212_7 : At call ac_212 7 [a0, a1, a2, a3, a4, a5, a6, a7] (vI x :: st) h Q ↔ if x < 0 then At call ac_212 10 [a0, a1, a2, a3, a4, a5, a6, a7] st h Q else At call ac_212 16 [a0, a1, a2, a3, a4, a5, a6, a7] st h Q := At_br rfl
theorem r212_10 : At call ac_212 10 [vR g m, a1, a2, a3, a4, a5, a6, a7] st h Q ↔ At call ac_212 11 [vR g m, a1, a2, a3, a4, a5, a6, a7] (vR g m :: st) h Q := At_next rfl
theorem r212_11 : At call ac_212 11 [a0, a1, a2, vI x, a4, a5, a6, a7] st h Q ↔ At call ac_212 12 [a0, a1, a2, vI x, a4, a5, a6, a7] (vI x :: st) h Q := At_next rfl
theorem r212_12 : At call ac_212 12 [a0, a1, a2, a3, a4, a5, a6, a7] (b1 :: b0 :: st) h Q ↔ st.length ≤ 4 ∧ ∃ v h1, call 142 [b0, b1] h (some v) h1 ∧ At call ac_212 15 [a0, a1, a2, a3, a4, a5, a6, a7] (v :: st) h1 Q := At_gcall rfl
theorem r212_15 : At call ac_212 15 [a0, a1, a2, a3, a4, a5, a6, a7] [vI x] h Q ↔ Q (some (vI x)) h := At_ret rfl
theorem r212_16 : At call ac_212 16 [vR g m, a1, a2, a3, a4, a5, a6, a7] st h Q ↔ At call ac_212 17 [vR g m, a1, a2, a3, a4, a5, a6, a7] (vR g m :: st) h Q := At_next rfl
theorem r212_17 : At call ac_212 17 [a0, a1, a2, a3, a4, a5, a6, a7] (vR g 27 :: st) h Q ↔ At call ac_212 20 [a0, a1, a2, a3, a4, a5, a6, a7] (vR g 29 :: st) h Q := At_next rfl
theorem r212_20 : At call ac_212 20 [a0, vI x, a2, a3, a4, a5, a6, a7] st h Q ↔ At call ac_212 21 [a0, vI x, a2, a3, a4, a5, a6, a7] (vI x :: st) h Q := At_next rfl
theorem r212_21 : At call ac_212 21 [a0, a1, a2, a3, a4, a5, a6, a7] (vI x :: vR g m :: st) h Q ↔ inA h m 0 x ∧ At call ac_212 22 [a0, a1, a2, a3, a4, a5, a6, a7] (vI (h g m x.toNat) :: st) h Q := At_guard rfl
theorem r212_22 : At call ac_212 22 [vR g m, a1, a2, a3, a4, a5, a6, a7] st h Q ↔ At call ac_212 23 [vR g m, a1, a2, a3, a4, a5, a6, a7] (vR g m :: st) h Q := At_next rfl
theorem r212_23 : At call ac_212 23 [a0, a1, a2, a3, a4, a5, a6, a7] (vR g 27 :: st) h Q ↔ At call ac_212 26 [a0, a1, a2, a3, a4, a5, a6, a7] (vI (h g 27 7) :: st) h Q := At_next rfl
theorem r212_26 : At call ac_212 26 [a0, a1, a2, a3, a4, a5, a6, a7] (vI y :: vI x :: st) h Q ↔ if x < y then At call ac_212 29 [a0, a1, a2, a3, a4, a5, a6, a7] st h Q else At call ac_212 36 [a0, a1, a2, a3, a4, a5, a6, a7] st h Q := At_br rfl
theorem r212_29 : At call ac_212 29 [vR g m, a1, a2, a3, a4, a5, a6, a7] st h Q ↔ At call ac_212 30 [vR g m, a1, a2, a3, a4, a5, a6, a7] (vR g m :: st) h Q := At_next rfl
theorem r212_30 : At call ac_212 30 [a0, a1, a2, a3, a4, a5, a6, a7] st h Q ↔ At call ac_212 32 [a0, a1, a2, a3, a4, a5, a6, a7] (vI (-5) :: st) h Q := At_next rfl
theorem r212_32 : At call ac_212 32 [a0, a1, a2, a3, a4, a5, a6, a7] (b1 :: b0 :: st) h Q ↔ st.length ≤ 4 ∧ ∃ v h1, call 142 [b0, b1] h (some v) h1 ∧ At call ac_212 35 [a0, a1, a2, a3, a4, a5, a6, a7] (v :: st) h1 Q := At_gcall rfl
theorem r212_35 : At call ac_212 35 [a0, a1, a2, a3, a4, a5, a6, a7] [vI x] h Q ↔ Q (some (vI x)) h := At_ret rfl
theorem r212_36 : At call ac_212 36 [a0, a1, vI x, a3, a4, a5, a6, a7] st h Q ↔ At call ac_212 37 [a0, a1, vI x, a3, a4, a5, a6, a7] (vI x :: st) h Q := At_next rfl
theorem r212_37 : At call ac_212 37 [a0, a1, a2, a3, a4, a5, a6, a7] st h Q ↔ At call ac_212 38 [a0, a1, a2, a3, a4, a5, a6, a7] (vI 0 :: st) h Q := At_next rfl
theorem r212_38 : At call ac_212 38 [a0, a1, a2, a3, a4, a5, a6, a7] st h Q ↔ At call ac_212 40 [a0, a1, a2, a3, a4, a5, a6, a7] (vI 24 :: st) h Q := At_next rfl
theorem r212_40 : At call ac_212 40 [a0, a1, a2, a3, a4, a5, a6, a7] (b2 :: b1 :: b0 :: st) h Q ↔ st.length ≤ 4 ∧ ∃ v h1, call 144 [b0, b1, b2] h (some v) h1 ∧ At call ac_212 43 [a0, a1, a2, a3, a4, a5, a6, a7] (v :: st) h1 Q := At_gcall rfl
theorem r212_43 : At call ac_212 43 [a0, a1, a2, a3, a4, a5, a6, a7] (vI x :: st) h Q ↔ if x = 0 then At call ac_212 46 [a0, a1, a2, a3, a4, a5, a6, a7] st h Q else At call ac_212 53 [a0, a1, a2, a3, a4, a5, a6, a7] st h Q := At_br rfl
theorem r212_46 : At call ac_212 46 [vR g m, a1, a2, a3, a4, a5, a6, a7] st h Q ↔ At call ac_212 47 [vR g m, a1, a2, a3, a4, a5, a6, a7] (vR g m :: st) h Q := At_next rfl
theorem r212_47 : At call ac_212 47 [a0, a1, a2, a3, a4, a5, a6, a7] st h Q ↔ At call ac_212 49 [a0, a1, a2, a3, a4, a5, a6, a7] (vI (-6) :: st) h Q := At_next rfl
theorem r212_49 : At call ac_212 49 [a0, a1, a2, a3, a4, a5, a6, a7] (b1 :: b0 :: st) h Q ↔ st.length ≤ 4 ∧ ∃ v h1, call 142 [b0, b1] h (some v) h1 ∧ At call ac_212 52 [a0, a1, a2, a3, a4, a5, a6, a7] (v :: st) h1 Q := At_gcall rfl
theorem r212_52 : At call ac_212 52 [a0, a1, a2, a3, a4, a5, a6, a7] [vI x] h Q ↔ Q (some (vI x)) h := At_ret rfl
theorem r212_53 : At call ac_212 53 [a0, a1, a2, a3, a4, a5, a6, a7] st h Q ↔ At call ac_212 54 [a0, a1, a2, a3, a4, a5, a6, a7] (vI 0 :: st) h Q := At_next rfl
theorem r212_54 : At call ac_212 54 [a0, a1, a2, a3, a4, a5, a6, a7] (vI x :: st) h Q ↔ At call ac_212 56 [a0, a1, a2, a3, vI x, a5, a6, a7] st h Q := At_next rfl
theorem r212_56 : At call ac_212 56 [a0, a1, a2, a3, a4, a5, a6, a7] st h Q ↔ At call ac_212 57 [a0, a1, a2, a3, a4, a5, a6, a7] (vI (-1) :: st) h Q := At_next rfl
theorem r212_57 : At call ac_212 57 [a0, a1, a2, a3, a4, a5, a6, a7] (vI x :: st) h Q ↔ At call ac_212 59 [a0, a1, a2, a3, a4, vI x, a6, a7] st h Q := At_next rfl
theorem r212_59 : At call ac_212 59 [a0, a1, a2, a3, a4, vI x, a6, a7] st h Q ↔ At call ac_212 61 [a0, a1, a2, a3, a4, vI x, a6, a7] (vI x :: st) h Q := At_next rfl
theorem r212_61 : At call ac_212 61 [a0, a1, a2, a3, a4, a5, a6, a7] st h Q ↔ At call ac_212 62 [a0, a1, a2, a3, a4, a5, a6, a7] (vI 2 :: st) h Q := At_next rfl
theorem r212_62 : At call ac_212 62 [a0, a1, a2, a3, a4, a5, a6, a7] (vI y :: vI x :: st) h Q ↔ if x < y then At call ac_212 65 [a0, a1, a2, a3, a4, a5, a6, a7] st h Q else At call ac_212 155 [a0, a1, a2, a3, a4, a5, a6, a7] st h Q := At_br rfl
theorem r212_65 : At call ac_212 65 [vR g m, a1, a2, a3, a4, a5, a6, a7] st h Q ↔ At call ac_212 66 [vR g m, a1, a2, a3, a4, a5, a6, a7] (vR g m :: st) h Q := At_next rfl
theorem r212_66 : At call ac_212 66 [vR g m, a1, a2, a3, a4, a5, a6, a7] st h Q ↔ At call ac_212 67 [vR g m, a1, a2, a3, a4, a5, a6, a7] (vR g m :: st) h Q := At_next rfl
theorem r212_67 : At call ac_212 67 [a0, a1, a2, a3, a4, a5, a6, a7] (vR g 27 :: st) h Q ↔ At call ac_212 70 [a0, a1, a2, a3, a4, a5, a6, a7] (vR g 35 :: st) h Q := At_next rfl
theorem r212_70 : At call ac_212 70 [a0, a1, a2, a3, a4, a5, a6, a7] (b1 :: b0 :: st) h Q ↔ st.length ≤ 4 ∧ ∃ h1, call 231 [b0, b1] h none h1 ∧ At call ac_212 73 [a0, a1, a2, a3, a4, a5, a6, a7] st h1 Q := At_gcallv rfl
theorem r212_73 : At call ac_212 73 [vR g m, a1, a2, a3, a4, a5, a6, a7] st h Q ↔ At call ac_212 74 [vR g m, a1, a2, a3, a4, a5, a6, a7] (vR g m :: st) h Q := At_next rfl
theorem r212_74 : At call ac_212 74 [a0, a1, a2, a3, a4, vI x, a6, a7] st h Q ↔ At call ac_212 76 [a0, a1, a2, a3, a4, vI x, a6, a7] (vI x :: st) h Q := At_next rfl
theorem r212_76 : At call ac_212 76 [a0, a1, a2, a3, a4, a5, a6, a7] (vI x :: vR g 27 :: st) h Q ↔ At call ac_212 79 [a0, a1, a2, a3, a4, a5, a6, a7] st (up3 h g 27 13 x) Q := At_next rfl
theorem r212_79 : At call ac_212 79 [vR g m, a1, a2, a3, a4, a5, a6, a7] st h Q ↔ At call ac_212 80 [vR g m, a1, a2, a3, a4, a5, a6, a7] (vR g m :: st) h Q := At_next rfl
theorem r212_80 : At call ac_212 80 [a0, a1, vI x, a3, a4, a5, a6, a7] st h Q ↔ At call ac_212 81 [a0, a1, vI x, a3, a4, a5, a6, a7] (vI x :: st) h Q := At_next rfl
theorem r212_81 : At call ac_212 81 [a0, a1, a2, a3, a4, a5, a6, a7] (b1 :: b0 :: st) h Q ↔ st.length ≤ 4 ∧ ∃ h1, call 191 [b0, b1] h none h1 ∧ At call ac_212 84 [a0, a1, a2, a3, a4, a5, a6, a7] st h1 Q := At_gcallv rfl
theorem r212_84 : At call ac_212 84 [a0, a1, a2, a3, a4, a5, a6, a7] st h Q ↔ At call ac_212 85 [a0, a1, a2, a3, a4, a5, a6, a7] (vI 1 :: st) h Q := At_next rfl
theorem r212_85 : At call ac_212 85 [a0, a1, a2, a3, a4, a5, a6, a7] (vI x :: st) h Q ↔ At call ac_212 87 [a0, a1, a2, a3, a4, a5, vI x, a7] st h Q := At_next rfl
theorem r212_87 : At call ac_212 87 [a0, a1, a2, a3, a4, a5, a6, a7] st h Q ↔ At call ac_212 88 [a0, a1, a2, a3, a4, a5, a6, a7] (vI 0 :: st) h Q := At_next rfl
theorem r212_88 : At call ac_212 88 [a0, a1, a2, a3, a4, a5, a6, a7] (vI x :: st) h Q ↔ At call ac_212 90 [a0, a1, a2, a3, a4, a5, a6, vI x] st h Q := At_next rfl
theorem r212_90 : At call ac_212 90 [a0, a1, a2, a3, a4, a5, a6, vI x] st h Q ↔ At call ac_212 92 [a0, a1, a2, a3, a4, a5, a6, vI x] (vI x :: st) h Q := At_next rfl
theorem r212_92 : At call ac_212 92 [vR g m, a1, a2, a3, a4, a5, a6, a7] st h Q ↔ At call ac_212 93 [vR g m, a1, a2, a3, a4, a5, a6, a7] (vR g m :: st) h Q := At_next rfl
theorem r212_93 : At call ac_212 93 [a0, a1, a2, a3, a4, a5, a6, a7] (vR g 27 :: st) h Q ↔ At call ac_212 96 [a0, a1, a2, a3, a4, a5, a6, a7] (vI (h g 27 7) :: st) h Q := At_next rfl
theorem r212_96 : At call ac_212 96 [a0, a1, a2, a3, a4, a5, a6, a7] (vI y :: vI x :: st) h Q ↔ if x < y then At call ac_212 99 [a0, a1, a2, a3, a4, a5, a6, a7] st h Q else At call ac_212 125 [a0, a1, a2, a3, a4, a5, a6, a7] st h Q := At_br rfl
theorem r212_99 : At call ac_212 99 [vR g m, a1, a2, a3, a4, a5, a6, a7] st h Q ↔ At call ac_212 100 [vR g m, a1, a2, a3, a4, a5, a6, a7] (vR g m :: st) h Q := At_next rfl
theorem r212_100 : At call ac_212 100 [a0, vI x, a2, a3, a4, a5, a6, a7] st h Q ↔ At call ac_212 101 [a0, vI x, a2, a3, a4, a5, a6, a7] (vI x :: st) h Q := At_next rfl
theorem r212_101 : At call ac_212 101 [a0, a1, a2, a3, a4, a5, a6, vI x] st h Q ↔ At call ac_212 103 [a0, a1, a2, a3, a4, a5, a6, vI x] (vI x :: st) h Q := At_next rfl
theorem r212_103 : At call ac_212 103 [a0, a1, a2, a3, a4, a5, a6, a7] (b2 :: b1 :: b0 :: st) h Q ↔ st.length ≤ 4 ∧ ∃ v h1, call 211 [b0, b1, b2] h (some v) h1 ∧ At call ac_212 106 [a0, a1, a2, a3, a4, a5, a6, a7] (v :: st) h1 Q := At_gcall rfl
theorem r212_106 : At call ac_212 106 [vR g m, a1, a2, a3, a4, a5, a6, a7] st h Q ↔ At call ac_212 107 [vR g m, a1, a2, a3, a4, a5, a6, a7] (vR g m :: st) h Q := At_next rfl
theorem r212_107 : At call ac_212 107 [a0, a1, a2, a3, a4, a5, a6, a7] (vR g 27 :: st) h Q ↔ At call ac_212 110 [a0, a1, a2, a3, a4, a5, a6, a7] (vR g 22 :: st) h Q := At_next rfl
theorem r212_110 : At call ac_212 110 [a0, a1, a2, a3, a4, a5, a6, vI x] st h Q ↔ At call ac_212 112 [a0, a1, a2, a3, a4, a5, a6, vI x] (vI x :: st) h Q := At_next rfl
theorem r212_112 : At call ac_212 112 [a0, a1, a2, a3, a4, a5, a6, a7] (vI x :: vR g m :: st) h Q ↔ inA h m 0 x ∧ At call ac_212 113 [a0, a1, a2, a3, a4, a5, a6, a7] (vI (h g m x.toNat) :: st) h Q := At_guard rfl
theorem r212_113 : At call ac_212 113 [a0, a1, a2, a3, a4, a5, a6, a7] (vI y :: vI x :: st) h Q ↔ if x = y then At call ac_212 119 [a0, a1, a2, a3, a4, a5, a6, a7] st h Q else At call ac_212 116 [a0, a1, a2, a3, a4, a5, a6, a7] st h Q := At_br rfl
theorem r212_116 : At call ac_212 116 [a0, a1, a2, a3, a4, a5, a6, a7] st h Q ↔ At call ac_212 117 [a0, a1, a2, a3, a4, a5, a6, a7] (vI 0 :: st) h Q := At_next rfl
theorem r212_117 : At call ac_212 117 [a0, a1, a2, a3, a4, a5, a6, a7] (vI x :: st) h Q ↔ At call ac_212 119 [a0, a1, a2, a3, a4, a5, vI x, a7] st h Q := At_next rfl
theorem r212_119 : At call ac_212 119 [a0, a1, a2, a3, a4, a5, a6, vI x] st h Q ↔ At call ac_212 122 [a0, a1, a2, a3, a4, a5, a6, vI (wr (x + 1))] st h Q := At_next rfl
theorem r212_122 : At call ac_212 122 [a0, a1, a2, a3, a4, a5, a6, a7] st h Q ↔ At call ac_212 90 [a0, a1, a2, a3, a4, a5, a6, a7] st h Q := At_next rfl
theorem r212_125 : At call ac_212 125 [a0, a1, a2, a3, a4, a5, vI x, a7] st h Q ↔ At call ac_212 127 [a0, a1, a2, a3, a4, a5, vI x, a7] (vI x :: st) h Q := At_next rfl
theorem r212_127 : At call ac_212 127 [a0, a1, a2, a3, a4, a5, a6, a7] (vI x :: st) h Q ↔ if x = 0 then At call ac_212 141 [a0, a1, a2, a3, a4, a5, a6, a7] st h Q else At call ac_212 130 [a0, a1, a2, a3, a4, a5, a6, a7] st h Q := At_br rfl
theorem r212_130 : At call ac_212 130 [a0, a1, a2, a3, vI x, a5, a6, a7] st h Q ↔ At call ac_212 132 [a0, a1, a2, a3, vI x, a5, a6, a7] (vI x :: st) h Q := At_next rfl
theorem r212_132 : At call ac_212 132 [a0, a1, a2, a3, a4, a5, a6, a7] st h Q ↔ At call ac_212 133 [a0, a1, a2, a3, a4, a5, a6, a7] (vI 1 :: st) h Q := At_next rfl
theorem r212_133 : At call ac_212 133 [a0, a1, a2, a3, a4, vI x, a6, a7] st h Q ↔ At call ac_212 135 [a0, a1, a2, a3, a4, vI x, a6, a7] (vI x :: st) h Q := At_next rfl
theorem r212_135 : At call ac_212 135 [a0, a1, a2, a3, a4, a5, a6, a7] st h Q ↔ At call ac_212 136 [a0, a1, a2, a3, a4, a5, a6, a7] (vI 1 :: st) h Q := At_next rfl
theorem r212_136 : At call ac_212 136 [a0, a1, a2, a3, a4, a5, a6, a7] (vI y :: vI x :: st) h Q ↔ At call ac_212 137 [a0, a1, a2, a3, a4, a5, a6, a7] (vI (wr (x + y)) :: st) h Q := At_next rfl
theorem r212_137 : At call ac_212 137 [a0, a1, a2, a3, a4, a5, a6, a7] (vI y :: vI x :: st) h Q ↔ At call ac_212 138 [a0, a1, a2, a3, a4, a5, a6, a7] (vI (opShl x y) :: st) h Q := At_next rfl
theorem r212_138 : At call ac_212 138 [a0, a1, a2, a3, a4, a5, a6, a7] (vI y :: vI x :: st) h Q ↔ At call ac_212 139 [a0, a1, a2, a3, a4, a5, a6, a7] (vI (opOr x y) :: st) h Q := At_next rfl
theorem r212_139 : At call ac_212 139 [a0, a1, a2, a3, a4, a5, a6, a7] (vI x :: st) h Q ↔ At call ac_212 141 [a0, a1, a2, a3, vI x, a5, a6, a7] st h Q := At_next rfl
theorem r212_141 : At call ac_212 141 [vR g m, a1, a2, a3, a4, a5, a6, a7] st h Q ↔ At call ac_212 142 [vR g m, a1, a2, a3, a4, a5, a6, a7] (vR g m :: st) h Q := At_next rfl
theorem r212_142 : At call ac_212 142 [vR g m, a1, a2, a3, a4, a5, a6, a7] st h Q ↔ At call ac_212 143 [vR g m, a1, a2, a3, a4, a5, a6, a7] (vR g m :: st) h Q := At_next rfl
theorem r212_143 : At call ac_212 143 [a0, a1, a2, a3, a4, a5, a6, a7] (vR g 27 :: st) h Q ↔ At call ac_212 146 [a0, a1, a2, a3, a4, a5, a6, a7] (vR g 35 :: st) h Q := At_next rfl
theorem r212_146 : At call ac_212 146 [a0, a1, a2, a3, a4, a5, a6, a7] (b1 :: b0 :: st) h Q ↔ st.length ≤ 4 ∧ ∃ h1, call 232 [b0, b1] h none h1 ∧ At call ac_212 149 [a0, a1, a2, a3, a4, a5, a6, a7] st h1 Q := At_gcallv rfl
theorem r212_149 : At call ac_212 149 [a0, a1, a2, a3, a4, vI x, a6, a7] st h Q ↔ At call ac_212 152 [a0, a1, a2, a3, a4, vI (wr (x + 1)), a6, a7] st h Q := At_next rfl
theorem r212_152 : At call ac_212 152 [a0, a1, a2, a3, a4, a5, a6, a7] st h Q ↔ At call ac_212 59 [a0, a1, a2, a3, a4, a5, a6, a7] st h Q := At_next rfl
theorem r212_155 : At call ac_212 155 [a0, a1, a2, a3, vI x, a5, a6, a7] st h Q ↔ At call ac_212 157 [a0, a1, a2, a3, vI x, a5, a6, a7] (vI x :: st) h Q := At_next rfl
theorem r212_157 : At call ac_212 157 [a0, a1, a2, a3, a4, a5, a6, a7] [vI x] h Q ↔ Q (some (vI x)) h := At_ret rfl
theorem r213_0 : At call ac_213 0 [vR g m, a1, a2, a3] st h Q ↔ At call ac_213 1 [vR g m, a1, a2, a3] (vR g m :: st) h Q := At_next rfl
theorem r213_1 : At call ac_213 1 [a0, vI x, a2, a3] st h Q ↔ At call ac_213 2 [a0, vI x, a2, a3] (vI x :: st) h Q := At_next rfl
theorem r213_2 : At call ac_213 2 [a0, a1, a2, a3] (b1 :: b0 :: st) h Q ↔ st.length ≤ 4 ∧ ∃ v h1, call 149 [b0, b1] h (some v) h1 ∧ At call ac_213 5 [a0, a1, a2, a3] (v :: st) h1 Q := At_gcall rfl
theorem r213_5 : At call ac_213 5 [a0, a1, a2, a3] (vI x :: st) h Q ↔ At call ac_213 6 [a0, a1, a2, vI x] st h Q := At_next rfl
theorem r213_6 : At call ac_213 6 [a0, a1, a2, vI x] st h Q ↔ At call ac_213 7 [a0, a1, a2, vI x] (vI x :: st) h Q := At_next rfl
theorem r213_7 : At call ac_213 7 [a0, a1, a2, a3] (vI x :: st) h Q ↔ if x < 0 then At call ac_213 10 [a0, a1, a2, a3] st h Q else At call ac_213 12 [a0, a1, a2, a3] st h Q := At_br rfl
theorem r213_10 : At call ac_213 10 [a0, a1, a2, vI x] st h Q ↔ At call ac_213 11 [a0, a1, a2, vI x] (vI x :: st) h Q := At_next rfl
theorem r213_11 : At call ac_213 11 [a0, a1, a2, a3] [vI x] h Q ↔ Q (some (vI x)) h := At_ret rfl
theorem r213_12 : At call ac_213 12 [a0, a1, vI x, a3] st h Q ↔ At call ac_213 13 [a0, a1, vI x, a3] (vI x :: st) h Q := At_next rfl
theorem r213_13 : At call ac_213 13 [a0, a1, a2, a3] (vI x :: st) h Q ↔ if x < 0 then At call ac_213 16 [a0, a1, a2, a3] st h Q else At call ac_213 19 [a0, a1, a2, a3] st h Q := At_br rfl
theorem r213_16 : At call ac_213 16 [a0, a1, a2, a3] st h Q ↔ At call ac_213 18 [a0, a1, a2, a3] (vI (-4) :: st) h Q := At_next rfl
theorem r213_18 : At call ac_213 18 [a0, a1, a2, a3] [vI x] h Q ↔ Q (some (vI x)) h := At_ret rfl
theorem r213_19 : At call ac_213 19 [a0, a1, vI x, a3] st h Q ↔ At call ac_213 20 [a0, a1, vI x, a3] (vI x :: st) h Q := At_next rfl
theorem r213_20 : At call ac_213 20 [vR g m, a1, a2, a3] st h Q ↔ At call ac_213 21 [vR g m, a1, a2, a3] (vR g m :: st) h Q := At_next rfl
theorem r213_21 : At call ac_213 21 [a0, a1, a2, a3] (vR g 27 :: st) h Q ↔ At call ac_213 24 [a0, a1, a2, a3] (vR g 29 :: st) h Q := At_next rfl
theorem r213_24 : At call ac_213 24 [a0, vI x, a2, a3] st h Q ↔ At call ac_213 25 [a0, vI x, a2, a3] (vI x :: st) h Q := At_next rfl
theorem r213_25 : At call ac_213 25 [a0, a1, a2, a3] (vI x :: vR g m :: st) h Q ↔ inA h m 0 x ∧ At call ac_213 26 [a0, a1, a2, a3] (vI (h g m x.toNat) :: st) h Q := At_guard rfl
theorem r213_26 : At call ac_213 26 [a0, a1, a2, a3] (vI y :: vI x :: st) h Q ↔ if y < x then At call ac_213 29 [a0, a1, a2, a3] st h Q else At call ac_213 32 [a0, a1, a2, a3] st h Q := At_br rfl
theorem r213_29 : At call ac_213 29 [a0, a1, a2, a3] st h Q ↔ At call ac_213 31 [a0, a1, a2, a3] (vI (-5) :: st) h Q := At_next rfl
theorem r213_31 : At call ac_213 31 [a0, a1, a2, a3] [vI x] h Q ↔ Q (some (vI x)) h := At_ret rfl
theorem r213_32 : At call ac_213 32 [a0, a1, vI x, a3] st h Q ↔ At call ac_213 33 [a0, a1, vI x, a3] (vI x :: st) h Q := At_next rfl
theorem r213_33 : At call ac_213 33 [a0, a1, a2, a3] st h Q ↔ At call ac_213 35 [a0, a1, a2, a3] (vI 60 :: st) h Q := At_next rfl
theorem r213_35 : At call ac_213 35 [a0, a1, a2, a3] (vI y :: vI x :: st) h Q ↔ if y < x then At call ac_213 38 [a0, a1, a2, a3] st h Q else At call ac_213 43 [a0, a1, a2, a3] st h Q := At_br rfl
theorem r213_38 : At call ac_213 38 [a0, a1, a2, a3] st h Q ↔ At call ac_213 40 [a0, a1, a2, a3] (vI (-6) :: st) h Q := At_next rfl
theorem r213_40 : At call ac_213 40 [a0, a1, a2, a3] st h Q ↔ At call ac_213 44 [a0, a1, a2, a3] st h Q := At_next rfl
theorem r213_43 : At call ac_213 43 [a0, a1, a2, a3] st h Q ↔ At call ac_213 44 [a0, a1, a2, a3] (vI 0 :: st) h Q := At_next rfl
theorem r213_44 : At call ac_213 44 [a0, a1, a2, a3] [vI x] h Q ↔ Q (some (vI x)) h := At_ret rfl
theorem r214_0 : At call ac_214 0 [a0, a1, a2, a3] st h Q ↔ At call ac_214 1 [a0, a1, a2, a3] (vI 0 :: st) h Q := At_next rfl
theorem r214_1 : At call ac_214 1 [a0, a1, a2, a3] (vI x :: st) h Q ↔ At call ac_214 2 [a0, a1, a2, vI x] st h Q := At_next rfl
theorem r214_2 : At call ac_214 2 [a0, a1, a2, vI x] st h Q ↔ At call ac_214 3 [a0, a1, a2, vI x] (vI x :: st) h Q := At_next rfl
theorem r214_3 : At call ac_214 3 [a0, a1, vI x, a3] st h Q ↔ At call ac_214 4 [a0, a1, vI x, a3] (vI x :: st) h Q := At_next rfl
theorem r214_4 : At call ac_214 4 [a0, a1, a2, a3] (vI y :: vI x :: st) h Q ↔ if x < y then At call ac_214 7 [a0, a1, a2, a3] st h Q else At call ac_214 38 [a0, a1, a2, a3] st h Q := At_br rfl
theorem r214_7 : At call ac_214 7 [vR g m, a1, a2, a3] st h Q ↔ At call ac_214 8 [vR g m, a1, a2, a3] (vR g m :: st) h Q := At_next rfl
theorem r214_8 : At call ac_214 8 [vR g m, a1, a2, a3] st h Q ↔ At call ac_214 9 [vR g m, a1, a2, a3] (vR g m :: st) h Q := At_next rfl
theorem r214_9 : At call ac_214 9 [a0, vI x, a2, a3] st h Q ↔ At call ac_214 10 [a0, vI x, a2, a3] (vI x :: st) h Q := At_next rfl
theorem r214_10 : At call ac_214 10 [a0, a1, a2, vI x] st h Q ↔ At call ac_214 11 [a0, a1, a2, vI x] (vI x :: st) h Q := At_next rfl
theorem r214_11 : At call ac_214 11 [a0, a1, a2, a3] (b2 :: b1 :: b0 :: st) h Q ↔ st.length ≤ 4 ∧ ∃ v h1, call 211 [b0, b1, b2] h (some v) h1 ∧ At call ac_214 14 [a0, a1, a2, a3] (v :: st) h1 Q := At_gcall rfl
theorem r214_14 : At call ac_214 14 [a0, a1, a2, a3] (b1 :: b0 :: st) h Q ↔ st.length ≤ 4 ∧ ∃ v h1, call 186 [b0, b1] h (some v) h1 ∧ At call ac_214 17 [a0, a1, a2, a3] (v :: st) h1 Q := At_gcall rfl
theorem r214_17 : At call ac_214 17 [a0, a1, a2, a3] (vI x :: st) h Q ↔ if x = 0 then At call ac_214 20 [a0, a1, a2, a3] st h Q else At call ac_214 22 [a0, a1, a2, a3] st h Q := At_br rfl
theorem r214_20 : At call ac_214 20 [a0, a1, a2, vI x] st h Q ↔ At call ac_214 21 [a0, a1, a2, vI x] (vI x :: st) h Q := At_next rfl
theorem r214_21 : At call ac_214 21 [a0, a1, a2, a3] [vI x] h Q ↔ Q (some (vI x)) h := At_ret rfl
theorem r214_22 : At call ac_214 22 [vR g m, a1, a2, a3] st h Q ↔ At call ac_214 23 [vR g m, a1, a2, a3] (vR g m :: st) h Q := At_next rfl
theorem r214_23 : At call ac_214 23 [vR g m, a1, a2, a3] st h Q ↔ At call ac_214 24 [vR g m, a1, a2, a3] (vR g m :: st) h Q := At_next rfl
theorem r214_24 : At call ac_214 24 [a0, vI x, a2, a3] st h Q ↔ At call ac_214 25 [a0, vI x, a2, a3] (vI x :: st) h Q := At_next rfl
theorem r214_25 : At call ac_214 25 [a0, a1, a2, vI x] st h Q ↔ At call ac_214 26 [a0, a1, a2, vI x] (vI x :: st) h Q := At_next rfl
theorem r214_26 : At call ac_214 26 [a0, a1, a2, a3] (b2 :: b1 :: b0 :: st) h Q ↔ st.length ≤ 4 ∧ ∃ v h1, call 211 [b0, b1, b2] h (some v) h1 ∧ At call ac_214 29 [a0, a1, a2, a3] (v :: st) h1 Q := At_gcall rfl
theorem r214_29 : At call ac_214 29 [a0, a1, a2, a3] (b1 :: b0 :: st) h Q ↔ st.length ≤ 4 ∧ ∃ h1, call 189 [b0, b1] h none h1 ∧ At call ac_214 32 [a0, a1, a2, a3] st h1 Q := At_gcallv rfl
theorem r214_32 : At call ac_214 32 [a0, a1, a2, vI x] st h Q ↔ At call ac_214 35 [a0, a1, a2, vI (wr (x + 1))] st h Q := At_next rfl
theorem r214_35 : At call ac_214 35 [a0, a1, a2, a3] st h Q ↔ At call ac_214 2 [a0, a1, a2, a3] st h Q := At_next rfl
theorem r214_38 : At call ac_214 38 [a0, a1, a2, a3] st h Q ↔ At call ac_214 39 [a0, a1, a2, a3] (vI (-1) :: st) h Q := At_next rfl
theorem r214_39 : At call ac_214 39 [a0, a1, a2, a3] [vI x] h Q ↔ Q (some (vI x)) h := At_ret rfl
theorem r215_0 : At call ac_215 0 [vR g m, a1, a2, a3, a4] st h Q ↔ At call ac_215 1 [vR g m, a1, a2, a3, a4] (vR g m :: st) h Q := At_next rfl
theorem r215_1 : At call ac_215 1 [a0, vI x, a2, a3, a4] st h Q ↔ At call ac_215 2 [a0, vI x, a2, a3, a4] (vI x :: st) h Q := At_next rfl
theorem r215_2 : At call ac_215 2 [a0, a1, vI x, a3, a4] st h Q ↔ At call ac_215 3 [a0, a1, vI x, a3, a4] (vI x :: st) h Q := At_next rfl
theorem r215_3 : At call ac_215 3 [a0, a1, a2, a3, a4] (b2 :: b1 :: b0 :: st) h Q ↔ st.length ≤ 4 ∧ ∃ v h1, call 213 [b0, b1, b2] h (some v) h1 ∧ At call ac_215 6 [a0, a1, a2, a3, a4] (v :: st) h1 Q := At_gcall rfl
theorem r215_6 : At call ac_215 6 [a0, a1, a2, a3, a4] (vI x :: st) h Q ↔ At call ac_215 7 [a0, a1, a2, vI x, a4] st h Q := At_next rfl
theorem r215_7 : At call ac_215 7 [a0, a1, a2, vI x, a4] st h Q ↔ At call ac_215 8 [a0, a1, a2, vI x, a4] (vI x :: st) h Q := At_next rfl
theorem r215_8 : At call ac_215 8 [a0, a1, a2, a3, a4] (vI x :: st) h Q ↔ if x < 0 then At call ac_215 11 [a0, a1, a2, a3, a4] st h Q else At call ac_215 17 [a0, a1, a2, a3, a4] st h Q := At_br rfl
theorem r215_11 : At call ac_215 11 [vR g m, a1, a2, a3, a4] st h Q ↔ At call ac_215 12 [vR g m, a1, a2, a3, a4] (vR g m :: st) h Q := At_next rfl
theorem r215_12 : At call ac_215 12 [a0, a1, a2, vI x, a4] st h Q ↔ At call ac_215 13 [a0, a1, a2, vI x, a4] (vI x :: st) h Q := At_next rfl
theorem r215_13 : At call ac_215 13 [a0, a1, a2, a3, a4] (b1 :: b0 :: st) h Q ↔ st.length ≤ 4 ∧ ∃ v h1, call 143 [b0, b1] h (some v) h1 ∧ At call ac_215 16 [a0, a1, a2, a3, a4] (v :: st) h1 Q := At_gcall rfl
theorem r215_16 : At call ac_215 16 [a0, a1, a2, a3, a4] [vI x] h Q ↔ Q (some (vI x)) h := At_ret rfl
theorem r215_17 : At call ac_215 17 [vR g m, a1, a2, a3, a4] st h Q ↔ At call ac_215 18 [vR g m, a1, a2, a3, a4] (vR g m :: st) h Q := At_next rfl
theorem r215_18 : At call ac_215 18 [vR g m, a1, a2, a3, a4] st h Q ↔ At call ac_215 19 [vR g m, a1, a2, a3, a4] (vR g m :: st) h Q := At_next rfl
theorem r215_19 : At call ac_215 19 [a0, a1, a2, a3, a4] (vR g 27 :: st) h Q ↔ At call ac_215 22 [a0, a1, a2, a3, a4] (vR g 35 :: st) h Q := At_next rfl
theorem r215_22 : At call ac_215 22 [a0, a1, a2, a3, a4] (b1 :: b0 :: st) h Q ↔ st.length ≤ 4 ∧ ∃ h1, call 231 [b0, b1] h none h1 ∧ At call ac_215 25 [a0, a1, a2, a3, a4] st h1 Q := At_gcallv rfl
theorem r215_25 : At call ac_215 25 [vR g m, a1, a2, a3, a4] st h Q ↔ At call ac_215 26 [vR g m, a1, a2, a3, a4] (vR g m :: st) h Q := At_next rfl
theorem r215_26 : At call ac_215 26 [a0, vI x, a2, a3, a4] st h Q ↔ At call ac_215 27 [a0, vI x, a2, a3, a4] (vI x :: st) h Q := At_next rfl
theorem r215_27 : At call ac_215 27 [a0, a1, vI x, a3, a4] st h Q ↔ At call ac_215 28 [a0, a1, vI x, a3, a4] (vI x :: st) h Q := At_next rfl
theorem r215_28 : At call ac_215 28 [a0, a1, a2, a3, a4] (b2 :: b1 :: b0 :: st) h Q ↔ st.length ≤ 4 ∧ ∃ v h1, call 214 [b0, b1, b2] h (some v) h1 ∧ At call ac_215 31 [a0, a1, a2, a3, a4] (v :: st) h1 Q := At_gcall rfl
theorem r215_31 : At call ac_215 31 [a0, a1, a2, a3, a4] (vI x :: st) h Q ↔ At call ac_215 33 [a0, a1, a2, a3, vI x] st h Q := At_next rfl
theorem r215_33 : At call ac_215 33 [vR g m, a1, a2, a3, a4] st h Q ↔ At call ac_215 34 [vR g m, a1, a2, a3, a4] (vR g m :: st) h Q := At_next rfl
theorem r215_34 : At call ac_215 34 [vR g m, a1, a2, a3, a4] st h Q ↔ At call ac_215 35 [vR g m, a1, a2, a3, a4] (vR g m :: st) h Q := At_next rfl
theorem r215_35 : At call ac_215 35 [a0, a1, a2, a3, a4] (vR g 27 :: st) h Q ↔ At call ac_215 38 [a0, a1, a2, a3, a4] (vR g 35 :: st) h Q := At_next rfl
theorem r215_38 : At call ac_215 38 [a0, a1, a2, a3, a4] (b1 :: b0 :: st) h Q ↔ st.length ≤ 4 ∧ ∃ h1, call 232 [b0, b1] h none h1 ∧ At call ac_215 41 [a0, a1, a2, a3, a4] st h1 Q := At_gcallv rfl
theorem r215_41 : At call ac_215 41 [a0, a1, a2, a3, vI x] st h Q ↔ At call ac_215 43 [a0, a1, a2, a3, vI x] (vI x :: st) h Q := At_next rfl
theorem r215_43 : At call ac_215 43 [a0, a1, a2, a3, a4] [vI x] h Q ↔ Q (some (vI x)) h := At_ret rfl
theorem r216_0 : At call ac_216 0 [vR g m, a1, a2, a3, a4, a5, a6] st h Q ↔ At call ac_216 1 [vR g m, a1, a2, a3, a4, a5, a6] (vR g m :: st) h Q := At_next rfl
theorem r216_1 : At call ac_216 1 [a0, vI x, a2, a3, a4, a5, a6] st h Q ↔ At call ac_216 2 [a0, vI x, a2, a3, a4, a5, a6] (vI x :: st) h Q := At_next rfl
theorem r216_2 : At call ac_216 2 [a0, a1, vI x, a3, a4, a5, a6] st h Q ↔ At call ac_216 3 [a0, a1, vI x, a3, a4, a5, a6] (vI x :: st) h Q := At_next rfl
theorem r216_3 : At call ac_216 3 [a0, a1, a2, a3, a4, a5, a6] (b2 :: b1 :: b0 :: st) h Q ↔ st.length ≤ 4 ∧ ∃ v h1, call 213 [b0, b1, b2] h (some v) h1 ∧ At call ac_216 6 [a0, a1, a2, a3, a4, a5, a6] (v :: st) h1 Q := At_gcall rfl
theorem r216_6 : At call ac_216 6 [a0, a1, a2, a3, a4, a5, a6] (vI x :: st) h Q ↔ At call ac_216 8 [a0, a1, a2, a3, vI x, a5, a6] st h Q := At_next rfl
theorem r216_8 : At call ac_216 8 [a0, a1, a2, a3, vI x, a5, a6] st h Q ↔ At call ac_216 10 [a0, a1, a2, a3, vI x, a5, a6] (vI x :: st) h Q := At_next rfl
theorem r216_10 : At call ac_216 10 [a0, a1, a2, a3, a4, a5, a6] (vI x :: st) h Q ↔ if x < 0 then At call ac_216 13 [a0, a1, a2, a3, a4, a5, a6] st h Q else At call ac_216 27 [a0, a1, a2, a3, a4, a5, a6] st h Q := At_br rfl
theorem r216_13 : At call ac_216 13 [a0, a1, a2, a3, vI x, a5, a6] st h Q ↔ At call ac_216 15 [a0, a1, a2, a3, vI x, a5, a6] (vI x :: st) h Q := At_next rfl
theorem r216_15 : At call ac_216 15 [a0, a1, a2, a3, a4, a5, a6] st h Q ↔ At call ac_216 17 [a0, a1, a2, a3, a4, a5, a6] (vI (-5) :: st) h Q := At_next rfl
theorem r216_17 : At call ac_216 17 [a0, a1, a2, a3, a4, a5, a6] (vI y :: vI x :: st) h Q ↔ if y < x then At call ac_216 20 [a0, a1, a2, a3, a4, a5, a6] st h Q else At call ac_216 27 [a0, a1, a2, a3, a4, a5, a6] st h Q := At_br rfl
theorem r216_20 : At call ac_216 20 [vR g m, a1, a2, a3, a4, a5, a6] st h Q ↔ At call ac_216 21 [vR g m, a1, a2, a3, a4, a5, a6] (vR g m :: st) h Q := At_next rfl
theorem r216_21 : At call ac_216 21 [a0, a1, a2, a3, vI x, a5, a6] st h Q ↔ At call ac_216 23 [a0, a1, a2, a3, vI x, a5, a6] (vI x :: st) h Q := At_next rfl
theorem r216_23 : At call ac_216 23 [a0, a1, a2, a3, a4, a5, a6] (b1 :: b0 :: st) h Q ↔ st.length ≤ 4 ∧ ∃ v h1, call 142 [b0, b1] h (some v) h1 ∧ At call ac_216 26 [a0, a1, a2, a3, a4, a5, a6] (v :: st) h1 Q := At_gcall rfl
theorem r216_26 : At call ac_216 26 [a0, a1, a2, a3, a4, a5, a6] [vI x] h Q ↔ Q (some (vI x)) h := At_ret rfl
theorem r216_27 : At call ac_216 27 [a0, a1, a2, a3, vI x, a5, a6] st h Q ↔ At call ac_216 29 [a0, a1, a2, a3, vI x, a5, a6] (vI x :: st) h Q := At_next rfl
theorem r216_29 : At call ac_216 29 [a0, a1, a2, a3, a4, a5, a6] st h Q ↔ At call ac_216 31 [a0, a1, a2, a3, a4, a5, a6] (vI (-5) :: st) h Q := At_next rfl
theorem r216_31 : At call ac_216 31 [a0, a1, a2, a3, a4, a5, a6] (vI y :: vI x :: st) h Q ↔ if x = y then At call ac_216 43 [a0, a1, a2, a3, a4, a5, a6] st h Q else At call ac_216 34 [a0, a1, a2, a3, a4, a5, a6] st h Q := At_br rfl
theorem r216_34 : At call ac_216 34 [a0, a1, a2, vI x, a4, a5, a6] st h Q ↔ At call ac_216 35 [a0, a1, a2, vI x, a4, a5, a6] (vI x :: st) h Q := At_next rfl
theorem r216_35 : At call ac_216 35 [a0, a1, a2, a3, a4, a5, a6] st h Q ↔ At call ac_216 36 [a0, a1, a2, a3, a4, a5, a6] (vI 0 :: st) h Q := At_next rfl
theorem r216_36 : At call ac_216 36 [a0, a1, a2, a3, a4, a5, a6] st h Q ↔ At call ac_216 37 [a0, a1, a2, a3, a4, a5, a6] (vI 3 :: st) h Q := At_next rfl
theorem r216_37 : At call ac_216 37 [a0, a1, a2, a3, a4, a5, a6] (b2 :: b1 :: b0 :: st) h Q ↔ st.length ≤ 4 ∧ ∃ v h1, call 144 [b0, b1, b2] h (some v) h1 ∧ At call ac_216 40 [a0, a1, a2, a3, a4, a5, a6] (v :: st) h1 Q := At_gcall rfl
theorem r216_40 : At call ac_216 40 [a0, a1, a2, a3, a4, a5, a6] (vI x :: st) h Q ↔ if x = 0 then At call ac_216 43 [a0, a1, a2, a3, a4, a5, a6] st h Q else At call ac_216 50 [a0, a1, a2, a3, a4, a5, a6] st h Q := At_br rfl
theorem r216_43 : At call ac_216 43 [vR g m, a1, a2, a3, a4, a5, a6] st h Q ↔ At call ac_216 44 [vR g m, a1, a2, a3, a4, a5, a6] (vR g m :: st) h Q := At_next rfl
theorem r216_44 : At call ac_216 44 [a0, a1, a2, a3, a4, a5, a6] st h Q ↔ At call ac_216 46 [a0, a1, a2, a3, a4, a5, a6] (vI (-5) :: st) h Q := At_next rfl
theorem r216_46 : At call ac_216 46 [a0, a1, a2, a3, a4, a5, a6] (b1 :: b0 :: st) h Q ↔ st.length ≤ 4 ∧ ∃ v h1, call 142 [b0, b1] h (some v) h1 ∧ At call ac_216 49 [a0, a1, a2, a3, a4, a5, a6] (v :: st) h1 Q := At_gcall rfl
theorem r216_49 : At call ac_216 49 [a0, a1, a2, a3, a4, a5, a6] [vI x] h Q ↔ Q (some (vI x)) h := At_ret rfl
theorem r216_50 : At call ac_216 50 [a0, a1, a2, a3, vI x, a5, a6] st h Q ↔ At call ac_216 52 [a0, a1, a2, a3, vI x, a5, a6] (vI x :: st) h Q := At_next rfl
theorem r216_52 : At call ac_216 52 [a0, a1, a2, a3, a4, a5, a6] (vI x :: st) h Q ↔ if x < 0 then At call ac_216 55 [a0, a1, a2, a3, a4, a5, a6] st h Q else At call ac_216 62 [a0, a1, a2, a3, a4, a5, a6] st h Q := At_br rfl
theorem r216_55 : At call ac_216 55 [vR g m, a1, a2, a3, a4, a5, a6] st h Q ↔ At call ac_216 56 [vR g m, a1, a2, a3, a4, a5, a6] (vR g m :: st) h Q := At_next rfl
theorem r216_56 : At call ac_216 56 [a0, a1, a2, a3, vI x, a5, a6] st h Q ↔ At call ac_216 58 [a0, a1, a2, a3, vI x, a5, a6] (vI x :: st) h Q := At_next rfl
theorem r216_58 : At call ac_216 58 [a0, a1, a2, a3, a4, a5, a6] (b1 :: b0 :: st) h Q ↔ st.length ≤ 4 ∧ ∃ v h1, call 142 [b0, b1] h (some v) h1 ∧ At call ac_216 61 [a0, a1, a2, a3, a4, a5, a6] (v :: st) h1 Q := At_gcall rfl
theorem r216_61 : At call ac_216 61 [a0, a1, a2, a3, a4, a5, a6] [vI x] h Q ↔ Q (some (vI x)) h := At_ret rfl
theorem r216_62 : At call ac_216 62 [vR g m, a1, a2, a3, a4, a5, a6] st h Q ↔ At call ac_216 63 [vR g m, a1, a2, a3, a4, a5, a6] (vR g m :: st) h Q := At_next rfl
theorem r216_63 : At call ac_216 63 [vR g m, a1, a2, a3, a4, a5, a6] st h Q ↔ At call ac_216 64 [vR g m, a1, a2, a3, a4, a5, a6] (vR g m :: st) h Q := At_next rfl
theorem r216_64 : At call ac_216 64 [a0, a1, a2, a3, a4, a5, a6] (vR g 27 :: st) h Q ↔ At call ac_216 67 [a0, a1, a2, a3, a4, a5, a6] (vR g 35 :: st) h Q := At_next rfl
theorem r216_67 : At call ac_216 67 [a0, a1, a2, a3, a4, a5, a6] (b1 :: b0 :: st) h Q ↔ st.length ≤ 4 ∧ ∃ h1, call 231 [b0, b1] h none h1 ∧ At call ac_216 70 [a0, a1, a2, a3, a4, a5, a6] st h1 Q := At_gcallv rfl
theorem r216_70 : At call ac_216 70 [vR g m, a1, a2, a3, a4, a5, a6] st h Q ↔ At call ac_216 71 [vR g m, a1, a2, a3, a4, a5, a6] (vR g m :: st) h Q := At_next rfl
theorem r216_71 : At call ac_216 71 [a0, vI x, a2, a3, a4, a5, a6] st h Q ↔ At call ac_216 72 [a0, vI x, a2, a3, a4, a5, a6] (vI x :: st) h Q := At_next rfl
theorem r216_72 : At call ac_216 72 [a0, a1, vI x, a3, a4, a5, a6] st h Q ↔ At call ac_216 73 [a0, a1, vI x, a3, a4, a5, a6] (vI x :: st) h Q := At_next rfl
theorem r216_73 : At call ac_216 73 [a0, a1, a2, a3, a4, a5, a6] (b2 :: b1 :: b0 :: st) h Q ↔ st.length ≤ 4 ∧ ∃ v h1, call 214 [b0, b1, b2] h (some v) h1 ∧ At call ac_216 76 [a0, a1, a2, a3, a4, a5, a6] (v :: st) h1 Q := At_gcall rfl
theorem r216_76 : At call ac_216 76 [a0, a1, a2, a3, a4, a5, a6] (vI x :: st) h Q ↔ At call ac_216 78 [a0, a1, a2, a3, a4, vI x, a6] st h Q := At_next rfl
theorem r216_78 : At call ac_216 78 [a0, a1, a2, vI x, a4, a5, a6] st h Q ↔ At call ac_216 79 [a0, a1, a2, vI x, a4, a5, a6] (vI x :: st) h Q := At_next rfl
theorem r216_79 : At call ac_216 79 [a0, a1, a2, a3, a4, a5, a6] (vI x :: st) h Q ↔ if x = 0 then At call ac_216 82 [a0, a1, a2, a3, a4, a5, a6] st h Q else At call ac_216 89 [a0, a1, a2, a3, a4, a5, a6] st h Q := At_br rfl
theorem r216_82 : At call ac_216 82 [vR g m, a1, a2, a3, a4, a5, a6] st h Q ↔ At call ac_216 83 [vR g m, a1, a2, a3, a4, a5, a6] (vR g m :: st) h Q := At_next rfl
theorem r216_83 : At call ac_216 83 [a0, a1, a2, a3, a4, a5, a6] (vR g 27 :: st) h Q ↔ At call ac_216 86 [a0, a1, a2, a3, a4, a5, a6] (vI (h g 27 10) :: st) h Q := At_next rfl
theorem r216_86 : At call ac_216 86 [a0, a1, a2, a3, a4, a5, a6] st h Q ↔ At call ac_216 117 [a0, a1, a2, a3, a4, a5, a6] st h Q := At_next rfl
theorem r216_89 : At call ac_216 89 [a0, a1, a2, vI x, a4, a5, a6] st h Q ↔ At call ac_216 90 [a0, a1, a2, vI x, a4, a5, a6] (vI x :: st) h Q := At_next rfl
theorem r216_90 : At call ac_216 90 [a0, a1, a2, a3, a4, a5, a6] st h Q ↔ At call ac_216 91 [a0, a1, a2, a3, a4, a5, a6] (vI 1 :: st) h Q := At_next rfl
theorem r216_91 : At call ac_216 91 [a0, a1, a2, a3, a4, a5, a6] (vI y :: vI x :: st) h Q ↔ if x = y then At call ac_216 94 [a0, a1, a2, a3, a4, a5, a6] st h Q else At call ac_216 101 [a0, a1, a2, a3, a4, a5, a6] st h Q := At_br rfl
theorem r216_94 : At call ac_216 94 [vR g m, a1, a2, a3, a4, a5, a6] st h Q ↔ At call ac_216 95 [vR g m, a1, a2, a3, a4, a5, a6] (vR g m :: st) h Q := At_next rfl
theorem r216_95 : At call ac_216 95 [a0, a1, a2, a3, a4, a5, a6] (b0 :: st) h Q ↔ st.length ≤ 4 ∧ ∃ v h1, call 183 [b0] h (some v) h1 ∧ At call ac_216 98 [a0, a1, a2, a3, a4, a5, a6] (v :: st) h1 Q := At_gcall rfl
theorem r216_98 : At call ac_216 98 [a0, a1, a2, a3, a4, a5, a6] st h Q ↔ At call ac_216 117 [a0, a1, a2, a3, a4, a5, a6] st h Q := At_next rfl
theorem r216_101 : At call ac_216 101 [a0, a1, a2, vI x, a4, a5, a6] st h Q ↔ At call ac_216 102 [a0, a1, a2, vI x, a4, a5, a6] (vI x :: st) h Q := At_next rfl
theorem r216_102 : At call ac_216 102 [a0, a1, a2, a3, a4, a5, a6] st h Q ↔ At call ac_216 103 [a0, a1, a2, a3, a4, a5, a6] (vI 2 :: st) h Q := At_next rfl
theorem r216_103 : At call ac_216 103 [a0, a1, a2, a3, a4, a5, a6] (vI y :: vI x :: st) h Q ↔ if x = y then At call ac_216 106 [a0, a1, a2, a3, a4, a5, a6] st h Q else At call ac_216 113 [a0, a1, a2, a3, a4, a5, a6] st h Q := At_br rfl
theorem r216_106 : At call ac_216 106 [vR g m, a1, a2, a3, a4, a5, a6] st h Q ↔ At call ac_216 107 [vR g m, a1, a2, a3, a4, a5, a6] (vR g m :: st) h Q := At_next rfl
theorem r216_107 : At call ac_216 107 [a0, a1, a2, a3, a4, a5, a6] (b0 :: st) h Q ↔ st.length ≤ 4 ∧ ∃ v h1, call 184 [b0] h (some v) h1 ∧ At call ac_216 110 [a0, a1, a2, a3, a4, a5, a6] (v :: st) h1 Q := At_gcall rfl
theorem r216_110 : At call ac_216 110 [a0, a1, a2, a3, a4, a5, a6] st h Q ↔ At call ac_216 117 [a0, a1, a2, a3, a4, a5, a6] st h Q := At_next rfl
theorem r216_113 : At call ac_216 113 [vR g m, a1, a2, a3, a4, a5, a6] st h Q ↔ At call ac_216 114 [vR g m, a1, a2, a3, a4, a5, a6] (vR g m :: st) h Q := At_next rfl
theorem r216_114 : At call ac_216 114 [a0, a1, a2, a3, a4, a5, a6] (vR g 27 :: st) h Q ↔ At call ac_216 117 [a0, a1, a2, a3, a4, a5, a6] (vI (h g 27 11) :: st) h Q := At_next rfl
theorem r216_117 : At call ac_216 117 [a0, a1, a2, a3, a4, a5, a6] (vI x :: st) h Q ↔ At call ac_216 119 [a0, a1, a2, a3, a4, a5, vI x] st h Q := At_next rfl
theorem r216_119 : At call ac_216 119 [vR g m, a1, a2, a3, a4, a5, a6] st h Q ↔ At call ac_216 120 [vR g m, a1, a2, a3, a4, a5, a6] (vR g m :: st) h Q := At_next rfl
theorem r216_120 : At call ac_216 120 [vR g m, a1, a2, a3, a4, a5, a6] st h Q ↔ At call ac_216 121 [vR g m, a1, a2, a3, a4, a5, a6] (vR g m :: st) h Q := At_next rfl
theorem r216_121 : At call ac_216 121 [a0, a1, a2, a3, a4, a5, a6] (vR g 27 :: st) h Q ↔ At call ac_216 124 [a0, a1, a2, a3, a4, a5, a6] (vR g 35 :: st) h Q := At_next rfl
theorem r216_124 : At call ac_216 124 [a0, a1, a2, a3, a4, a5, a6] (b1 :: b0 :: st) h Q ↔ st.length ≤ 4 ∧ ∃ h1, call 232 [b0, b1] h none h1 ∧ At call ac_216 127 [a0, a1, a2, a3, a4, a5, a6] st h1 Q := At_gcallv rfl
theorem r216_127 : At call ac_216 127 [a0, a1, a2, a3, a4, vI x, a6] st h Q ↔ At call ac_216 129 [a0, a1, a2, a3, a4, vI x, a6] (vI x :: st) h Q := At_next rfl
theorem r216_129 : At call ac_216 129 [a0, a1, a2, a3, a4, a5, a6] st h Q ↔ At call ac_216 130 [a0, a1, a2, a3, a4, a5, a6] (vI (-1) :: st) h Q := At_next rfl
theorem r216_130 : At call ac_216 130 [a0, a1, a2, a3, a4, a5, a6] (vI y :: vI x :: st) h Q ↔ if x = y then At call ac_216 133 [a0, a1, a2, a3, a4, a5, a6] st h Q else At call ac_216 138 [a0, a1, a2, a3, a4, a5, a6] st h Q := At_br rfl
theorem r216_133 : At call ac_216 133 [a0, a1, a2, a3, a4, a5, vI x] st h Q ↔ At call ac_216 135 [a0, a1, a2, a3, a4, a5, vI x] (vI x :: st) h Q := At_next rfl
theorem r216_135 : At call ac_216 135 [a0, a1, a2, a3, a4, a5, a6] st h Q ↔ At call ac_216 144 [a0, a1, a2, a3, a4, a5, a6] st h Q := At_next rfl
theorem r216_138 : At call ac_216 138 [vR g m, a1, a2, a3, a4, a5, a6] st h Q ↔ At call ac_216 139 [vR g m, a1, a2, a3, a4, a5, a6] (vR g m :: st) h Q := At_next rfl
theorem r216_139 : At call ac_216 139 [a0, a1, a2, a3, a4, a5, a6] st h Q ↔ At call ac_216 141 [a0, a1, a2, a3, a4, a5, a6] (vI (-6) :: st) h Q := At_next rfl
theorem r216_141 : At call ac_216 141 [a0, a1, a2, a3, a4, a5, a6] (b1 :: b0 :: st) h Q ↔ st.length ≤ 4 ∧ ∃ v h1, call 142 [b0, b1] h (some v) h1 ∧ At call ac_216 144 [a0, a1, a2, a3, a4, a5, a6] (v :: st) h1 Q := At_gcall rfl
theorem r216_144 : At call ac_216 144 [a0, a1, a2, a3, a4, a5, a6] [vI x] h Q ↔ Q (some (vI x)) h := At_ret rfl
theorem r217_0 : At call ac_217 0 [vR g m, a1, a2, a3] st h Q ↔ At call ac_217 1 [vR g m, a1, a2, a3] (vR g m :: st) h Q := At_next rfl
theorem r217_1 : At call ac_217 1 [a0, vI x, a2, a3] st h Q ↔ At call ac_217 2 [a0, vI x, a2, a3] (vI x :: st) h Q := At_next rfl
theorem r217_2 : At call ac_217 2 [a0, a1, vI x, a3] st h Q ↔ At call ac_217 3 [a0, a1, vI x, a3] (vI x :: st) h Q := At_next rfl
theorem r217_3 : At call ac_217 3 [a0, a1, a2, a3] (b2 :: b1 :: b0 :: st) h Q ↔ st.length ≤ 4 ∧ ∃ v h1, call 213 [b0, b1, b2] h (some v) h1 ∧ At call ac_217 6 [a0, a1, a2, a3] (v :: st) h1 Q := At_gcall rfl
theorem r217_6 : At call ac_217 6 [a0, a1, a2, a3] (vI x :: st) h Q ↔ At call ac_217 7 [a0, a1, a2, vI x] st h Q := At_next rfl
theorem r217_7 : At call ac_217 7 [a0, a1, a2, vI x] st h Q ↔ At call ac_217 8 [a0, a1, a2, vI x] (vI x :: st) h Q := At_next rfl
theorem r217_8 : At call ac_217 8 [a0, a1, a2, a3] (vI x :: st) h Q ↔ if x < 0 then At call ac_217 11 [a0, a1, a2, a3] st h Q else At call ac_217 17 [a0, a1, a2, a3] st h Q := At_br rfl
theorem r217_11 : At call ac_217 11 [vR g m, a1, a2, a3] st h Q ↔ At call ac_217 12 [vR g m, a1, a2, a3] (vR g m :: st) h Q := At_next rfl
theorem r217_12 : At call ac_217 12 [a0, a1, a2, vI x] st h Q ↔ At call ac_217 13 [a0, a1, a2, vI x] (vI x :: st) h Q := At_next rfl
theorem r217_13 : At call ac_217 13 [a0, a1, a2, a3] (b1 :: b0 :: st) h Q ↔ st.length ≤ 4 ∧ ∃ v h1, call 142 [b0, b1] h (some v) h1 ∧ At call ac_217 16 [a0, a1, a2, a3] (v :: st) h1 Q := At_gcall rfl
theorem r217_16 : At call ac_217 16 [a0, a1, a2, a3] [vI x] h Q ↔ Q (some (vI x)) h := At_ret rfl
theorem r217_17 : At call ac_217 17 [vR g m, a1, a2, a3] st h Q ↔ At call ac_217 18 [vR g m, a1, a2, a3] (vR g m :: st) h Q := At_next rfl
theorem r217_18 : At call ac_217 18 [vR g m, a1, a2, a3] st h Q ↔ At call ac_217 19 [vR g m, a1, a2, a3] (vR g m :: st) h Q := At_next rfl
theorem r217_19 : At call ac_217 19 [a0, a1, a2, a3] (vR g 27 :: st) h Q ↔ At call ac_217 22 [a0, a1, a2, a3] (vR g 35 :: st) h Q := At_next rfl
theorem r217_22 : At call ac_217 22 [a0, a1, a2, a3] (b1 :: b0 :: st) h Q ↔ st.length ≤ 4 ∧ ∃ h1, call 231 [b0, b1] h none h1 ∧ At call ac_217 25 [a0, a1, a2, a3] st h1 Q := At_gcallv rfl
theorem r217_25 : At call ac_217 25 [vR g m, a1, a2, a3] st h Q ↔ At call ac_217 26 [vR g m, a1, a2, a3] (vR g m :: st) h Q := At_next rfl
theorem r217_26 : At call ac_217 26 [a0, vI x, a2, a3] st h Q ↔ At call ac_217 27 [a0, vI x, a2, a3] (vI x :: st) h Q := At_next rfl
theorem r217_27 : At call ac_217 27 [a0, a1, vI x, a3] st h Q ↔ At call ac_217 28 [a0, a1, vI x, a3] (vI x :: st) h Q := At_next rfl
theorem r217_28 : At call ac_217 28 [a0, a1, a2, a3] (b2 :: b1 :: b0 :: st) h Q ↔ st.length ≤ 4 ∧ ∃ v h1, call 214 [b0, b1, b2] h (some v) h1 ∧ At call ac_217 31 [a0, a1, a2, a3] (v :: st) h1 Q := At_gcall rfl
theorem r217_31 : At call ac_217 31 [a0, a1, a2, a3] st h Q ↔ At call ac_217 32 [a0, a1, a2, a3] (vI (-1) :: st) h Q := At_next rfl
theorem r217_32 : At call ac_217 32 [a0, a1, a2, a3] (vI y :: vI x :: st) h Q ↔ if x = y then At call ac_217 35 [a0, a1, a2, a3] st h Q else At call ac_217 40 [a0, a1, a2, a3] st h Q := At_br rfl
theorem r217_35 : At call ac_217 35 [vR g m, a1, a2, a3] st h Q ↔ At call ac_217 36 [vR g m, a1, a2, a3] (vR g m :: st) h Q := At_next rfl
theorem r217_36 : At call ac_217 36 [a0, a1, a2, a3] (vR g 27 :: st) h Q ↔ At call ac_217 39 [a0, a1, a2, a3] (vI (h g 27 10) :: st) h Q := At_next rfl
theorem r217_39 : At call ac_217 39 [a0, a1, a2, a3] [vI x] h Q ↔ Q (some (vI x)) h := At_ret rfl
theorem r217_40 : At call ac_217 40 [vR g m, a1, a2, a3] st h Q ↔ At call ac_217 41 [vR g m, a1, a2, a3] (vR g m :: st) h Q := At_next rfl
theorem r217_41 : At call ac_217 41 [vR g m, a1, a2, a3] st h Q ↔ At call ac_217 42 [vR g m, a1, a2, a3] (vR g m :: st) h Q := At_next rfl
theorem r217_42 : At call ac_217 42 [a0, a1, a2, a3] (vR g 27 :: st) h Q ↔ At call ac_217 45 [a0, a1, a2, a3] (vR g 35 :: st) h Q := At_next rfl
theorem r217_45 : At call ac_217 45 [a0, a1, a2, a3] (b1 :: b0 :: st) h Q ↔ st.length ≤ 4 ∧ ∃ h1, call 232 [b0, b1] h none h1 ∧ At call ac_217 48 [a0, a1, a2, a3] st h1 Q := At_gcallv rfl
theorem r217_48 : At call ac_217 48 [vR g m, a1, a2, a3] st h Q ↔ At call ac_217 49 [vR g m, a1, a2, a3] (vR g m :: st) h Q := At_next rfl
theorem r217_49 : At call ac_217 49 [a0, a1, a2, a3] st h Q ↔ At call ac_217 51 [a0, a1, a2, a3] (vI (-6) :: st) h Q := At_next rfl
theorem r217_51 : At call ac_217 51 [a0, a1, a2, a3] (b1 :: b0 :: st) h Q ↔ st.length ≤ 4 ∧ ∃ v h1, call 142 [b0, b1] h (some v) h1 ∧ At call ac_217 54 [a0, a1, a2, a3] (v :: st) h1 Q := At_gcall rfl
theorem r217_54 : At call ac_217 54 [a0, a1, a2, a3] [vI x] h Q ↔ Q (some (vI x)) h := At_ret rfl
theorem r218_0 : At call ac_218 0 [vR g m] st h Q ↔ At call ac_218 1 [vR g m] (vR g m :: st) h Q := At_next rfl
theorem r218_1 : At call ac_218 1 [a0] st h Q ↔ At call ac_218 2 [a0] (vI (-1) :: st) h Q := At_next rfl
theorem r218_2 : At call ac_218 2 [a0] (b1 :: b0 :: st) h Q ↔ st.length ≤ 4 ∧ ∃ v h1, call 195 [b0, b1] h (some v) h1 ∧ At call ac_218 5 [a0] (v :: st) h1 Q := At_gcall rfl
theorem r218_5 : At call ac_218 5 [a0] [vI x] h Q ↔ Q (some (vI x)) h := At_ret rfl
theorem r219_0 : At call ac_219 0 [a0, vI x, a2, a3] st h Q ↔ At call ac_219 1 [a0, vI x, a2, a3] (vI x :: st) h Q := At_next rfl
theorem r219_1 : At call ac_219 1 [a0, a1, a2, a3] st h Q ↔ At call ac_219 2 [a0, a1, a2, a3] (vI 0 :: st) h Q := At_next rfl
theorem r219_2 : At call ac_219 2 [a0, a1, a2, a3] st h Q ↔ At call ac_219 3 [a0, a1, a2, a3] (vI 3 :: st) h Q := At_next rfl
theorem r219_3 : At call ac_219 3 [a0, a1, a2, a3] (b2 :: b1 :: b0 :: st) h Q ↔ st.length ≤ 4 ∧ ∃ v h1, call 144 [b0, b1, b2] h (some v) h1 ∧ At call ac_219 6 [a0, a1, a2, a3] (v :: st) h1 Q := At_gcall rfl
theorem r219_6 : At call ac_219 6 [a0, a1, a2, a3] (vI x :: st) h Q ↔ if x = 0 then At call ac_219 9 [a0, a1, a2, a3] st h Q else At call ac_219 16 [a0, a1, a2, a3] st h Q := At_br rfl
theorem r219_9 : At call ac_219 9 [vR g m, a1, a2, a3] st h Q ↔ At call ac_219 10 [vR g m, a1, a2, a3] (vR g m :: st) h Q := At_next rfl
theorem r219_10 : At call ac_219 10 [a0, a1, a2, a3] st h Q ↔ At call ac_219 12 [a0, a1, a2, a3] (vI (-5) :: st) h Q := At_next rfl
theorem r219_12 : At call ac_219 12 [a0, a1, a2, a3] (b1 :: b0 :: st) h Q ↔ st.length ≤ 4 ∧ ∃ v h1, call 142 [b0, b1] h (some v) h1 ∧ At call ac_219 15 [a0, a1, a2, a3] (v :: st) h1 Q := At_gcall rfl
theorem r219_15 : At call ac_219 15 [a0, a1, a2, a3] [vI x] h Q ↔ Q (some (vI x)) h := At_ret rfl
theorem r219_16 : At call ac_219 16 [a0, a1, a2, a3] st h Q ↔ At call ac_219 17 [a0, a1, a2, a3] (vI 0 :: st) h Q := At_next rfl
theorem r219_17 : At call ac_219 17 [a0, a1, a2, a3] (vI x :: st) h Q ↔ At call ac_219 18 [a0, a1, vI x, a3] st h Q := At_next rfl
theorem r219_18 : At call ac_219 18 [a0, a1, a2, a3] st h Q ↔ At call ac_219 19 [a0, a1, a2, a3] (vI 0 :: st) h Q := At_next rfl
theorem r219_19 : At call ac_219 19 [a0, a1, a2, a3] (vI x :: st) h Q ↔ At call ac_219 20 [a0, a1, a2, vI x] st h Q := At_next rfl
theorem r219_20 : At call ac_219 20 [a0, a1, a2, vI x] st h Q ↔ At call ac_219 21 [a0, a1, a2, vI x] (vI x :: st) h Q := At_next rfl
theorem r219_21 : At call ac_219 21 [vR g m, a1, a2, a3] st h Q ↔ At call ac_219 22 [vR g m, a1, a2, a3] (vR g m :: st) h Q := At_next rfl
theorem r219_22 : At call ac_219 22 [a0, a1, a2, a3] (vR g 27 :: st) h Q ↔ At call ac_219 25 [a0, a1, a2, a3] (vI (h g 27 8) :: st) h Q := At_next rfl
theorem r219_25 : At call ac_219 25 [a0, a1, a2, a3] (vI y :: vI x :: st) h Q ↔ if x < y then At call ac_219 28 [a0, a1, a2, a3] st h Q else At call ac_219 62 [a0, a1, a2, a3] st h Q := At_br rfl
theorem r219_28 : At call ac_219 28 [vR g m, a1, a2, a3] st h Q ↔ At call ac_219 29 [vR g m, a1, a2, a3] (vR g m :: st) h Q := At_next rfl
theorem r219_29 : At call ac_219 29 [a0, a1, a2, a3] (vR g 27 :: st) h Q ↔ At call ac_219 32 [a0, a1, a2, a3] (vR g 25 :: st) h Q := At_next rfl
theorem r219_32 : At call ac_219 32 [a0, a1, a2, vI x] st h Q ↔ At call ac_219 33 [a0, a1, a2, vI x] (vI x :: st) h Q := At_next rfl
theorem r219_33 : At call ac_219 33 [a0, a1, a2, a3] (vI x :: vR g m :: st) h Q ↔ inA h m 0 x ∧ At call ac_219 34 [a0, a1, a2, a3] (vI (h g m x.toNat) :: st) h Q := At_guard rfl
theorem r219_34 : At call ac_219 34 [a0, a1, a2, a3] st h Q ↔ At call ac_219 37 [a0, a1, a2, a3] (vI 200 :: st) h Q := At_next rfl
theorem r219_37 : At call ac_219 37 [a0, a1, a2, a3] (vI y :: vI x :: st) h Q ↔ if x = y then At call ac_219 56 [a0, a1, a2, a3] st h Q else At call ac_219 40 [a0, a1, a2, a3] st h Q := At_br rfl
theorem r219_40 : At call ac_219 40 [vR g m, a1, a2, a3] st h Q ↔ At call ac_219 41 [vR g m, a1, a2, a3] (vR g m :: st) h Q := At_next rfl
theorem r219_41 : At call ac_219 41 [a0, a1, a2, a3] (vR g 27 :: st) h Q ↔ At call ac_219 44 [a0, a1, a2, a3] (vR g 24 :: st) h Q := At_next rfl
theorem r219_44 : At call ac_219 44 [a0, a1, a2, vI x] st h Q ↔ At call ac_219 45 [a0, a1, a2, vI x] (vI x :: st) h Q := At_next rfl
theorem r219_45 : At call ac_219 45 [a0, a1, a2, a3] (vI x :: vR g m :: st) h Q ↔ inA h m 0 x ∧ At call ac_219 46 [a0, a1, a2, a3] (vI (h g m x.toNat) :: st) h Q := At_guard rfl
theorem r219_46 : At call ac_219 46 [a0, a1, a2, a3] (b0 :: st) h Q ↔ st.length ≤ 4 ∧ ∃ v h1, call 162 [b0] h (some v) h1 ∧ At call ac_219 49 [a0, a1, a2, a3] (v :: st) h1 Q := At_gcall rfl
theorem r219_49 : At call ac_219 49 [a0, vI x, a2, a3] st h Q ↔ At call ac_219 50 [a0, vI x, a2, a3] (vI x :: st) h Q := At_next rfl
theorem r219_50 : At call ac_219 50 [a0, a1, a2, a3] (vI y :: vI x :: st) h Q ↔ if x = y then At call ac_219 53 [a0, a1, a2, a3] st h Q else At call ac_219 56 [a0, a1, a2, a3] st h Q := At_br rfl
theorem r219_53 : At call ac_219 53 [a0, a1, vI x, a3] st h Q ↔ At call ac_219 56 [a0, a1, vI (wr (x + 1)), a3] st h Q := At_next rfl
theorem r219_56 : At call ac_219 56 [a0, a1, a2, vI x] st h Q ↔ At call ac_219 59 [a0, a1, a2, vI (wr (x + 1))] st h Q := At_next rfl
theorem r219_59 : At call ac_219 59 [a0, a1, a2, a3] st h Q ↔ At call ac_219 20 [a0, a1, a2, a3] st h Q := At_next rfl
theorem r219_62 : At call ac_219 62 [a0, a1, vI x, a3] st h Q ↔ At call ac_219 63 [a0, a1, vI x, a3] (vI x :: st) h Q := At_next rfl
theorem r219_63 : At call ac_219 63 [a0, a1, a2, a3] [vI x] h Q ↔ Q (some (vI x)) h := At_ret rfl
theorem r220_0 : At call ac_220 0 [a0, a1, a2] st h Q ↔ At call ac_220 1 [a0, a1, a2] (vI (-1) :: st) h Q := At_next rfl
theorem r220_1 : At call ac_220 1 [a0, a1, a2] (vI x :: st) h Q ↔ At call ac_220 2 [a0, vI x, a2] st h Q := At_next rfl
theorem r220_2 : At call ac_220 2 [a0, a1, a2] st h Q ↔ At call ac_220 3 [a0, a1, a2] (vI 0 :: st) h Q := At_next rfl
theorem r220_3 : At call ac_220 3 [a0, a1, a2] (vI x :: st) h Q ↔ At call ac_220 4 [a0, a1, vI x] st h Q := At_next rfl
theorem r220_4 : At call ac_220 4 [a0, a1, vI x] st h Q ↔ At call ac_220 5 [a0, a1, vI x] (vI x :: st) h Q := At_next rfl
theorem r220_5 : At call ac_220 5 [vR g m, a1, a2] st h Q ↔ At call ac_220 6 [vR g m, a1, a2] (vR g m :: st) h Q := At_next rfl
theorem r220_6 : At call ac_220 6 [a0, a1, a2] (vR g 27 :: st) h Q ↔ At call ac_220 9 [a0, a1, a2] (vI (h g 27 7) :: st) h Q := At_next rfl
theorem r220_9 : At call ac_220 9 [a0, a1, a2] (vI y :: vI x :: st) h Q ↔ if x < y then At call ac_220 12 [a0, a1, a2] st h Q else At call ac_220 47 [a0, a1, a2] st h Q := At_br rfl
theorem r220_12 : At call ac_220 12 [vR g m, a1, a2] st h Q ↔ At call ac_220 13 [vR g m, a1, a2] (vR g m :: st) h Q := At_next rfl
theorem r220_13 : At call ac_220 13 [a0, a1, vI x] st h Q ↔ At call ac_220 14 [a0, a1, vI x] (vI x :: st) h Q := At_next rfl
theorem r220_14 : At call ac_220 14 [a0, a1, a2] (b1 :: b0 :: st) h Q ↔ st.length ≤ 4 ∧ ∃ v h1, call 185 [b0, b1] h (some v) h1 ∧ At call ac_220 17 [a0, a1, a2] (v :: st) h1 Q := At_gcall rfl
theorem r220_17 : At call ac_220 17 [a0, a1, a2] st h Q ↔ At call ac_220 18 [a0, a1, a2] (vI (-1) :: st) h Q := At_next rfl
theorem r220_18 : At call ac_220 18 [a0, a1, a2] (vI y :: vI x :: st) h Q ↔ if x = y then At call ac_220 41 [a0, a1, a2] st h Q else At call ac_220 21 [a0, a1, a2] st h Q := At_br rfl
theorem r220_21 : At call ac_220 21 [a0, vI x, a2] st h Q ↔ At call ac_220 22 [a0, vI x, a2] (vI x :: st) h Q := At_next rfl
theorem r220_22 : At call ac_220 22 [a0, a1, a2] st h Q ↔ At call ac_220 23 [a0, a1, a2] (vI (-1) :: st) h Q := At_next rfl
theorem r220_23 : At call ac_220 23 [a0, a1, a2] (vI y :: vI x :: st) h Q ↔ if x = y then At call ac_220 39 [a0, a1, a2] st h Q else At call ac_220 26 [a0, a1, a2] st h Q := At_br rfl
theorem r220_26 : At call ac_220 26 [vR g m, a1, a2] st h Q ↔ At call ac_220 27 [vR g m, a1, a2] (vR g m :: st) h Q := At_next rfl
theorem r220_27 : At call ac_220 27 [a0, a1, vI x] st h Q ↔ At call ac_220 28 [a0, a1, vI x] (vI x :: st) h Q := At_next rfl
theorem r220_28 : At call ac_220 28 [a0, a1, a2] (b1 :: b0 :: st) h Q ↔ st.length ≤ 4 ∧ ∃ v h1, call 195 [b0, b1] h (some v) h1 ∧ At call ac_220 31 [a0, a1, a2] (v :: st) h1 Q := At_gcall rfl
theorem r220_31 : At call ac_220 31 [vR g m, a1, a2] st h Q ↔ At call ac_220 32 [vR g m, a1, a2] (vR g m :: st) h Q := At_next rfl
theorem r220_32 : At call ac_220 32 [a0, vI x, a2] st h Q ↔ At call ac_220 33 [a0, vI x, a2] (vI x :: st) h Q := At_next rfl
theorem r220_33 : At call ac_220 33 [a0, a1, a2] (b1 :: b0 :: st) h Q ↔ st.length ≤ 4 ∧ ∃ v h1, call 195 [b0, b1] h (some v) h1 ∧ At call ac_220 36 [a0, a1, a2] (v :: st) h1 Q := At_gcall rfl
theorem r220_36 : At call ac_220 36 [a0, a1, a2] (vI y :: vI x :: st) h Q ↔ if y < x then At call ac_220 39 [a0, a1, a2] st h Q else At call ac_220 41 [a0, a1, a2] st h Q := At_br rfl
theorem r220_39 : At call ac_220 39 [a0, a1, vI x] st h Q ↔ At call ac_220 40 [a0, a1, vI x] (vI x :: st) h Q := At_next rfl
theorem r220_40 : At call ac_220 40 [a0, a1, a2] (vI x :: st) h Q ↔ At call ac_220 41 [a0, vI x, a2] st h Q := At_next rfl
theorem r220_41 : At call ac_220 41 [a0, a1, vI x] st h Q ↔ At call ac_220 44 [a0, a1, vI (wr (x + 1))] st h Q := At_next rfl
theorem r220_44 : At call ac_220 44 [a0, a1, a2] st h Q ↔ At call ac_220 4 [a0, a1, a2] st h Q := At_next rfl
theorem r220_47 : At call ac_220 47 [a0, vI x, a2] st h Q ↔ At call ac_220 48 [a0, vI x, a2] (vI x :: st) h Q := At_next rfl
theorem r220_48 : At call ac_220 48 [a0, a1, a2] [vI x] h Q ↔ Q (some (vI x)) h := At_ret rfl
theorem r221_0 : At call ac_221 0 [vR g m, a1] st h Q ↔ At call ac_221 1 [vR g m, a1] (vR g m :: st) h Q := At_next rfl
theorem r221_1 : At call ac_221 1 [a0, vI x] st h Q ↔ At call ac_221 2 [a0, vI x] (vI x :: st) h Q := At_next rfl
theorem r221_2 : At call ac_221 2 [a0, a1] (b1 :: b0 :: st) h Q ↔ st.length ≤ 4 ∧ ∃ v h1, call 186 [b0, b1] h (some v) h1 ∧ At call ac_221 5 [a0, a1] (v :: st) h1 Q := At_gcall rfl
theorem r221_5 : At call ac_221 5 [a0, a1] (vI x :: st) h Q ↔ if x = 0 then At call ac_221 8 [a0, a1] st h Q else At call ac_221 15 [a0, a1] st h Q := At_br rfl
theorem r221_8 : At call ac_221 8 [vR g m, a1] st h Q ↔ At call ac_221 9 [vR g m, a1] (vR g m :: st) h Q := At_next rfl
theorem r221_9 : At call ac_221 9 [a0, a1] st h Q ↔ At call ac_221 11 [a0, a1] (vI (-6) :: st) h Q := At_next rfl
theorem r221_11 : At call ac_221 11 [a0, a1] (b1 :: b0 :: st) h Q ↔ st.length ≤ 4 ∧ ∃ v h1, call 142 [b0, b1] h (some v) h1 ∧ At call ac_221 14 [a0, a1] (v :: st) h1 Q := At_gcall rfl
theorem r221_14 : At call ac_221 14 [a0, a1] [vI x] h Q ↔ Q (some (vI x)) h := At_ret rfl
theorem r221_15 : At call ac_221 15 [vR g m, a1] st h Q ↔ At call ac_221 16 [vR g m, a1] (vR g m :: st) h Q := At_next rfl
theorem r221_16 : At call ac_221 16 [a0, vI x] st h Q ↔ At call ac_221 17 [a0, vI x] (vI x :: st) h Q := At_next rfl
theorem r221_17 : At call ac_221 17 [a0, a1] (b1 :: b0 :: st) h Q ↔ st.length ≤ 4 ∧ ∃ h1, call 189 [b0, b1] h none h1 ∧ At call ac_221 20 [a0, a1] st h1 Q := At_gcallv rfl
theorem r221_20 : At call ac_221 20 [vR g m, a1] st h Q ↔ At call ac_221 21 [vR g m, a1] (vR g m :: st) h Q := At_next rfl
theorem r221_21 : At call ac_221 21 [a0, a1] (vR g 27 :: st) h Q ↔ At call ac_221 24 [a0, a1] (vI (h g 27 10) :: st) h Q := At_next rfl
theorem r221_24 : At call ac_221 24 [a0, a1] [vI x] h Q ↔ Q (some (vI x)) h := At_ret rfl
theorem r222_0 : At call ac_222 0 [vR g m, a1] st h Q ↔ At call ac_222 1 [vR g m, a1] (vR g m :: st) h Q := At_next rfl
theorem r222_1 : At call ac_222 1 [vR g m, a1] st h Q ↔ At call ac_222 2 [vR g m, a1] (vR g m :: st) h Q := At_next rfl
theorem r222_2 : At call ac_222 2 [a0, a1] (vR g 27 :: st) h Q ↔ At call ac_222 5 [a0, a1] (vI (h g 27 16) :: st) h Q := At_next rfl
theorem r222_5 : At call ac_222 5 [a0, a1] st h Q ↔ At call ac_222 8 [a0, a1] (vI 1103515245 :: st) h Q := At_next rfl
theorem r222_8 : At call ac_222 8 [a0, a1] (vI y :: vI x :: st) h Q ↔ At call ac_222 9 [a0, a1] (vI (wr (x * y)) :: st) h Q := At_next rfl
theorem r222_9 : At call ac_222 9 [a0, a1] st h Q ↔ At call ac_222 12 [a0, a1] (vI 12345 :: st) h Q := At_next rfl
theorem r222_12 : At call ac_222 12 [a0, a1] (vI y :: vI x :: st) h Q ↔ At call ac_222 13 [a0, a1] (vI (wr (x + y)) :: st) h Q := At_next rfl
theorem r222_13 : At call ac_222 13 [a0, a1] (vI x :: vR g 27 :: st) h Q ↔ At call ac_222 16 [a0, a1] st (up3 h g 27 16 x) Q := At_next rfl
theorem r222_16 : At call ac_222 16 [vR g m, a1] st h Q ↔ At call ac_222 17 [vR g m, a1] (vR g m :: st) h Q := At_next rfl
theorem r222_17 : At call ac_222 17 [a0, a1] (vR g 27 :: st) h Q ↔ At call ac_222 20 [a0, a1] (vI (h g 27 16) :: st) h Q := At_next rfl
theorem r222_20 : At call ac_222 20 [a0, a1] st h Q ↔ At call ac_222 22 [a0, a1] (vI 16 :: st) h Q := At_next rfl
theorem r222_22 : At call ac_222 22 [a0, a1] (vI y :: vI x :: st) h Q ↔ At call ac_222 23 [a0, a1] (vI (opUshr x y) :: st) h Q := At_next rfl
theorem r222_23 : At call ac_222 23 [a0, vI x] st h Q ↔ At call ac_222 24 [a0, vI x] (vI x :: st) h Q := At_next rfl
theorem r222_24 : At call ac_222 24 [a0, a1] (vI y :: vI x :: st) h Q ↔ y ≠ 0 ∧ At call ac_222 25 [a0, a1] (vI (opRem x y) :: st) h Q := At_guard rfl
theorem r222_25 : At call ac_222 25 [a0, a1] [vI x] h Q ↔ Q (some (vI x)) h := At_ret rfl
theorem r223_0 : At call ac_223 0 [a0, vI x, a2, a3] st h Q ↔ At call ac_223 1 [a0, vI x, a2, a3] (vI x :: st) h Q := At_next rfl
theorem r223_1 : At call ac_223 1 [a0, a1, a2, a3] st h Q ↔ At call ac_223 2 [a0, a1, a2, a3] (vI 1 :: st) h Q := At_next rfl
theorem r223_2 : At call ac_223 2 [a0, a1, a2, a3] st h Q ↔ At call ac_223 5 [a0, a1, a2, a3] (vI 200 :: st) h Q := At_next rfl
theorem r223_5 : At call ac_223 5 [a0, a1, a2, a3] (b2 :: b1 :: b0 :: st) h Q ↔ st.length ≤ 4 ∧ ∃ v h1, call 144 [b0, b1, b2] h (some v) h1 ∧ At call ac_223 8 [a0, a1, a2, a3] (v :: st) h1 Q := At_gcall rfl
theorem r223_8 : At call ac_223 8 [a0, a1, a2, a3] (vI x :: st) h Q ↔ if x = 0 then At call ac_223 11 [a0, a1, a2, a3] st h Q else At call ac_223 18 [a0, a1, a2, a3] st h Q := At_br rfl
theorem r223_11 : At call ac_223 11 [vR g m, a1, a2, a3] st h Q ↔ At call ac_223 12 [vR g m, a1, a2, a3] (vR g m :: st) h Q := At_next rfl
theorem r223_12 : At call ac_223 12 [a0, a1, a2, a3] st h Q ↔ At call ac_223 14 [a0, a1, a2, a3] (vI (-6) :: st) h Q := At_next rfl
theorem r223_14 : At call ac_223 14 [a0, a1, a2, a3] (b1 :: b0 :: st) h Q ↔ st.length ≤ 4 ∧ ∃ v h1, call 142 [b0, b1] h (some v) h1 ∧ At call ac_223 17 [a0, a1, a2, a3] (v :: st) h1 Q := At_gcall rfl
theorem r223_17 : At call ac_223 17 [a0, a1, a2, a3] [vI x] h Q ↔ Q (some (vI x)) h := At_ret rfl
theorem r223_18 : At call ac_223 18 [vR g m, a1, a2, a3] st h Q ↔ At call ac_223 19 [vR g m, a1, a2, a3] (vR g m :: st) h Q := At_next rfl
theorem r223_19 : At call ac_223 19 [a0, a1, a2, a3] (vR g 27 :: st) h Q ↔ At call ac_223 22 [a0, a1, a2, a3] (vI (h g 27 10) :: st) h Q := At_next rfl
theorem r223_22 : At call ac_223 22 [a0, a1, a2, a3] (vI x :: st) h Q ↔ At call ac_223 23 [a0, a1, vI x, a3] st h Q := At_next rfl
theorem r223_23 : At call ac_223 23 [a0, a1, a2, a3] st h Q ↔ At call ac_223 24 [a0, a1, a2, a3] (vI 0 :: st) h Q := At_next rfl
theorem r223_24 : At call ac_223 24 [a0, a1, a2, a3] (vI x :: st) h Q ↔ At call ac_223 25 [a0, a1, a2, vI x] st h Q := At_next rfl
theorem r223_25 : At call ac_223 25 [a0, a1, a2, vI x] st h Q ↔ At call ac_223 26 [a0, a1, a2, vI x] (vI x :: st) h Q := At_next rfl
theorem r223_26 : At call ac_223 26 [a0, vI x, a2, a3] st h Q ↔ At call ac_223 27 [a0, vI x, a2, a3] (vI x :: st) h Q := At_next rfl
theorem r223_27 : At call ac_223 27 [a0, a1, a2, a3] (vI y :: vI x :: st) h Q ↔ if x < y then At call ac_223 30 [a0, a1, a2, a3] st h Q else At call ac_223 56 [a0, a1, a2, a3] st h Q := At_br rfl
theorem r223_30 : At call ac_223 30 [vR g m, a1, a2, a3] st h Q ↔ At call ac_223 31 [vR g m, a1, a2, a3] (vR g m :: st) h Q := At_next rfl
theorem r223_31 : At call ac_223 31 [vR g m, a1, a2, a3] st h Q ↔ At call ac_223 32 [vR g m, a1, a2, a3] (vR g m :: st) h Q := At_next rfl
theorem r223_32 : At call ac_223 32 [a0, a1, a2, a3] st h Q ↔ At call ac_223 33 [a0, a1, a2, a3] (vI 3 :: st) h Q := At_next rfl
theorem r223_33 : At call ac_223 33 [a0, a1, a2, a3] (b1 :: b0 :: st) h Q ↔ st.length ≤ 4 ∧ ∃ v h1, call 222 [b0, b1] h (some v) h1 ∧ At call ac_223 36 [a0, a1, a2, a3] (v :: st) h1 Q := At_gcall rfl
theorem r223_36 : At call ac_223 36 [a0, a1, a2, a3] st h Q ↔ At call ac_223 37 [a0, a1, a2, a3] (vI 1 :: st) h Q := At_next rfl
theorem r223_37 : At call ac_223 37 [a0, a1, a2, a3] (vI y :: vI x :: st) h Q ↔ At call ac_223 38 [a0, a1, a2, a3] (vI (wr (x - y)) :: st) h Q := At_next rfl
theorem r223_38 : At call ac_223 38 [a0, a1, a2, a3] (vI x :: vR g 27 :: st) h Q ↔ At call ac_223 41 [a0, a1, a2, a3] st (up3 h g 27 13 x) Q := At_next rfl
theorem r223_41 : At call ac_223 41 [vR g m, a1, a2, a3] st h Q ↔ At call ac_223 42 [vR g m, a1, a2, a3] (vR g m :: st) h Q := At_next rfl
theorem r223_42 : At call ac_223 42 [vR g m, a1, a2, a3] st h Q ↔ At call ac_223 43 [vR g m, a1, a2, a3] (vR g m :: st) h Q := At_next rfl
theorem r223_43 : At call ac_223 43 [a0, a1, a2, a3] st h Q ↔ At call ac_223 44 [a0, a1, a2, a3] (vI 0 :: st) h Q := At_next rfl
theorem r223_44 : At call ac_223 44 [a0, a1, a2, a3] (b1 :: b0 :: st) h Q ↔ st.length ≤ 4 ∧ ∃ v h1, call 203 [b0, b1] h (some v) h1 ∧ At call ac_223 47 [a0, a1, a2, a3] (v :: st) h1 Q := At_gcall rfl
theorem r223_47 : At call ac_223 47 [a0, a1, a2, a3] (b1 :: b0 :: st) h Q ↔ st.length ≤ 4 ∧ ∃ h1, call 189 [b0, b1] h none h1 ∧ At call ac_223 50 [a0, a1, a2, a3] st h1 Q := At_gcallv rfl
theorem r223_50 : At call ac_223 50 [a0, a1, a2, vI x] st h Q ↔ At call ac_223 53 [a0, a1, a2, vI (wr (x + 1))] st h Q := At_next rfl
theorem r223_53 : At call ac_223 53 [a0, a1, a2, a3] st h Q ↔ At call ac_223 25 [a0, a1, a2, a3] st h Q := At_next rfl
theorem r223_56 : At call ac_223 56 [vR g m, a1, a2, a3] st h Q ↔ At call ac_223 57 [vR g m, a1, a2, a3] (vR g m :: st) h Q := At_next rfl
theorem r223_57 : At call ac_223 57 [a0, a1, a2, a3] (vR g 27 :: st) h Q ↔ At call ac_223 60 [a0, a1, a2, a3] (vI (h g 27 10) :: st) h Q := At_next rfl
theorem r223_60 : At call ac_223 60 [a0, a1, vI x, a3] st h Q ↔ At call ac_223 61 [a0, a1, vI x, a3] (vI x :: st) h Q := At_next rfl
theorem r223_61 : At call ac_223 61 [a0, a1, a2, a3] (vI y :: vI x :: st) h Q ↔ At call ac_223 62 [a0, a1, a2, a3] (vI (wr (x - y)) :: st) h Q := At_next rfl
theorem r223_62 : At call ac_223 62 [a0, a1, a2, a3] [vI x] h Q ↔ Q (some (vI x)) h := At_ret rfl
theorem r224_0 : At call ac_224 0 [vR g m, a1, a2] st h Q ↔ At call ac_224 1 [vR g m, a1, a2] (vR g m :: st) h Q := At_next rfl
theorem r224_1 : At call ac_224 1 [a0, a1, a2] (vR g 27 :: st) h Q ↔ At call ac_224 4 [a0, a1, a2] (vI (h g 27 16) :: st) h Q := At_next rfl
theorem r224_4 : At call ac_224 4 [a0, a1, a2] (vI x :: st) h Q ↔ At call ac_224 5 [a0, a1, vI x] st h Q := At_next rfl
theorem r224_5 : At call ac_224 5 [vR g m, a1, a2] st h Q ↔ At call ac_224 6 [vR g m, a1, a2] (vR g m :: st) h Q := At_next rfl
theorem r224_6 : At call ac_224 6 [a0, vI x, a2] st h Q ↔ At call ac_224 7 [a0, vI x, a2] (vI x :: st) h Q := At_next rfl
theorem r224_7 : At call ac_224 7 [a0, a1, a2] (vI x :: vR g 27 :: st) h Q ↔ At call ac_224 10 [a0, a1, a2] st (up3 h g 27 16 x) Q := At_next rfl
theorem r224_10 : At call ac_224 10 [a0, a1, vI x] st h Q ↔ At call ac_224 11 [a0, a1, vI x] (vI x :: st) h Q := At_next rfl
theorem r224_11 : At call ac_224 11 [a0, a1, a2] [vI x] h Q ↔ Q (some (vI x)) h := At_ret rfl
theorem r225_0 : At call ac_225 0 [vR g m, a1] st h Q ↔ At call ac_225 1 [vR g m, a1] (vR g m :: st) h Q := At_next rfl
theorem r225_1 : At call ac_225 1 [a0, a1] (vR g 27 :: st) h Q ↔ At call ac_225 4 [a0, a1] (vI (h g 27 21) :: st) h Q := At_next rfl
theorem r225_4 : At call ac_225 4 [a0, a1] st h Q ↔ At call ac_225 6 [a0, a1] (vI 20 :: st) h Q := At_next rfl
theorem r225_6 : At call ac_225 6 [a0, a1] (vI y :: vI x :: st) h Q ↔ if x < y then At call ac_225 9 [a0, a1] st h Q else At call ac_225 19 [a0, a1] st h Q := At_br rfl
theorem r225_9 : At call ac_225 9 [vR g m, a1] st h Q ↔ At call ac_225 10 [vR g m, a1] (vR g m :: st) h Q := At_next rfl
theorem r225_10 : At call ac_225 10 [a0, a1] (vR g 27 :: st) h Q ↔ At call ac_225 13 [a0, a1] (vR g 32 :: st) h Q := At_next rfl
theorem r225_13 : At call ac_225 13 [vR g m, a1] st h Q ↔ At call ac_225 14 [vR g m, a1] (vR g m :: st) h Q := At_next rfl
theorem r225_14 : At call ac_225 14 [a0, a1] (vR g 27 :: st) h Q ↔ At call ac_225 17 [a0, a1] (vI (h g 27 21) :: st) h Q := At_next rfl
theorem r225_17 : At call ac_225 17 [a0, vI x] st h Q ↔ At call ac_225 18 [a0, vI x] (vI x :: st) h Q := At_next rfl
theorem r225_18 : At call ac_225 18 [a0, a1] (vI y :: vI x :: vR g m :: st) h Q ↔ (inA h m 0 x ∧ m ≠ 37) ∧ At call ac_225 19 [a0, a1] st (up3 h g m x.toNat y) Q := At_guard rfl
theorem r225_19 : At call ac_225 19 [vR g m, a1] st h Q ↔ At call ac_225 20 [vR g m, a1] (vR g m :: st) h Q := At_next rfl
theorem r225_20 : At call ac_225 20 [a0, a1] (vI x :: st) h Q ↔ At call ac_225 21 [a0, a1] (vI x :: vI x :: st) h Q := At_next rfl
theorem r225_20r : At call ac_225 20 [a0, a1] (.inr (.inr v) :: st) h Q ↔ At call ac_225 21 [a0, a1] (.inr (.inr v) :: .inr (.inr v) :: st) h Q := At_next rfl
theorem r225_21 : At call ac_225 21 [a0, a1] (vR g 27 :: st) h Q ↔ At call ac_225 24 [a0, a1] (vI (h g 27 21) :: st) h Q := At_next rfl
theorem r225_24 : At call ac_225 24 [a0, a1] st h Q ↔ At call ac_225 25 [a0, a1] (vI 1 :: st) h Q := At_next rfl
theorem r225_25 : At call ac_225 25 [a0, a1] (vI y :: vI x :: st) h Q ↔ At call ac_225 26 [a0, a1] (vI (wr (x + y)) :: st) h Q := At_next rfl
theorem r225_26 : At call ac_225 26 [a0, a1] (vI x :: vR g 27 :: st) h Q ↔ At call ac_225 29 [a0, a1] st (up3 h g 27 21 x) Q := At_next rfl
theorem r225_29 : At call ac_225 29 [a0, a1] [] h Q ↔ Q none h := At_ret rfl
theorem r226_0 : At call ac_226 0 [vR g m, a1, a2, a3, a4] st h Q ↔ At call ac_226 1 [vR g m, a1, a2, a3, a4] (vR g m :: st) h Q := At_next rfl
theorem r226_1 : At call ac_226 1 [a0, a1, a2, a3, a4] (vR g 27 :: st) h Q ↔ At call ac_226 4 [a0, a1, a2, a3, a4] (vR g 20 :: st) h Q := At_next rfl
theorem r226_4 : At call ac_226 4 [a0, vI x, a2, a3, a4] st h Q ↔ At call ac_226 5 [a0, vI x, a2, a3, a4] (vI x :: st) h Q := At_next rfl
theorem r226_5 : At call ac_226 5 [a0, a1, a2, a3, a4] (vI x :: vR g m :: st) h Q ↔ inA h m 0 x ∧ At call ac_226 6 [a0, a1, a2, a3, a4] (vI (h g m x.toNat) :: st) h Q := At_guard rfl
theorem r226_6 : At call ac_226 6 [a0, a1, a2, a3, a4] (vI x :: st) h Q ↔ At call ac_226 7 [a0, a1, a2, vI x, a4] st h Q := At_next rfl
theorem r226_7 : At call ac_226 7 [a0, a1, a2, vI x, a4] st h Q ↔ At call ac_226 8 [a0, a1, a2, vI x, a4] (vI x :: st) h Q := At_next rfl
theorem r226_8 : At call ac_226 8 [a0, a1, a2, a3, a4] st h Q ↔ At call ac_226 10 [a0, a1, a2, a3, a4] (vI 6 :: st) h Q := At_next rfl
theorem r226_10 : At call ac_226 10 [a0, a1, a2, a3, a4] (vI y :: vI x :: st) h Q ↔ if x = y then At call ac_226 13 [a0, a1, a2, a3, a4] st h Q else At call ac_226 19 [a0, a1, a2, a3, a4] st h Q := At_br rfl
theorem r226_13 : At call ac_226 13 [vR g m, a1, a2, a3, a4] st h Q ↔ At call ac_226 14 [vR g m, a1, a2, a3, a4] (vR g m :: st) h Q := At_next rfl
theorem r226_14 : At call ac_226 14 [a0, a1, a2, a3, a4] st h Q ↔ At call ac_226 16 [a0, a1, a2, a3, a4] (vI 70 :: st) h Q := At_next rfl
theorem r226_16 : At call ac_226 16 [a0, a1, a2, a3, a4] (b1 :: b0 :: st) h Q ↔ st.length ≤ 4 ∧ ∃ h1, call 225 [b0, b1] h none h1 ∧ At call ac_226 19 [a0, a1, a2, a3, a4] st h1 Q := At_gcallv rfl
theorem r226_19 : At call ac_226 19 [a0, a1, a2, vI x, a4] st h Q ↔ At call ac_226 20 [a0, a1, a2, vI x, a4] (vI x :: st) h Q := At_next rfl
theorem r226_20 : At call ac_226 20 [a0, a1, a2, a3, a4] st h Q ↔ At call ac_226 21 [a0, a1, a2, a3, a4] (vI 4 :: st) h Q := At_next rfl
theorem r226_21 : At call ac_226 21 [a0, a1, a2, a3, a4] (vI y :: vI x :: st) h Q ↔ if x = y then At call ac_226 30 [a0, a1, a2, a3, a4] st h Q else At call ac_226 24 [a0, a1, a2, a3, a4] st h Q := At_br rfl
theorem r226_24 : At call ac_226 24 [a0, a1, a2, vI x, a4] st h Q ↔ At call ac_226 25 [a0, a1, a2, vI x, a4] (vI x :: st) h Q := At_next rfl
theorem r226_25 : At call ac_226 25 [a0, a1, a2, a3, a4] st h Q ↔ At call ac_226 27 [a0, a1, a2, a3, a4] (vI 6 :: st) h Q := At_next rfl
theorem r226_27 : At call ac_226 27 [a0, a1, a2, a3, a4] (vI y :: vI x :: st) h Q ↔ if x = y then At call ac_226 30 [a0, a1, a2, a3, a4] st h Q else At call ac_226 36 [a0, a1, a2, a3, a4] st h Q := At_br rfl
theorem r226_30 : At call ac_226 30 [vR g m, a1, a2, a3, a4] st h Q ↔ At call ac_226 31 [vR g m, a1, a2, a3, a4] (vR g m :: st) h Q := At_next rfl
theorem r226_31 : At call ac_226 31 [a0, a1, a2, a3, a4] st h Q ↔ At call ac_226 33 [a0, a1, a2, a3, a4] (vI 51 :: st) h Q := At_next rfl
theorem r226_33 : At call ac_226 33 [a0, a1, a2, a3, a4] (b1 :: b0 :: st) h Q ↔ st.length ≤ 4 ∧ ∃ h1, call 225 [b0, b1] h none h1 ∧ At call ac_226 36 [a0, a1, a2, a3, a4] st h1 Q := At_gcallv rfl
theorem r226_36 : At call ac_226 36 [a0, a1, a2, vI x, a4] st h Q ↔ At call ac_226 37 [a0, a1, a2, vI x, a4] (vI x :: st) h Q := At_next rfl
theorem r226_37 : At call ac_226 37 [a0, a1, a2, a3, a4] st h Q ↔ At call ac_226 38 [a0, a1, a2, a3, a4] (vI 1 :: st) h Q := At_next rfl
theorem r226_38 : At call ac_226 38 [a0, a1, a2, a3, a4] (vI y :: vI x :: st) h Q ↔ if x = y then At call ac_226 46 [a0, a1, a2, a3, a4] st h Q else At call ac_226 41 [a0, a1, a2, a3, a4] st h Q := At_br rfl
theorem r226_41 : At call ac_226 41 [a0, a1, a2, vI x, a4] st h Q ↔ At call ac_226 42 [a0, a1, a2, vI x, a4] (vI x :: st) h Q := At_next rfl
theorem r226_42 : At call ac_226 42 [a0, a1, a2, a3, a4] st h Q ↔ At call ac_226 43 [a0, a1, a2, a3, a4] (vI 3 :: st) h Q := At_next rfl
theorem r226_43 : At call ac_226 43 [a0, a1, a2, a3, a4] (vI y :: vI x :: st) h Q ↔ if x = y then At call ac_226 46 [a0, a1, a2, a3, a4] st h Q else At call ac_226 52 [a0, a1, a2, a3, a4] st h Q := At_br rfl
theorem r226_46 : At call ac_226 46 [vR g m, a1, a2, a3, a4] st h Q ↔ At call ac_226 47 [vR g m, a1, a2, a3, a4] (vR g m :: st) h Q := At_next rfl
theorem r226_47 : At call ac_226 47 [a0, a1, a2, a3, a4] st h Q ↔ At call ac_226 49 [a0, a1, a2, a3, a4] (vI 20 :: st) h Q := At_next rfl
theorem r226_49 : At call ac_226 49 [a0, a1, a2, a3, a4] (b1 :: b0 :: st) h Q ↔ st.length ≤ 4 ∧ ∃ h1, call 225 [b0, b1] h none h1 ∧ At call ac_226 52 [a0, a1, a2, a3, a4] st h1 Q := At_gcallv rfl
theorem r226_52 : At call ac_226 52 [vR g m, a1, a2, a3, a4] st h Q ↔ At call ac_226 53 [vR g m, a1, a2, a3, a4] (vR g m :: st) h Q := At_next rfl
theorem r226_53 : At call ac_226 53 [a0, a1, a2, a3, a4] st h Q ↔ At call ac_226 55 [a0, a1, a2, a3, a4] (vI 10 :: st) h Q := At_next rfl
theorem r226_55 : At call ac_226 55 [a0, a1, a2, a3, a4] (b1 :: b0 :: st) h Q ↔ st.length ≤ 4 ∧ ∃ h1, call 225 [b0, b1] h none h1 ∧ At call ac_226 58 [a0, a1, a2, a3, a4] st h1 Q := At_gcallv rfl
theorem r226_58 : At call ac_226 58 [a0, a1, vI x, a3, a4] st h Q ↔ At call ac_226 59 [a0, a1, vI x, a3, a4] (vI x :: st) h Q := At_next rfl
theorem r226_59 : At call ac_226 59 [a0, vI x, a2, a3, a4] st h Q ↔ At call ac_226 60 [a0, vI x, a2, a3, a4] (vI x :: st) h Q := At_next rfl
theorem r226_60 : At call ac_226 60 [a0, a1, a2, a3, a4] (vI y :: vI x :: st) h Q ↔ At call ac_226 61 [a0, a1, a2, a3, a4] (vI (wr (x + y)) :: st) h Q := At_next rfl
theorem r226_61 : At call ac_226 61 [a0, a1, a2, a3, a4] (vI x :: st) h Q ↔ At call ac_226 63 [a0, a1, a2, a3, vI x] st h Q := At_next rfl
theorem r226_63 : At call ac_226 63 [a0, a1, a2, vI x, a4] st h Q ↔ At call ac_226 64 [a0, a1, a2, vI x, a4] (vI x :: st) h Q := At_next rfl
theorem r226_64 : At call ac_226 64 [a0, a1, a2, a3, a4] st h Q ↔ At call ac_226 65 [a0, a1, a2, a3, a4] (vI 1 :: st) h Q := At_next rfl
theorem r226_65 : At call ac_226 65 [a0, a1, a2, a3, a4] (vI y :: vI x :: st) h Q ↔ if x = y then At call ac_226 73 [a0, a1, a2, a3, a4] st h Q else At call ac_226 68 [a0, a1, a2, a3, a4] st h Q := At_br rfl
theorem r226_68 : At call ac_226 68 [a0, a1, a2, vI x, a4] st h Q ↔ At call ac_226 69 [a0, a1, a2, vI x, a4] (vI x :: st) h Q := At_next rfl
theorem r226_69 : At call ac_226 69 [a0, a1, a2, a3, a4] st h Q ↔ At call ac_226 70 [a0, a1, a2, a3, a4] (vI 3 :: st) h Q := At_next rfl
theorem r226_70 : At call ac_226 70 [a0, a1, a2, a3, a4] (vI y :: vI x :: st) h Q ↔ if x = y then At call ac_226 73 [a0, a1, a2, a3, a4] st h Q else At call ac_226 83 [a0, a1, a2, a3, a4] st h Q := At_br rfl
theorem r226_73 : At call ac_226 73 [a0, a1, a2, a3, vI x] st h Q ↔ At call ac_226 75 [a0, a1, a2, a3, vI x] (vI x :: st) h Q := At_next rfl
theorem r226_75 : At call ac_226 75 [vR g m, a1, a2, a3, a4] st h Q ↔ At call ac_226 76 [vR g m, a1, a2, a3, a4] (vR g m :: st) h Q := At_next rfl
theorem r226_76 : At call ac_226 76 [a0, a1, a2, a3, a4] (vR g 27 :: st) h Q ↔ At call ac_226 79 [a0, a1, a2, a3, a4] (vR g 21 :: st) h Q := At_next rfl
theorem r226_79 : At call ac_226 79 [a0, vI x, a2, a3, a4] st h Q ↔ At call ac_226 80 [a0, vI x, a2, a3, a4] (vI x :: st) h Q := At_next rfl
theorem r226_80 : At call ac_226 80 [a0, a1, a2, a3, a4] (vI x :: vR g m :: st) h Q ↔ inA h m 0 x ∧ At call ac_226 81 [a0, a1, a2, a3, a4] (vI (h g m x.toNat) :: st) h Q := At_guard rfl
theorem r226_81 : At call ac_226 81 [a0, a1, a2, a3, a4] (vI y :: vI x :: st) h Q ↔ At call ac_226 82 [a0, a1, a2, a3, a4] (vI (wr (x + y)) :: st) h Q := At_next rfl
theorem r226_82 : At call ac_226 82 [a0, a1, a2, a3, a4] [vI x] h Q ↔ Q (some (vI x)) h := At_ret rfl
theorem r226_83 : At call ac_226 83 [a0, a1, a2, vI x, a4] st h Q ↔ At call ac_226 84 [a0, a1, a2, vI x, a4] (vI x :: st) h Q := At_next rfl
theorem r226_84 : At call ac_226 84 [a0, a1, a2, a3, a4] st h Q ↔ At call ac_226 85 [a0, a1, a2, a3, a4] (vI 4 :: st) h Q := At_next rfl
theorem r226_85 : At call ac_226 85 [a0, a1, a2, a3, a4] (vI y :: vI x :: st) h Q ↔ if x = y then At call ac_226 88 [a0, a1, a2, a3, a4] st h Q else At call ac_226 95 [a0, a1, a2, a3, a4] st h Q := At_br rfl
theorem r226_88 : At call ac_226 88 [a0, a1, a2, a3, vI x] st h Q ↔ At call ac_226 90 [a0, a1, a2, a3, vI x] (vI x :: st) h Q := At_next rfl
theorem r226_90 : At call ac_226 90 [a0, vI x, a2, a3, a4] st h Q ↔ At call ac_226 91 [a0, vI x, a2, a3, a4] (vI x :: st) h Q := At_next rfl
theorem r226_91 : At call ac_226 91 [a0, a1, a2, a3, a4] (vI y :: vI x :: st) h Q ↔ At call ac_226 92 [a0, a1, a2, a3, a4] (vI (wr (x - y)) :: st) h Q := At_next rfl
theorem r226_92 : At call ac_226 92 [a0, a1, a2, a3, a4] st h Q ↔ At call ac_226 112 [a0, a1, a2, a3, a4] st h Q := At_next rfl
theorem r226_95 : At call ac_226 95 [a0, a1, a2, vI x, a4] st h Q ↔ At call ac_226 96 [a0, a1, a2, vI x, a4] (vI x :: st) h Q := At_next rfl
theorem r226_96 : At call ac_226 96 [a0, a1, a2, a3, a4] st h Q ↔ At call ac_226 98 [a0, a1, a2, a3, a4] (vI 6 :: st) h Q := At_next rfl
theorem r226_98 : At call ac_226 98 [a0, a1, a2, a3, a4] (vI y :: vI x :: st) h Q ↔ if x = y then At call ac_226 101 [a0, a1, a2, a3, a4] st h Q else At call ac_226 110 [a0, a1, a2, a3, a4] st h Q := At_br rfl
theorem r226_101 : At call ac_226 101 [a0, a1, a2, a3, vI x] st h Q ↔ At call ac_226 103 [a0, a1, a2, a3, vI x] (vI x :: st) h Q := At_next rfl
theorem r226_103 : At call ac_226 103 [a0, vI x, a2, a3, a4] st h Q ↔ At call ac_226 104 [a0, vI x, a2, a3, a4] (vI x :: st) h Q := At_next rfl
theorem r226_104 : At call ac_226 104 [a0, a1, a2, a3, a4] (vI y :: vI x :: st) h Q ↔ At call ac_226 105 [a0, a1, a2, a3, a4] (vI (wr (x - y)) :: st) h Q := At_next rfl
theorem r226_105 : At call ac_226 105 [a0, a1, a2, a3, a4] st h Q ↔ At call ac_226 106 [a0, a1, a2, a3, a4] (vI 2 :: st) h Q := At_next rfl
theorem r226_106 : At call ac_226 106 [a0, a1, a2, a3, a4] (vI y :: vI x :: st) h Q ↔ At call ac_226 107 [a0, a1, a2, a3, a4] (vI (wr (x * y)) :: st) h Q := At_next rfl
theorem r226_107 : At call ac_226 107 [a0, a1, a2, a3, a4] st h Q ↔ At call ac_226 112 [a0, a1, a2, a3, a4] st h Q := At_next rfl
theorem r226_110 : At call ac_226 110 [a0, a1, a2, a3, vI x] st h Q ↔ At call ac_226 112 [a0, a1, a2, a3, vI x] (vI x :: st) h Q := At_next rfl
theorem r226_112 : At call ac_226 112 [a0, a1, a2, a3, a4] [vI x] h Q ↔ Q (some (vI x)) h := At_ret rfl
theorem r227_0 : At call ac_227 0 [vR g m, a1, a2, a3, a4, a5] st h Q ↔ At call ac_227 1 [vR g m, a1, a2, a3, a4, a5] (vR g m :: st) h Q := At_next rfl
theorem r227_1 : At call ac_227 1 [a0, a1, a2, a3, a4, a5] (vR g 27 :: st) h Q ↔ At call ac_227 4 [a0, a1, a2, a3, a4, a5] (vR g 20 :: st) h Q := At_next rfl
theorem r227_4 : At call ac_227 4 [a0, vI x, a2, a3, a4, a5] st h Q ↔ At call ac_227 5 [a0, vI x, a2, a3, a4, a5] (vI x :: st) h Q := At_next rfl
theorem r227_5 : At call ac_227 5 [a0, a1, a2, a3, a4, a5] (vI x :: vR g m :: st) h Q ↔ inA h m 0 x ∧ At call ac_227 6 [a0, a1, a2, a3, a4, a5] (vI (h g m x.toNat) :: st) h Q := At_guard rfl
theorem r227_6 : At call ac_227 6 [a0, a1, a2, a3, a4, a5] (vI x :: st) h Q ↔ At call ac_227 7 [a0, a1, a2, vI x, a4, a5] st h Q := At_next rfl
theorem r227_7 : At call ac_227 7 [a0, a1, vI x, a3, a4, a5] st h Q ↔ At call ac_227 8 [a0, a1, vI x, a3, a4, a5] (vI x :: st) h Q := At_next rfl
theorem r227_8 : At call ac_227 8 [a0, a1, a2, a3, a4, a5] (vI x :: st) h Q ↔ At call ac_227 10 [a0, a1, a2, a3, vI x, a5] st h Q := At_next rfl
theorem r227_10 : At call ac_227 10 [a0, a1, a2, vI x, a4, a5] st h Q ↔ At call ac_227 11 [a0, a1, a2, vI x, a4, a5] (vI x :: st) h Q := At_next rfl
theorem r227_11 : At call ac_227 11 [a0, a1, a2, a3, a4, a5] st h Q ↔ At call ac_227 13 [a0, a1, a2, a3, a4, a5] (vI 6 :: st) h Q := At_next rfl
theorem r227_13 : At call ac_227 13 [a0, a1, a2, a3, a4, a5] (vI y :: vI x :: st) h Q ↔ if x = y then At call ac_227 16 [a0, a1, a2, a3, a4, a5] st h Q else At call ac_227 32 [a0, a1, a2, a3, a4, a5] st h Q := At_br rfl
theorem r227_16 : At call ac_227 16 [vR g m, a1, a2, a3, a4, a5] st h Q ↔ At call ac_227 17 [vR g m, a1, a2, a3, a4, a5] (vR g m :: st) h Q := At_next rfl
theorem r227_17 : At call ac_227 17 [a0, a1, a2, a3, a4, a5] st h Q ↔ At call ac_227 19 [a0, a1, a2, a3, a4, a5] (vI 71 :: st) h Q := At_next rfl
theorem r227_19 : At call ac_227 19 [a0, a1, a2, a3, a4, a5] (b1 :: b0 :: st) h Q ↔ st.length ≤ 4 ∧ ∃ h1, call 225 [b0, b1] h none h1 ∧ At call ac_227 22 [a0, a1, a2, a3, a4, a5] st h1 Q := At_gcallv rfl
theorem r227_22 : At call ac_227 22 [a0, a1, vI x, a3, a4, a5] st h Q ↔ At call ac_227 23 [a0, a1, vI x, a3, a4, a5] (vI x :: st) h Q := At_next rfl
theorem r227_23 : At call ac_227 23 [vR g m, a1, a2, a3, a4, a5] st h Q ↔ At call ac_227 24 [vR g m, a1, a2, a3, a4, a5] (vR g m :: st) h Q := At_next rfl
theorem r227_24 : At call ac_227 24 [a0, a1, a2, a3, a4, a5] (vR g 27 :: st) h Q ↔ At call ac_227 27 [a0, a1, a2, a3, a4, a5] (vR g 21 :: st) h Q := At_next rfl
theorem r227_27 : At call ac_227 27 [a0, vI x, a2, a3, a4, a5] st h Q ↔ At call ac_227 28 [a0, vI x, a2, a3, a4, a5] (vI x :: st) h Q := At_next rfl
theorem r227_28 : At call ac_227 28 [a0, a1, a2, a3, a4, a5] (vI x :: vR g m :: st) h Q ↔ inA h m 0 x ∧ At call ac_227 29 [a0, a1, a2, a3, a4, a5] (vI (h g m x.toNat) :: st) h Q := At_guard rfl
theorem r227_29 : At call ac_227 29 [a0, a1, a2, a3, a4, a5] (vI y :: vI x :: st) h Q ↔ At call ac_227 30 [a0, a1, a2, a3, a4, a5] (vI (wr (x - y)) :: st) h Q := At_next rfl
theorem r227_30 : At call ac_227 30 [a0, a1, a2, a3, a4, a5] (vI x :: st) h Q ↔ At call ac_227 32 [a0, a1, a2, a3, vI x, a5] st h Q := At_next rfl
theorem r227_32 : At call ac_227 32 [a0, a1, a2, vI x, a4, a5] st h Q ↔ At call ac_227 33 [a0, a1, a2, vI x, a4, a5] (vI x :: st) h Q := At_next rfl
theorem r227_33 : At call ac_227 33 [a0, a1, a2, a3, a4, a5] st h Q ↔ At call ac_227 34 [a0, a1, a2, a3, a4, a5] (vI 3 :: st) h Q := At_next rfl
theorem r227_34 : At call ac_227 34 [a0, a1, a2, a3, a4, a5] (vI y :: vI x :: st) h Q ↔ if x = y then At call ac_227 37 [a0, a1, a2, a3, a4, a5] st h Q else At call ac_227 48 [a0, a1, a2, a3, a4, a5] st h Q := At_br rfl
theorem r227_37 : At call ac_227 37 [vR g m, a1, a2, a3, a4, a5] st h Q ↔ At call ac_227 38 [vR g m, a1, a2, a3, a4, a5] (vR g m :: st) h Q := At_next rfl
theorem r227_38 : At call ac_227 38 [a0, a1, a2, a3, a4, a5] st h Q ↔ At call ac_227 40 [a0, a1, a2, a3, a4, a5] (vI 40 :: st) h Q := At_next rfl
theorem r227_40 : At call ac_227 40 [a0, a1, a2, a3, a4, a5] (b1 :: b0 :: st) h Q ↔ st.length ≤ 4 ∧ ∃ h1, call 225 [b0, b1] h none h1 ∧ At call ac_227 43 [a0, a1, a2, a3, a4, a5] st h1 Q := At_gcallv rfl
theorem r227_43 : At call ac_227 43 [a0, a1, vI x, a3, a4, a5] st h Q ↔ At call ac_227 44 [a0, a1, vI x, a3, a4, a5] (vI x :: st) h Q := At_next rfl
theorem r227_44 : At call ac_227 44 [a0, a1, a2, a3, a4, a5] st h Q ↔ At call ac_227 45 [a0, a1, a2, a3, a4, a5] (vI 1 :: st) h Q := At_next rfl
theorem r227_45 : At call ac_227 45 [a0, a1, a2, a3, a4, a5] (vI y :: vI x :: st) h Q ↔ At call ac_227 46 [a0, a1, a2, a3, a4, a5] (vI (wr (x + y)) :: st) h Q := At_next rfl
theorem r227_46 : At call ac_227 46 [a0, a1, a2, a3, a4, a5] (vI x :: st) h Q ↔ At call ac_227 48 [a0, a1, a2, a3, vI x, a5] st h Q := At_next rfl
theorem r227_48 : At call ac_227 48 [a0, a1, a2, vI x, a4, a5] st h Q ↔ At call ac_227 49 [a0, a1, a2, vI x, a4, a5] (vI x :: st) h Q := At_next rfl
theorem r227_49 : At call ac_227 49 [a0, a1, a2, a3, a4, a5] st h Q ↔ At call ac_227 50 [a0, a1, a2, a3, a4, a5] (vI 2 :: st) h Q := At_next rfl
theorem r227_50 : At call ac_227 50 [a0, a1, a2, a3, a4, a5] (vI y :: vI x :: st) h Q ↔ if x = y then At call ac_227 58 [a0, a1, a2, a3, a4, a5] st h Q else At call ac_227 53 [a0, a1, a2, a3, a4, a5] st h Q := At_br rfl
theorem r227_53 : At call ac_227 53 [a0, a1, a2, vI x, a4, a5] st h Q ↔ At call ac_227 54 [a0, a1, a2, vI x, a4, a5] (vI x :: st) h Q := At_next rfl
theorem r227_54 : At call ac_227 54 [a0, a1, a2, a3, a4, a5] st h Q ↔ At call ac_227 55 [a0, a1, a2, a3, a4, a5] (vI 5 :: st) h Q := At_next rfl
theorem r227_55 : At call ac_227 55 [a0, a1, a2, a3, a4, a5] (vI y :: vI x :: st) h Q ↔ if x = y then At call ac_227 58 [a0, a1, a2, a3, a4, a5] st h Q else At call ac_227 64 [a0, a1, a2, a3, a4, a5] st h Q := At_br rfl
theorem r227_58 : At call ac_227 58 [vR g m, a1, a2, a3, a4, a5] st h Q ↔ At call ac_227 59 [vR g m, a1, a2, a3, a4, a5] (vR g m :: st) h Q := At_next rfl
theorem r227_59 : At call ac_227 59 [a0, a1, a2, a3, a4, a5] st h Q ↔ At call ac_227 61 [a0, a1, a2, a3, a4, a5] (vI 30 :: st) h Q := At_next rfl
theorem r227_61 : At call ac_227 61 [a0, a1, a2, a3, a4, a5] (b1 :: b0 :: st) h Q ↔ st.length ≤ 4 ∧ ∃ h1, call 225 [b0, b1] h none h1 ∧ At call ac_227 64 [a0, a1, a2, a3, a4, a5] st h1 Q := At_gcallv rfl
theorem r227_64 : At call ac_227 64 [vR g m, a1, a2, a3, a4, a5] st h Q ↔ At call ac_227 65 [vR g m, a1, a2, a3, a4, a5] (vR g m :: st) h Q := At_next rfl
theorem r227_65 : At call ac_227 65 [a0, a1, a2, a3, a4, a5] st h Q ↔ At call ac_227 67 [a0, a1, a2, a3, a4, a5] (vI 11 :: st) h Q := At_next rfl
theorem r227_67 : At call ac_227 67 [a0, a1, a2, a3, a4, a5] (b1 :: b0 :: st) h Q ↔ st.length ≤ 4 ∧ ∃ h1, call 225 [b0, b1] h none h1 ∧ At call ac_227 70 [a0, a1, a2, a3, a4, a5] st h1 Q := At_gcallv rfl
theorem r227_70 : At call ac_227 70 [vR g m, a1, a2, a3, a4, a5] st h Q ↔ At call ac_227 71 [vR g m, a1, a2, a3, a4, a5] (vR g m :: st) h Q := At_next rfl
theorem r227_71 : At call ac_227 71 [a0, vI x, a2, a3, a4, a5] st h Q ↔ At call ac_227 72 [a0, vI x, a2, a3, a4, a5] (vI x :: st) h Q := At_next rfl
theorem r227_72 : At call ac_227 72 [a0, a1, a2, a3, vI x, a5] st h Q ↔ At call ac_227 74 [a0, a1, a2, a3, vI x, a5] (vI x :: st) h Q := At_next rfl
theorem r227_74 : At call ac_227 74 [a0, a1, a2, a3, a4, a5] (b2 :: b1 :: b0 :: st) h Q ↔ st.length ≤ 4 ∧ ∃ v h1, call 226 [b0, b1, b2] h (some v) h1 ∧ At call ac_227 77 [a0, a1, a2, a3, a4, a5] (v :: st) h1 Q := At_gcall rfl
theorem r227_77 : At call ac_227 77 [a0, a1, a2, a3, a4, a5] st h Q ↔ At call ac_227 78 [a0, a1, a2, a3, a4, a5] (vI 2 :: st) h Q := At_next rfl
theorem r227_78 : At call ac_227 78 [a0, a1, a2, a3, a4, a5] (vI y :: vI x :: st) h Q ↔ At call ac_227 79 [a0, a1, a2, a3, a4, a5] (vI (wr (x * y)) :: st) h Q := At_next rfl
theorem r227_79 : At call ac_227 79 [a0, a1, a2, a3, a4, a5] (vI x :: st) h Q ↔ At call ac_227 81 [a0, a1, a2, a3, a4, vI x] st h Q := At_next rfl
theorem r227_81 : At call ac_227 81 [a0, a1, a2, vI x, a4, a5] st h Q ↔ At call ac_227 82 [a0, a1, a2, vI x, a4, a5] (vI x :: st) h Q := At_next rfl
theorem r227_82 : At call ac_227 82 [a0, a1, a2, a3, a4, a5] st h Q ↔ At call ac_227 83 [a0, a1, a2, a3, a4, a5] (vI 2 :: st) h Q := At_next rfl
theorem r227_83 : At call ac_227 83 [a0, a1, a2, a3, a4, a5] (vI y :: vI x :: st) h Q ↔ if x = y then At call ac_227 91 [a0, a1, a2, a3, a4, a5] st h Q else At call ac_227 86 [a0, a1, a2, a3, a4, a5] st h Q := At_br rfl
theorem r227_86 : At call ac_227 86 [a0, a1, a2, vI x, a4, a5] st h Q ↔ At call ac_227 87 [a0, a1, a2, vI x, a4, a5] (vI x :: st) h Q := At_next rfl
theorem r227_87 : At call ac_227 87 [a0, a1, a2, a3, a4, a5] st h Q ↔ At call ac_227 88 [a0, a1, a2, a3, a4, a5] (vI 5 :: st) h Q := At_next rfl
theorem r227_88 : At call ac_227 88 [a0, a1, a2, a3, a4, a5] (vI y :: vI x :: st) h Q ↔ if x = y then At call ac_227 91 [a0, a1, a2, a3, a4, a5] st h Q else At call ac_227 98 [a0, a1, a2, a3, a4, a5] st h Q := At_br rfl
theorem r227_91 : At call ac_227 91 [a0, a1, a2, a3, a4, vI x] st h Q ↔ At call ac_227 93 [a0, a1, a2, a3, a4, vI x] (vI x :: st) h Q := At_next rfl
theorem r227_93 : At call ac_227 93 [a0, a1, a2, a3, a4, a5] st h Q ↔ At call ac_227 94 [a0, a1, a2, a3, a4, a5] (vI 3 :: st) h Q := At_next rfl
theorem r227_94 : At call ac_227 94 [a0, a1, a2, a3, a4, a5] (vI y :: vI x :: st) h Q ↔ At call ac_227 95 [a0, a1, a2, a3, a4, a5] (vI (wr (x * y)) :: st) h Q := At_next rfl
theorem r227_95 : At call ac_227 95 [a0, a1, a2, a3, a4, a5] st h Q ↔ At call ac_227 100 [a0, a1, a2, a3, a4, a5] st h Q := At_next rfl
theorem r227_98 : At call ac_227 98 [a0, a1, a2, a3, a4, vI x] st h Q ↔ At call ac_227 100 [a0, a1, a2, a3, a4, vI x] (vI x :: st) h Q := At_next rfl
theorem r227_100 : At call ac_227 100 [a0, a1, a2, a3, a4, a5] [vI x] h Q ↔ Q (some (vI x)) h := At_ret rfl
theorem r228_0 : At call ac_228 0 [vR g m, a1, a2, a3, a4, a5] st h Q ↔ At call ac_228 1 [vR g m, a1, a2, a3, a4, a5] (vR g m :: st) h Q := At_next rfl
theorem r228_1 : At call ac_228 1 [a0, a1, a2, a3, a4, a5] (vR g 27 :: st) h Q ↔ At call ac_228 4 [a0, a1, a2, a3, a4, a5] (vR g 20 :: st) h Q := At_next rfl
theorem r228_4 : At call ac_228 4 [a0, vI x, a2, a3, a4, a5] st h Q ↔ At call ac_228 5 [a0, vI x, a2, a3, a4, a5] (vI x :: st) h Q := At_next rfl
theorem r228_5 : At call ac_228 5 [a0, a1, a2, a3, a4, a5] (vI x :: vR g m :: st) h Q ↔ inA h m 0 x ∧ At call ac_228 6 [a0, a1, a2, a3, a4, a5] (vI (h g m x.toNat) :: st) h Q := At_guard rfl
theorem r228_6 : At call ac_228 6 [a0, a1, a2, a3, a4, a5] (vI x :: st) h Q ↔ At call ac_228 7 [a0, a1, a2, vI x, a4, a5] st h Q := At_next rfl
theorem r228_7 : At call ac_228 7 [a0, a1, a2, vI x, a4, a5] st h Q ↔ At call ac_228 8 [a0, a1, a2, vI x, a4, a5] (vI x :: st) h Q := At_next rfl
theorem r228_8 : At call ac_228 8 [a0, a1, a2, a3, a4, a5] st h Q ↔ At call ac_228 9 [a0, a1, a2, a3, a4, a5] (vI 4 :: st) h Q := At_next rfl
theorem r228_9 : At call ac_228 9 [a0, a1, a2, a3, a4, a5] (vI y :: vI x :: st) h Q ↔ if x = y then At call ac_228 18 [a0, a1, a2, a3, a4, a5] st h Q else At call ac_228 12 [a0, a1, a2, a3, a4, a5] st h Q := At_br rfl
theorem r228_12 : At call ac_228 12 [a0, a1, a2, vI x, a4, a5] st h Q ↔ At call ac_228 13 [a0, a1, a2, vI x, a4, a5] (vI x :: st) h Q := At_next rfl
theorem r228_13 : At call ac_228 13 [a0, a1, a2, a3, a4, a5] st h Q ↔ At call ac_228 15 [a0, a1, a2, a3, a4, a5] (vI 6 :: st) h Q := At_next rfl
theorem r228_15 : At call ac_228 15 [a0, a1, a2, a3, a4, a5] (vI y :: vI x :: st) h Q ↔ if x = y then At call ac_228 18 [a0, a1, a2, a3, a4, a5] st h Q else At call ac_228 24 [a0, a1, a2, a3, a4, a5] st h Q := At_br rfl
theorem r228_18 : At call ac_228 18 [vR g m, a1, a2, a3, a4, a5] st h Q ↔ At call ac_228 19 [vR g m, a1, a2, a3, a4, a5] (vR g m :: st) h Q := At_next rfl
theorem r228_19 : At call ac_228 19 [a0, a1, a2, a3, a4, a5] st h Q ↔ At call ac_228 21 [a0, a1, a2, a3, a4, a5] (vI 50 :: st) h Q := At_next rfl
theorem r228_21 : At call ac_228 21 [a0, a1, a2, a3, a4, a5] (b1 :: b0 :: st) h Q ↔ st.length ≤ 4 ∧ ∃ h1, call 225 [b0, b1] h none h1 ∧ At call ac_228 24 [a0, a1, a2, a3, a4, a5] st h1 Q := At_gcallv rfl
theorem r228_24 : At call ac_228 24 [a0, a1, a2, vI x, a4, a5] st h Q ↔ At call ac_228 25 [a0, a1, a2, vI x, a4, a5] (vI x :: st) h Q := At_next rfl
theorem r228_25 : At call ac_228 25 [a0, a1, a2, a3, a4, a5] st h Q ↔ At call ac_228 26 [a0, a1, a2, a3, a4, a5] (vI 5 :: st) h Q := At_next rfl
theorem r228_26 : At call ac_228 26 [a0, a1, a2, a3, a4, a5] (vI y :: vI x :: st) h Q ↔ if x = y then At call ac_228 29 [a0, a1, a2, a3, a4, a5] st h Q else At call ac_228 35 [a0, a1, a2, a3, a4, a5] st h Q := At_br rfl
theorem r228_29 : At call ac_228 29 [vR g m, a1, a2, a3, a4, a5] st h Q ↔ At call ac_228 30 [vR g m, a1, a2, a3, a4, a5] (vR g m :: st) h Q := At_next rfl
theorem r228_30 : At call ac_228 30 [a0, a1, a2, a3, a4, a5] st h Q ↔ At call ac_228 32 [a0, a1, a2, a3, a4, a5] (vI 60 :: st) h Q := At_next rfl
theorem r228_32 : At call ac_228 32 [a0, a1, a2, a3, a4, a5] (b1 :: b0 :: st) h Q ↔ st.length ≤ 4 ∧ ∃ h1, call 225 [b0, b1] h none h1 ∧ At call ac_228 35 [a0, a1, a2, a3, a4, a5] st h1 Q := At_gcallv rfl
theorem r228_35 : At call ac_228 35 [vR g m, a1, a2, a3, a4, a5] st h Q ↔ At call ac_228 36 [vR g m, a1, a2, a3, a4, a5] (vR g m :: st) h Q := At_next rfl
theorem r228_36 : At call ac_228 36 [a0, a1, a2, a3, a4, a5] st h Q ↔ At call ac_228 38 [a0, a1, a2, a3, a4, a5] (vI 12 :: st) h Q := At_next rfl
theorem r228_38 : At call ac_228 38 [a0, a1, a2, a3, a4, a5] (b1 :: b0 :: st) h Q ↔ st.length ≤ 4 ∧ ∃ h1, call 225 [b0, b1] h none h1 ∧ At call ac_228 41 [a0, a1, a2, a3, a4, a5] st h1 Q := At_gcallv rfl
theorem r228_41 : At call ac_228 41 [vR g m, a1, a2, a3, a4, a5] st h Q ↔ At call ac_228 42 [vR g m, a1, a2, a3, a4, a5] (vR g m :: st) h Q := At_next rfl
theorem r228_42 : At call ac_228 42 [a0, vI x, a2, a3, a4, a5] st h Q ↔ At call ac_228 43 [a0, vI x, a2, a3, a4, a5] (vI x :: st) h Q := At_next rfl
theorem r228_43 : At call ac_228 43 [a0, a1, vI x, a3, a4, a5] st h Q ↔ At call ac_228 44 [a0, a1, vI x, a3, a4, a5] (vI x :: st) h Q := At_next rfl
theorem r228_44 : At call ac_228 44 [a0, a1, a2, a3, a4, a5] (b2 :: b1 :: b0 :: st) h Q ↔ st.length ≤ 4 ∧ ∃ v h1, call 227 [b0, b1, b2] h (some v) h1 ∧ At call ac_228 47 [a0, a1, a2, a3, a4, a5] (v :: st) h1 Q := At_gcall rfl
theorem r228_47 : At call ac_228 47 [a0, a1, a2, a3, a4, a5] (vI x :: st) h Q ↔ At call ac_228 49 [a0, a1, a2, a3, vI x, a5] st h Q := At_next rfl
theorem r228_49 : At call ac_228 49 [a0, a1, a2, a3, vI x, a5] st h Q ↔ At call ac_228 51 [a0, a1, a2, a3, vI x, a5] (vI x :: st) h Q := At_next rfl
theorem r228_51 : At call ac_228 51 [vR g m, a1, a2, a3, a4, a5] st h Q ↔ At call ac_228 52 [vR g m, a1, a2, a3, a4, a5] (vR g m :: st) h Q := At_next rfl
theorem r228_52 : At call ac_228 52 [a0, vI x, a2, a3, a4, a5] st h Q ↔ At call ac_228 53 [a0, vI x, a2, a3, a4, a5] (vI x :: st) h Q := At_next rfl
theorem r228_53 : At call ac_228 53 [a0, a1, vI x, a3, a4, a5] st h Q ↔ At call ac_228 54 [a0, a1, vI x, a3, a4, a5] (vI x :: st) h Q := At_next rfl
theorem r228_54 : At call ac_228 54 [vR g m, a1, a2, a3, a4, a5] st h Q ↔ At call ac_228 55 [vR g m, a1, a2, a3, a4, a5] (vR g m :: st) h Q := At_next rfl
theorem r228_55 : At call ac_228 55 [a0, a1, a2, a3, a4, a5] (vR g 27 :: st) h Q ↔ At call ac_228 58 [a0, a1, a2, a3, a4, a5] (vR g 21 :: st) h Q := At_next rfl
theorem r228_58 : At call ac_228 58 [a0, vI x, a2, a3, a4, a5] st h Q ↔ At call ac_228 59 [a0, vI x, a2, a3, a4, a5] (vI x :: st) h Q := At_next rfl
theorem r228_59 : At call ac_228 59 [a0, a1, a2, a3, a4, a5] (vI x :: vR g m :: st) h Q ↔ inA h m 0 x ∧ At call ac_228 60 [a0, a1, a2, a3, a4, a5] (vI (h g m x.toNat) :: st) h Q := At_guard rfl
theorem r228_60 : At call ac_228 60 [a0, a1, a2, a3, a4, a5] (vI y :: vI x :: st) h Q ↔ At call ac_228 61 [a0, a1, a2, a3, a4, a5] (vI (wr (x - y)) :: st) h Q := At_next rfl
theorem r228_61 : At call ac_228 61 [a0, a1, a2, a3, a4, a5] (b2 :: b1 :: b0 :: st) h Q ↔ st.length ≤ 4 ∧ ∃ v h1, call 226 [b0, b1, b2] h (some v) h1 ∧ At call ac_228 64 [a0, a1, a2, a3, a4, a5] (v :: st) h1 Q := At_gcall rfl
theorem r228_64 : At call ac_228 64 [a0, a1, a2, a3, a4, a5] (vI y :: vI x :: st) h Q ↔ At call ac_228 65 [a0, a1, a2, a3, a4, a5] (vI (opXor x y) :: st) h Q := At_next rfl
theorem r228_65 : At call ac_228 65 [a0, a1, a2, a3, a4, a5] (vI x :: st) h Q ↔ At call ac_228 67 [a0, a1, a2, a3, a4, vI x] st h Q := At_next rfl
theorem r228_67 : At call ac_228 67 [a0, a1, a2, vI x, a4, a5] st h Q ↔ At call ac_228 68 [a0, a1, a2, vI x, a4, a5] (vI x :: st) h Q := At_next rfl
theorem r228_68 : At call ac_228 68 [a0, a1, a2, a3, a4, a5] st h Q ↔ At call ac_228 69 [a0, a1, a2, a3, a4, a5] (vI 4 :: st) h Q := At_next rfl
theorem r228_69 : At call ac_228 69 [a0, a1, a2, a3, a4, a5] (vI y :: vI x :: st) h Q ↔ if x = y then At call ac_228 78 [a0, a1, a2, a3, a4, a5] st h Q else At call ac_228 72 [a0, a1, a2, a3, a4, a5] st h Q := At_br rfl
theorem r228_72 : At call ac_228 72 [a0, a1, a2, vI x, a4, a5] st h Q ↔ At call ac_228 73 [a0, a1, a2, vI x, a4, a5] (vI x :: st) h Q := At_next rfl
theorem r228_73 : At call ac_228 73 [a0, a1, a2, a3, a4, a5] st h Q ↔ At call ac_228 75 [a0, a1, a2, a3, a4, a5] (vI 6 :: st) h Q := At_next rfl
theorem r228_75 : At call ac_228 75 [a0, a1, a2, a3, a4, a5] (vI y :: vI x :: st) h Q ↔ if x = y then At call ac_228 78 [a0, a1, a2, a3, a4, a5] st h Q else At call ac_228 84 [a0, a1, a2, a3, a4, a5] st h Q := At_br rfl
theorem r228_78 : At call ac_228 78 [a0, a1, a2, a3, a4, vI x] st h Q ↔ At call ac_228 80 [a0, a1, a2, a3, a4, vI x] (vI x :: st) h Q := At_next rfl
theorem r228_80 : At call ac_228 80 [a0, a1, a2, a3, a4, a5] (vI x :: st) h Q ↔ At call ac_228 81 [a0, a1, a2, a3, a4, a5] (vI (wr (-x)) :: st) h Q := At_next rfl
theorem r228_81 : At call ac_228 81 [a0, a1, a2, a3, a4, a5] st h Q ↔ At call ac_228 98 [a0, a1, a2, a3, a4, a5] st h Q := At_next rfl
theorem r228_84 : At call ac_228 84 [a0, a1, a2, vI x, a4, a5] st h Q ↔ At call ac_228 85 [a0, a1, a2, vI x, a4, a5] (vI x :: st) h Q := At_next rfl
theorem r228_85 : At call ac_228 85 [a0, a1, a2, a3, a4, a5] st h Q ↔ At call ac_228 86 [a0, a1, a2, a3, a4, a5] (vI 5 :: st) h Q := At_next rfl
theorem r228_86 : At call ac_228 86 [a0, a1, a2, a3, a4, a5] (vI y :: vI x :: st) h Q ↔ if x = y then At call ac_228 89 [a0, a1, a2, a3, a4, a5] st h Q else At call ac_228 96 [a0, a1, a2, a3, a4, a5] st h Q := At_br rfl
theorem r228_89 : At call ac_228 89 [a0, a1, a2, a3, a4, vI x] st h Q ↔ At call ac_228 91 [a0, a1, a2, a3, a4, vI x] (vI x :: st) h Q := At_next rfl
theorem r228_91 : At call ac_228 91 [a0, a1, a2, a3, a4, a5] st h Q ↔ At call ac_228 92 [a0, a1, a2, a3, a4, a5] (vI 5 :: st) h Q := At_next rfl
theorem r228_92 : At call ac_228 92 [a0, a1, a2, a3, a4, a5] (vI y :: vI x :: st) h Q ↔ At call ac_228 93 [a0, a1, a2, a3, a4, a5] (vI (opXor x y) :: st) h Q := At_next rfl
theorem r228_93 : At call ac_228 93 [a0, a1, a2, a3, a4, a5] st h Q ↔ At call ac_228 98 [a0, a1, a2, a3, a4, a5] st h Q := At_next rfl
theorem r228_96 : At call ac_228 96 [a0, a1, a2, a3, a4, vI x] st h Q ↔ At call ac_228 98 [a0, a1, a2, a3, a4, vI x] (vI x :: st) h Q := At_next rfl
theorem r228_98 : At call ac_228 98 [a0, a1, a2, a3, a4, a5] [vI x] h Q ↔ Q (some (vI x)) h := At_ret rfl
theorem r229_0 : At call ac_229 0 [vR g m, a1, a2, a3] st h Q ↔ At call ac_229 1 [vR g m, a1, a2, a3] (vR g m :: st) h Q := At_next rfl
theorem r229_1 : At call ac_229 1 [a0, a1, a2, a3] st h Q ↔ At call ac_229 2 [a0, a1, a2, a3] (vI 0 :: st) h Q := At_next rfl
theorem r229_2 : At call ac_229 2 [a0, a1, a2, a3] (vI x :: vR g 27 :: st) h Q ↔ At call ac_229 5 [a0, a1, a2, a3] st (up3 h g 27 21 x) Q := At_next rfl
theorem r229_5 : At call ac_229 5 [vR g m, a1, a2, a3] st h Q ↔ At call ac_229 6 [vR g m, a1, a2, a3] (vR g m :: st) h Q := At_next rfl
theorem r229_6 : At call ac_229 6 [a0, vI x, a2, a3] st h Q ↔ At call ac_229 7 [a0, vI x, a2, a3] (vI x :: st) h Q := At_next rfl
theorem r229_7 : At call ac_229 7 [a0, a1, a2, a3] (b1 :: b0 :: st) h Q ↔ st.length ≤ 4 ∧ ∃ v h1, call 145 [b0, b1] h (some v) h1 ∧ At call ac_229 10 [a0, a1, a2, a3] (v :: st) h1 Q := At_gcall rfl
theorem r229_10 : At call ac_229 10 [a0, a1, a2, a3] (vI x :: st) h Q ↔ if x = 0 then At call ac_229 22 [a0, a1, a2, a3] st h Q else At call ac_229 13 [a0, a1, a2, a3] st h Q := At_br rfl
theorem r229_13 : At call ac_229 13 [a0, a1, vI x, a3] st h Q ↔ At call ac_229 14 [a0, a1, vI x, a3] (vI x :: st) h Q := At_next rfl
theorem r229_14 : At call ac_229 14 [a0, a1, a2, a3] st h Q ↔ At call ac_229 15 [a0, a1, a2, a3] (vI 0 :: st) h Q := At_next rfl
theorem r229_15 : At call ac_229 15 [a0, a1, a2, a3] st h Q ↔ At call ac_229 16 [a0, a1, a2, a3] (vI 2 :: st) h Q := At_next rfl
theorem r229_16 : At call ac_229 16 [a0, a1, a2, a3] (b2 :: b1 :: b0 :: st) h Q ↔ st.length ≤ 4 ∧ ∃ v h1, call 144 [b0, b1, b2] h (some v) h1 ∧ At call ac_229 19 [a0, a1, a2, a3] (v :: st) h1 Q := At_gcall rfl
theorem r229_19 : At call ac_229 19 [a0, a1, a2, a3] (vI x :: st) h Q ↔ if x = 0 then At call ac_229 22 [a0, a1, a2, a3] st h Q else At call ac_229 24 [a0, a1, a2, a3] st h Q := At_br rfl
theorem r229_22 : At call ac_229 22 [a0, a1, a2, a3] st h Q ↔ At call ac_229 23 [a0, a1, a2, a3] (vI 0 :: st) h Q := At_next rfl
theorem r229_23 : At call ac_229 23 [a0, a1, a2, a3] [vI x] h Q ↔ Q (some (vI x)) h := At_ret rfl
theorem r229_24 : At call ac_229 24 [a0, a1, vI x, a3] st h Q ↔ At call ac_229 25 [a0, a1, vI x, a3] (vI x :: st) h Q := At_next rfl
theorem r229_25 : At call ac_229 25 [a0, a1, a2, a3] (vI x :: st) h Q ↔ if x = 0 then At call ac_229 28 [a0, a1, a2, a3] st h Q else At call ac_229 37 [a0, a1, a2, a3] st h Q := At_br rfl
theorem r229_28 : At call ac_229 28 [vR g m, a1, a2, a3] st h Q ↔ At call ac_229 29 [vR g m, a1, a2, a3] (vR g m :: st) h Q := At_next rfl
theorem r229_29 : At call ac_229 29 [a0, vI x, a2, a3] st h Q ↔ At call ac_229 30 [a0, vI x, a2, a3] (vI x :: st) h Q := At_next rfl
theorem r229_30 : At call ac_229 30 [a0, a1, a2, vI x] st h Q ↔ At call ac_229 31 [a0, a1, a2, vI x] (vI x :: st) h Q := At_next rfl
theorem r229_31 : At call ac_229 31 [a0, a1, a2, a3] (b2 :: b1 :: b0 :: st) h Q ↔ st.length ≤ 4 ∧ ∃ v h1, call 226 [b0, b1, b2] h (some v) h1 ∧ At call ac_229 34 [a0, a1, a2, a3] (v :: st) h1 Q := At_gcall rfl
theorem r229_34 : At call ac_229 34 [a0, a1, a2, a3] st h Q ↔ At call ac_229 57 [a0, a1, a2, a3] st h Q := At_next rfl
theorem r229_37 : At call ac_229 37 [a0, a1, vI x, a3] st h Q ↔ At call ac_229 38 [a0, a1, vI x, a3] (vI x :: st) h Q := At_next rfl
theorem r229_38 : At call ac_229 38 [a0, a1, a2, a3] st h Q ↔ At call ac_229 39 [a0, a1, a2, a3] (vI 1 :: st) h Q := At_next rfl
theorem r229_39 : At call ac_229 39 [a0, a1, a2, a3] (vI y :: vI x :: st) h Q ↔ if x = y then At call ac_229 42 [a0, a1, a2, a3] st h Q else At call ac_229 51 [a0, a1, a2, a3] st h Q := At_br rfl
theorem r229_42 : At call ac_229 42 [vR g m, a1, a2, a3] st h Q ↔ At call ac_229 43 [vR g m, a1, a2, a3] (vR g m :: st) h Q := At_next rfl
theorem r229_43 : At call ac_229 43 [a0, vI x, a2, a3] st h Q ↔ At call ac_229 44 [a0, vI x, a2, a3] (vI x :: st) h Q := At_next rfl
theorem r229_44 : At call ac_229 44 [a0, a1, a2, vI x] st h Q ↔ At call ac_229 45 [a0, a1, a2, vI x] (vI x :: st) h Q := At_next rfl
theorem r229_45 : At call ac_229 45 [a0, a1, a2, a3] (b2 :: b1 :: b0 :: st) h Q ↔ st.length ≤ 4 ∧ ∃ v h1, call 227 [b0, b1, b2] h (some v) h1 ∧ At call ac_229 48 [a0, a1, a2, a3] (v :: st) h1 Q := At_gcall rfl
theorem r229_48 : At call ac_229 48 [a0, a1, a2, a3] st h Q ↔ At call ac_229 57 [a0, a1, a2, a3] st h Q := At_next rfl
theorem r229_51 : At call ac_229 51 [vR g m, a1, a2, a3] st h Q ↔ At call ac_229 52 [vR g m, a1, a2, a3] (vR g m :: st) h Q := At_next rfl
theorem r229_52 : At call ac_229 52 [a0, vI x, a2, a3] st h Q ↔ At call ac_229 53 [a0, vI x, a2, a3] (vI x :: st) h Q := At_next rfl
theorem r229_53 : At call ac_229 53 [a0, a1, a2, vI x] st h Q ↔ At call ac_229 54 [a0, a1, a2, vI x] (vI x :: st) h Q := At_next rfl
theorem r229_54 : At call ac_229 54 [a0, a1, a2, a3] (b2 :: b1 :: b0 :: st) h Q ↔ st.length ≤ 4 ∧ ∃ v h1, call 228 [b0, b1, b2] h (some v) h1 ∧ At call ac_229 57 [a0, a1, a2, a3] (v :: st) h1 Q := At_gcall rfl
theorem r229_57 : At call ac_229 57 [a0, a1, a2, a3] [vI x] h Q ↔ Q (some (vI x)) h := At_ret rfl
theorem r230_0 : At call ac_230 0 [a0, vI x] st h Q ↔ At call ac_230 1 [a0, vI x] (vI x :: st) h Q := At_next rfl
theorem r230_1 : At call ac_230 1 [a0, a1] (vI x :: st) h Q ↔ if x < 0 then At call ac_230 27 [a0, a1] st h Q else At call ac_230 4 [a0, a1] st h Q := At_br rfl
theorem r230_4 : At call ac_230 4 [a0, vI x] st h Q ↔ At call ac_230 5 [a0, vI x] (vI x :: st) h Q := At_next rfl
theorem r230_5 : At call ac_230 5 [vR g m, a1] st h Q ↔ At call ac_230 6 [vR g m, a1] (vR g m :: st) h Q := At_next rfl
theorem r230_6 : At call ac_230 6 [a0, a1] (vR g 27 :: st) h Q ↔ At call ac_230 9 [a0, a1] (vI (h g 27 21) :: st) h Q := At_next rfl
theorem r230_9 : At call ac_230 9 [a0, a1] (vI y :: vI x :: st) h Q ↔ if x < y then At call ac_230 12 [a0, a1] st h Q else At call ac_230 27 [a0, a1] st h Q := At_br rfl
theorem r230_12 : At call ac_230 12 [a0, vI x] st h Q ↔ At call ac_230 13 [a0, vI x] (vI x :: st) h Q := At_next rfl
theorem r230_13 : At call ac_230 13 [a0, a1] st h Q ↔ At call ac_230 15 [a0, a1] (vI 20 :: st) h Q := At_next rfl
theorem r230_15 : At call ac_230 15 [a0, a1] (vI y :: vI x :: st) h Q ↔ if x < y then At call ac_230 18 [a0, a1] st h Q else At call ac_230 27 [a0, a1] st h Q := At_br rfl
theorem r230_18 : At call ac_230 18 [vR g m, a1] st h Q ↔ At call ac_230 19 [vR g m, a1] (vR g m :: st) h Q := At_next rfl
theorem r230_19 : At call ac_230 19 [a0, a1] (vR g 27 :: st) h Q ↔ At call ac_230 22 [a0, a1] (vR g 32 :: st) h Q := At_next rfl
theorem r230_22 : At call ac_230 22 [a0, vI x] st h Q ↔ At call ac_230 23 [a0, vI x] (vI x :: st) h Q := At_next rfl
theorem r230_23 : At call ac_230 23 [a0, a1] (vI x :: vR g m :: st) h Q ↔ inA h m 0 x ∧ At call ac_230 24 [a0, a1] (vI (h g m x.toNat) :: st) h Q := At_guard rfl
theorem r230_24 : At call ac_230 24 [a0, a1] st h Q ↔ At call ac_230 28 [a0, a1] st h Q := At_next rfl
theorem r230_27 : At call ac_230 27 [a0, a1] st h Q ↔ At call ac_230 28 [a0, a1] (vI (-1) :: st) h Q := At_next rfl
theorem r230_28 : At call ac_230 28 [a0, a1] [vI x] h Q ↔ Q (some (vI x)) h := At_ret rfl
theorem r231_0 : At call ac_231 0 [a0, a1, a2] st h Q ↔ At call ac_231 1 [a0, a1, a2] (vI 0 :: st) h Q := At_next rfl
theorem r231_1 : At call ac_231 1 [a0, a1, a2] (vI x :: st) h Q ↔ At call ac_231 2 [a0, a1, vI x] st h Q := At_next rfl
theorem r231_2 : At call ac_231 2 [a0, a1, vI x] st h Q ↔ At call ac_231 3 [a0, a1, vI x] (vI x :: st) h Q := At_next rfl
theorem r231_3 : At call ac_231 3 [a0, a1, a2] st h Q ↔ At call ac_231 5 [a0, a1, a2] (vI 8 :: st) h Q := At_next rfl
theorem r231_5 : At call ac_231 5 [a0, a1, a2] (vI y :: vI x :: st) h Q ↔ if x < y then At call ac_231 8 [a0, a1, a2] st h Q else At call ac_231 47 [a0, a1, a2] st h Q := At_br rfl
theorem r231_8 : At call ac_231 8 [a0, vR g m, a2] st h Q ↔ At call ac_231 9 [a0, vR g m, a2] (vR g m :: st) h Q := At_next rfl
theorem r231_8n : At call ac_231 8 [a0, vN, a2] st h Q ↔ At call ac_231 9 [a0, vN, a2] (vN :: st) h Q := At_next rfl
theorem r231_8s : At call ac_231 8 [a0, vS n, a2] st h Q ↔ At call ac_231 9 [a0, vS n, a2] (vS n :: st) h Q := At_next rfl
theorem r231_9 : At call ac_231 9 [a0, a1, vI x] st h Q ↔ At call ac_231 10 [a0, a1, vI x] (vI x :: st) h Q := At_next rfl
theorem r231_10 : At call ac_231 10 [vR g m, a1, a2] st h Q ↔ At call ac_231 11 [vR g m, a1, a2] (vR g m :: st) h Q := At_next rfl
theorem r231_11 : At call ac_231 11 [a0, a1, a2] (vR g 27 :: st) h Q ↔ At call ac_231 14 [a0, a1, a2] (vR g 20 :: st) h Q := At_next rfl
theorem r231_14 : At call ac_231 14 [a0, a1, vI x] st h Q ↔ At call ac_231 15 [a0, a1, vI x] (vI x :: st) h Q := At_next rfl
theorem r231_15 : At call ac_231 15 [a0, a1, a2] (vI x :: vR g m :: st) h Q ↔ inA h m 0 x ∧ At call ac_231 16 [a0, a1, a2] (vI (h g m x.toNat) :: st) h Q := At_guard rfl
theorem r231_16 : At call ac_231 16 [a0, a1, a2] (vI y :: vI x :: vR g m :: st) h Q ↔ (inA h m 0 x ∧ m ≠ 37) ∧ At call ac_231 17 [a0, a1, a2] st (up3 h g m x.toNat y) Q := At_guard rfl
theorem r231_17 : At call ac_231 17 [a0, vR g m, a2] st h Q ↔ At call ac_231 18 [a0, vR g m, a2] (vR g m :: st) h Q := At_next rfl
theorem r231_17n : At call ac_231 17 [a0, vN, a2] st h Q ↔ At call ac_231 18 [a0, vN, a2] (vN :: st) h Q := At_next rfl
theorem r231_17s : At call ac_231 17 [a0, vS n, a2] st h Q ↔ At call ac_231 18 [a0, vS n, a2] (vS n :: st) h Q := At_next rfl
theorem r231_18 : At call ac_231 18 [a0, a1, a2] st h Q ↔ At call ac_231 20 [a0, a1, a2] (vI 8 :: st) h Q := At_next rfl
theorem r231_20 : At call ac_231 20 [a0, a1, vI x] st h Q ↔ At call ac_231 21 [a0, a1, vI x] (vI x :: st) h Q := At_next rfl
theorem r231_21 : At call ac_231 21 [a0, a1, a2] (vI y :: vI x :: st) h Q ↔ At call ac_231 22 [a0, a1, a2] (vI (wr (x + y)) :: st) h Q := At_next rfl
theorem r231_22 : At call ac_231 22 [vR g m, a1, a2] st h Q ↔ At call ac_231 23 [vR g m, a1, a2] (vR g m :: st) h Q := At_next rfl
theorem r231_23 : At call ac_231 23 [a0, a1, a2] (vR g 27 :: st) h Q ↔ At call ac_231 26 [a0, a1, a2] (vR g 21 :: st) h Q := At_next rfl
theorem r231_26 : At call ac_231 26 [a0, a1, vI x] st h Q ↔ At call ac_231 27 [a0, a1, vI x] (vI x :: st) h Q := At_next rfl
theorem r231_27 : At call ac_231 27 [a0, a1, a2] (vI x :: vR g m :: st) h Q ↔ inA h m 0 x ∧ At call ac_231 28 [a0, a1, a2] (vI (h g m x.toNat) :: st) h Q := At_guard rfl
theorem r231_28 : At call ac_231 28 [a0, a1, a2] (vI y :: vI x :: vR g m :: st) h Q ↔ (inA h m 0 x ∧ m ≠ 37) ∧ At call ac_231 29 [a0, a1, a2] st (up3 h g m x.toNat y) Q := At_guard rfl
theorem r231_29 : At call ac_231 29 [a0, vR g m, a2] st h Q ↔ At call ac_231 30 [a0, vR g m, a2] (vR g m :: st) h Q := At_next rfl
theorem r231_29n : At call ac_231 29 [a0, vN, a2] st h Q ↔ At call ac_231 30 [a0, vN, a2] (vN :: st) h Q := At_next rfl
theorem r231_29s : At call ac_231 29 [a0, vS n, a2] st h Q ↔ At call ac_231 30 [a0, vS n, a2] (vS n :: st) h Q := At_next rfl
theorem r231_30 : At call ac_231 30 [a0, a1, a2] st h Q ↔ At call ac_231 32 [a0, a1, a2] (vI 16 :: st) h Q := At_next rfl
theorem r231_32 : At call ac_231 32 [a0, a1, vI x] st h Q ↔ At call ac_231 33 [a0, a1, vI x] (vI x :: st) h Q := At_next rfl
theorem r231_33 : At call ac_231 33 [a0, a1, a2] (vI y :: vI x :: st) h Q ↔ At call ac_231 34 [a0, a1, a2] (vI (wr (x + y)) :: st) h Q := At_next rfl
theorem r231_34 : At call ac_231 34 [vR g m, a1, a2] st h Q ↔ At call ac_231 35 [vR g m, a1, a2] (vR g m :: st) h Q := At_next rfl
theorem r231_35 : At call ac_231 35 [a0, a1, a2] (vR g 27 :: st) h Q ↔ At call ac_231 38 [a0, a1, a2] (vR g 22 :: st) h Q := At_next rfl
theorem r231_38 : At call ac_231 38 [a0, a1, vI x] st h Q ↔ At call ac_231 39 [a0, a1, vI x] (vI x :: st) h Q := At_next rfl
theorem r231_39 : At call ac_231 39 [a0, a1, a2] (vI x :: vR g m :: st) h Q ↔ inA h m 0 x ∧ At call ac_231 40 [a0, a1, a2] (vI (h g m x.toNat) :: st) h Q := At_guard rfl
theorem r231_40 : At call ac_231 40 [a0, a1, a2] (vI y :: vI x :: vR g m :: st) h Q ↔ (inA h m 0 x ∧ m ≠ 37) ∧ At call ac_231 41 [a0, a1, a2] st (up3 h g m x.toNat y) Q := At_guard rfl
theorem r231_41 : At call ac_231 41 [a0, a1, vI x] st h Q ↔ At call ac_231 44 [a0, a1, vI (wr (x + 1))] st h Q := At_next rfl
theorem r231_44 : At call ac_231 44 [a0, a1, a2] st h Q ↔ At call ac_231 2 [a0, a1, a2] st h Q := At_next rfl
theorem r231_47 : At call ac_231 47 [a0, a1, a2] st h Q ↔ At call ac_231 48 [a0, a1, a2] (vI 0 :: st) h Q := At_next rfl
theorem r231_48 : At call ac_231 48 [a0, a1, a2] (vI x :: st) h Q ↔ At call ac_231 49 [a0, a1, vI x] st h Q := At_next rfl
theorem r231_49 : At call ac_231 49 [a0, a1, vI x] st h Q ↔ At call ac_231 50 [a0, a1, vI x] (vI x :: st) h Q := At_next rfl
theorem r231_50 : At call ac_231 50 [a0, a1, a2] st h Q ↔ At call ac_231 52 [a0, a1, a2] (vI 12 :: st) h Q := At_next rfl
theorem r231_52 : At call ac_231 52 [a0, a1, a2] (vI y :: vI x :: st) h Q ↔ if x < y then At call ac_231 55 [a0, a1, a2] st h Q else At call ac_231 85 [a0, a1, a2] st h Q := At_br rfl
theorem r231_55 : At call ac_231 55 [a0, vR g m, a2] st h Q ↔ At call ac_231 56 [a0, vR g m, a2] (vR g m :: st) h Q := At_next rfl
theorem r231_55n : At call ac_231 55 [a0, vN, a2] st h Q ↔ At call ac_231 56 [a0, vN, a2] (vN :: st) h Q := At_next rfl
theorem r231_55s : At call ac_231 55 [a0, vS n, a2] st h Q ↔ At call ac_231 56 [a0, vS n, a2] (vS n :: st) h Q := At_next rfl
theorem r231_56 : At call ac_231 56 [a0, a1, a2] st h Q ↔ At call ac_231 58 [a0, a1, a2] (vI 24 :: st) h Q := At_next rfl
theorem r231_58 : At call ac_231 58 [a0, a1, vI x] st h Q ↔ At call ac_231 59 [a0, a1, vI x] (vI x :: st) h Q := At_next rfl
theorem r231_59 : At call ac_231 59 [a0, a1, a2] (vI y :: vI x :: st) h Q ↔ At call ac_231 60 [a0, a1, a2] (vI (wr (x + y)) :: st) h Q := At_next rfl
theorem r231_60 : At call ac_231 60 [vR g m, a1, a2] st h Q ↔ At call ac_231 61 [vR g m, a1, a2] (vR g m :: st) h Q := At_next rfl
theorem r231_61 : At call ac_231 61 [a0, a1, a2] (vR g 27 :: st) h Q ↔ At call ac_231 64 [a0, a1, a2] (vR g 24 :: st) h Q := At_next rfl
theorem r231_64 : At call ac_231 64 [a0, a1, vI x] st h Q ↔ At call ac_231 65 [a0, a1, vI x] (vI x :: st) h Q := At_next rfl
theorem r231_65 : At call ac_231 65 [a0, a1, a2] (vI x :: vR g m :: st) h Q ↔ inA h m 0 x ∧ At call ac_231 66 [a0, a1, a2] (vI (h g m x.toNat) :: st) h Q := At_guard rfl
theorem r231_66 : At call ac_231 66 [a0, a1, a2] (vI y :: vI x :: vR g m :: st) h Q ↔ (inA h m 0 x ∧ m ≠ 37) ∧ At call ac_231 67 [a0, a1, a2] st (up3 h g m x.toNat y) Q := At_guard rfl
theorem r231_67 : At call ac_231 67 [a0, vR g m, a2] st h Q ↔ At call ac_231 68 [a0, vR g m, a2] (vR g m :: st) h Q := At_next rfl
theorem r231_67n : At call ac_231 67 [a0, vN, a2] st h Q ↔ At call ac_231 68 [a0, vN, a2] (vN :: st) h Q := At_next rfl
theorem r231_67s : At call ac_231 67 [a0, vS n, a2] st h Q ↔ At call ac_231 68 [a0, vS n, a2] (vS n :: st) h Q := At_next rfl
theorem r231_68 : At call ac_231 68 [a0, a1, a2] st h Q ↔ At call ac_231 70 [a0, a1, a2] (vI 36 :: st) h Q := At_next rfl
theorem r231_70 : At call ac_231 70 [a0, a1, vI x] st h Q ↔ At call ac_231 71 [a0, a1, vI x] (vI x :: st) h Q := At_next rfl
theorem r231_71 : At call ac_231 71 [a0, a1, a2] (vI y :: vI x :: st) h Q ↔ At call ac_231 72 [a0, a1, a2] (vI (wr (x + y)) :: st) h Q := At_next rfl
theorem r231_72 : At call ac_231 72 [vR g m, a1, a2] st h Q ↔ At call ac_231 73 [vR g m, a1, a2] (vR g m :: st) h Q := At_next rfl
theorem r231_73 : At call ac_231 73 [a0, a1, a2] (vR g 27 :: st) h Q ↔ At call ac_231 76 [a0, a1, a2] (vR g 25 :: st) h Q := At_next rfl
theorem r231_76 : At call ac_231 76 [a0, a1, vI x] st h Q ↔ At call ac_231 77 [a0, a1, vI x] (vI x :: st) h Q := At_next rfl
theorem r231_77 : At call ac_231 77 [a0, a1, a2] (vI x :: vR g m :: st) h Q ↔ inA h m 0 x ∧ At call ac_231 78 [a0, a1, a2] (vI (h g m x.toNat) :: st) h Q := At_guard rfl
theorem r231_78 : At call ac_231 78 [a0, a1, a2] (vI y :: vI x :: vR g m :: st) h Q ↔ (inA h m 0 x ∧ m ≠ 37) ∧ At call ac_231 79 [a0, a1, a2] st (up3 h g m x.toNat y) Q := At_guard rfl
theorem r231_79 : At call ac_231 79 [a0, a1, vI x] st h Q ↔ At call ac_231 82 [a0, a1, vI (wr (x + 1))] st h Q := At_next rfl
theorem r231_82 : At call ac_231 82 [a0, a1, a2] st h Q ↔ At call ac_231 49 [a0, a1, a2] st h Q := At_next rfl
theorem r231_85 : At call ac_231 85 [a0, a1, a2] st h Q ↔ At call ac_231 86 [a0, a1, a2] (vI 1 :: st) h Q := At_next rfl
theorem r231_86 : At call ac_231 86 [a0, a1, a2] (vI x :: st) h Q ↔ At call ac_231 87 [a0, a1, vI x] st h Q := At_next rfl
theorem r231_87 : At call ac_231 87 [a0, a1, vI x] st h Q ↔ At call ac_231 88 [a0, a1, vI x] (vI x :: st) h Q := At_next rfl
theorem r231_88 : At call ac_231 88 [a0, a1, a2] st h Q ↔ At call ac_231 89 [a0, a1, a2] (vI 4 :: st) h Q := At_next rfl
theorem r231_89 : At call ac_231 89 [a0, a1, a2] (vI y :: vI x :: st) h Q ↔ if x < y then At call ac_231 92 [a0, a1, a2] st h Q else At call ac_231 110 [a0, a1, a2] st h Q := At_br rfl
theorem r231_92 : At call ac_231 92 [a0, vR g m, a2] st h Q ↔ At call ac_231 93 [a0, vR g m, a2] (vR g m :: st) h Q := At_next rfl
theorem r231_92n : At call ac_231 92 [a0, vN, a2] st h Q ↔ At call ac_231 93 [a0, vN, a2] (vN :: st) h Q := At_next rfl
theorem r231_92s : At call ac_231 92 [a0, vS n, a2] st h Q ↔ At call ac_231 93 [a0, vS n, a2] (vS n :: st) h Q := At_next rfl
theorem r231_93 : At call ac_231 93 [a0, a1, a2] st h Q ↔ At call ac_231 95 [a0, a1, a2] (vI 47 :: st) h Q := At_next rfl
theorem r231_95 : At call ac_231 95 [a0, a1, vI x] st h Q ↔ At call ac_231 96 [a0, a1, vI x] (vI x :: st) h Q := At_next rfl
theorem r231_96 : At call ac_231 96 [a0, a1, a2] (vI y :: vI x :: st) h Q ↔ At call ac_231 97 [a0, a1, a2] (vI (wr (x + y)) :: st) h Q := At_next rfl
theorem r231_97 : At call ac_231 97 [vR g m, a1, a2] st h Q ↔ At call ac_231 98 [vR g m, a1, a2] (vR g m :: st) h Q := At_next rfl
theorem r231_98 : At call ac_231 98 [a0, a1, a2] (vR g 27 :: st) h Q ↔ At call ac_231 101 [a0, a1, a2] (vR g 26 :: st) h Q := At_next rfl
theorem r231_101 : At call ac_231 101 [a0, a1, vI x] st h Q ↔ At call ac_231 102 [a0, a1, vI x] (vI x :: st) h Q := At_next rfl
theorem r231_102 : At call ac_231 102 [a0, a1, a2] (vI x :: vR g m :: st) h Q ↔ inA h m 0 x ∧ At call ac_231 103 [a0, a1, a2] (vI (h g m x.toNat) :: st) h Q := At_guard rfl
theorem r231_103 : At call ac_231 103 [a0, a1, a2] (vI y :: vI x :: vR g m :: st) h Q ↔ (inA h m 0 x ∧ m ≠ 37) ∧ At call ac_231 104 [a0, a1, a2] st (up3 h g m x.toNat y) Q := At_guard rfl
theorem r231_104 : At call ac_231 104 [a0, a1, vI x] st h Q ↔ At call ac_231 107 [a0, a1, vI (wr (x + 1))] st h Q := At_next rfl
theorem r231_107 : At call ac_231 107 [a0, a1, a2] st h Q ↔ At call ac_231 87 [a0, a1, a2] st h Q := At_next rfl
theorem r231_110 : At call ac_231 110 [a0, vR g m, a2] st h Q ↔ At call ac_231 111 [a0, vR g m, a2] (vR g m :: st) h Q := At_next rfl
theorem r231_110n : At call ac_231 110 [a0, vN, a2] st h Q ↔ At call ac_231 111 [a0, vN, a2] (vN :: st) h Q := At_next rfl
theorem r231_110s : At call ac_231 110 [a0, vS n, a2] st h Q ↔ At call ac_231 111 [a0, vS n, a2] (vS n :: st) h Q := At_next rfl
theorem r231_111 : At call ac_231 111 [a0, a1, a2] st h Q ↔ At call ac_231 113 [a0, a1, a2] (vI 51 :: st) h Q := At_next rfl
theorem r231_113 : At call ac_231 113 [vR g m, a1, a2] st h Q ↔ At call ac_231 114 [vR g m, a1, a2] (vR g m :: st) h Q := At_next rfl
theorem r231_114 : At call ac_231 114 [a0, a1, a2] (vR g 27 :: st) h Q ↔ At call ac_231 117 [a0, a1, a2] (vI (h g 27 7) :: st) h Q := At_next rfl
theorem r231_117 : At call ac_231 117 [a0, a1, a2] (vI y :: vI x :: vR g m :: st) h Q ↔ (inA h m 0 x ∧ m ≠ 37) ∧ At call ac_231 118 [a0, a1, a2] st (up3 h g m x.toNat y) Q := At_guard rfl
theorem r231_118 : At call ac_231 118 [a0, vR g m, a2] st h Q ↔ At call ac_231 119 [a0, vR g m, a2] (vR g m :: st) h Q := At_next rfl
theorem r231_118n : At call ac_231 118 [a0, vN, a2] st h Q ↔ At call ac_231 119 [a0, vN, a2] (vN :: st) h Q := At_next rfl
theorem r231_118s : At call ac_231 118 [a0, vS n, a2] st h Q ↔ At call ac_231 119 [a0, vS n, a2] (vS n :: st) h Q := At_next rfl
theorem r231_119 : At call ac_231 119 [a0, a1, a2] st h Q ↔ At call ac_231 121 [a0, a1, a2] (vI 52 :: st) h Q := At_next rfl
theorem r231_121 : At call ac_231 121 [vR g m, a1, a2] st h Q ↔ At call ac_231 122 [vR g m, a1, a2] (vR g m :: st) h Q := At_next rfl
theorem r231_122 : At call ac_231 122 [a0, a1, a2] (vR g 27 :: st) h Q ↔ At call ac_231 125 [a0, a1, a2] (vI (h g 27 8) :: st) h Q := At_next rfl
theorem r231_125 : At call ac_231 125 [a0, a1, a2] (vI y :: vI x :: vR g m :: st) h Q ↔ (inA h m 0 x ∧ m ≠ 37) ∧ At call ac_231 126 [a0, a1, a2] st (up3 h g m x.toNat y) Q := At_guard rfl
theorem r231_126 : At call ac_231 126 [a0, vR g m, a2] st h Q ↔ At call ac_231 127 [a0, vR g m, a2] (vR g m :: st) h Q := At_next rfl
theorem r231_126n : At call ac_231 126 [a0, vN, a2] st h Q ↔ At call ac_231 127 [a0, vN, a2] (vN :: st) h Q := At_next rfl
theorem r231_126s : At call ac_231 126 [a0, vS n, a2] st h Q ↔ At call ac_231 127 [a0, vS n, a2] (vS n :: st) h Q := At_next rfl
theorem r231_127 : At call ac_231 127 [a0, a1, a2] st h Q ↔ At call ac_231 129 [a0, a1, a2] (vI 53 :: st) h Q := At_next rfl
theorem r231_129 : At call ac_231 129 [vR g m, a1, a2] st h Q ↔ At call ac_231 130 [vR g m, a1, a2] (vR g m :: st) h Q := At_next rfl
theorem r231_130 : At call ac_231 130 [a0, a1, a2] (vR g 27 :: st) h Q ↔ At call ac_231 133 [a0, a1, a2] (vI (h g 27 9) :: st) h Q := At_next rfl
theorem r231_133 : At call ac_231 133 [a0, a1, a2] (vI y :: vI x :: vR g m :: st) h Q ↔ (inA h m 0 x ∧ m ≠ 37) ∧ At call ac_231 134 [a0, a1, a2] st (up3 h g m x.toNat y) Q := At_guard rfl
theorem r231_134 : At call ac_231 134 [a0, vR g m, a2] st h Q ↔ At call ac_231 135 [a0, vR g m, a2] (vR g m :: st) h Q := At_next rfl
theorem r231_134n : At call ac_231 134 [a0, vN, a2] st h Q ↔ At call ac_231 135 [a0, vN, a2] (vN :: st) h Q := At_next rfl
theorem r231_134s : At call ac_231 134 [a0, vS n, a2] st h Q ↔ At call ac_231 135 [a0, vS n, a2] (vS n :: st) h Q := At_next rfl
theorem r231_135 : At call ac_231 135 [a0, a1, a2] st h Q ↔ At call ac_231 137 [a0, a1, a2] (vI 54 :: st) h Q := At_next rfl
theorem r231_137 : At call ac_231 137 [vR g m, a1, a2] st h Q ↔ At call ac_231 138 [vR g m, a1, a2] (vR g m :: st) h Q := At_next rfl
theorem r231_138 : At call ac_231 138 [a0, a1, a2] (vR g 27 :: st) h Q ↔ At call ac_231 141 [a0, a1, a2] (vI (h g 27 10) :: st) h Q := At_next rfl
theorem r231_141 : At call ac_231 141 [a0, a1, a2] (vI y :: vI x :: vR g m :: st) h Q ↔ (inA h m 0 x ∧ m ≠ 37) ∧ At call ac_231 142 [a0, a1, a2] st (up3 h g m x.toNat y) Q := At_guard rfl
theorem r231_142 : At call ac_231 142 [a0, vR g m, a2] st h Q ↔ At call ac_231 143 [a0, vR g m, a2] (vR g m :: st) h Q := At_next rfl
theorem r231_142n : At call ac_231 142 [a0, vN, a2] st h Q ↔ At call ac_231 143 [a0, vN, a2] (vN :: st) h Q := At_next rfl
theorem r231_142s : At call ac_231 142 [a0, vS n, a2] st h Q ↔ At call ac_231 143 [a0, vS n, a2] (vS n :: st) h Q := At_next rfl
theorem r231_143 : At call ac_231 143 [a0, a1, a2] st h Q ↔ At call ac_231 145 [a0, a1, a2] (vI 55 :: st) h Q := At_next rfl
theorem r231_145 : At call ac_231 145 [vR g m, a1, a2] st h Q ↔ At call ac_231 146 [vR g m, a1, a2] (vR g m :: st) h Q := At_next rfl
theorem r231_146 : At call ac_231 146 [a0, a1, a2] (vR g 27 :: st) h Q ↔ At call ac_231 149 [a0, a1, a2] (vI (h g 27 11) :: st) h Q := At_next rfl
theorem r231_149 : At call ac_231 149 [a0, a1, a2] (vI y :: vI x :: vR g m :: st) h Q ↔ (inA h m 0 x ∧ m ≠ 37) ∧ At call ac_231 150 [a0, a1, a2] st (up3 h g m x.toNat y) Q := At_guard rfl
theorem r231_150 : At call ac_231 150 [a0, vR g m, a2] st h Q ↔ At call ac_231 151 [a0, vR g m, a2] (vR g m :: st) h Q := At_next rfl
theorem r231_150n : At call ac_231 150 [a0, vN, a2] st h Q ↔ At call ac_231 151 [a0, vN, a2] (vN :: st) h Q := At_next rfl
theorem r231_150s : At call ac_231 150 [a0, vS n, a2] st h Q ↔ At call ac_231 151 [a0, vS n, a2] (vS n :: st) h Q := At_next rfl
theorem r231_151 : At call ac_231 151 [a0, a1, a2] st h Q ↔ At call ac_231 153 [a0, a1, a2] (vI 56 :: st) h Q := At_next rfl
theorem r231_153 : At call ac_231 153 [vR g m, a1, a2] st h Q ↔ At call ac_231 154 [vR g m, a1, a2] (vR g m :: st) h Q := At_next rfl
theorem r231_154 : At call ac_231 154 [a0, a1, a2] (vR g 27 :: st) h Q ↔ At call ac_231 157 [a0, a1, a2] (vI (h g 27 12) :: st) h Q := At_next rfl
theorem r231_157 : At call ac_231 157 [a0, a1, a2] (vI y :: vI x :: vR g m :: st) h Q ↔ (inA h m 0 x ∧ m ≠ 37) ∧ At call ac_231 158 [a0, a1, a2] st (up3 h g m x.toNat y) Q := At_guard rfl
theorem r231_158 : At call ac_231 158 [a0, vR g m, a2] st h Q ↔ At call ac_231 159 [a0, vR g m, a2] (vR g m :: st) h Q := At_next rfl
theorem r231_158n : At call ac_231 158 [a0, vN, a2] st h Q ↔ At call ac_231 159 [a0, vN, a2] (vN :: st) h Q := At_next rfl
theorem r231_158s : At call ac_231 158 [a0, vS n, a2] st h Q ↔ At call ac_231 159 [a0, vS n, a2] (vS n :: st) h Q := At_next rfl
theorem r231_159 : At call ac_231 159 [a0, a1, a2] st h Q ↔ At call ac_231 161 [a0, a1, a2] (vI 57 :: st) h Q := At_next rfl
theorem r231_161 : At call ac_231 161 [vR g m, a1, a2] st h Q ↔ At call ac_231 162 [vR g m, a1, a2] (vR g m :: st) h Q := At_next rfl
theorem r231_162 : At call ac_231 162 [a0, a1, a2] (vR g 27 :: st) h Q ↔ At call ac_231 165 [a0, a1, a2] (vI (h g 27 13) :: st) h Q := At_next rfl
theorem r231_165 : At call ac_231 165 [a0, a1, a2] (vI y :: vI x :: vR g m :: st) h Q ↔ (inA h m 0 x ∧ m ≠ 37) ∧ At call ac_231 166 [a0, a1, a2] st (up3 h g m x.toNat y) Q := At_guard rfl
theorem r231_166 : At call ac_231 166 [a0, vR g m, a2] st h Q ↔ At call ac_231 167 [a0, vR g m, a2] (vR g m :: st) h Q := At_next rfl
theorem r231_166n : At call ac_231 166 [a0, vN, a2] st h Q ↔ At call ac_231 167 [a0, vN, a2] (vN :: st) h Q := At_next rfl
theorem r231_166s : At call ac_231 166 [a0, vS n, a2] st h Q ↔ At call ac_231 167 [a0, vS n, a2] (vS n :: st) h Q := At_next rfl
theorem r231_167 : At call ac_231 167 [a0, a1, a2] st h Q ↔ At call ac_231 169 [a0, a1, a2] (vI 58 :: st) h Q := At_next rfl
theorem r231_169 : At call ac_231 169 [vR g m, a1, a2] st h Q ↔ At call ac_231 170 [vR g m, a1, a2] (vR g m :: st) h Q := At_next rfl
theorem r231_170 : At call ac_231 170 [a0, a1, a2] (vR g 27 :: st) h Q ↔ At call ac_231 173 [a0, a1, a2] (vI (h g 27 14) :: st) h Q := At_next rfl
theorem r231_173 : At call ac_231 173 [a0, a1, a2] (vI y :: vI x :: vR g m :: st) h Q ↔ (inA h m 0 x ∧ m ≠ 37) ∧ At call ac_231 174 [a0, a1, a2] st (up3 h g m x.toNat y) Q := At_guard rfl
theorem r231_174 : At call ac_231 174 [a0, vR g m, a2] st h Q ↔ At call ac_231 175 [a0, vR g m, a2] (vR g m :: st) h Q := At_next rfl
theorem r231_174n : At call ac_231 174 [a0, vN, a2] st h Q ↔ At call ac_231 175 [a0, vN, a2] (vN :: st) h Q := At_next rfl
theorem r231_174s : At call ac_231 174 [a0, vS n, a2] st h Q ↔ At call ac_231 175 [a0, vS n, a2] (vS n :: st) h Q := At_next rfl
theorem r231_175 : At call ac_231 175 [a0, a1, a2] st h Q ↔ At call ac_231 177 [a0, a1, a2] (vI 59 :: st) h Q := At_next rfl
theorem r231_177 : At call ac_231 177 [vR g m, a1, a2] st h Q ↔ At call ac_231 178 [vR g m, a1, a2] (vR g m :: st) h Q := At_next rfl
theorem r231_178 : At call ac_231 178 [a0, a1, a2] (vR g 27 :: st) h Q ↔ At call ac_231 181 [a0, a1, a2] (vI (h g 27 15) :: st) h Q := At_next rfl
theorem r231_181 : At call ac_231 181 [a0, a1, a2] (vI y :: vI x :: vR g m :: st) h Q ↔ (inA h m 0 x ∧ m ≠ 37) ∧ At call ac_231 182 [a0, a1, a2] st (up3 h g m x.toNat y) Q := At_guard rfl
theorem r231_182 : At call ac_231 182 [a0, vR g m, a2] st h Q ↔ At call ac_231 183 [a0, vR g m, a2] (vR g m :: st) h Q := At_next rfl
theorem r231_182n : At call ac_231 182 [a0, vN, a2] st h Q ↔ At call ac_231 183 [a0, vN, a2] (vN :: st) h Q := At_next rfl
theorem r231_182s : At call ac_231 182 [a0, vS n, a2] st h Q ↔ At call ac_231 183 [a0, vS n, a2] (vS n :: st) h Q := At_next rfl
theorem r231_183 : At call ac_231 183 [a0, a1, a2] st h Q ↔ At call ac_231 185 [a0, a1, a2] (vI 60 :: st) h Q := At_next rfl
theorem r231_185 : At call ac_231 185 [vR g m, a1, a2] st h Q ↔ At call ac_231 186 [vR g m, a1, a2] (vR g m :: st) h Q := At_next rfl
theorem r231_186 : At call ac_231 186 [a0, a1, a2] (vR g 27 :: st) h Q ↔ At call ac_231 189 [a0, a1, a2] (vI (h g 27 16) :: st) h Q := At_next rfl
theorem r231_189 : At call ac_231 189 [a0, a1, a2] (vI y :: vI x :: vR g m :: st) h Q ↔ (inA h m 0 x ∧ m ≠ 37) ∧ At call ac_231 190 [a0, a1, a2] st (up3 h g m x.toNat y) Q := At_guard rfl
theorem r231_190 : At call ac_231 190 [a0, a1, a2] [] h Q ↔ Q none h := At_ret rfl
theorem r232_0 : At call ac_232 0 [a0, a1, a2] st h Q ↔ At call ac_232 1 [a0, a1, a2] (vI 0 :: st) h Q := At_next rfl
theorem r232_1 : At call ac_232 1 [a0, a1, a2] (vI x :: st) h Q ↔ At call ac_232 2 [a0, a1, vI x] st h Q := At_next rfl
theorem r232_2 : At call ac_232 2 [a0, a1, vI x] st h Q ↔ At call ac_232 3 [a0, a1, vI x] (vI x :: st) h Q := At_next rfl
theorem r232_3 : At call ac_232 3 [a0, a1, a2] st h Q ↔ At call ac_232 5 [a0, a1, a2] (vI 8 :: st) h Q := At_next rfl
theorem r232_5 : At call ac_232 5 [a0, a1, a2] (vI y :: vI x :: st) h Q ↔ if x < y then At call ac_232 8 [a0, a1, a2] st h Q else At call ac_232 47 [a0, a1, a2] st h Q := At_br rfl
theorem r232_8 : At call ac_232 8 [vR g m, a1, a2] st h Q ↔ At call ac_232 9 [vR g m, a1, a2] (vR g m :: st) h Q := At_next rfl
theorem r232_9 : At call ac_232 9 [a0, a1, a2] (vR g 27 :: st) h Q ↔ At call ac_232 12 [a0, a1, a2] (vR g 20 :: st) h Q := At_next rfl
theorem r232_12 : At call ac_232 12 [a0, a1, vI x] st h Q ↔ At call ac_232 13 [a0, a1, vI x] (vI x :: st) h Q := At_next rfl
theorem r232_13 : At call ac_232 13 [a0, vR g m, a2] st h Q ↔ At call ac_232 14 [a0, vR g m, a2] (vR g m :: st) h Q := At_next rfl
theorem r232_13n : At call ac_232 13 [a0, vN, a2] st h Q ↔ At call ac_232 14 [a0, vN, a2] (vN :: st) h Q := At_next rfl
theorem r232_13s : At call ac_232 13 [a0, vS n, a2] st h Q ↔ At call ac_232 14 [a0, vS n, a2] (vS n :: st) h Q := At_next rfl
theorem r232_14 : At call ac_232 14 [a0, a1, vI x] st h Q ↔ At call ac_232 15 [a0, a1, vI x] (vI x :: st) h Q := At_next rfl
theorem r232_15 : At call ac_232 15 [a0, a1, a2] (vI x :: vR g m :: st) h Q ↔ inA h m 0 x ∧ At call ac_232 16 [a0, a1, a2] (vI (h g m x.toNat) :: st) h Q := At_guard rfl
theorem r232_16 : At call ac_232 16 [a0, a1, a2] (vI y :: vI x :: vR g m :: st) h Q ↔ (inA h m 0 x ∧ m ≠ 37) ∧ At call ac_232 17 [a0, a1, a2] st (up3 h g m x.toNat y) Q := At_guard rfl
theorem r232_17 : At call ac_232 17 [vR g m, a1, a2] st h Q ↔ At call ac_232 18 [vR g m, a1, a2] (vR g m :: st) h Q := At_next rfl
theorem r232_18 : At call ac_232 18 [a0, a1, a2] (vR g 27 :: st) h Q ↔ At call ac_232 21 [a0, a1, a2] (vR g 21 :: st) h Q := At_next rfl
theorem r232_21 : At call ac_232 21 [a0, a1, vI x] st h Q ↔ At call ac_232 22 [a0, a1, vI x] (vI x :: st) h Q := At_next rfl
theorem r232_22 : At call ac_232 22 [a0, vR g m, a2] st h Q ↔ At call ac_232 23 [a0, vR g m, a2] (vR g m :: st) h Q := At_next rfl
theorem r232_22n : At call ac_232 22 [a0, vN, a2] st h Q ↔ At call ac_232 23 [a0, vN, a2] (vN :: st) h Q := At_next rfl
theorem r232_22s : At call ac_232 22 [a0, vS n, a2] st h Q ↔ At call ac_232 23 [a0, vS n, a2] (vS n :: st) h Q := At_next rfl
theorem r232_23 : At call ac_232 23 [a0, a1, a2] st h Q ↔ At call ac_232 25 [a0, a1, a2] (vI 8 :: st) h Q := At_next rfl
theorem r232_25 : At call ac_232 25 [a0, a1, vI x] st h Q ↔ At call ac_232 26 [a0, a1, vI x] (vI x :: st) h Q := At_next rfl
theorem r232_26 : At call ac_232 26 [a0, a1, a2] (vI y :: vI x :: st) h Q ↔ At call ac_232 27 [a0, a1, a2] (vI (wr (x + y)) :: st) h Q := At_next rfl
theorem r232_27 : At call ac_232 27 [a0, a1, a2] (vI x :: vR g m :: st) h Q ↔ inA h m 0 x ∧ At call ac_232 28 [a0, a1, a2] (vI (h g m x.toNat) :: st) h Q := At_guard rfl
theorem r232_28 : At call ac_232 28 [a0, a1, a2] (vI y :: vI x :: vR g m :: st) h Q ↔ (inA h m 0 x ∧ m ≠ 37) ∧ At call ac_232 29 [a0, a1, a2] st (up3 h g m x.toNat y) Q := At_guard rfl
theorem r232_29 : At call ac_232 29 [vR g m, a1, a2] st h Q ↔ At call ac_232 30 [vR g m, a1, a2] (vR g m :: st) h Q := At_next rfl
theorem r232_30 : At call ac_232 30 [a0, a1, a2] (vR g 27 :: st) h Q ↔ At call ac_232 33 [a0, a1, a2] (vR g 22 :: st) h Q := At_next rfl
theorem r232_33 : At call ac_232 33 [a0, a1, vI x] st h Q ↔ At call ac_232 34 [a0, a1, vI x] (vI x :: st) h Q := At_next rfl
theorem r232_34 : At call ac_232 34 [a0, vR g m, a2] st h Q ↔ At call ac_232 35 [a0, vR g m, a2] (vR g m :: st) h Q := At_next rfl
theorem r232_34n : At call ac_232 34 [a0, vN, a2] st h Q ↔ At call ac_232 35 [a0, vN, a2] (vN :: st) h Q := At_next rfl
theorem r232_34s : At call ac_232 34 [a0, vS n, a2] st h Q ↔ At call ac_232 35 [a0, vS n, a2] (vS n :: st) h Q := At_next rfl
theorem r232_35 : At call ac_232 35 [a0, a1, a2] st h Q ↔ At call ac_232 37 [a0, a1, a2] (vI 16 :: st) h Q := At_next rfl
theorem r232_37 : At call ac_232 37 [a0, a1, vI x] st h Q ↔ At call ac_232 38 [a0, a1, vI x] (vI x :: st) h Q := At_next rfl
theorem r232_38 : At call ac_232 38 [a0, a1, a2] (vI y :: vI x :: st) h Q ↔ At call ac_232 39 [a0, a1, a2] (vI (wr (x + y)) :: st) h Q := At_next rfl
theorem r232_39 : At call ac_232 39 [a0, a1, a2] (vI x :: vR g m :: st) h Q ↔ inA h m 0 x ∧ At call ac_232 40 [a0, a1, a2] (vI (h g m x.toNat) :: st) h Q := At_guard rfl
theorem r232_40 : At call ac_232 40 [a0, a1, a2] (vI y :: vI x :: vR g m :: st) h Q ↔ (inA h m 0 x ∧ m ≠ 37) ∧ At call ac_232 41 [a0, a1, a2] st (up3 h g m x.toNat y) Q := At_guard rfl
theorem r232_41 : At call ac_232 41 [a0, a1, vI x] st h Q ↔ At call ac_232 44 [a0, a1, vI (wr (x + 1))] st h Q := At_next rfl
theorem r232_44 : At call ac_232 44 [a0, a1, a2] st h Q ↔ At call ac_232 2 [a0, a1, a2] st h Q := At_next rfl
theorem r232_47 : At call ac_232 47 [a0, a1, a2] st h Q ↔ At call ac_232 48 [a0, a1, a2] (vI 0 :: st) h Q := At_next rfl
theorem r232_48 : At call ac_232 48 [a0, a1, a2] (vI x :: st) h Q ↔ At call ac_232 49 [a0, a1, vI x] st h Q := At_next rfl
theorem r232_49 : At call ac_232 49 [a0, a1, vI x] st h Q ↔ At call ac_232 50 [a0, a1, vI x] (vI x :: st) h Q := At_next rfl
theorem r232_50 : At call ac_232 50 [a0, a1, a2] st h Q ↔ At call ac_232 52 [a0, a1, a2] (vI 12 :: st) h Q := At_next rfl
theorem r232_52 : At call ac_232 52 [a0, a1, a2] (vI y :: vI x :: st) h Q ↔ if x < y then At call ac_232 55 [a0, a1, a2] st h Q else At call ac_232 85 [a0, a1, a2] st h Q := At_br rfl
theorem r232_55 : At call ac_232 55 [vR g m, a1, a2] st h Q ↔ At call ac_232 56 [vR g m, a1, a2] (vR g m :: st) h Q := At_next rfl
theorem r232_56 : At call ac_232 56 [a0, a1, a2] (vR g 27 :: st) h Q ↔ At call ac_232 59 [a0, a1, a2] (vR g 24 :: st) h Q := At_next rfl
theorem r232_59 : At call ac_232 59 [a0, a1, vI x] st h Q ↔ At call ac_232 60 [a0, a1, vI x] (vI x :: st) h Q := At_next rfl
theorem r232_60 : At call ac_232 60 [a0, vR g m, a2] st h Q ↔ At call ac_232 61 [a0, vR g m, a2] (vR g m :: st) h Q := At_next rfl
theorem r232_60n : At call ac_232 60 [a0, vN, a2] st h Q ↔ At call ac_232 61 [a0, vN, a2] (vN :: st) h Q := At_next rfl
theorem r232_60s : At call ac_232 60 [a0, vS n, a2] st h Q ↔ At call ac_232 61 [a0, vS n, a2] (vS n :: st) h Q := At_next rfl
theorem r232_61 : At call ac_232 61 [a0, a1, a2] st h Q ↔ At call ac_232 63 [a0, a1, a2] (vI 24 :: st) h Q := At_next rfl
theorem r232_63 : At call ac_232 63 [a0, a1, vI x] st h Q ↔ At call ac_232 64 [a0, a1, vI x] (vI x :: st) h Q := At_next rfl
theorem r232_64 : At call ac_232 64 [a0, a1, a2] (vI y :: vI x :: st) h Q ↔ At call ac_232 65 [a0, a1, a2] (vI (wr (x + y)) :: st) h Q := At_next rfl
theorem r232_65 : At call ac_232 65 [a0, a1, a2] (vI x :: vR g m :: st) h Q ↔ inA h m 0 x ∧ At call ac_232 66 [a0, a1, a2] (vI (h g m x.toNat) :: st) h Q := At_guard rfl
theorem r232_66 : At call ac_232 66 [a0, a1, a2] (vI y :: vI x :: vR g m :: st) h Q ↔ (inA h m 0 x ∧ m ≠ 37) ∧ At call ac_232 67 [a0, a1, a2] st (up3 h g m x.toNat y) Q := At_guard rfl
theorem r232_67 : At call ac_232 67 [vR g m, a1, a2] st h Q ↔ At call ac_232 68 [vR g m, a1, a2] (vR g m :: st) h Q := At_next rfl
theorem r232_68 : At call ac_232 68 [a0, a1, a2] (vR g 27 :: st) h Q ↔ At call ac_232 71 [a0, a1, a2] (vR g 25 :: st) h Q := At_next rfl
theorem r232_71 : At call ac_232 71 [a0, a1, vI x] st h Q ↔ At call ac_232 72 [a0, a1, vI x] (vI x :: st) h Q := At_next rfl
theorem r232_72 : At call ac_232 72 [a0, vR g m, a2] st h Q ↔ At call ac_232 73 [a0, vR g m, a2] (vR g m :: st) h Q := At_next rfl
theorem r232_72n : At call ac_232 72 [a0, vN, a2] st h Q ↔ At call ac_232 73 [a0, vN, a2] (vN :: st) h Q := At_next rfl
theorem r232_72s : At call ac_232 72 [a0, vS n, a2] st h Q ↔ At call ac_232 73 [a0, vS n, a2] (vS n :: st) h Q := At_next rfl
theorem r232_73 : At call ac_232 73 [a0, a1, a2] st h Q ↔ At call ac_232 75 [a0, a1, a2] (vI 36 :: st) h Q := At_next rfl
theorem r232_75 : At call ac_232 75 [a0, a1, vI x] st h Q ↔ At call ac_232 76 [a0, a1, vI x] (vI x :: st) h Q := At_next rfl
theorem r232_76 : At call ac_232 76 [a0, a1, a2] (vI y :: vI x :: st) h Q ↔ At call ac_232 77 [a0, a1, a2] (vI (wr (x + y)) :: st) h Q := At_next rfl
theorem r232_77 : At call ac_232 77 [a0, a1, a2] (vI x :: vR g m :: st) h Q ↔ inA h m 0 x ∧ At call ac_232 78 [a0, a1, a2] (vI (h g m x.toNat) :: st) h Q := At_guard rfl
theorem r232_78 : At call ac_232 78 [a0, a1, a2] (vI y :: vI x :: vR g m :: st) h Q ↔ (inA h m 0 x ∧ m ≠ 37) ∧ At call ac_232 79 [a0, a1, a2] st (up3 h g m x.toNat y) Q := At_guard rfl
theorem r232_79 : At call ac_232 79 [a0, a1, vI x] st h Q ↔ At call ac_232 82 [a0, a1, vI (wr (x + 1))] st h Q := At_next rfl
theorem r232_82 : At call ac_232 82 [a0, a1, a2] st h Q ↔ At call ac_232 49 [a0, a1, a2] st h Q := At_next rfl
theorem r232_85 : At call ac_232 85 [a0, a1, a2] st h Q ↔ At call ac_232 86 [a0, a1, a2] (vI 1 :: st) h Q := At_next rfl
theorem r232_86 : At call ac_232 86 [a0, a1, a2] (vI x :: st) h Q ↔ At call ac_232 87 [a0, a1, vI x] st h Q := At_next rfl
theorem r232_87 : At call ac_232 87 [a0, a1, vI x] st h Q ↔ At call ac_232 88 [a0, a1, vI x] (vI x :: st) h Q := At_next rfl
theorem r232_88 : At call ac_232 88 [a0, a1, a2] st h Q ↔ At call ac_232 89 [a0, a1, a2] (vI 4 :: st) h Q := At_next rfl
theorem r232_89 : At call ac_232 89 [a0, a1, a2] (vI y :: vI x :: st) h Q ↔ if x < y then At call ac_232 92 [a0, a1, a2] st h Q else At call ac_232 110 [a0, a1, a2] st h Q := At_br rfl
theorem r232_92 : At call ac_232 92 [vR g m, a1, a2] st h Q ↔ At call ac_232 93 [vR g m, a1, a2] (vR g m :: st) h Q := At_next rfl
theorem r232_93 : At call ac_232 93 [a0, a1, a2] (vR g 27 :: st) h Q ↔ At call ac_232 96 [a0, a1, a2] (vR g 26 :: st) h Q := At_next rfl
theorem r232_96 : At call ac_232 96 [a0, a1, vI x] st h Q ↔ At call ac_232 97 [a0, a1, vI x] (vI x :: st) h Q := At_next rfl
theorem r232_97 : At call ac_232 97 [a0, vR g m, a2] st h Q ↔ At call ac_232 98 [a0, vR g m, a2] (vR g m :: st) h Q := At_next rfl
theorem r232_97n : At call ac_232 97 [a0, vN, a2] st h Q ↔ At call ac_232 98 [a0, vN, a2] (vN :: st) h Q := At_next rfl
theorem r232_97s : At call ac_232 97 [a0, vS n, a2] st h Q ↔ At call ac_232 98 [a0, vS n, a2] (vS n :: st) h Q := At_next rfl
theorem r232_98 : At call ac_232 98 [a0, a1, a2] st h Q ↔ At call ac_232 100 [a0, a1, a2] (vI 47 :: st) h Q := At_next rfl
theorem r232_100 : At call ac_232 100 [a0, a1, vI x] st h Q ↔ At call ac_232 101 [a0, a1, vI x] (vI x :: st) h Q := At_next rfl
theorem r232_101 : At call ac_232 101 [a0, a1, a2] (vI y :: vI x :: st) h Q ↔ At call ac_232 102 [a0, a1, a2] (vI (wr (x + y)) :: st) h Q := At_next rfl
theorem r232_102 : At call ac_232 102 [a0, a1, a2] (vI x :: vR g m :: st) h Q ↔ inA h m 0 x ∧ At call ac_232 103 [a0, a1, a2] (vI (h g m x.toNat) :: st) h Q := At_guard rfl
theorem r232_103 : At call ac_232 103 [a0, a1, a2] (vI y :: vI x :: vR g m :: st) h Q ↔ (inA h m 0 x ∧ m ≠ 37) ∧ At call ac_232 104 [a0, a1, a2] st (up3 h g m x.toNat y) Q := At_guard rfl
theorem r232_104 : At call ac_232 104 [a0, a1, vI x] st h Q ↔ At call ac_232 107 [a0, a1, vI (wr (x + 1))] st h Q := At_next rfl
theorem r232_107 : At call ac_232 107 [a0, a1, a2] st h Q ↔ At call ac_232 87 [a0, a1, a2] st h Q := At_next rfl
theorem r232_110 : At call ac_232 110 [vR g m, a1, a2] st h Q ↔ At call ac_232 111 [vR g m, a1, a2] (vR g m :: st) h Q := At_next rfl
theorem r232_111 : At call ac_232 111 [a0, vR g m, a2] st h Q ↔ At call ac_232 112 [a0, vR g m, a2] (vR g m :: st) h Q := At_next rfl
theorem r232_111n : At call ac_232 111 [a0, vN, a2] st h Q ↔ At call ac_232 112 [a0, vN, a2] (vN :: st) h Q := At_next rfl
theorem r232_111s : At call ac_232 111 [a0, vS n, a2] st h Q ↔ At call ac_232 112 [a0, vS n, a2] (vS n :: st) h Q := At_next rfl
theorem r232_112 : At call ac_232 112 [a0, a1, a2] st h Q ↔ At call ac_232 114 [a0, a1, a2] (vI 51 :: st) h Q := At_next rfl
theorem r232_114 : At call ac_232 114 [a0, a1, a2] (vI x :: vR g m :: st) h Q ↔ inA h m 0 x ∧ At call ac_232 115 [a0, a1, a2] (vI (h g m x.toNat) :: st) h Q := At_guard rfl
theorem r232_115 : At call ac_232 115 [a0, a1, a2] (vI x :: vR g 27 :: st) h Q ↔ At call ac_232 118 [a0, a1, a2] st (up3 h g 27 7 x) Q := At_next rfl
theorem r232_118 : At call ac_232 118 [vR g m, a1, a2] st h Q ↔ At call ac_232 119 [vR g m, a1, a2] (vR g m :: st) h Q := At_next rfl
theorem r232_119 : At call ac_232 119 [a0, vR g m, a2] st h Q ↔ At call ac_232 120 [a0, vR g m, a2] (vR g m :: st) h Q := At_next rfl
theorem r232_119n : At call ac_232 119 [a0, vN, a2] st h Q ↔ At call ac_232 120 [a0, vN, a2] (vN :: st) h Q := At_next rfl
theorem r232_119s : At call ac_232 119 [a0, vS n, a2] st h Q ↔ At call ac_232 120 [a0, vS n, a2] (vS n :: st) h Q := At_next rfl
theorem r232_120 : At call ac_232 120 [a0, a1, a2] st h Q ↔ At call ac_232 122 [a0, a1, a2] (vI 52 :: st) h Q := At_next rfl
theorem r232_122 : At call ac_232 122 [a0, a1, a2] (vI x :: vR g m :: st) h Q ↔ inA h m 0 x ∧ At call ac_232 123 [a0, a1, a2] (vI (h g m x.toNat) :: st) h Q := At_guard rfl
theorem r232_123 : At call ac_232 123 [a0, a1, a2] (vI x :: vR g 27 :: st) h Q ↔ At call ac_232 126 [a0, a1, a2] st (up3 h g 27 8 x) Q := At_next rfl
theorem r232_126 : At call ac_232 126 [vR g m, a1, a2] st h Q ↔ At call ac_232 127 [vR g m, a1, a2] (vR g m :: st) h Q := At_next rfl
theorem r232_127 : At call ac_232 127 [a0, vR g m, a2] st h Q ↔ At call ac_232 128 [a0, vR g m, a2] (vR g m :: st) h Q := At_next rfl
theorem r232_127n : At call ac_232 127 [a0, vN, a2] st h Q ↔ At call ac_232 128 [a0, vN, a2] (vN :: st) h Q := At_next rfl
theorem r232_127s : At call ac_232 127 [a0, vS n, a2] st h Q ↔ At call ac_232 128 [a0, vS n, a2] (vS n :: st) h Q := At_next rfl
theorem r232_128 : At call ac_232 128 [a0, a1, a2] st h Q ↔ At call ac_232 130 [a0, a1, a2] (vI 53 :: st) h Q := At_next rfl
theorem r232_130 : At call ac_232 130 [a0, a1, a2] (vI x :: vR g m :: st) h Q ↔ inA h m 0 x ∧ At call ac_232 131 [a0, a1, a2] (vI (h g m x.toNat) :: st) h Q := At_guard rfl
theorem r232_131 : At call ac_232 131 [a0, a1, a2] (vI x :: vR g 27 :: st) h Q ↔ At call ac_232 134 [a0, a1, a2] st (up3 h g 27 9 x) Q := At_next rfl
theorem r232_134 : At call ac_232 134 [vR g m, a1, a2] st h Q ↔ At call ac_232 135 [vR g m, a1, a2] (vR g m :: st) h Q := At_next rfl
theorem r232_135 : At call ac_232 135 [a0, vR g m, a2] st h Q ↔ At call ac_232 136 [a0, vR g m, a2] (vR g m :: st) h Q := At_next rfl
theorem r232_135n : At call ac_232 135 [a0, vN, a2] st h Q ↔ At call ac_232 136 [a0, vN, a2] (vN :: st) h Q := At_next rfl
theorem r232_135s : At call ac_232 135 [a0, vS n, a2] st h Q ↔ At call ac_232 136 [a0, vS n, a2] (vS n :: st) h Q := At_next rfl
theorem r232_136 : At call ac_232 136 [a0, a1, a2] st h Q ↔ At call ac_232 138 [a0, a1, a2] (vI 54 :: st) h Q := At_next rfl
theorem r232_138 : At call ac_232 138 [a0, a1, a2] (vI x :: vR g m :: st) h Q ↔ inA h m 0 x ∧ At call ac_232 139 [a0, a1, a2] (vI (h g m x.toNat) :: st) h Q := At_guard rfl
theorem r232_139 : At call ac_232 139 [a0, a1, a2] (vI x :: vR g 27 :: st) h Q ↔ At call ac_232 142 [a0, a1, a2] st (up3 h g 27 10 x) Q := At_next rfl
theorem r232_142 : At call ac_232 142 [vR g m, a1, a2] st h Q ↔ At call ac_232 143 [vR g m, a1, a2] (vR g m :: st) h Q := At_next rfl
theorem r232_143 : At call ac_232 143 [a0, vR g m, a2] st h Q ↔ At call ac_232 144 [a0, vR g m, a2] (vR g m :: st) h Q := At_next rfl
theorem r232_143n : At call ac_232 143 [a0, vN, a2] st h Q ↔ At call ac_232 144 [a0, vN, a2] (vN :: st) h Q := At_next rfl
theorem r232_143s : At call ac_232 143 [a0, vS n, a2] st h Q ↔ At call ac_232 144 [a0, vS n, a2] (vS n :: st) h Q := At_next rfl
theorem r232_144 : At call ac_232 144 [a0, a1, a2] st h Q ↔ At call ac_232 146 [a0, a1, a2] (vI 55 :: st) h Q := At_next rfl
theorem r232_146 : At call ac_232 146 [a0, a1, a2] (vI x :: vR g m :: st) h Q ↔ inA h m 0 x ∧ At call ac_232 147 [a0, a1, a2] (vI (h g m x.toNat) :: st) h Q := At_guard rfl
theorem r232_147 : At call ac_232 147 [a0, a1, a2] (vI x :: vR g 27 :: st) h Q ↔ At call ac_232 150 [a0, a1, a2] st (up3 h g 27 11 x) Q := At_next rfl
theorem r232_150 : At call ac_232 150 [vR g m, a1, a2] st h Q ↔ At call ac_232 151 [vR g m, a1, a2] (vR g m :: st) h Q := At_next rfl
theorem r232_151 : At call ac_232 151 [a0, vR g m, a2] st h Q ↔ At call ac_232 152 [a0, vR g m, a2] (vR g m :: st) h Q := At_next rfl
theorem r232_151n : At call ac_232 151 [a0, vN, a2] st h Q ↔ At call ac_232 152 [a0, vN, a2] (vN :: st) h Q := At_next rfl
theorem r232_151s : At call ac_232 151 [a0, vS n, a2] st h Q ↔ At call ac_232 152 [a0, vS n, a2] (vS n :: st) h Q := At_next rfl
theorem r232_152 : At call ac_232 152 [a0, a1, a2] st h Q ↔ At call ac_232 154 [a0, a1, a2] (vI 56 :: st) h Q := At_next rfl
theorem r232_154 : At call ac_232 154 [a0, a1, a2] (vI x :: vR g m :: st) h Q ↔ inA h m 0 x ∧ At call ac_232 155 [a0, a1, a2] (vI (h g m x.toNat) :: st) h Q := At_guard rfl
theorem r232_155 : At call ac_232 155 [a0, a1, a2] (vI x :: vR g 27 :: st) h Q ↔ At call ac_232 158 [a0, a1, a2] st (up3 h g 27 12 x) Q := At_next rfl
theorem r232_158 : At call ac_232 158 [vR g m, a1, a2] st h Q ↔ At call ac_232 159 [vR g m, a1, a2] (vR g m :: st) h Q := At_next rfl
theorem r232_159 : At call ac_232 159 [a0, vR g m, a2] st h Q ↔ At call ac_232 160 [a0, vR g m, a2] (vR g m :: st) h Q := At_next rfl
theorem r232_159n : At call ac_232 159 [a0, vN, a2] st h Q ↔ At call ac_232 160 [a0, vN, a2] (vN :: st) h Q := At_next rfl
theorem r232_159s : At call ac_232 159 [a0, vS n, a2] st h Q ↔ At call ac_232 160 [a0, vS n, a2] (vS n :: st) h Q := At_next rfl
theorem r232_160 : At call ac_232 160 [a0, a1, a2] st h Q ↔ At call ac_232 162 [a0, a1, a2] (vI 57 :: st) h Q := At_next rfl
theorem r232_162 : At call ac_232 162 [a0, a1, a2] (vI x :: vR g m :: st) h Q ↔ inA h m 0 x ∧ At call ac_232 163 [a0, a1, a2] (vI (h g m x.toNat) :: st) h Q := At_guard rfl
theorem r232_163 : At call ac_232 163 [a0, a1, a2] (vI x :: vR g 27 :: st) h Q ↔ At call ac_232 166 [a0, a1, a2] st (up3 h g 27 13 x) Q := At_next rfl
theorem r232_166 : At call ac_232 166 [vR g m, a1, a2] st h Q ↔ At call ac_232 167 [vR g m, a1, a2] (vR g m :: st) h Q := At_next rfl
theorem r232_167 : At call ac_232 167 [a0, vR g m, a2] st h Q ↔ At call ac_232 168 [a0, vR g m, a2] (vR g m :: st) h Q := At_next rfl
theorem r232_167n : At call ac_232 167 [a0, vN, a2] st h Q ↔ At call ac_232 168 [a0, vN, a2] (vN :: st) h Q := At_next rfl
theorem r232_167s : At call ac_232 167 [a0, vS n, a2] st h Q ↔ At call ac_232 168 [a0, vS n, a2] (vS n :: st) h Q := At_next rfl
theorem r232_168 : At call ac_232 168 [a0, a1, a2] st h Q ↔ At call ac_232 170 [a0, a1, a2] (vI 58 :: st) h Q := At_next rfl
theorem r232_170 : At call ac_232 170 [a0, a1, a2] (vI x :: vR g m :: st) h Q ↔ inA h m 0 x ∧ At call ac_232 171 [a0, a1, a2] (vI (h g m x.toNat) :: st) h Q := At_guard rfl
theorem r232_171 : At call ac_232 171 [a0, a1, a2] (vI x :: vR g 27 :: st) h Q ↔ At call ac_232 174 [a0, a1, a2] st (up3 h g 27 14 x) Q := At_next rfl
theorem r232_174 : At call ac_232 174 [vR g m, a1, a2] st h Q ↔ At call ac_232 175 [vR g m, a1, a2] (vR g m :: st) h Q := At_next rfl
theorem r232_175 : At call ac_232 175 [a0, vR g m, a2] st h Q ↔ At call ac_232 176 [a0, vR g m, a2] (vR g m :: st) h Q := At_next rfl
theorem r232_175n : At call ac_232 175 [a0, vN, a2] st h Q ↔ At call ac_232 176 [a0, vN, a2] (vN :: st) h Q := At_next rfl
theorem r232_175s : At call ac_232 175 [a0, vS n, a2] st h Q ↔ At call ac_232 176 [a0, vS n, a2] (vS n :: st) h Q := At_next rfl
theorem r232_176 : At call ac_232 176 [a0, a1, a2] st h Q ↔ At call ac_232 178 [a0, a1, a2] (vI 59 :: st) h Q := At_next rfl
theorem r232_178 : At call ac_232 178 [a0, a1, a2] (vI x :: vR g m :: st) h Q ↔ inA h m 0 x ∧ At call ac_232 179 [a0, a1, a2] (vI (h g m x.toNat) :: st) h Q := At_guard rfl
theorem r232_179 : At call ac_232 179 [a0, a1, a2] (vI x :: vR g 27 :: st) h Q ↔ At call ac_232 182 [a0, a1, a2] st (up3 h g 27 15 x) Q := At_next rfl
theorem r232_182 : At call ac_232 182 [vR g m, a1, a2] st h Q ↔ At call ac_232 183 [vR g m, a1, a2] (vR g m :: st) h Q := At_next rfl
theorem r232_183 : At call ac_232 183 [a0, vR g m, a2] st h Q ↔ At call ac_232 184 [a0, vR g m, a2] (vR g m :: st) h Q := At_next rfl
theorem r232_183n : At call ac_232 183 [a0, vN, a2] st h Q ↔ At call ac_232 184 [a0, vN, a2] (vN :: st) h Q := At_next rfl
theorem r232_183s : At call ac_232 183 [a0, vS n, a2] st h Q ↔ At call ac_232 184 [a0, vS n, a2] (vS n :: st) h Q := At_next rfl
theorem r232_184 : At call ac_232 184 [a0, a1, a2] st h Q ↔ At call ac_232 186 [a0, a1, a2] (vI 60 :: st) h Q := At_next rfl
theorem r232_186 : At call ac_232 186 [a0, a1, a2] (vI x :: vR g m :: st) h Q ↔ inA h m 0 x ∧ At call ac_232 187 [a0, a1, a2] (vI (h g m x.toNat) :: st) h Q := At_guard rfl
theorem r232_187 : At call ac_232 187 [a0, a1, a2] (vI x :: vR g 27 :: st) h Q ↔ At call ac_232 190 [a0, a1, a2] st (up3 h g 27 16 x) Q := At_next rfl
theorem r232_190 : At call ac_232 190 [a0, a1, a2] [] h Q ↔ Q none h := At_ret rfl
theorem r233_0 : At call ac_233 0 [vR g m] st h Q ↔ At call ac_233 1 [vR g m] (vR g m :: st) h Q := At_next rfl
theorem r233_1 : At call ac_233 1 [a0] st h Q ↔ At call ac_233 2 [a0] (vI 1 :: st) h Q := At_next rfl
theorem r233_2 : At call ac_233 2 [a0] (vI x :: vR g 27 :: st) h Q ↔ (27 = 27 ∧ (x = 0 ∨ x = 1)) ∧ At call ac_233 5 [a0] st (up3 h g 27 22 x) Q := At_guard rfl
theorem r233_5 : At call ac_233 5 [vR g m] st h Q ↔ At call ac_233 6 [vR g m] (vR g m :: st) h Q := At_next rfl
theorem r233_6 : At call ac_233 6 [vR g m] st h Q ↔ At call ac_233 7 [vR g m] (vR g m :: st) h Q := At_next rfl
theorem r233_7 : At call ac_233 7 [a0] (vR g 27 :: st) h Q ↔ At call ac_233 10 [a0] (vR g 33 :: st) h Q := At_next rfl
theorem r233_10 : At call ac_233 10 [a0] (b1 :: b0 :: st) h Q ↔ st.length ≤ 4 ∧ ∃ h1, call 231 [b0, b1] h none h1 ∧ At call ac_233 13 [a0] st h1 Q := At_gcallv rfl
theorem r233_13 : At call ac_233 13 [vR g m] st h Q ↔ At call ac_233 14 [vR g m] (vR g m :: st) h Q := At_next rfl
theorem r233_14 : At call ac_233 14 [a0] (vR g 27 :: st) h Q ↔ At call ac_233 17 [a0] (vI (h g 27 7) :: st) h Q := At_next rfl
theorem r233_17 : At call ac_233 17 [a0] [vI x] h Q ↔ Q (some (vI x)) h := At_ret rfl
theorem r234_0 : At call ac_234 0 [vR g m, a1] st h Q ↔ At call ac_234 1 [vR g m, a1] (vR g m :: st) h Q := At_next rfl
theorem r234_1 : At call ac_234 1 [a0, a1] (vR g 27 :: st) h Q ↔ At call ac_234 4 [a0, a1] (vI (h g 27 22) :: st) h Q := At_next rfl
theorem r234_4 : At call ac_234 4 [a0, a1] (vI x :: st) h Q ↔ if x = 0 then At call ac_234 7 [a0, a1] st h Q else At call ac_234 14 [a0, a1] st h Q := At_br rfl
theorem r234_7 : At call ac_234 7 [vR g m, a1] st h Q ↔ At call ac_234 8 [vR g m, a1] (vR g m :: st) h Q := At_next rfl
theorem r234_8 : At call ac_234 8 [a0, a1] st h Q ↔ At call ac_234 10 [a0, a1] (vI (-6) :: st) h Q := At_next rfl
theorem r234_10 : At call ac_234 10 [a0, a1] (b1 :: b0 :: st) h Q ↔ st.length ≤ 4 ∧ ∃ v h1, call 142 [b0, b1] h (some v) h1 ∧ At call ac_234 13 [a0, a1] (v :: st) h1 Q := At_gcall rfl
theorem r234_13 : At call ac_234 13 [a0, a1] [vI x] h Q ↔ Q (some (vI x)) h := At_ret rfl
theorem r234_14 : At call ac_234 14 [vR g m, a1] st h Q ↔ At call ac_234 15 [vR g m, a1] (vR g m :: st) h Q := At_next rfl
theorem r234_15 : At call ac_234 15 [vR g m, a1] st h Q ↔ At call ac_234 16 [vR g m, a1] (vR g m :: st) h Q := At_next rfl
theorem r234_16 : At call ac_234 16 [a0, a1] (vR g 27 :: st) h Q ↔ At call ac_234 19 [a0, a1] (vR g 33 :: st) h Q := At_next rfl
theorem r234_19 : At call ac_234 19 [a0, a1] (b1 :: b0 :: st) h Q ↔ st.length ≤ 4 ∧ ∃ h1, call 232 [b0, b1] h none h1 ∧ At call ac_234 22 [a0, a1] st h1 Q := At_gcallv rfl
theorem r234_22 : At call ac_234 22 [a0, a1] st h Q ↔ At call ac_234 23 [a0, a1] (vI 0 :: st) h Q := At_next rfl
theorem r234_23 : At call ac_234 23 [a0, a1] (vI x :: st) h Q ↔ At call ac_234 24 [a0, vI x] st h Q := At_next rfl
theorem r234_24 : At call ac_234 24 [a0, vI x] st h Q ↔ At call ac_234 25 [a0, vI x] (vI x :: st) h Q := At_next rfl
theorem r234_25 : At call ac_234 25 [a0, a1] st h Q ↔ At call ac_234 27 [a0, a1] (vI 8 :: st) h Q := At_next rfl
theorem r234_27 : At call ac_234 27 [a0, a1] (vI y :: vI x :: st) h Q ↔ if x < y then At call ac_234 30 [a0, a1] st h Q else At call ac_234 64 [a0, a1] st h Q := At_br rfl
theorem r234_30 : At call ac_234 30 [vR g m, a1] st h Q ↔ At call ac_234 31 [vR g m, a1] (vR g m :: st) h Q := At_next rfl
theorem r234_31 : At call ac_234 31 [a0, vI x] st h Q ↔ At call ac_234 32 [a0, vI x] (vI x :: st) h Q := At_next rfl
theorem r234_32 : At call ac_234 32 [a0, a1] (b1 :: b0 :: st) h Q ↔ st.length ≤ 4 ∧ ∃ v h1, call 147 [b0, b1] h (some v) h1 ∧ At call ac_234 35 [a0, a1] (v :: st) h1 Q := At_gcall rfl
theorem r234_35 : At call ac_234 35 [a0, a1] (vI x :: st) h Q ↔ if x = 0 then At call ac_234 38 [a0, a1] st h Q else At call ac_234 58 [a0, a1] st h Q := At_br rfl
theorem r234_38 : At call ac_234 38 [vR g m, a1] st h Q ↔ At call ac_234 39 [vR g m, a1] (vR g m :: st) h Q := At_next rfl
theorem r234_39 : At call ac_234 39 [a0, a1] (vR g 27 :: st) h Q ↔ At call ac_234 42 [a0, a1] (vR g 28 :: st) h Q := At_next rfl
theorem r234_42 : At call ac_234 42 [a0, vI x] st h Q ↔ At call ac_234 43 [a0, vI x] (vI x :: st) h Q := At_next rfl
theorem r234_43 : At call ac_234 43 [a0, a1] (vI x :: vR g m :: st) h Q ↔ inA h m 0 x ∧ At call ac_234 44 [a0, a1] (vI (h g m x.toNat) :: st) h Q := At_guard rfl
theorem r234_44 : At call ac_234 44 [vR g m, a1] st h Q ↔ At call ac_234 45 [vR g m, a1] (vR g m :: st) h Q := At_next rfl
theorem r234_45 : At call ac_234 45 [a0, a1] (vR g 27 :: st) h Q ↔ At call ac_234 48 [a0, a1] (vI (h g 27 7) :: st) h Q := At_next rfl
theorem r234_48 : At call ac_234 48 [a0, a1] (vI y :: vI x :: st) h Q ↔ if x < y then At call ac_234 58 [a0, a1] st h Q else At call ac_234 51 [a0, a1] st h Q := At_br rfl
theorem r234_51 : At call ac_234 51 [vR g m, a1] st h Q ↔ At call ac_234 52 [vR g m, a1] (vR g m :: st) h Q := At_next rfl
theorem r234_52 : At call ac_234 52 [a0, a1] (vR g 27 :: st) h Q ↔ At call ac_234 55 [a0, a1] (vR g 28 :: st) h Q := At_next rfl
theorem r234_55 : At call ac_234 55 [a0, vI x] st h Q ↔ At call ac_234 56 [a0, vI x] (vI x :: st) h Q := At_next rfl
theorem r234_56 : At call ac_234 56 [a0, a1] st h Q ↔ At call ac_234 57 [a0, a1] (vI (-1) :: st) h Q := At_next rfl
theorem r234_57 : At call ac_234 57 [a0, a1] (vI y :: vI x :: vR g m :: st) h Q ↔ (inA h m 0 x ∧ m ≠ 37) ∧ At call ac_234 58 [a0, a1] st (up3 h g m x.toNat y) Q := At_guard rfl
theorem r234_58 : At call ac_234 58 [a0, vI x] st h Q ↔ At call ac_234 61 [a0, vI (wr (x + 1))] st h Q := At_next rfl
theorem r234_61 : At call ac_234 61 [a0, a1] st h Q ↔ At call ac_234 24 [a0, a1] st h Q := At_next rfl
theorem r234_64 : At call ac_234 64 [vR g m, a1] st h Q ↔ At call ac_234 65 [vR g m, a1] (vR g m :: st) h Q := At_next rfl
theorem r234_65 : At call ac_234 65 [a0, a1] (vR g 27 :: st) h Q ↔ At call ac_234 68 [a0, a1] (vI (h g 27 7) :: st) h Q := At_next rfl
theorem r234_68 : At call ac_234 68 [a0, a1] [vI x] h Q ↔ Q (some (vI x)) h := At_ret rfl
theorem r235_0 : At call ac_235 0 [a0, a1, a2, a3] st h Q ↔ At call ac_235 1 [a0, a1, a2, a3] (vI 0 :: st) h Q := At_next rfl
theorem r235_1 : At call ac_235 1 [a0, a1, a2, a3] (vI x :: st) h Q ↔ At call ac_235 2 [a0, a1, vI x, a3] st h Q := At_next rfl
theorem r235_2 : At call ac_235 2 [a0, vI x, a2, a3] st h Q ↔ At call ac_235 3 [a0, vI x, a2, a3] (vI x :: st) h Q := At_next rfl
theorem r235_3 : At call ac_235 3 [a0, a1, a2, a3] (vI x :: st) h Q ↔ if x = 0 then At call ac_235 100 [a0, a1, a2, a3] st h Q else if x = 1 then At call ac_235 105 [a0, a1, a2, a3] st h Q else if x = 2 then At call ac_235 110 [a0, a1, a2, a3] st h Q else if x = 3 then At call ac_235 115 [a0, a1, a2, a3] st h Q else if x = 4 then At call ac_235 120 [a0, a1, a2, a3] st h Q else if x = 5 then At call ac_235 125 [a0, a1, a2, a3] st h Q else if x = 6 then At call ac_235 130 [a0, a1, a2, a3] st h Q else if x = 7 then At call ac_235 135 [a0, a1, a2, a3] st h Q else if x = 8 then At call ac_235 142 [a0, a1, a2, a3] st h Q else if x = 9 then At call ac_235 147 [a0, a1, a2, a3] st h Q else if x = 10 then At call ac_235 152 [a0, a1, a2, a3] st h Q else if x = 11 then At call ac_235 202 [a0, a1, a2, a3] st h Q else if x = 12 then At call ac_235 202 [a0, a1, a2, a3] st h Q else if x = 13 then At call ac_235 202 [a0, a1, a2, a3] st h Q else if x = 14 then At call ac_235 202 [a0, a1, a2, a3] st h Q else if x = 15 then At call ac_235 202 [a0, a1, a2, a3] st h Q else if x = 16 then At call ac_235 202 [a0, a1, a2, a3] st h Q else if x = 17 then At call ac_235 202 [a0, a1, a2, a3] st h Q else if x = 18 then At call ac_235 179 [a0, a1, a2, a3] st h Q else if x = 19 then At call ac_235 184 [a0, a1, a2, a3] st h Q else if x = 20 then At call ac_235 189 [a0, a1, a2, a3] st h Q else At call ac_235 202 [a0, a1, a2, a3] st h Q := At_swT (k := 0) (ts := [100, 105, 110, 115, 120, 125, 130, 135, 142, 147, 152, 202, 202, 202, 202, 202, 202, 202, 179, 184, 189]) (d := 202) (L' := [a0, a1, a2, a3]) (st' := st) (h' := h) rfl
theorem r235_100 : At call ac_235 100 [vR g m, a1, a2, a3] st h Q ↔ At call ac_235 101 [vR g m, a1, a2, a3] (vR g m :: st) h Q := At_next rfl
theorem r235_101 : At call ac_235 101 [a0, a1, a2, a3] (vR g 27 :: st) h Q ↔ At call ac_235 104 [a0, a1, a2, a3] (vI (h g 27 7) :: st) h Q := At_next rfl
theorem r235_104 : At call ac_235 104 [a0, a1, a2, a3] [vI x] h Q ↔ Q (some (vI x)) h := At_ret rfl
theorem r235_105 : At call ac_235 105 [vR g m, a1, a2, a3] st h Q ↔ At call ac_235 106 [vR g m, a1, a2, a3] (vR g m :: st) h Q := At_next rfl
theorem r235_106 : At call ac_235 106 [a0, a1, a2, a3] (vR g 27 :: st) h Q ↔ At call ac_235 109 [a0, a1, a2, a3] (vI (h g 27 8) :: st) h Q := At_next rfl
theorem r235_109 : At call ac_235 109 [a0, a1, a2, a3] [vI x] h Q ↔ Q (some (vI x)) h := At_ret rfl
theorem r235_110 : At call ac_235 110 [vR g m, a1, a2, a3] st h Q ↔ At call ac_235 111 [vR g m, a1, a2, a3] (vR g m :: st) h Q := At_next rfl
theorem r235_111 : At call ac_235 111 [a0, a1, a2, a3] (b0 :: st) h Q ↔ st.length ≤ 4 ∧ ∃ v h1, call 183 [b0] h (some v) h1 ∧ At call ac_235 114 [a0, a1, a2, a3] (v :: st) h1 Q := At_gcall rfl
theorem r235_114 : At call ac_235 114 [a0, a1, a2, a3] [vI x] h Q ↔ Q (some (vI x)) h := At_ret rfl
theorem r235_115 : At call ac_235 115 [vR g m, a1, a2, a3] st h Q ↔ At call ac_235 116 [vR g m, a1, a2, a3] (vR g m :: st) h Q := At_next rfl
theorem r235_116 : At call ac_235 116 [a0, a1, a2, a3] (vR g 27 :: st) h Q ↔ At call ac_235 119 [a0, a1, a2, a3] (vI (h g 27 9) :: st) h Q := At_next rfl
theorem r235_119 : At call ac_235 119 [a0, a1, a2, a3] [vI x] h Q ↔ Q (some (vI x)) h := At_ret rfl
theorem r235_120 : At call ac_235 120 [vR g m, a1, a2, a3] st h Q ↔ At call ac_235 121 [vR g m, a1, a2, a3] (vR g m :: st) h Q := At_next rfl
theorem r235_121 : At call ac_235 121 [a0, a1, a2, a3] (vR g 27 :: st) h Q ↔ At call ac_235 124 [a0, a1, a2, a3] (vI (h g 27 10) :: st) h Q := At_next rfl
theorem r235_124 : At call ac_235 124 [a0, a1, a2, a3] [vI x] h Q ↔ Q (some (vI x)) h := At_ret rfl
theorem r235_125 : At call ac_235 125 [vR g m, a1, a2, a3] st h Q ↔ At call ac_235 126 [vR g m, a1, a2, a3] (vR g m :: st) h Q := At_next rfl
theorem r235_126 : At call ac_235 126 [a0, a1, a2, a3] (vR g 27 :: st) h Q ↔ At call ac_235 129 [a0, a1, a2, a3] (vI (h g 27 11) :: st) h Q := At_next rfl
theorem r235_129 : At call ac_235 129 [a0, a1, a2, a3] [vI x] h Q ↔ Q (some (vI x)) h := At_ret rfl
theorem r235_130 : At call ac_235 130 [vR g m, a1, a2, a3] st h Q ↔ At call ac_235 131 [vR g m, a1, a2, a3] (vR g m :: st) h Q := At_next rfl
theorem r235_131 : At call ac_235 131 [a0, a1, a2, a3] (vR g 27 :: st) h Q ↔ At call ac_235 134 [a0, a1, a2, a3] (vI (h g 27 12) :: st) h Q := At_next rfl
theorem r235_134 : At call ac_235 134 [a0, a1, a2, a3] [vI x] h Q ↔ Q (some (vI x)) h := At_ret rfl
theorem r235_135 : At call ac_235 135 [vR g m, a1, a2, a3] st h Q ↔ At call ac_235 136 [vR g m, a1, a2, a3] (vR g m :: st) h Q := At_next rfl
theorem r235_136 : At call ac_235 136 [a0, a1, a2, a3] (vR g 27 :: st) h Q ↔ At call ac_235 139 [a0, a1, a2, a3] (vI (h g 27 13) :: st) h Q := At_next rfl
theorem r235_139 : At call ac_235 139 [a0, a1, a2, a3] st h Q ↔ At call ac_235 140 [a0, a1, a2, a3] (vI 1 :: st) h Q := At_next rfl
theorem r235_140 : At call ac_235 140 [a0, a1, a2, a3] (vI y :: vI x :: st) h Q ↔ At call ac_235 141 [a0, a1, a2, a3] (vI (wr (x + y)) :: st) h Q := At_next rfl
theorem r235_141 : At call ac_235 141 [a0, a1, a2, a3] [vI x] h Q ↔ Q (some (vI x)) h := At_ret rfl
theorem r235_142 : At call ac_235 142 [vR g m, a1, a2, a3] st h Q ↔ At call ac_235 143 [vR g m, a1, a2, a3] (vR g m :: st) h Q := At_next rfl
theorem r235_143 : At call ac_235 143 [a0, a1, a2, a3] (vR g 27 :: st) h Q ↔ At call ac_235 146 [a0, a1, a2, a3] (vI (h g 27 14) :: st) h Q := At_next rfl
theorem r235_146 : At call ac_235 146 [a0, a1, a2, a3] [vI x] h Q ↔ Q (some (vI x)) h := At_ret rfl
theorem r235_147 : At call ac_235 147 [vR g m, a1, a2, a3] st h Q ↔ At call ac_235 148 [vR g m, a1, a2, a3] (vR g m :: st) h Q := At_next rfl
theorem r235_148 : At call ac_235 148 [a0, a1, a2, a3] (vR g 27 :: st) h Q ↔ At call ac_235 151 [a0, a1, a2, a3] (vI (h g 27 15) :: st) h Q := At_next rfl
theorem r235_151 : At call ac_235 151 [a0, a1, a2, a3] [vI x] h Q ↔ Q (some (vI x)) h := At_ret rfl
theorem r235_152 : At call ac_235 152 [a0, a1, a2, a3] st h Q ↔ At call ac_235 153 [a0, a1, a2, a3] (vI 0 :: st) h Q := At_next rfl
theorem r235_153 : At call ac_235 153 [a0, a1, a2, a3] (vI x :: st) h Q ↔ At call ac_235 154 [a0, a1, a2, vI x] st h Q := At_next rfl
theorem r235_154 : At call ac_235 154 [a0, a1, a2, vI x] st h Q ↔ At call ac_235 155 [a0, a1, a2, vI x] (vI x :: st) h Q := At_next rfl
theorem r235_155 : At call ac_235 155 [vR g m, a1, a2, a3] st h Q ↔ At call ac_235 156 [vR g m, a1, a2, a3] (vR g m :: st) h Q := At_next rfl
theorem r235_156 : At call ac_235 156 [a0, a1, a2, a3] (vR g 27 :: st) h Q ↔ At call ac_235 159 [a0, a1, a2, a3] (vI (h g 27 7) :: st) h Q := At_next rfl
theorem r235_159 : At call ac_235 159 [a0, a1, a2, a3] (vI y :: vI x :: st) h Q ↔ if x < y then At call ac_235 162 [a0, a1, a2, a3] st h Q else At call ac_235 177 [a0, a1, a2, a3] st h Q := At_br rfl
theorem r235_162 : At call ac_235 162 [a0, a1, vI x, a3] st h Q ↔ At call ac_235 163 [a0, a1, vI x, a3] (vI x :: st) h Q := At_next rfl
theorem r235_163 : At call ac_235 163 [vR g m, a1, a2, a3] st h Q ↔ At call ac_235 164 [vR g m, a1, a2, a3] (vR g m :: st) h Q := At_next rfl
theorem r235_164 : At call ac_235 164 [a0, a1, a2, a3] (vR g 27 :: st) h Q ↔ At call ac_235 167 [a0, a1, a2, a3] (vR g 22 :: st) h Q := At_next rfl
theorem r235_167 : At call ac_235 167 [a0, a1, a2, vI x] st h Q ↔ At call ac_235 168 [a0, a1, a2, vI x] (vI x :: st) h Q := At_next rfl
theorem r235_168 : At call ac_235 168 [a0, a1, a2, a3] (vI x :: vR g m :: st) h Q ↔ inA h m 0 x ∧ At call ac_235 169 [a0, a1, a2, a3] (vI (h g m x.toNat) :: st) h Q := At_guard rfl
theorem r235_169 : At call ac_235 169 [a0, a1, a2, a3] (vI y :: vI x :: st) h Q ↔ At call ac_235 170 [a0, a1, a2, a3] (vI (wr (x + y)) :: st) h Q := At_next rfl
theorem r235_170 : At call ac_235 170 [a0, a1, a2, a3] (vI x :: st) h Q ↔ At call ac_235 171 [a0, a1, vI x, a3] st h Q := At_next rfl
theorem r235_171 : At call ac_235 171 [a0, a1, a2, vI x] st h Q ↔ At call ac_235 174 [a0, a1, a2, vI (wr (x + 1))] st h Q := At_next rfl
theorem r235_174 : At call ac_235 174 [a0, a1, a2, a3] st h Q ↔ At call ac_235 154 [a0, a1, a2, a3] st h Q := At_next rfl
theorem r235_177 : At call ac_235 177 [a0, a1, vI x, a3] st h Q ↔ At call ac_235 178 [a0, a1, vI x, a3] (vI x :: st) h Q := At_next rfl
theorem r235_178 : At call ac_235 178 [a0, a1, a2, a3] [vI x] h Q ↔ Q (some (vI x)) h := At_ret rfl
theorem r235_179 : At call ac_235 179 [vR g m, a1, a2, a3] st h Q ↔ At call ac_235 180 [vR g m, a1, a2, a3] (vR g m :: st) h Q := At_next rfl
theorem r235_180 : At call ac_235 180 [a0, a1, a2, a3] (vR g 27 :: st) h Q ↔ At call ac_235 183 [a0, a1, a2, a3] (vI (h g 27 16) :: st) h Q := At_next rfl
theorem r235_183 : At call ac_235 183 [a0, a1, a2, a3] [vI x] h Q ↔ Q (some (vI x)) h := At_ret rfl
theorem r235_184 : At call ac_235 184 [vR g m, a1, a2, a3] st h Q ↔ At call ac_235 185 [vR g m, a1, a2, a3] (vR g m :: st) h Q := At_next rfl
theorem r235_185 : At call ac_235 185 [a0, a1, a2, a3] (vR g 27 :: st) h Q ↔ At call ac_235 188 [a0, a1, a2, a3] (vI (h g 27 21) :: st) h Q := At_next rfl
theorem r235_188 : At call ac_235 188 [a0, a1, a2, a3] [vI x] h Q ↔ Q (some (vI x)) h := At_ret rfl
theorem r235_189 : At call ac_235 189 [vR g m, a1, a2, a3] st h Q ↔ At call ac_235 190 [vR g m, a1, a2, a3] (vR g m :: st) h Q := At_next rfl
theorem r235_190 : At call ac_235 190 [a0, a1, a2, a3] (b0 :: st) h Q ↔ st.length ≤ 4 ∧ ∃ v h1, call 158 [b0] h (some v) h1 ∧ At call ac_235 193 [a0, a1, a2, a3] (v :: st) h1 Q := At_gcall rfl
theorem r235_193 : At call ac_235 193 [a0, a1, a2, a3] (vI x :: st) h Q ↔ if x = 0 then At call ac_235 200 [a0, a1, a2, a3] st h Q else At call ac_235 196 [a0, a1, a2, a3] st h Q := At_br rfl
theorem r235_196 : At call ac_235 196 [a0, a1, a2, a3] st h Q ↔ At call ac_235 197 [a0, a1, a2, a3] (vI 1 :: st) h Q := At_next rfl
theorem r235_197 : At call ac_235 197 [a0, a1, a2, a3] st h Q ↔ At call ac_235 201 [a0, a1, a2, a3] st h Q := At_next rfl
theorem r235_200 : At call ac_235 200 [a0, a1, a2, a3] st h Q ↔ At call ac_235 201 [a0, a1, a2, a3] (vI 0 :: st) h Q := At_next rfl
theorem r235_201 : At call ac_235 201 [a0, a1, a2, a3] [vI x] h Q ↔ Q (some (vI x)) h := At_ret rfl
theorem r235_202 : At call ac_235 202 [a0, vI x, a2, a3] st h Q ↔ At call ac_235 203 [a0, vI x, a2, a3] (vI x :: st) h Q := At_next rfl
theorem r235_203 : At call ac_235 203 [a0, a1, a2, a3] st h Q ↔ At call ac_235 205 [a0, a1, a2, a3] (vI 11 :: st) h Q := At_next rfl
theorem r235_205 : At call ac_235 205 [a0, a1, a2, a3] st h Q ↔ At call ac_235 207 [a0, a1, a2, a3] (vI 17 :: st) h Q := At_next rfl
theorem r235_207 : At call ac_235 207 [a0, a1, a2, a3] (b2 :: b1 :: b0 :: st) h Q ↔ st.length ≤ 4 ∧ ∃ v h1, call 144 [b0, b1, b2] h (some v) h1 ∧ At call ac_235 210 [a0, a1, a2, a3] (v :: st) h1 Q := At_gcall rfl
theorem r235_210 : At call ac_235 210 [a0, a1, a2, a3] (vI x :: st) h Q ↔ if x = 0 then At call ac_235 225 [a0, a1, a2, a3] st h Q else At call ac_235 213 [a0, a1, a2, a3] st h Q := At_br rfl
theorem r235_213 : At call ac_235 213 [vR g m, a1, a2, a3] st h Q ↔ At call ac_235 214 [vR g m, a1, a2, a3] (vR g m :: st) h Q := At_next rfl
theorem r235_214 : At call ac_235 214 [a0, a1, a2, a3] (vR g 27 :: st) h Q ↔ At call ac_235 217 [a0, a1, a2, a3] (vR g 31 :: st) h Q := At_next rfl
theorem r235_217 : At call ac_235 217 [a0, vI x, a2, a3] st h Q ↔ At call ac_235 218 [a0, vI x, a2, a3] (vI x :: st) h Q := At_next rfl
theorem r235_218 : At call ac_235 218 [a0, a1, a2, a3] st h Q ↔ At call ac_235 220 [a0, a1, a2, a3] (vI 10 :: st) h Q := At_next rfl
theorem r235_220 : At call ac_235 220 [a0, a1, a2, a3] (vI y :: vI x :: st) h Q ↔ At call ac_235 221 [a0, a1, a2, a3] (vI (wr (x - y)) :: st) h Q := At_next rfl
theorem r235_221 : At call ac_235 221 [a0, a1, a2, a3] (vI x :: vR g m :: st) h Q ↔ inA h m 0 x ∧ At call ac_235 222 [a0, a1, a2, a3] (vI (h g m x.toNat) :: st) h Q := At_guard rfl
theorem r235_222 : At call ac_235 222 [a0, a1, a2, a3] st h Q ↔ At call ac_235 226 [a0, a1, a2, a3] st h Q := At_next rfl
theorem r235_225 : At call ac_235 225 [a0, a1, a2, a3] st h Q ↔ At call ac_235 226 [a0, a1, a2, a3] (vI (-1) :: st) h Q := At_next rfl
theorem r235_226 : At call ac_235 226 [a0, a1, a2, a3] [vI x] h Q ↔ Q (some (vI x)) h := At_ret rfl
end RR
theorem cr_142 {d g : Nat} {h h' : AH} {v : Option AV} {b0 : Int} : CallR (d + 1) 142 [vR g 27, vI b0] h v h' ↔ At (CallR d) ac_142 0 [vR g 27, vI b0] [] h (fun v' h2 => v' = v ∧ h2 = h') := Iff.rfl
theorem cr_143 {d g : Nat} {h h' : AH} {v : Option AV} {b0 : Int} : CallR (d + 1) 143 [vR g 27, vI b0] h v h' ↔ At (CallR d) ac_143 0 [vR g 27, vI b0] [] h (fun v' h2 => v' = v ∧ h2 = h') := Iff.rfl
theorem cr_144 {d : Nat} {h h' : AH} {v : Option AV} {b0 b1 b2 : Int} : CallR (d + 1) 144 [vI b0, vI b1, vI b2] h v h' ↔ At (CallR d) ac_144 0 [vI b0, vI b1, vI b2] [] h (fun v' h2 => v' = v ∧ h2 = h') := Iff.rfl
theorem cr_145 {d g : Nat} {h h' : AH} {v : Option AV} {b0 : Int} : CallR (d + 1) 145 [vR g 27, vI b0] h v h' ↔ At (CallR d) ac_145 0 [vR g 27, vI b0] [] h (fun v' h2 => v' = v ∧ h2 = h') := Iff.rfl
theorem cr_146 {d g : Nat} {h h' : AH} {v : Option AV} {b0 : Int} : CallR (d + 1) 146 [vR g 27, vI b0] h v h' ↔ At (CallR d) ac_146 0 [vR g 27, vI b0] [] h (fun v' h2 => v' = v ∧ h2 = h') := Iff.rfl
theorem cr_147 {d g : Nat} {h h' : AH} {v : Option AV} {b0 : Int} : CallR (d + 1) 147 [vR g 27, vI b0] h v h' ↔ At (CallR d) ac_147 0 [vR g 27, vI b0] [] h (fun v' h2 => v' = v ∧ h2 = h') := Iff.rfl
theorem cr_148 {d g : Nat} {h h' : AH} {v : Option AV} {b0 b1 b2 : Int} : CallR (d + 1) 148 [vR g 27, vI b0, vI b1, vI b2] h v h' ↔ At (CallR d) ac_148 0 [vR g 27, vI b0, vI b1, vI b2, vU] [] h (fun v' h2 => v' = v ∧ h2 = h') := Iff.rfl
theorem cr_149 {d g : Nat} {h h' : AH} {v : Option AV} {b0 : Int} : CallR (d + 1) 149 [vR g 27, vI b0] h v h' ↔ At (CallR d) ac_149 0 [vR g 27, vI b0] [] h (fun v' h2 => v' = v ∧ h2 = h') := Iff.rfl
theorem cr_150 {d g : Nat} {h h' : AH} {v : Option AV} {b0 b1 b2 : Int} : CallR (d + 1) 150 [vR g 27, vI b0, vI b1, vJ b2] h v h' ↔ At (CallR d) ac_150 0 [vR g 27, vI b0, vI b1, vJ b2, vU, vU, vU] [] h (fun v' h2 => v' = v ∧ h2 = h') := Iff.rfl
theorem cr_151 {d g : Nat} {h h' : AH} {v : Option AV} {b0 b1 b2 b3 b4 : Int} : CallR (d + 1) 151 [vR g 27, vI b0, vI b1, vI b2, vI b3, vI b4] h v h' ↔ At (CallR d) ac_151 0 [vR g 27, vI b0, vI b1, vI b2, vI b3, vI b4, vU] [] h (fun v' h2 => v' = v ∧ h2 = h') := Iff.rfl
theorem cr_152 {d g : Nat} {h h' : AH} {v : Option AV} {b0 b1 : Int} : CallR (d + 1) 152 [vR g 27, vI b0, vI b1] h v h' ↔ At (CallR d) ac_152 0 [vR g 27, vI b0, vI b1] [] h (fun v' h2 => v' = v ∧ h2 = h') := Iff.rfl
theorem cr_153 {d g : Nat} {h h' : AH} {v : Option AV} {b0 b1 : Int} : CallR (d + 1) 153 [vR g 27, vI b0, vI b1] h v h' ↔ At (CallR d) ac_153 0 [vR g 27, vI b0, vI b1] [] h (fun v' h2 => v' = v ∧ h2 = h') := Iff.rfl
theorem cr_154 {d g : Nat} {h h' : AH} {v : Option AV} {b0 : Int} : CallR (d + 1) 154 [vR g 27, vI b0] h v h' ↔ At (CallR d) ac_154 0 [vR g 27, vI b0] [] h (fun v' h2 => v' = v ∧ h2 = h') := Iff.rfl
theorem cr_155 {d : Nat} {h h' : AH} {v : Option AV} {b0 : Int} : CallR (d + 1) 155 [vI b0] h v h' ↔ At (CallR d) ac_155 0 [vI b0] [] h (fun v' h2 => v' = v ∧ h2 = h') := Iff.rfl
theorem cr_156 {d : Nat} {h h' : AH} {v : Option AV} {b0 b1 : Int} : CallR (d + 1) 156 [vI b0, vI b1] h v h' ↔ At (CallR d) ac_156 0 [vI b0, vI b1, vU] [] h (fun v' h2 => v' = v ∧ h2 = h') := Iff.rfl
theorem cr_157 {d g : Nat} {h h' : AH} {v : Option AV} {b0 b1 : Int} : CallR (d + 1) 157 [vR g 27, vI b0, vI b1] h v h' ↔ At (CallR d) ac_157 0 [vR g 27, vI b0, vI b1, vU] [] h (fun v' h2 => v' = v ∧ h2 = h') := Iff.rfl
theorem cr_158 {d g : Nat} {h h' : AH} {v : Option AV} : CallR (d + 1) 158 [vR g 27] h v h' ↔ At (CallR d) ac_158 0 [vR g 27] [] h (fun v' h2 => v' = v ∧ h2 = h') := Iff.rfl
theorem cr_159 {d g : Nat} {h h' : AH} {v : Option AV} {b0 : Int} : CallR (d + 1) 159 [vR g 27, vI b0] h v h' ↔ At (CallR d) ac_159 0 [vR g 27, vI b0, vU] [] h (fun v' h2 => v' = v ∧ h2 = h') := Iff.rfl
theorem cr_160 {d g : Nat} {h h' : AH} {v : Option AV} {b0 : Int} : CallR (d + 1) 160 [vR g 27, vI b0] h v h' ↔ At (CallR d) ac_160 0 [vR g 27, vI b0] [] h (fun v' h2 => v' = v ∧ h2 = h') := Iff.rfl
theorem cr_161 {d g : Nat} {h h' : AH} {v : Option AV} {b0 : Int} : CallR (d + 1) 161 [vR g 27, vI b0] h v h' ↔ At (CallR d) ac_161 0 [vR g 27, vI b0] [] h (fun v' h2 => v' = v ∧ h2 = h') := Iff.rfl
theorem cr_162 {d : Nat} {h h' : AH} {v : Option AV} {b0 : Int} : CallR (d + 1) 162 [vI b0] h v h' ↔ At (CallR d) ac_162 0 [vI b0] [] h (fun v' h2 => v' = v ∧ h2 = h') := Iff.rfl
theorem cr_163 {d g : Nat} {h h' : AH} {v : Option AV} {b0 b1 b2 : Int} : CallR (d + 1) 163 [vR g 27, vI b0, vI b1, vI b2] h v h' ↔ At (CallR d) ac_163 0 [vR g 27, vI b0, vI b1, vI b2] [] h (fun v' h2 => v' = v ∧ h2 = h') := Iff.rfl
theorem cr_164 {d g : Nat} {h h' : AH} {v : Option AV} {b0 b1 b2 : Int} : CallR (d + 1) 164 [vR g 27, vI b0, vI b1, vI b2] h v h' ↔ At (CallR d) ac_164 0 [vR g 27, vI b0, vI b1, vI b2] [] h (fun v' h2 => v' = v ∧ h2 = h') := Iff.rfl
theorem cr_165 {d g : Nat} {h h' : AH} {v : Option AV} {b0 b1 : Int} : CallR (d + 1) 165 [vR g 27, vI b0, vI b1] h v h' ↔ At (CallR d) ac_165 0 [vR g 27, vI b0, vI b1, vU, vU] [] h (fun v' h2 => v' = v ∧ h2 = h') := Iff.rfl
theorem cr_166 {d g : Nat} {h h' : AH} {v : Option AV} {b0 b1 : Int} : CallR (d + 1) 166 [vR g 27, vI b0, vI b1] h v h' ↔ At (CallR d) ac_166 0 [vR g 27, vI b0, vI b1, vU] [] h (fun v' h2 => v' = v ∧ h2 = h') := Iff.rfl
theorem cr_167 {d g : Nat} {h h' : AH} {v : Option AV} {b0 : Int} : CallR (d + 1) 167 [vR g 27, vI b0] h v h' ↔ At (CallR d) ac_167 0 [vR g 27, vI b0] [] h (fun v' h2 => v' = v ∧ h2 = h') := Iff.rfl
theorem cr_168 {d g : Nat} {h h' : AH} {v : Option AV} {b0 : Int} : CallR (d + 1) 168 [vR g 27, vI b0] h v h' ↔ At (CallR d) ac_168 0 [vR g 27, vI b0] [] h (fun v' h2 => v' = v ∧ h2 = h') := Iff.rfl
theorem cr_169 {d g : Nat} {h h' : AH} {v : Option AV} {b0 b1 : Int} : CallR (d + 1) 169 [vR g 27, vI b0, vI b1] h v h' ↔ At (CallR d) ac_169 0 [vR g 27, vI b0, vI b1, vU] [] h (fun v' h2 => v' = v ∧ h2 = h') := Iff.rfl
theorem cr_170 {d g : Nat} {h h' : AH} {v : Option AV} : CallR (d + 1) 170 [vR g 27] h v h' ↔ At (CallR d) ac_170 0 [vR g 27, vU] [] h (fun v' h2 => v' = v ∧ h2 = h') := Iff.rfl
theorem cr_171 {d g : Nat} {h h' : AH} {v : Option AV} {b0 b1 : Int} : CallR (d + 1) 171 [vR g 27, vI b0, vI b1] h v h' ↔ At (CallR d) ac_171 0 [vR g 27, vI b0, vI b1, vU] [] h (fun v' h2 => v' = v ∧ h2 = h') := Iff.rfl
theorem cr_172 {d g : Nat} {h h' : AH} {v : Option AV} {b0 b1 : Int} : CallR (d + 1) 172 [vR g 27, vI b0, vI b1] h v h' ↔ At (CallR d) ac_172 0 [vR g 27, vI b0, vI b1] [] h (fun v' h2 => v' = v ∧ h2 = h') := Iff.rfl
theorem cr_173 {d g : Nat} {h h' : AH} {v : Option AV} {b0 b1 : Int} : CallR (d + 1) 173 [vR g 27, vI b0, vI b1] h v h' ↔ At (CallR d) ac_173 0 [vR g 27, vI b0, vI b1] [] h (fun v' h2 => v' = v ∧ h2 = h') := Iff.rfl
theorem cr_174 {d g : Nat} {h h' : AH} {v : Option AV} : CallR (d + 1) 174 [vR g 27] h v h' ↔ At (CallR d) ac_174 0 [vR g 27] [] h (fun v' h2 => v' = v ∧ h2 = h') := Iff.rfl
theorem cr_175 {d g : Nat} {h h' : AH} {v : Option AV} {b0 : Int} : CallR (d + 1) 175 [vR g 27, vI b0] h v h' ↔ At (CallR d) ac_175 0 [vR g 27, vI b0] [] h (fun v' h2 => v' = v ∧ h2 = h') := Iff.rfl
theorem cr_176 {d g : Nat} {h h' : AH} {v : Option AV} {v0 : (Nat × Nat) ⊕ Nat} : CallR (d + 1) 176 [vR g 27, .inr (.inr v0)] h v h' ↔ At (CallR d) ac_176 0 [vR g 27, .inr (.inr v0), vU] [] h (fun v' h2 => v' = v ∧ h2 = h') := Iff.rfl
theorem cr_177 {d g : Nat} {h h' : AH} {v : Option AV} {b1 : Int} {v0 : (Nat × Nat) ⊕ Nat} : CallR (d + 1) 177 [vR g 27, .inr (.inr v0), vI b1] h v h' ↔ At (CallR d) ac_177 0 [vR g 27, .inr (.inr v0), vI b1, vU, vU] [] h (fun v' h2 => v' = v ∧ h2 = h') := Iff.rfl
theorem cr_178 {d g : Nat} {h h' : AH} {v : Option AV} {b0 b1 b2 : Int} : CallR (d + 1) 178 [vR g 27, vI b0, vI b1, vI b2] h v h' ↔ At (CallR d) ac_178 0 [vR g 27, vI b0, vI b1, vI b2, vU, vU, vU] [] h (fun v' h2 => v' = v ∧ h2 = h') := Iff.rfl
theorem cr_179 {d g : Nat} {h h' : AH} {v : Option AV} {b0 b1 : Int} : CallR (d + 1) 179 [vR g 27, vI b0, vI b1] h v h' ↔ At (CallR d) ac_179 0 [vR g 27, vI b0, vI b1] [] h (fun v' h2 => v' = v ∧ h2 = h') := Iff.rfl
theorem cr_180 {d g : Nat} {h h' : AH} {v : Option AV} : CallR (d + 1) 180 [vR g 27] h v h' ↔ At (CallR d) ac_180 0 [vR g 27, vU] [] h (fun v' h2 => v' = v ∧ h2 = h') := Iff.rfl
theorem cr_181 {d g : Nat} {h h' : AH} {v : Option AV} {b0 : Int} : CallR (d + 1) 181 [vR g 27, vI b0] h v h' ↔ At (CallR d) ac_181 0 [vR g 27, vI b0, vU, vU, vU] [] h (fun v' h2 => v' = v ∧ h2 = h') := Iff.rfl
theorem cr_182 {d g : Nat} {h h' : AH} {v : Option AV} : CallR (d + 1) 182 [vR g 27] h v h' ↔ At (CallR d) ac_182 0 [vR g 27] [] h (fun v' h2 => v' = v ∧ h2 = h') := Iff.rfl
theorem cr_183 {d g : Nat} {h h' : AH} {v : Option AV} : CallR (d + 1) 183 [vR g 27] h v h' ↔ At (CallR d) ac_183 0 [vR g 27, vU, vU] [] h (fun v' h2 => v' = v ∧ h2 = h') := Iff.rfl
theorem cr_184 {d g : Nat} {h h' : AH} {v : Option AV} : CallR (d + 1) 184 [vR g 27] h v h' ↔ At (CallR d) ac_184 0 [vR g 27, vU, vU] [] h (fun v' h2 => v' = v ∧ h2 = h') := Iff.rfl
theorem cr_185 {d g : Nat} {h h' : AH} {v : Option AV} {b0 : Int} : CallR (d + 1) 185 [vR g 27, vI b0] h v h' ↔ At (CallR d) ac_185 0 [vR g 27, vI b0, vU, vU] [] h (fun v' h2 => v' = v ∧ h2 = h') := Iff.rfl
theorem cr_186 {d g : Nat} {h h' : AH} {v : Option AV} {b0 : Int} : CallR (d + 1) 186 [vR g 27, vI b0] h v h' ↔ At (CallR d) ac_186 0 [vR g 27, vI b0] [] h (fun v' h2 => v' = v ∧ h2 = h') := Iff.rfl
theorem cr_187 {d g : Nat} {h h' : AH} {v : Option AV} {b0 : Int} : CallR (d + 1) 187 [vR g 27, vI b0] h v h' ↔ At (CallR d) ac_187 0 [vR g 27, vI b0, vU] [] h (fun v' h2 => v' = v ∧ h2 = h') := Iff.rfl
theorem cr_188 {d g : Nat} {h h' : AH} {v : Option AV} {b0 : Int} : CallR (d + 1) 188 [vR g 27, vI b0] h v h' ↔ At (CallR d) ac_188 0 [vR g 27, vI b0] [] h (fun v' h2 => v' = v ∧ h2 = h') := Iff.rfl
theorem cr_189 {d g : Nat} {h h' : AH} {v : Option AV} {b0 : Int} : CallR (d + 1) 189 [vR g 27, vI b0] h v h' ↔ At (CallR d) ac_189 0 [vR g 27, vI b0, vU, vU] [] h (fun v' h2 => v' = v ∧ h2 = h') := Iff.rfl
theorem cr_190 {d g : Nat} {h h' : AH} {v : Option AV} : CallR (d + 1) 190 [vR g 27] h v h' ↔ At (CallR d) ac_190 0 [vR g 27, vU, vU] [] h (fun v' h2 => v' = v ∧ h2 = h') := Iff.rfl
theorem cr_191 {d g : Nat} {h h' : AH} {v : Option AV} {b0 : Int} : CallR (d + 1) 191 [vR g 27, vI b0] h v h' ↔ At (CallR d) ac_191 0 [vR g 27, vI b0, vU] [] h (fun v' h2 => v' = v ∧ h2 = h') := Iff.rfl
theorem cr_192 {d : Nat} {h h' : AH} {v : Option AV} {b0 : Int} : CallR (d + 1) 192 [vI b0] h v h' ↔ At (CallR d) ac_192 0 [vI b0] [] h (fun v' h2 => v' = v ∧ h2 = h') := Iff.rfl
theorem cr_193 {d g : Nat} {h h' : AH} {v : Option AV} {b0 b1 : Int} : CallR (d + 1) 193 [vR g 27, vI b0, vI b1] h v h' ↔ At (CallR d) ac_193 0 [vR g 27, vI b0, vI b1, vU] [] h (fun v' h2 => v' = v ∧ h2 = h') := Iff.rfl
theorem cr_194 {d g : Nat} {h h' : AH} {v : Option AV} {b0 b1 : Int} : CallR (d + 1) 194 [vR g 27, vI b0, vI b1] h v h' ↔ At (CallR d) ac_194 0 [vR g 27, vI b0, vI b1, vU] [] h (fun v' h2 => v' = v ∧ h2 = h') := Iff.rfl
theorem cr_195 {d g : Nat} {h h' : AH} {v : Option AV} {b0 : Int} : CallR (d + 1) 195 [vR g 27, vI b0] h v h' ↔ At (CallR d) ac_195 0 [vR g 27, vI b0, vU, vU] [] h (fun v' h2 => v' = v ∧ h2 = h') := Iff.rfl
theorem cr_196 {d g : Nat} {h h' : AH} {v : Option AV} {b0 : Int} : CallR (d + 1) 196 [vR g 27, vI b0] h v h' ↔ At (CallR d) ac_196 0 [vR g 27, vI b0, vU] [] h (fun v' h2 => v' = v ∧ h2 = h') := Iff.rfl
theorem cr_197 {d g : Nat} {h h' : AH} {v : Option AV} {b0 : Int} : CallR (d + 1) 197 [vR g 27, vI b0] h v h' ↔ At (CallR d) ac_197 0 [vR g 27, vI b0, vU, vU, vU] [] h (fun v' h2 => v' = v ∧ h2 = h') := Iff.rfl
theorem cr_198 {d g : Nat} {h h' : AH} {v : Option AV} {b0 : Int} : CallR (d + 1) 198 [vR g 27, vI b0] h v h' ↔ At (CallR d) ac_198 0 [vR g 27, vI b0, vU, vU] [] h (fun v' h2 => v' = v ∧ h2 = h') := Iff.rfl
theorem cr_199 {d g : Nat} {h h' : AH} {v : Option AV} {b0 : Int} : CallR (d + 1) 199 [vR g 27, vI b0] h v h' ↔ At (CallR d) ac_199 0 [vR g 27, vI b0, vU] [] h (fun v' h2 => v' = v ∧ h2 = h') := Iff.rfl
theorem cr_200 {d g : Nat} {h h' : AH} {v : Option AV} {b0 b1 : Int} : CallR (d + 1) 200 [vR g 27, vI b0, vI b1] h v h' ↔ At (CallR d) ac_200 0 [vR g 27, vI b0, vI b1, vU, vU, vU, vU] [] h (fun v' h2 => v' = v ∧ h2 = h') := Iff.rfl
theorem cr_201 {d g : Nat} {h h' : AH} {v : Option AV} {b0 b1 : Int} : CallR (d + 1) 201 [vR g 27, vI b0, vI b1] h v h' ↔ At (CallR d) ac_201 0 [vR g 27, vI b0, vI b1, vU, vU, vU, vU, vU, vU, vU, vU, vU] [] h (fun v' h2 => v' = v ∧ h2 = h') := Iff.rfl
theorem cr_202 {d g : Nat} {h h' : AH} {v : Option AV} {b0 b1 b2 : Int} : CallR (d + 1) 202 [vR g 27, vI b0, vI b1, vI b2] h v h' ↔ At (CallR d) ac_202 0 [vR g 27, vI b0, vI b1, vI b2] [] h (fun v' h2 => v' = v ∧ h2 = h') := Iff.rfl
theorem cr_203 {d g : Nat} {h h' : AH} {v : Option AV} {b0 : Int} : CallR (d + 1) 203 [vR g 27, vI b0] h v h' ↔ At (CallR d) ac_203 0 [vR g 27, vI b0] [] h (fun v' h2 => v' = v ∧ h2 = h') := Iff.rfl
theorem cr_204 {d g : Nat} {h h' : AH} {v : Option AV} {b0 b1 : Int} : CallR (d + 1) 204 [vR g 27, vI b0, vI b1] h v h' ↔ At (CallR d) ac_204 0 [vR g 27, vI b0, vI b1, vU] [] h (fun v' h2 => v' = v ∧ h2 = h') := Iff.rfl
theorem cr_205 {d : Nat} {h h' : AH} {v : Option AV} {b0 b1 : Int} : CallR (d + 1) 205 [vI b0, vI b1] h v h' ↔ At (CallR d) ac_205 0 [vI b0, vI b1] [] h (fun v' h2 => v' = v ∧ h2 = h') := Iff.rfl
theorem cr_206 {d g : Nat} {h h' : AH} {v : Option AV} {b0 b1 b2 : Int} : CallR (d + 1) 206 [vR g 27, vI b0, vI b1, vI b2] h v h' ↔ At (CallR d) ac_206 0 [vR g 27, vI b0, vI b1, vI b2, vU] [] h (fun v' h2 => v' = v ∧ h2 = h') := Iff.rfl
theorem cr_207 {d g : Nat} {h h' : AH} {v : Option AV} {b0 b1 : Int} : CallR (d + 1) 207 [vR g 27, vI b0, vI b1] h v h' ↔ At (CallR d) ac_207 0 [vR g 27, vI b0, vI b1, vU] [] h (fun v' h2 => v' = v ∧ h2 = h') := Iff.rfl
theorem cr_208 {d g : Nat} {h h' : AH} {v : Option AV} {b0 : Int} : CallR (d + 1) 208 [vR g 27, vI b0] h v h' ↔ At (CallR d) ac_208 0 [vR g 27, vI b0, vU, vU] [] h (fun v' h2 => v' = v ∧ h2 = h') := Iff.rfl
theorem cr_209 {d g : Nat} {h h' : AH} {v : Option AV} {b0 b1 b2 : Int} : CallR (d + 1) 209 [vR g 27, vI b0, vI b1, vI b2] h v h' ↔ At (CallR d) ac_209 0 [vR g 27, vI b0, vI b1, vI b2, vU, vU] [] h (fun v' h2 => v' = v ∧ h2 = h') := Iff.rfl
theorem cr_210 {d g : Nat} {h h' : AH} {v : Option AV} {b0 : Int} : CallR (d + 1) 210 [vR g 27, vI b0] h v h' ↔ At (CallR d) ac_210 0 [vR g 27, vI b0, vU, vU, vU] [] h (fun v' h2 => v' = v ∧ h2 = h') := Iff.rfl
theorem cr_211 {d g : Nat} {h h' : AH} {v : Option AV} {b0 b1 : Int} : CallR (d + 1) 211 [vR g 27, vI b0, vI b1] h v h' ↔ At (CallR d) ac_211 0 [vR g 27, vI b0, vI b1] [] h (fun v' h2 => v' = v ∧ h2 = h') := Iff.rfl
theorem cr_212 {d g : Nat} {h h' : AH} {v : Option AV} {b0 b1 : Int} : CallR (d + 1) 212 [vR g 27, vI b0, vI b1] h v h' ↔ At (CallR d) ac_212 0 [vR g 27, vI b0, vI b1, vU, vU, vU, vU, vU] [] h (fun v' h2 => v' = v ∧ h2 = h') := Iff.rfl
theorem cr_213 {d g : Nat} {h h' : AH} {v : Option AV} {b0 b1 : Int} : CallR (d + 1) 213 [vR g 27, vI b0, vI b1] h v h' ↔ At (CallR d) ac_213 0 [vR g 27, vI b0, vI b1, vU] [] h (fun v' h2 => v' = v ∧ h2 = h') := Iff.rfl
theorem cr_214 {d g : Nat} {h h' : AH} {v : Option AV} {b0 b1 : Int} : CallR (d + 1) 214 [vR g 27, vI b0, vI b1] h v h' ↔ At (CallR d) ac_214 0 [vR g 27, vI b0, vI b1, vU] [] h (fun v' h2 => v' = v ∧ h2 = h') := Iff.rfl
theorem cr_215 {d g : Nat} {h h' : AH} {v : Option AV} {b0 b1 : Int} : CallR (d + 1) 215 [vR g 27, vI b0, vI b1] h v h' ↔ At (CallR d) ac_215 0 [vR g 27, vI b0, vI b1, vU, vU] [] h (fun v' h2 => v' = v ∧ h2 = h') := Iff.rfl
theorem cr_216 {d g : Nat} {h h' : AH} {v : Option AV} {b0 b1 b2 : Int} : CallR (d + 1) 216 [vR g 27, vI b0, vI b1, vI b2] h v h' ↔ At (CallR d) ac_216 0 [vR g 27, vI b0, vI b1, vI b2, vU, vU, vU] [] h (fun v' h2 => v' = v ∧ h2 = h') := Iff.rfl
theorem cr_217 {d g : Nat} {h h' : AH} {v : Option AV} {b0 b1 : Int} : CallR (d + 1) 217 [vR g 27, vI b0, vI b1] h v h' ↔ At (CallR d) ac_217 0 [vR g 27, vI b0, vI b1, vU] [] h (fun v' h2 => v' = v ∧ h2 = h') := Iff.rfl
theorem cr_218 {d g : Nat} {h h' : AH} {v : Option AV} : CallR (d + 1) 218 [vR g 27] h v h' ↔ At (CallR d) ac_218 0 [vR g 27] [] h (fun v' h2 => v' = v ∧ h2 = h') := Iff.rfl
theorem cr_219 {d g : Nat} {h h' : AH} {v : Option AV} {b0 : Int} : CallR (d + 1) 219 [vR g 27, vI b0] h v h' ↔ At (CallR d) ac_219 0 [vR g 27, vI b0, vU, vU] [] h (fun v' h2 => v' = v ∧ h2 = h') := Iff.rfl
theorem cr_220 {d g : Nat} {h h' : AH} {v : Option AV} : CallR (d + 1) 220 [vR g 27] h v h' ↔ At (CallR d) ac_220 0 [vR g 27, vU, vU] [] h (fun v' h2 => v' = v ∧ h2 = h') := Iff.rfl
theorem cr_221 {d g : Nat} {h h' : AH} {v : Option AV} {b0 : Int} : CallR (d + 1) 221 [vR g 27, vI b0] h v h' ↔ At (CallR d) ac_221 0 [vR g 27, vI b0] [] h (fun v' h2 => v' = v ∧ h2 = h') := Iff.rfl
theorem cr_222 {d g : Nat} {h h' : AH} {v : Option AV} {b0 : Int} : CallR (d + 1) 222 [vR g 27, vI b0] h v h' ↔ At (CallR d) ac_222 0 [vR g 27, vI b0] [] h (fun v' h2 => v' = v ∧ h2 = h') := Iff.rfl
theorem cr_223 {d g : Nat} {h h' : AH} {v : Option AV} {b0 : Int} : CallR (d + 1) 223 [vR g 27, vI b0] h v h' ↔ At (CallR d) ac_223 0 [vR g 27, vI b0, vU, vU] [] h (fun v' h2 => v' = v ∧ h2 = h') := Iff.rfl
theorem cr_224 {d g : Nat} {h h' : AH} {v : Option AV} {b0 : Int} : CallR (d + 1) 224 [vR g 27, vI b0] h v h' ↔ At (CallR d) ac_224 0 [vR g 27, vI b0, vU] [] h (fun v' h2 => v' = v ∧ h2 = h') := Iff.rfl
theorem cr_225 {d g : Nat} {h h' : AH} {v : Option AV} {b0 : Int} : CallR (d + 1) 225 [vR g 27, vI b0] h v h' ↔ At (CallR d) ac_225 0 [vR g 27, vI b0] [] h (fun v' h2 => v' = v ∧ h2 = h') := Iff.rfl
theorem cr_226 {d g : Nat} {h h' : AH} {v : Option AV} {b0 b1 : Int} : CallR (d + 1) 226 [vR g 27, vI b0, vI b1] h v h' ↔ At (CallR d) ac_226 0 [vR g 27, vI b0, vI b1, vU, vU] [] h (fun v' h2 => v' = v ∧ h2 = h') := Iff.rfl
theorem cr_227 {d g : Nat} {h h' : AH} {v : Option AV} {b0 b1 : Int} : CallR (d + 1) 227 [vR g 27, vI b0, vI b1] h v h' ↔ At (CallR d) ac_227 0 [vR g 27, vI b0, vI b1, vU, vU, vU] [] h (fun v' h2 => v' = v ∧ h2 = h') := Iff.rfl
theorem cr_228 {d g : Nat} {h h' : AH} {v : Option AV} {b0 b1 : Int} : CallR (d + 1) 228 [vR g 27, vI b0, vI b1] h v h' ↔ At (CallR d) ac_228 0 [vR g 27, vI b0, vI b1, vU, vU, vU] [] h (fun v' h2 => v' = v ∧ h2 = h') := Iff.rfl
theorem cr_229 {d g : Nat} {h h' : AH} {v : Option AV} {b0 b1 b2 : Int} : CallR (d + 1) 229 [vR g 27, vI b0, vI b1, vI b2] h v h' ↔ At (CallR d) ac_229 0 [vR g 27, vI b0, vI b1, vI b2] [] h (fun v' h2 => v' = v ∧ h2 = h') := Iff.rfl
theorem cr_230 {d g : Nat} {h h' : AH} {v : Option AV} {b0 : Int} : CallR (d + 1) 230 [vR g 27, vI b0] h v h' ↔ At (CallR d) ac_230 0 [vR g 27, vI b0] [] h (fun v' h2 => v' = v ∧ h2 = h') := Iff.rfl
theorem cr_231 {d g : Nat} {h h' : AH} {v : Option AV} {v0 : (Nat × Nat) ⊕ Nat} : CallR (d + 1) 231 [vR g 27, .inr (.inr v0)] h v h' ↔ At (CallR d) ac_231 0 [vR g 27, .inr (.inr v0), vU] [] h (fun v' h2 => v' = v ∧ h2 = h') := Iff.rfl
theorem cr_232 {d g : Nat} {h h' : AH} {v : Option AV} {v0 : (Nat × Nat) ⊕ Nat} : CallR (d + 1) 232 [vR g 27, .inr (.inr v0)] h v h' ↔ At (CallR d) ac_232 0 [vR g 27, .inr (.inr v0), vU] [] h (fun v' h2 => v' = v ∧ h2 = h') := Iff.rfl
theorem cr_233 {d g : Nat} {h h' : AH} {v : Option AV} : CallR (d + 1) 233 [vR g 27] h v h' ↔ At (CallR d) ac_233 0 [vR g 27] [] h (fun v' h2 => v' = v ∧ h2 = h') := Iff.rfl
theorem cr_234 {d g : Nat} {h h' : AH} {v : Option AV} : CallR (d + 1) 234 [vR g 27] h v h' ↔ At (CallR d) ac_234 0 [vR g 27, vU] [] h (fun v' h2 => v' = v ∧ h2 = h') := Iff.rfl
theorem cr_235 {d g : Nat} {h h' : AH} {v : Option AV} {b0 : Int} : CallR (d + 1) 235 [vR g 27, vI b0] h v h' ↔ At (CallR d) ac_235 0 [vR g 27, vI b0, vU, vU] [] h (fun v' h2 => v' = v ∧ h2 = h') := Iff.rfl
