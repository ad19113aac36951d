/-! the law's own code, held against the tables: the pieces joined -/
theorem lawP_step {b : Nat} (h : lawP b = true) (h2 : chkAll "PaidInFogLaw" code 4 [] ret (b + 60) (al_237.drop (b + 60)) = true) : chkAll "PaidInFogLaw" code 4 [] ret b (al_237.drop b) = true := by
  refine chk_cut 60 (al_237.drop b) b h ?_
  rw [List.drop_drop]
  first | exact h2 | (rw [Nat.add_comm 60 b]; exact h2)
theorem chk_law : chkAll "PaidInFogLaw" code 4 [] ret 0 al_237 = true := by
  have e : chkAll "PaidInFogLaw" code 4 [] ret 1560 (al_237.drop 1560) = true := by decide +kernel
  exact lawP_step chk_law_0 (lawP_step chk_law_60 (lawP_step chk_law_120 (lawP_step chk_law_180 (lawP_step chk_law_240 (lawP_step chk_law_300 (lawP_step chk_law_360 (lawP_step chk_law_420 (lawP_step chk_law_480 (lawP_step chk_law_540 (lawP_step chk_law_600 (lawP_step chk_law_660 (lawP_step chk_law_720 (lawP_step chk_law_780 (lawP_step chk_law_840 (lawP_step chk_law_900 (lawP_step chk_law_960 (lawP_step chk_law_1020 (lawP_step chk_law_1080 (lawP_step chk_law_1140 (lawP_step chk_law_1200 (lawP_step chk_law_1260 (lawP_step chk_law_1320 (lawP_step chk_law_1380 (lawP_step chk_law_1440 (lawP_step chk_law_1500 e)))))))))))))))))))))))))
theorem chk_law_at (pc : Nat) : chkB "PaidInFogLaw" code 4 [] ret pc (ac_237 pc) = true := by
  have := chkAll_at al_237 0 chk_law pc
  rw [Nat.zero_add] at this
  exact this
