theorem uX0 : ∀ w ∈ u_ws RX0 TX0 7, w ∈ TB := fun w hw => List.mem_filter.mpr (by
  have h : (u_ws RX0 TX0 7).all (fun w => decide (w ∈ lw_tbl) && goodWord w) = true := by decide +kernel
  have h1 := List.all_eq_true.mp h w hw
  rw [Bool.and_eq_true, decide_eq_true_eq] at h1
  exact h1)
theorem uX1 : ∀ w ∈ u_ws RX1 TX1 12, w ∈ TB := fun w hw => List.mem_filter.mpr (by
  have h : (u_ws RX1 TX1 12).all (fun w => decide (w ∈ lw_tbl) && goodWord w) = true := by decide +kernel
  have h1 := List.all_eq_true.mp h w hw
  rw [Bool.and_eq_true, decide_eq_true_eq] at h1
  exact h1)
theorem uX2 : ∀ w ∈ u_ws RX2 TX2 3, w ∈ TB := fun w hw => List.mem_filter.mpr (by
  have h : (u_ws RX2 TX2 3).all (fun w => decide (w ∈ lw_tbl) && goodWord w) = true := by decide +kernel
  have h1 := List.all_eq_true.mp h w hw
  rw [Bool.and_eq_true, decide_eq_true_eq] at h1
  exact h1)
theorem uX3 : ∀ w ∈ u_ws RX3 TX3 13, w ∈ TB := fun w hw => List.mem_filter.mpr (by
  have h : (u_ws RX3 TX3 13).all (fun w => decide (w ∈ lw_tbl) && goodWord w) = true := by decide +kernel
  have h1 := List.all_eq_true.mp h w hw
  rw [Bool.and_eq_true, decide_eq_true_eq] at h1
  exact h1)
theorem uX4 : ∀ w ∈ u_ws RX4 TX4 3, w ∈ TB := fun w hw => List.mem_filter.mpr (by
  have h : (u_ws RX4 TX4 3).all (fun w => decide (w ∈ lw_tbl) && goodWord w) = true := by decide +kernel
  have h1 := List.all_eq_true.mp h w hw
  rw [Bool.and_eq_true, decide_eq_true_eq] at h1
  exact h1)
theorem uX5 : ∀ w ∈ u_ws RX5 TX5 5, w ∈ TB := fun w hw => List.mem_filter.mpr (by
  have h : (u_ws RX5 TX5 5).all (fun w => decide (w ∈ lw_tbl) && goodWord w) = true := by decide +kernel
  have h1 := List.all_eq_true.mp h w hw
  rw [Bool.and_eq_true, decide_eq_true_eq] at h1
  exact h1)
theorem uX6 : ∀ w ∈ u_ws RX6 TX6 36, w ∈ TB := fun w hw => List.mem_filter.mpr (by
  have h : (u_ws RX6 TX6 36).all (fun w => decide (w ∈ lw_tbl) && goodWord w) = true := by decide +kernel
  have h1 := List.all_eq_true.mp h w hw
  rw [Bool.and_eq_true, decide_eq_true_eq] at h1
  exact h1)
theorem acJ7_150 : Cond.methodLink RJ7 150 arraycopyName ∈ TB := m478
theorem mnJ7_304 : Cond.methodLink RJ7 304 Lib.Math.min.name ∈ TB := m477
-- class L 7 PlanRules
-- ctor L 9 method X5_init
-- class L 10 PlanRulesModel
-- ctor L 12 method X6_init
theorem cvL_13 : CV RL RX5 13 yX5_row cX5_row 5 (some .int) 4 := by
  refine ⟨?_, by decide +kernel, by decide⟩
  intro w hw
  simp only [List.mem_cons, List.not_mem_nil, or_false] at hw
  rcases hw with rfl | rfl | rfl | rfl | rfl
  · exact m287
  · exact m288
  · exact m289
  · exact m63
  · exact m290
theorem cvL_17 : CV RL RX6 17 yX6_row cX6_row 6 (some .int) 4 := by
  refine ⟨?_, by decide +kernel, by decide⟩
  intro w hw
  simp only [List.mem_cons, List.not_mem_nil, or_false] at hw
  rcases hw with rfl | rfl | rfl | rfl | rfl
  · exact m775
  · exact m776
  · exact m777
  · exact m69
  · exact m778
theorem cvL_18 : CV RL RX5 18 yX5_clear cX5_clear 2 (some .int) 1 := by
  refine ⟨?_, by decide +kernel, by decide⟩
  intro w hw
  simp only [List.mem_cons, List.not_mem_nil, or_false] at hw
  rcases hw with rfl | rfl | rfl | rfl | rfl
  · exact m303
  · exact m304
  · exact m305
  · exact m63
  · exact m306
theorem cvL_22 : CV RL RX6 22 yX6_clear cX6_clear 3 (some .int) 1 := by
  refine ⟨?_, by decide +kernel, by decide⟩
  intro w hw
  simp only [List.mem_cons, List.not_mem_nil, or_false] at hw
  rcases hw with rfl | rfl | rfl | rfl | rfl
  · exact m783
  · exact m784
  · exact m785
  · exact m69
  · exact m786
theorem cvL_23 : CV RL RX5 23 yX5_table cX5_table 3 (some .int) 2 := by
  refine ⟨?_, by decide +kernel, by decide⟩
  intro w hw
  simp only [List.mem_cons, List.not_mem_nil, or_false] at hw
  rcases hw with rfl | rfl | rfl | rfl | rfl
  · exact m311
  · exact m312
  · exact m313
  · exact m63
  · exact m314
theorem cvL_27 : CV RL RX6 27 yX6_table cX6_table 3 (some .int) 2 := by
  refine ⟨?_, by decide +kernel, by decide⟩
  intro w hw
  simp only [List.mem_cons, List.not_mem_nil, or_false] at hw
  rcases hw with rfl | rfl | rfl | rfl | rfl
  · exact m787
  · exact m788
  · exact m789
  · exact m69
  · exact m790
theorem cvL_28 : CV RL RX5 28 yX5_formula cX5_formula 4 (some .int) 3 := by
  refine ⟨?_, by decide +kernel, by decide⟩
  intro w hw
  simp only [List.mem_cons, List.not_mem_nil, or_false] at hw
  rcases hw with rfl | rfl | rfl | rfl | rfl
  · exact m319
  · exact m320
  · exact m321
  · exact m63
  · exact m322
theorem cvL_32 : CV RL RX6 32 yX6_formula cX6_formula 4 (some .int) 3 := by
  refine ⟨?_, by decide +kernel, by decide⟩
  intro w hw
  simp only [List.mem_cons, List.not_mem_nil, or_false] at hw
  rcases hw with rfl | rfl | rfl | rfl | rfl
  · exact m792
  · exact m793
  · exact m794
  · exact m69
  · exact m795
theorem cvL_33 : CV RL RX5 33 yX5_formulaOf cX5_formulaOf 3 (some .int) 2 := by
  refine ⟨?_, by decide +kernel, by decide⟩
  intro w hw
  simp only [List.mem_cons, List.not_mem_nil, or_false] at hw
  rcases hw with rfl | rfl | rfl | rfl | rfl
  · exact m360
  · exact m361
  · exact m362
  · exact m63
  · exact m363
theorem cvL_36 : CV RL RX6 36 yX6_formulaOf cX6_formulaOf 3 (some .int) 2 := by
  refine ⟨?_, by decide +kernel, by decide⟩
  intro w hw
  simp only [List.mem_cons, List.not_mem_nil, or_false] at hw
  rcases hw with rfl | rfl | rfl | rfl | rfl
  · exact m816
  · exact m817
  · exact m818
  · exact m69
  · exact m819
theorem cvL_37 : CV RL RX5 37 yX5_node cX5_node 6 (some .int) 5 := by
  refine ⟨?_, by decide +kernel, by decide⟩
  intro w hw
  simp only [List.mem_cons, List.not_mem_nil, or_false] at hw
  rcases hw with rfl | rfl | rfl | rfl | rfl
  · exact m368
  · exact m369
  · exact m370
  · exact m63
  · exact m371
theorem cvL_41 : CV RL RX6 41 yX6_node cX6_node 7 (some .int) 5 := by
  refine ⟨?_, by decide +kernel, by decide⟩
  intro w hw
  simp only [List.mem_cons, List.not_mem_nil, or_false] at hw
  rcases hw with rfl | rfl | rfl | rfl | rfl
  · exact m820
  · exact m821
  · exact m822
  · exact m69
  · exact m823
theorem cvL_42 : CV RL RX5 42 yX5_told cX5_told 3 (some .int) 2 := by
  refine ⟨?_, by decide +kernel, by decide⟩
  intro w hw
  simp only [List.mem_cons, List.not_mem_nil, or_false] at hw
  rcases hw with rfl | rfl | rfl | rfl | rfl
  · exact m425
  · exact m426
  · exact m427
  · exact m63
  · exact m428
theorem cvL_45 : CV RL RX6 45 yX6_told cX6_told 3 (some .int) 2 := by
  refine ⟨?_, by decide +kernel, by decide⟩
  intro w hw
  simp only [List.mem_cons, List.not_mem_nil, or_false] at hw
  rcases hw with rfl | rfl | rfl | rfl | rfl
  · exact m861
  · exact m862
  · exact m863
  · exact m69
  · exact m864
theorem cvL_46 : CV RL RX5 46 yX5_run cX5_run 2 (some .int) 1 := by
  refine ⟨?_, by decide +kernel, by decide⟩
  intro w hw
  simp only [List.mem_cons, List.not_mem_nil, or_false] at hw
  rcases hw with rfl | rfl | rfl | rfl | rfl
  · exact m430
  · exact m431
  · exact m432
  · exact m63
  · exact m433
theorem cvL_49 : CV RL RX6 49 yX6_run cX6_run 6 (some .int) 1 := by
  refine ⟨?_, by decide +kernel, by decide⟩
  intro w hw
  simp only [List.mem_cons, List.not_mem_nil, or_false] at hw
  rcases hw with rfl | rfl | rfl | rfl | rfl
  · exact m866
  · exact m867
  · exact m868
  · exact m69
  · exact m869
theorem cvL_50 : CV RL RX5 50 yX5_member cX5_member 3 (some .int) 2 := by
  refine ⟨?_, by decide +kernel, by decide⟩
  intro w hw
  simp only [List.mem_cons, List.not_mem_nil, or_false] at hw
  rcases hw with rfl | rfl | rfl | rfl | rfl
  · exact m551
  · exact m552
  · exact m553
  · exact m63
  · exact m554
theorem cvL_53 : CV RL RX6 53 yX6_member cX6_member 3 (some .int) 2 := by
  refine ⟨?_, by decide +kernel, by decide⟩
  intro w hw
  simp only [List.mem_cons, List.not_mem_nil, or_false] at hw
  rcases hw with rfl | rfl | rfl | rfl | rfl
  · exact m929
  · exact m930
  · exact m931
  · exact m69
  · exact m932
theorem cvL_54 : CV RL RX5 54 yX5_worked cX5_worked 2 (some .int) 1 := by
  refine ⟨?_, by decide +kernel, by decide⟩
  intro w hw
  simp only [List.mem_cons, List.not_mem_nil, or_false] at hw
  rcases hw with rfl | rfl | rfl | rfl | rfl
  · exact m560
  · exact m561
  · exact m562
  · exact m63
  · exact m563
theorem cvL_57 : CV RL RX6 57 yX6_worked cX6_worked 2 (some .int) 1 := by
  refine ⟨?_, by decide +kernel, by decide⟩
  intro w hw
  simp only [List.mem_cons, List.not_mem_nil, or_false] at hw
  rcases hw with rfl | rfl | rfl | rfl | rfl
  · exact m933
  · exact m934
  · exact m935
  · exact m69
  · exact m936
theorem cvL_58 : CV RL RX5 58 yX5_fits cX5_fits 3 (some .int) 2 := by
  refine ⟨?_, by decide +kernel, by decide⟩
  intro w hw
  simp only [List.mem_cons, List.not_mem_nil, or_false] at hw
  rcases hw with rfl | rfl | rfl | rfl | rfl
  · exact m564
  · exact m565
  · exact m566
  · exact m63
  · exact m567
theorem cvL_61 : CV RL RX6 61 yX6_fits cX6_fits 3 (some .int) 2 := by
  refine ⟨?_, by decide +kernel, by decide⟩
  intro w hw
  simp only [List.mem_cons, List.not_mem_nil, or_false] at hw
  rcases hw with rfl | rfl | rfl | rfl | rfl
  · exact m937
  · exact m938
  · exact m939
  · exact m69
  · exact m940
theorem cvL_62 : CV RL RX5 62 yX5_rewrite cX5_rewrite 3 (some .int) 2 := by
  refine ⟨?_, by decide +kernel, by decide⟩
  intro w hw
  simp only [List.mem_cons, List.not_mem_nil, or_false] at hw
  rcases hw with rfl | rfl | rfl | rfl | rfl
  · exact m596
  · exact m597
  · exact m598
  · exact m63
  · exact m599
theorem cvL_65 : CV RL RX6 65 yX6_rewrite cX6_rewrite 3 (some .int) 2 := by
  refine ⟨?_, by decide +kernel, by decide⟩
  intro w hw
  simp only [List.mem_cons, List.not_mem_nil, or_false] at hw
  rcases hw with rfl | rfl | rfl | rfl | rfl
  · exact m953
  · exact m954
  · exact m955
  · exact m69
  · exact m956
theorem cvL_66 : CV RL RX5 66 yX5_sweep cX5_sweep 6 (some .int) 2 := by
  refine ⟨?_, by decide +kernel, by decide⟩
  intro w hw
  simp only [List.mem_cons, List.not_mem_nil, or_false] at hw
  rcases hw with rfl | rfl | rfl | rfl | rfl
  · exact m632
  · exact m633
  · exact m634
  · exact m63
  · exact m635
theorem cvL_69 : CV RL RX6 69 yX6_sweep cX6_sweep 8 (some .int) 2 := by
  refine ⟨?_, by decide +kernel, by decide⟩
  intro w hw
  simp only [List.mem_cons, List.not_mem_nil, or_false] at hw
  rcases hw with rfl | rfl | rfl | rfl | rfl
  · exact m971
  · exact m972
  · exact m973
  · exact m69
  · exact m974
theorem cvL_70 : CV RL RX5 70 yX5_count cX5_count 2 (some .int) 1 := by
  refine ⟨?_, by decide +kernel, by decide⟩
  intro w hw
  simp only [List.mem_cons, List.not_mem_nil, or_false] at hw
  rcases hw with rfl | rfl | rfl | rfl | rfl
  · exact m651
  · exact m652
  · exact m653
  · exact m63
  · exact m654
theorem cvL_73 : CV RL RX6 73 yX6_count cX6_count 2 (some .int) 1 := by
  refine ⟨?_, by decide +kernel, by decide⟩
  intro w hw
  simp only [List.mem_cons, List.not_mem_nil, or_false] at hw
  rcases hw with rfl | rfl | rfl | rfl | rfl
  · exact m983
  · exact m984
  · exact m985
  · exact m69
  · exact m986
theorem fX0_11 : FL RX0 11 0 0 RX0 TX0 7 := ⟨uX0, m108, rfl, by decide⟩
theorem pX0_11 : FP RX0 11 0 0 RX0 TX0 7 (.array .int) := ⟨fX0_11, ⟨tyX0, tyX0_ok⟩, nmX0, by decide +kernel⟩
theorem fX0_15 : FL RX0 15 0 1 RX0 TX0 7 := ⟨uX0, m110, rfl, by decide⟩
theorem pX0_15 : FP RX0 15 0 1 RX0 TX0 7 (.array .int) := ⟨fX0_15, ⟨tyX0, tyX0_ok⟩, nmX0, by decide +kernel⟩
theorem fX0_18 : FL RX0 18 0 2 RX0 TX0 7 := ⟨uX0, m112, rfl, by decide⟩
theorem pX0_18 : FP RX0 18 0 2 RX0 TX0 7 (.array .int) := ⟨fX0_18, ⟨tyX0, tyX0_ok⟩, nmX0, by decide +kernel⟩
theorem fX0_21 : FL RX0 21 0 3 RX0 TX0 7 := ⟨uX0, m114, rfl, by decide⟩
theorem pX0_21 : FP RX0 21 0 3 RX0 TX0 7 (.array .int) := ⟨fX0_21, ⟨tyX0, tyX0_ok⟩, nmX0, by decide +kernel⟩
theorem fX0_24 : FL RX0 24 0 4 RX0 TX0 7 := ⟨uX0, m115, rfl, by decide⟩
theorem pX0_24 : FP RX0 24 0 4 RX0 TX0 7 (.array .int) := ⟨fX0_24, ⟨tyX0, tyX0_ok⟩, nmX0, by decide +kernel⟩
theorem fX0_27 : FL RX0 27 0 5 RX0 TX0 7 := ⟨uX0, m118, rfl, by decide⟩
theorem pX0_27 : FP RX0 27 0 5 RX0 TX0 7 (.array .boolean) := ⟨fX0_27, ⟨tyX0, tyX0_ok⟩, nmX0, by decide +kernel⟩
theorem fX0_31 : FL RX0 31 0 6 RX0 TX0 7 := ⟨uX0, m122, rfl, by decide⟩
theorem pX0_31 : FP RX0 31 0 6 RX0 TX0 7 .int := ⟨fX0_31, ⟨tyX0, tyX0_ok⟩, nmX0, by decide +kernel⟩
theorem cnX0_35 : CSN RX0 35 yX5_isMember cX5_isMember 1 (some .boolean) 1 := by
  refine ⟨?_, by decide +kernel, by decide, by decide +kernel⟩
  intro w hw
  simp only [List.mem_cons, List.not_mem_nil, or_false] at hw
  rcases hw with rfl | rfl | rfl
  · exact m328
  · exact m63
  · exact m329
theorem csX0_39 : CS RX0 39 yX0_takesFirst cX0_takesFirst 1 (some .boolean) 1 := by
  refine ⟨?_, by decide +kernel, by decide⟩
  intro w hw
  simp only [List.mem_cons, List.not_mem_nil, or_false] at hw
  rcases hw with rfl | rfl | rfl | rfl
  · exact m330
  · exact m331
  · exact m65
  · exact m332
theorem cvX0_42 : CV RX0 RX0 42 yX0_has cX0_has 2 (some .boolean) 1 := by
  refine ⟨?_, by decide +kernel, by decide⟩
  intro w hw
  simp only [List.mem_cons, List.not_mem_nil, or_false] at hw
  rcases hw with rfl | rfl | rfl | rfl | rfl
  · exact m333
  · exact m334
  · exact m335
  · exact m65
  · exact m336
theorem csX0_45 : CS RX0 45 yX0_takesSecond cX0_takesSecond 1 (some .boolean) 1 := by
  refine ⟨?_, by decide +kernel, by decide⟩
  intro w hw
  simp only [List.mem_cons, List.not_mem_nil, or_false] at hw
  rcases hw with rfl | rfl | rfl | rfl
  · exact m337
  · exact m338
  · exact m65
  · exact m339
theorem cvX0_48 : CV RX0 RX0 48 yX0_sizeOf cX0_sizeOf 4 (some .int) 3 := by
  refine ⟨?_, by decide +kernel, by decide⟩
  intro w hw
  simp only [List.mem_cons, List.not_mem_nil, or_false] at hw
  rcases hw with rfl | rfl | rfl | rfl | rfl
  · exact m348
  · exact m350
  · exact m0
  · exact m65
  · exact m351
theorem cvX0_52 : CV RX0 RX0 52 yX0_hasRoom cX0_hasRoom 4 (some .boolean) 3 := by
  refine ⟨?_, by decide +kernel, by decide⟩
  intro w hw
  simp only [List.mem_cons, List.not_mem_nil, or_false] at hw
  rcases hw with rfl | rfl | rfl | rfl | rfl
  · exact m344
  · exact m345
  · exact m346
  · exact m65
  · exact m347
theorem cvX0_56 : CV RX0 RX0 56 yX0_readsOf cX0_readsOf 4 (some .int) 3 := by
  refine ⟨?_, by decide +kernel, by decide⟩
  intro w hw
  simp only [List.mem_cons, List.not_mem_nil, or_false] at hw
  rcases hw with rfl | rfl | rfl | rfl | rfl
  · exact m352
  · exact m354
  · exact m1
  · exact m65
  · exact m355
theorem cvX0_59 : CV RX0 RX0 59 yX0_failsOf cX0_failsOf 4 (some .boolean) 3 := by
  refine ⟨?_, by decide +kernel, by decide⟩
  intro w hw
  simp only [List.mem_cons, List.not_mem_nil, or_false] at hw
  rcases hw with rfl | rfl | rfl | rfl | rfl
  · exact m356
  · exact m358
  · exact m2
  · exact m65
  · exact m359
theorem fX1_9 : FL RX1 9 1 1 RX1 TX1 12 := ⟨uX1, m147, rfl, by decide⟩
theorem pX1_9 : FP RX1 9 1 1 RX1 TX1 12 (.array .int) := ⟨fX1_9, ⟨tyX1, tyX1_ok⟩, nmX1, by decide +kernel⟩
theorem fX1_13 : FL RX1 13 1 2 RX1 TX1 12 := ⟨uX1, m151, rfl, by decide⟩
theorem pX1_13 : FP RX1 13 1 2 RX1 TX1 12 (.array .int) := ⟨fX1_13, ⟨tyX1, tyX1_ok⟩, nmX1, by decide +kernel⟩
theorem fX1_16 : FL RX1 16 1 3 RX1 TX1 12 := ⟨uX1, m155, rfl, by decide⟩
theorem pX1_16 : FP RX1 16 1 3 RX1 TX1 12 (.array .int) := ⟨fX1_16, ⟨tyX1, tyX1_ok⟩, nmX1, by decide +kernel⟩
theorem fX1_19 : FL RX1 19 1 4 RX1 TX1 12 := ⟨uX1, m159, rfl, by decide⟩
theorem pX1_19 : FP RX1 19 1 4 RX1 TX1 12 (.array .int) := ⟨fX1_19, ⟨tyX1, tyX1_ok⟩, nmX1, by decide +kernel⟩
theorem fX1_22 : FL RX1 22 1 5 RX1 TX1 12 := ⟨uX1, m163, rfl, by decide⟩
theorem pX1_22 : FP RX1 22 1 5 RX1 TX1 12 (.array .int) := ⟨fX1_22, ⟨tyX1, tyX1_ok⟩, nmX1, by decide +kernel⟩
theorem fX1_25 : FL RX1 25 1 6 RX1 TX1 12 := ⟨uX1, m167, rfl, by decide⟩
theorem pX1_25 : FP RX1 25 1 6 RX1 TX1 12 (.array .int) := ⟨fX1_25, ⟨tyX1, tyX1_ok⟩, nmX1, by decide +kernel⟩
theorem fX1_28 : FL RX1 28 1 7 RX1 TX1 12 := ⟨uX1, m169, rfl, by decide⟩
theorem pX1_28 : FP RX1 28 1 7 RX1 TX1 12 (.array .boolean) := ⟨fX1_28, ⟨tyX1, tyX1_ok⟩, nmX1, by decide +kernel⟩
theorem fX1_32 : FL RX1 32 1 9 RX1 TX1 12 := ⟨uX1, m175, rfl, by decide⟩
theorem pX1_32 : FP RX1 32 1 9 RX1 TX1 12 (.array .int) := ⟨fX1_32, ⟨tyX1, tyX1_ok⟩, nmX1, by decide +kernel⟩
theorem fX1_35 : FL RX1 35 1 10 RX1 TX1 12 := ⟨uX1, m177, rfl, by decide⟩
theorem pX1_35 : FP RX1 35 1 10 RX1 TX1 12 (.array .int) := ⟨fX1_35, ⟨tyX1, tyX1_ok⟩, nmX1, by decide +kernel⟩
theorem fX1_38 : FL RX1 38 1 11 RX1 TX1 12 := ⟨uX1, m178, rfl, by decide⟩
theorem pX1_38 : FP RX1 38 1 11 RX1 TX1 12 (.array .int) := ⟨fX1_38, ⟨tyX1, tyX1_ok⟩, nmX1, by decide +kernel⟩
theorem fX1_41 : FL RX1 41 1 0 RX1 TX1 12 := ⟨uX1, m146, rfl, by decide⟩
theorem pX1_41 : FP RX1 41 1 0 RX1 TX1 12 (.object "PlanRules$Formulas") := ⟨fX1_41, ⟨tyX1, tyX1_ok⟩, nmX1, by decide +kernel⟩
theorem fX1_45 : FL RX1 45 1 8 RX1 TX1 12 := ⟨uX1, m172, rfl, by decide⟩
theorem pX1_45 : FP RX1 45 1 8 RX1 TX1 12 .int := ⟨fX1_45, ⟨tyX1, tyX1_ok⟩, nmX1, by decide +kernel⟩
theorem cvX1_51 : CV RX1 RX1 51 yX1_has cX1_has 2 (some .boolean) 1 := by
  refine ⟨?_, by decide +kernel, by decide⟩
  intro w hw
  simp only [List.mem_cons, List.not_mem_nil, or_false] at hw
  rcases hw with rfl | rfl | rfl | rfl | rfl
  · exact m376
  · exact m377
  · exact m378
  · exact m66
  · exact m379
theorem csX1_55 : CS RX1 55 yX1_takesRight cX1_takesRight 1 (some .boolean) 1 := by
  refine ⟨?_, by decide +kernel, by decide⟩
  intro w hw
  simp only [List.mem_cons, List.not_mem_nil, or_false] at hw
  rcases hw with rfl | rfl | rfl | rfl
  · exact m380
  · exact m381
  · exact m66
  · exact m382
theorem csX1_58 : CS RX1 58 yX1_takesMember cX1_takesMember 1 (some .boolean) 1 := by
  refine ⟨?_, by decide +kernel, by decide⟩
  intro w hw
  simp only [List.mem_cons, List.not_mem_nil, or_false] at hw
  rcases hw with rfl | rfl | rfl | rfl
  · exact m383
  · exact m384
  · exact m66
  · exact m385
theorem cnX1_61 : CSN RX1 61 yX5_isMember cX5_isMember 1 (some .boolean) 1 := by
  refine ⟨?_, by decide +kernel, by decide, by decide +kernel⟩
  intro w hw
  simp only [List.mem_cons, List.not_mem_nil, or_false] at hw
  rcases hw with rfl | rfl | rfl
  · exact m328
  · exact m63
  · exact m329
theorem cvX1_66 : CV RX1 RX1 66 yX1_isValue cX1_isValue 4 (some .boolean) 3 := by
  refine ⟨?_, by decide +kernel, by decide⟩
  intro w hw
  simp only [List.mem_cons, List.not_mem_nil, or_false] at hw
  rcases hw with rfl | rfl | rfl | rfl | rfl
  · exact m387
  · exact m389
  · exact m3
  · exact m66
  · exact m390
theorem cvX1_70 : CV RX1 RX0 70 yX0_has cX0_has 2 (some .boolean) 1 := by
  refine ⟨?_, by decide +kernel, by decide⟩
  intro w hw
  simp only [List.mem_cons, List.not_mem_nil, or_false] at hw
  rcases hw with rfl | rfl | rfl | rfl | rfl
  · exact m391
  · exact m334
  · exact m335
  · exact m65
  · exact m336
theorem cnX1_73 : CSN RX1 73 yX5_isSet cX5_isSet 1 (some .boolean) 1 := by
  refine ⟨?_, by decide +kernel, by decide, by decide +kernel⟩
  intro w hw
  simp only [List.mem_cons, List.not_mem_nil, or_false] at hw
  rcases hw with rfl | rfl | rfl
  · exact m393
  · exact m63
  · exact m394
theorem mnX1_76 : Cond.methodLink RX1 76 Lib.Math.min.name ∈ TB := m403
theorem csX1_82 : CS RX1 82 yX1_takesFormula cX1_takesFormula 1 (some .boolean) 1 := by
  refine ⟨?_, by decide +kernel, by decide⟩
  intro w hw
  simp only [List.mem_cons, List.not_mem_nil, or_false] at hw
  rcases hw with rfl | rfl | rfl | rfl
  · exact m419
  · exact m420
  · exact m66
  · exact m421
theorem fX1_85 : FL RX1 85 0 5 RX0 TX0 7 := ⟨uX0, m121, rfl, by decide⟩
theorem cvX1_86 : CV RX1 RX1 86 yX1_write cX1_write 7 none 6 := by
  refine ⟨?_, by decide +kernel, by decide⟩
  intro w hw
  simp only [List.mem_cons, List.not_mem_nil, or_false] at hw
  rcases hw with rfl | rfl | rfl | rfl | rfl
  · exact m410
  · exact m411
  · exact m412
  · exact m66
  · exact m413
theorem cvX1_90 : CV RX1 RX1 90 yX1_boundOf cX1_boundOf 5 (some .int) 4 := by
  refine ⟨?_, by decide +kernel, by decide⟩
  intro w hw
  simp only [List.mem_cons, List.not_mem_nil, or_false] at hw
  rcases hw with rfl | rfl | rfl | rfl | rfl
  · exact m414
  · exact m400
  · exact m401
  · exact m66
  · exact m402
theorem cvX1_94 : CV RX1 RX1 94 yX1_failsOf cX1_failsOf 5 (some .boolean) 4 := by
  refine ⟨?_, by decide +kernel, by decide⟩
  intro w hw
  simp only [List.mem_cons, List.not_mem_nil, or_false] at hw
  rcases hw with rfl | rfl | rfl | rfl | rfl
  · exact m415
  · exact m417
  · exact m4
  · exact m66
  · exact m418
theorem csX1_98 : CS RX1 98 yX1_takesValue cX1_takesValue 1 (some .boolean) 1 := by
  refine ⟨?_, by decide +kernel, by decide⟩
  intro w hw
  simp only [List.mem_cons, List.not_mem_nil, or_false] at hw
  rcases hw with rfl | rfl | rfl | rfl
  · exact m422
  · exact m423
  · exact m66
  · exact m424
theorem csX1_101 : CS RX1 101 yJ7_fill_53178 cJ7_fill_53178 4 none 2 := by
  refine ⟨?_, by decide +kernel, by decide⟩
  intro w hw
  simp only [List.mem_cons, List.not_mem_nil, or_false] at hw
  rcases hw with rfl | rfl | rfl | rfl
  · exact m442
  · exact m443
  · exact m71
  · exact m444
theorem cvX1_107 : CV RX1 RX1 107 yX1_leftBelow cX1_leftBelow 2 (some .int) 1 := by
  refine ⟨?_, by decide +kernel, by decide⟩
  intro w hw
  simp only [List.mem_cons, List.not_mem_nil, or_false] at hw
  rcases hw with rfl | rfl | rfl | rfl | rfl
  · exact m445
  · exact m447
  · exact m5
  · exact m66
  · exact m448
theorem cvX1_111 : CV RX1 RX1 111 yX1_rightBelow cX1_rightBelow 2 (some .int) 1 := by
  refine ⟨?_, by decide +kernel, by decide⟩
  intro w hw
  simp only [List.mem_cons, List.not_mem_nil, or_false] at hw
  rcases hw with rfl | rfl | rfl | rfl | rfl
  · exact m449
  · exact m451
  · exact m6
  · exact m66
  · exact m452
theorem fX2_7 : FL RX2 7 2 0 RX2 TX2 3 := ⟨uX2, m260, rfl, by decide⟩
theorem pX2_7 : FP RX2 7 2 0 RX2 TX2 3 (.object "PlanRules$Formulas") := ⟨fX2_7, ⟨tyX2, tyX2_ok⟩, nmX2, by decide +kernel⟩
theorem fX2_13 : FL RX2 13 2 1 RX2 TX2 3 := ⟨uX2, m261, rfl, by decide⟩
theorem pX2_13 : FP RX2 13 2 1 RX2 TX2 3 (.object "PlanRules$Nodes") := ⟨fX2_13, ⟨tyX2, tyX2_ok⟩, nmX2, by decide +kernel⟩
theorem fX2_17 : FL RX2 17 1 1 RX1 TX1 12 := ⟨uX1, m148, rfl, by decide⟩
theorem sX2_23 : Cond.fieldLink RX2 23 RX2 "UPPER" "[I" ∈ TB := m576
theorem fX2_26 : FL RX2 26 1 2 RX1 TX1 12 := ⟨uX1, m152, rfl, by decide⟩
theorem sX2_29 : Cond.fieldLink RX2 29 RX2 "LOWER" "[I" ∈ TB := m578
theorem fX2_32 : FL RX2 32 1 5 RX1 TX1 12 := ⟨uX1, m164, rfl, by decide⟩
theorem cvX2_35 : CV RX2 RX2 35 yX2_suitsFilter cX2_suitsFilter 8 (some .boolean) 3 := by
  refine ⟨?_, by decide +kernel, by decide⟩
  intro w hw
  simp only [List.mem_cons, List.not_mem_nil, or_false] at hw
  rcases hw with rfl | rfl | rfl | rfl | rfl
  · exact m580
  · exact m582
  · exact m26
  · exact m68
  · exact m583
theorem cvX2_39 : CV RX2 RX2 39 yX2_suitsOther cX2_suitsOther 8 (some .boolean) 3 := by
  refine ⟨?_, by decide +kernel, by decide⟩
  intro w hw
  simp only [List.mem_cons, List.not_mem_nil, or_false] at hw
  rcases hw with rfl | rfl | rfl | rfl | rfl
  · exact m588
  · exact m590
  · exact m27
  · exact m68
  · exact m591
theorem fX2_42 : FL RX2 42 0 4 RX0 TX0 7 := ⟨uX0, m116, rfl, by decide⟩
theorem fX2_47 : FL RX2 47 0 5 RX0 TX0 7 := ⟨uX0, m119, rfl, by decide⟩
theorem fX2_51 : FL RX2 51 1 4 RX1 TX1 12 := ⟨uX1, m160, rfl, by decide⟩
theorem cnX2_54 : CSN RX2 54 yX5_isIn cX5_isIn 2 (some .boolean) 2 := by
  refine ⟨?_, by decide +kernel, by decide, by decide +kernel⟩
  intro w hw
  simp only [List.mem_cons, List.not_mem_nil, or_false] at hw
  rcases hw with rfl | rfl | rfl
  · exact m521
  · exact m63
  · exact m522
theorem cnX2_60 : CSN RX2 60 yX5_isWithin cX5_isWithin 2 (some .boolean) 2 := by
  refine ⟨?_, by decide +kernel, by decide, by decide +kernel⟩
  intro w hw
  simp only [List.mem_cons, List.not_mem_nil, or_false] at hw
  rcases hw with rfl | rfl | rfl
  · exact m586
  · exact m63
  · exact m587
theorem fX2_63 : FL RX2 63 1 7 RX1 TX1 12 := ⟨uX1, m170, rfl, by decide⟩
theorem fX2_64 : FL RX2 64 1 3 RX1 TX1 12 := ⟨uX1, m157, rfl, by decide⟩
theorem cvX2_67 : CV RX2 RX2 67 yX2_isLikeJob cX2_isLikeJob 3 (some .boolean) 2 := by
  refine ⟨?_, by decide +kernel, by decide⟩
  intro w hw
  simp only [List.mem_cons, List.not_mem_nil, or_false] at hw
  rcases hw with rfl | rfl | rfl | rfl | rfl
  · exact m592
  · exact m594
  · exact m28
  · exact m68
  · exact m595
theorem cvX2_70 : CV RX2 RX0 70 yX0_hasRoom cX0_hasRoom 4 (some .boolean) 3 := by
  refine ⟨?_, by decide +kernel, by decide⟩
  intro w hw
  simp only [List.mem_cons, List.not_mem_nil, or_false] at hw
  rcases hw with rfl | rfl | rfl | rfl | rfl
  · exact m604
  · exact m345
  · exact m346
  · exact m65
  · exact m347
theorem sX2_73 : Cond.fieldLink RX2 73 RX2 "NEW_NODES" "[I" ∈ TB := m605
theorem cvX2_76 : CV RX2 RX1 76 yX1_hasRoom cX1_hasRoom 2 (some .boolean) 1 := by
  refine ⟨?_, by decide +kernel, by decide⟩
  intro w hw
  simp only [List.mem_cons, List.not_mem_nil, or_false] at hw
  rcases hw with rfl | rfl | rfl | rfl | rfl
  · exact m607
  · exact m396
  · exact m397
  · exact m66
  · exact m398
theorem fX2_79 : FL RX2 79 2 2 RX2 TX2 3 := ⟨uX2, m262, rfl, by decide⟩
theorem pX2_79 : FP RX2 79 2 2 RX2 TX2 3 .int := ⟨fX2_79, ⟨tyX2, tyX2_ok⟩, nmX2, by decide +kernel⟩
theorem cvX2_83 : CV RX2 RX2 83 yX2_addLike cX2_addLike 3 (some .int) 2 := by
  refine ⟨?_, by decide +kernel, by decide⟩
  intro w hw
  simp only [List.mem_cons, List.not_mem_nil, or_false] at hw
  rcases hw with rfl | rfl | rfl | rfl | rfl
  · exact m612
  · exact m614
  · exact m29
  · exact m68
  · exact m615
theorem cvX2_87 : CV RX2 RX2 87 yX2_exchange cX2_exchange 5 none 4 := by
  refine ⟨?_, by decide +kernel, by decide⟩
  intro w hw
  simp only [List.mem_cons, List.not_mem_nil, or_false] at hw
  rcases hw with rfl | rfl | rfl | rfl | rfl
  · exact m617
  · exact m619
  · exact m30
  · exact m68
  · exact m620
theorem cvX2_91 : CV RX2 RX0 91 yX0_add cX0_add 5 (some .int) 3 := by
  refine ⟨?_, by decide +kernel, by decide⟩
  intro w hw
  simp only [List.mem_cons, List.not_mem_nil, or_false] at hw
  rcases hw with rfl | rfl | rfl | rfl | rfl
  · exact m622
  · exact m341
  · exact m342
  · exact m65
  · exact m343
theorem cvX2_95 : CV RX2 RX2 95 yX2_skip cX2_skip 4 none 3 := by
  refine ⟨?_, by decide +kernel, by decide⟩
  intro w hw
  simp only [List.mem_cons, List.not_mem_nil, or_false] at hw
  rcases hw with rfl | rfl | rfl | rfl | rfl
  · exact m623
  · exact m625
  · exact m31
  · exact m68
  · exact m626
theorem mnX2_99 : Cond.methodLink RX2 99 Lib.Math.min.name ∈ TB := m627
theorem cvX2_104 : CV RX2 RX2 104 yX2_workAbove cX2_workAbove 5 none 3 := by
  refine ⟨?_, by decide +kernel, by decide⟩
  intro w hw
  simp only [List.mem_cons, List.not_mem_nil, or_false] at hw
  rcases hw with rfl | rfl | rfl | rfl | rfl
  · exact m628
  · exact m630
  · exact m32
  · exact m68
  · exact m631
theorem cvX2_107 : CV RX2 RX1 107 yX1_write cX1_write 7 none 6 := by
  refine ⟨?_, by decide +kernel, by decide⟩
  intro w hw
  simp only [List.mem_cons, List.not_mem_nil, or_false] at hw
  rcases hw with rfl | rfl | rfl | rfl | rfl
  · exact m621
  · exact m411
  · exact m412
  · exact m66
  · exact m413
theorem cvX2_111 : CV RX2 RX1 111 yX1_add cX1_add 7 (some .int) 5 := by
  refine ⟨?_, by decide +kernel, by decide⟩
  intro w hw
  simp only [List.mem_cons, List.not_mem_nil, or_false] at hw
  rcases hw with rfl | rfl | rfl | rfl | rfl
  · exact m616
  · exact m407
  · exact m408
  · exact m66
  · exact m409
theorem cvX2_114 : CV RX2 RX1 114 yX1_listFrom cX1_listFrom 7 (some .int) 1 := by
  refine ⟨?_, by decide +kernel, by decide⟩
  intro w hw
  simp only [List.mem_cons, List.not_mem_nil, or_false] at hw
  rcases hw with rfl | rfl | rfl | rfl | rfl
  · exact m640
  · exact m439
  · exact m440
  · exact m66
  · exact m441
theorem fX2_118 : FL RX2 118 1 8 RX1 TX1 12 := ⟨uX1, m173, rfl, by decide⟩
theorem cvX2_121 : CV RX2 RX1 121 yX1_isListed cX1_isListed 2 (some .boolean) 1 := by
  refine ⟨?_, by decide +kernel, by decide⟩
  intro w hw
  simp only [List.mem_cons, List.not_mem_nil, or_false] at hw
  rcases hw with rfl | rfl | rfl | rfl | rfl
  · exact m641
  · exact m642
  · exact m643
  · exact m66
  · exact m644
theorem cvX2_124 : CV RX2 RX2 124 yX2_leastRule cX2_leastRule 3 (some .int) 1 := by
  refine ⟨?_, by decide +kernel, by decide⟩
  intro w hw
  simp only [List.mem_cons, List.not_mem_nil, or_false] at hw
  rcases hw with rfl | rfl | rfl | rfl | rfl
  · exact m645
  · exact m646
  · exact m647
  · exact m68
  · exact m648
theorem cvX2_127 : CV RX2 RX2 127 yX2_suits cX2_suits 4 (some .boolean) 2 := by
  refine ⟨?_, by decide +kernel, by decide⟩
  intro w hw
  simp only [List.mem_cons, List.not_mem_nil, or_false] at hw
  rcases hw with rfl | rfl | rfl | rfl | rfl
  · exact m649
  · exact m573
  · exact m574
  · exact m68
  · exact m575
theorem fX3_13 : FL RX3 13 3 3 RX3 TX3 13 := ⟨uX3, m213, rfl, by decide⟩
theorem pX3_13 : FP RX3 13 3 3 RX3 TX3 13 (.array .int) := ⟨fX3_13, ⟨tyX3, tyX3_ok⟩, nmX3, by decide +kernel⟩
theorem fX3_17 : FL RX3 17 3 5 RX3 TX3 13 := ⟨uX3, m215, rfl, by decide⟩
theorem pX3_17 : FP RX3 17 3 5 RX3 TX3 13 (.array .int) := ⟨fX3_17, ⟨tyX3, tyX3_ok⟩, nmX3, by decide +kernel⟩
theorem fX3_20 : FL RX3 20 3 6 RX3 TX3 13 := ⟨uX3, m216, rfl, by decide⟩
theorem pX3_20 : FP RX3 20 3 6 RX3 TX3 13 (.array .int) := ⟨fX3_20, ⟨tyX3, tyX3_ok⟩, nmX3, by decide +kernel⟩
theorem fX3_23 : FL RX3 23 3 12 RX3 TX3 13 := ⟨uX3, m225, rfl, by decide⟩
theorem pX3_23 : FP RX3 23 3 12 RX3 TX3 13 .int := ⟨fX3_23, ⟨tyX3, tyX3_ok⟩, nmX3, by decide +kernel⟩
theorem fX3_27 : FL RX3 27 3 0 RX3 TX3 13 := ⟨uX3, m210, rfl, by decide⟩
theorem pX3_27 : FP RX3 27 3 0 RX3 TX3 13 (.object "PlanRules$Sources") := ⟨fX3_27, ⟨tyX3, tyX3_ok⟩, nmX3, by decide +kernel⟩
theorem fX3_31 : FL RX3 31 3 1 RX3 TX3 13 := ⟨uX3, m211, rfl, by decide⟩
theorem pX3_31 : FP RX3 31 3 1 RX3 TX3 13 (.object "PlanRules$Formulas") := ⟨fX3_31, ⟨tyX3, tyX3_ok⟩, nmX3, by decide +kernel⟩
theorem fX3_35 : FL RX3 35 3 2 RX3 TX3 13 := ⟨uX3, m212, rfl, by decide⟩
theorem pX3_35 : FP RX3 35 3 2 RX3 TX3 13 (.object "PlanRules$Nodes") := ⟨fX3_35, ⟨tyX3, tyX3_ok⟩, nmX3, by decide +kernel⟩
theorem fX3_39 : FL RX3 39 3 4 RX3 TX3 13 := ⟨uX3, m214, rfl, by decide⟩
theorem pX3_39 : FP RX3 39 3 4 RX3 TX3 13 .int := ⟨fX3_39, ⟨tyX3, tyX3_ok⟩, nmX3, by decide +kernel⟩
theorem fX3_42 : FL RX3 42 3 9 RX3 TX3 13 := ⟨uX3, m219, rfl, by decide⟩
theorem pX3_42 : FP RX3 42 3 9 RX3 TX3 13 .int := ⟨fX3_42, ⟨tyX3, tyX3_ok⟩, nmX3, by decide +kernel⟩
theorem fX3_45 : FL RX3 45 3 10 RX3 TX3 13 := ⟨uX3, m221, rfl, by decide⟩
theorem pX3_45 : FP RX3 45 3 10 RX3 TX3 13 .int := ⟨fX3_45, ⟨tyX3, tyX3_ok⟩, nmX3, by decide +kernel⟩
theorem fX3_48 : FL RX3 48 3 11 RX3 TX3 13 := ⟨uX3, m223, rfl, by decide⟩
theorem pX3_48 : FP RX3 48 3 11 RX3 TX3 13 .int := ⟨fX3_48, ⟨tyX3, tyX3_ok⟩, nmX3, by decide +kernel⟩
theorem cvX3_51 : CV RX3 RX1 51 yX1_listFrom cX1_listFrom 7 (some .int) 1 := by
  refine ⟨?_, by decide +kernel, by decide⟩
  intro w hw
  simp only [List.mem_cons, List.not_mem_nil, or_false] at hw
  rcases hw with rfl | rfl | rfl | rfl | rfl
  · exact m438
  · exact m439
  · exact m440
  · exact m66
  · exact m441
theorem fX3_55 : FL RX3 55 1 9 RX1 TX1 12 := ⟨uX1, m176, rfl, by decide⟩
theorem cvX3_58 : CV RX3 RX3 58 yX3_work cX3_work 3 none 1 := by
  refine ⟨?_, by decide +kernel, by decide⟩
  intro w hw
  simp only [List.mem_cons, List.not_mem_nil, or_false] at hw
  rcases hw with rfl | rfl | rfl | rfl | rfl
  · exact m453
  · exact m455
  · exact m7
  · exact m67
  · exact m456
theorem fX3_62 : FL RX3 62 3 7 RX3 TX3 13 := ⟨uX3, m217, rfl, by decide⟩
theorem pX3_62 : FP RX3 62 3 7 RX3 TX3 13 .int := ⟨fX3_62, ⟨tyX3, tyX3_ok⟩, nmX3, by decide +kernel⟩
theorem fX3_65 : FL RX3 65 3 8 RX3 TX3 13 := ⟨uX3, m218, rfl, by decide⟩
theorem pX3_65 : FP RX3 65 3 8 RX3 TX3 13 .int := ⟨fX3_65, ⟨tyX3, tyX3_ok⟩, nmX3, by decide +kernel⟩
theorem fX3_68 : FL RX3 68 1 2 RX1 TX1 12 := ⟨uX1, m153, rfl, by decide⟩
theorem fX3_71 : FL RX3 71 1 1 RX1 TX1 12 := ⟨uX1, m149, rfl, by decide⟩
theorem cvX3_74 : CV RX3 RX3 74 yX3_giveSource cX3_giveSource 4 none 1 := by
  refine ⟨?_, by decide +kernel, by decide⟩
  intro w hw
  simp only [List.mem_cons, List.not_mem_nil, or_false] at hw
  rcases hw with rfl | rfl | rfl | rfl | rfl
  · exact m457
  · exact m459
  · exact m8
  · exact m67
  · exact m460
theorem fX3_77 : FL RX3 77 1 5 RX1 TX1 12 := ⟨uX1, m165, rfl, by decide⟩
theorem cvX3_80 : CV RX3 RX3 80 yX3_giveFiltered cX3_giveFiltered 5 none 2 := by
  refine ⟨?_, by decide +kernel, by decide⟩
  intro w hw
  simp only [List.mem_cons, List.not_mem_nil, or_false] at hw
  rcases hw with rfl | rfl | rfl | rfl | rfl
  · exact m483
  · exact m485
  · exact m10
  · exact m67
  · exact m486
theorem fX3_84 : FL RX3 84 1 4 RX1 TX1 12 := ⟨uX1, m161, rfl, by decide⟩
theorem cvX3_87 : CV RX3 RX3 87 yX3_giveSet cX3_giveSet 7 none 3 := by
  refine ⟨?_, by decide +kernel, by decide⟩
  intro w hw
  simp only [List.mem_cons, List.not_mem_nil, or_false] at hw
  rcases hw with rfl | rfl | rfl | rfl | rfl
  · exact m508
  · exact m510
  · exact m16
  · exact m67
  · exact m511
theorem cvX3_91 : CV RX3 RX3 91 yX3_giveKept cX3_giveKept 5 none 2 := by
  refine ⟨?_, by decide +kernel, by decide⟩
  intro w hw
  simp only [List.mem_cons, List.not_mem_nil, or_false] at hw
  rcases hw with rfl | rfl | rfl | rfl | rfl
  · exact m512
  · exact m514
  · exact m17
  · exact m67
  · exact m515
theorem fX3_94 : FL RX3 94 1 3 RX1 TX1 12 := ⟨uX1, m156, rfl, by decide⟩
theorem cvX3_97 : CV RX3 RX3 97 yX3_giveJoined cX3_giveJoined 8 none 4 := by
  refine ⟨?_, by decide +kernel, by decide⟩
  intro w hw
  simp only [List.mem_cons, List.not_mem_nil, or_false] at hw
  rcases hw with rfl | rfl | rfl | rfl | rfl
  · exact m523
  · exact m525
  · exact m19
  · exact m67
  · exact m526
theorem cvX3_101 : CV RX3 RX3 101 yX3_giveFirst cX3_giveFirst 5 none 2 := by
  refine ⟨?_, by decide +kernel, by decide⟩
  intro w hw
  simp only [List.mem_cons, List.not_mem_nil, or_false] at hw
  rcases hw with rfl | rfl | rfl | rfl | rfl
  · exact m527
  · exact m529
  · exact m20
  · exact m67
  · exact m530
theorem cvX3_104 : CV RX3 RX3 104 yX3_giveFolded cX3_giveFolded 7 none 3 := by
  refine ⟨?_, by decide +kernel, by decide⟩
  intro w hw
  simp only [List.mem_cons, List.not_mem_nil, or_false] at hw
  rcases hw with rfl | rfl | rfl | rfl | rfl
  · exact m531
  · exact m533
  · exact m21
  · exact m67
  · exact m534
theorem cvX3_107 : CV RX3 RX3 107 yX3_giveOnce cX3_giveOnce 4 none 1 := by
  refine ⟨?_, by decide +kernel, by decide⟩
  intro w hw
  simp only [List.mem_cons, List.not_mem_nil, or_false] at hw
  rcases hw with rfl | rfl | rfl | rfl | rfl
  · exact m539
  · exact m541
  · exact m23
  · exact m67
  · exact m542
theorem fX3_110 : FL RX3 110 4 1 RX4 TX4 3 := ⟨uX4, m90, rfl, by decide⟩
theorem cvX3_115 : CV RX3 RX3 115 yX3_addEmpty cX3_addEmpty 3 (some .int) 0 := by
  refine ⟨?_, by decide +kernel, by decide⟩
  intro w hw
  simp only [List.mem_cons, List.not_mem_nil, or_false] at hw
  rcases hw with rfl | rfl | rfl | rfl | rfl
  · exact m461
  · exact m463
  · exact m9
  · exact m67
  · exact m464
theorem fX3_119 : FL RX3 119 4 0 RX4 TX4 3 := ⟨uX4, m88, rfl, by decide⟩
theorem cvX3_120 : CV RX3 RX4 120 yX4_cellOf cX4_cellOf 3 (some .int) 2 := by
  refine ⟨?_, by decide +kernel, by decide⟩
  intro w hw
  simp only [List.mem_cons, List.not_mem_nil, or_false] at hw
  rcases hw with rfl | rfl | rfl | rfl | rfl
  · exact m481
  · exact m300
  · exact m301
  · exact m64
  · exact m302
theorem acX3_124 : Cond.methodLink RX3 124 arraycopyName ∈ TB := m482
theorem cvX3_130 : CV RX3 RX3 130 yX3_valueOf cX3_valueOf 4 (some .int) 2 := by
  refine ⟨?_, by decide +kernel, by decide⟩
  intro w hw
  simp only [List.mem_cons, List.not_mem_nil, or_false] at hw
  rcases hw with rfl | rfl | rfl | rfl | rfl
  · exact m487
  · exact m489
  · exact m11
  · exact m67
  · exact m490
theorem cvX3_133 : CV RX3 RX3 133 yX3_addCopy cX3_addCopy 3 (some .int) 1 := by
  refine ⟨?_, by decide +kernel, by decide⟩
  intro w hw
  simp only [List.mem_cons, List.not_mem_nil, or_false] at hw
  rcases hw with rfl | rfl | rfl | rfl | rfl
  · exact m504
  · exact m506
  · exact m15
  · exact m67
  · exact m507
theorem cvX3_136 : CV RX3 RX3 136 yX3_copyMembers cX3_copyMembers 5 none 3 := by
  refine ⟨?_, by decide +kernel, by decide⟩
  intro w hw
  simp only [List.mem_cons, List.not_mem_nil, or_false] at hw
  rcases hw with rfl | rfl | rfl | rfl | rfl
  · exact m516
  · exact m518
  · exact m18
  · exact m67
  · exact m519
theorem cvX3_139 : CV RX3 RX3 139 yX3_findMember cX3_findMember 5 (some .int) 3 := by
  refine ⟨?_, by decide +kernel, by decide⟩
  intro w hw
  simp only [List.mem_cons, List.not_mem_nil, or_false] at hw
  rcases hw with rfl | rfl | rfl | rfl | rfl
  · exact m535
  · exact m537
  · exact m22
  · exact m67
  · exact m538
theorem cvX3_143 : CV RX3 RX3 143 yX3_hasLike cX3_hasLike 4 (some .boolean) 2 := by
  refine ⟨?_, by decide +kernel, by decide⟩
  intro w hw
  simp only [List.mem_cons, List.not_mem_nil, or_false] at hw
  rcases hw with rfl | rfl | rfl | rfl | rfl
  · exact m543
  · exact m545
  · exact m24
  · exact m67
  · exact m546
theorem mnX3_147 : Cond.methodLink RX3 147 Lib.Math.min.name ∈ TB := m466
theorem cvX3_152 : CV RX3 RX3 152 yX3_isLike cX3_isLike 4 (some .boolean) 2 := by
  refine ⟨?_, by decide +kernel, by decide⟩
  intro w hw
  simp only [List.mem_cons, List.not_mem_nil, or_false] at hw
  rcases hw with rfl | rfl | rfl | rfl | rfl
  · exact m547
  · exact m549
  · exact m25
  · exact m67
  · exact m550
theorem cnX3_155 : CSN RX3 155 yX5_isIn cX5_isIn 2 (some .boolean) 2 := by
  refine ⟨?_, by decide +kernel, by decide, by decide +kernel⟩
  intro w hw
  simp only [List.mem_cons, List.not_mem_nil, or_false] at hw
  rcases hw with rfl | rfl | rfl
  · exact m521
  · exact m63
  · exact m522
theorem kX3_158 : Cond.constant RX3 158 (36000) ∈ TB := m465
theorem csX3_159 : CS RX3 159 yJ7_copyOf_59c91 cJ7_copyOf_59c91 3 (some (.array .int)) 2 := by
  refine ⟨?_, by decide +kernel, by decide⟩
  intro w hw
  simp only [List.mem_cons, List.not_mem_nil, or_false] at hw
  rcases hw with rfl | rfl | rfl | rfl
  · exact m467
  · exact m468
  · exact m71
  · exact m469
theorem fX3_165 : FL RX3 165 0 1 RX0 TX0 7 := ⟨uX0, m111, rfl, by decide⟩
theorem fX3_170 : FL RX3 170 0 0 RX0 TX0 7 := ⟨uX0, m109, rfl, by decide⟩
theorem fX3_171 : FL RX3 171 0 2 RX0 TX0 7 := ⟨uX0, m113, rfl, by decide⟩
theorem cvX3_174 : CV RX3 RX3 174 yX3_valueOfParts cX3_valueOfParts 7 (some .int) 4 := by
  refine ⟨?_, by decide +kernel, by decide⟩
  intro w hw
  simp only [List.mem_cons, List.not_mem_nil, or_false] at hw
  rcases hw with rfl | rfl | rfl | rfl | rfl
  · exact m491
  · exact m493
  · exact m12
  · exact m67
  · exact m494
theorem cvX3_178 : CV RX3 RX3 178 yX3_itemAt cX3_itemAt 2 (some .int) 1 := by
  refine ⟨?_, by decide +kernel, by decide⟩
  intro w hw
  simp only [List.mem_cons, List.not_mem_nil, or_false] at hw
  rcases hw with rfl | rfl | rfl | rfl | rfl
  · exact m495
  · exact m497
  · exact m13
  · exact m67
  · exact m498
theorem cvX3_181 : CV RX3 RX3 181 yX3_valueOfPair cX3_valueOfPair 4 (some .int) 3 := by
  refine ⟨?_, by decide +kernel, by decide⟩
  intro w hw
  simp only [List.mem_cons, List.not_mem_nil, or_false] at hw
  rcases hw with rfl | rfl | rfl | rfl | rfl
  · exact m500
  · exact m502
  · exact m14
  · exact m67
  · exact m503
theorem cvX3_184 : CV RX3 RX4 184 yX4_hasItem cX4_hasItem 2 (some .boolean) 1 := by
  refine ⟨?_, by decide +kernel, by decide⟩
  intro w hw
  simp only [List.mem_cons, List.not_mem_nil, or_false] at hw
  rcases hw with rfl | rfl | rfl | rfl | rfl
  · exact m499
  · exact m316
  · exact m317
  · exact m64
  · exact m318
theorem fX3_188 : FL RX3 188 4 2 RX4 TX4 3 := ⟨uX4, m93, rfl, by decide⟩
theorem fX4_11 : FL RX4 11 4 0 RX4 TX4 3 := ⟨uX4, m87, rfl, by decide⟩
theorem pX4_11 : FP RX4 11 4 0 RX4 TX4 3 (.array .int) := ⟨fX4_11, ⟨tyX4, tyX4_ok⟩, nmX4, by decide +kernel⟩
theorem fX4_15 : FL RX4 15 4 1 RX4 TX4 3 := ⟨uX4, m89, rfl, by decide⟩
theorem pX4_15 : FP RX4 15 4 1 RX4 TX4 3 (.array .int) := ⟨fX4_15, ⟨tyX4, tyX4_ok⟩, nmX4, by decide +kernel⟩
theorem fX4_18 : FL RX4 18 4 2 RX4 TX4 3 := ⟨uX4, m91, rfl, by decide⟩
theorem pX4_18 : FP RX4 18 4 2 RX4 TX4 3 (.array .int) := ⟨fX4_18, ⟨tyX4, tyX4_ok⟩, nmX4, by decide +kernel⟩
theorem cvX4_21 : CV RX4 RX4 21 yX4_cellOf cX4_cellOf 3 (some .int) 2 := by
  refine ⟨?_, by decide +kernel, by decide⟩
  intro w hw
  simp only [List.mem_cons, List.not_mem_nil, or_false] at hw
  rcases hw with rfl | rfl | rfl | rfl | rfl
  · exact m299
  · exact m300
  · exact m301
  · exact m64
  · exact m302
-- class X5 9 PlanRules$Sources
-- ctor X5 11 nest X4_init
theorem fX5_12 : FL RX5 12 5 0 RX5 TX5 5 := ⟨uX5, m271, rfl, by decide⟩
theorem pX5_12 : FP RX5 12 5 0 RX5 TX5 5 (.object "PlanRules$Sources") := ⟨fX5_12, ⟨tyX5, tyX5_ok⟩, nmX5, by decide +kernel⟩
-- class X5 16 PlanRules$Formulas
-- ctor X5 18 nest X0_init
theorem fX5_19 : FL RX5 19 5 1 RX5 TX5 5 := ⟨uX5, m272, rfl, by decide⟩
theorem pX5_19 : FP RX5 19 5 1 RX5 TX5 5 (.object "PlanRules$Formulas") := ⟨fX5_19, ⟨tyX5, tyX5_ok⟩, nmX5, by decide +kernel⟩
-- class X5 23 PlanRules$Nodes
-- ctor X5 25 method X1_init
theorem fX5_28 : FL RX5 28 5 2 RX5 TX5 5 := ⟨uX5, m273, rfl, by decide⟩
theorem pX5_28 : FP RX5 28 5 2 RX5 TX5 5 (.object "PlanRules$Nodes") := ⟨fX5_28, ⟨tyX5, tyX5_ok⟩, nmX5, by decide +kernel⟩
-- class X5 32 PlanRules$Runner
-- ctor X5 34 method X3_init
theorem fX5_37 : FL RX5 37 5 3 RX5 TX5 5 := ⟨uX5, m274, rfl, by decide⟩
theorem pX5_37 : FP RX5 37 5 3 RX5 TX5 5 (.object "PlanRules$Runner") := ⟨fX5_37, ⟨tyX5, tyX5_ok⟩, nmX5, by decide +kernel⟩
-- class X5 41 PlanRules$Rules
-- ctor X5 43 method X2_init
theorem fX5_46 : FL RX5 46 5 4 RX5 TX5 5 := ⟨uX5, m275, rfl, by decide⟩
theorem pX5_46 : FP RX5 46 5 4 RX5 TX5 5 (.object "PlanRules$Rules") := ⟨fX5_46, ⟨tyX5, tyX5_ok⟩, nmX5, by decide +kernel⟩
theorem cvX5_50 : CV RX5 RX4 50 yX4_has cX4_has 2 (some .boolean) 1 := by
  refine ⟨?_, by decide +kernel, by decide⟩
  intro w hw
  simp only [List.mem_cons, List.not_mem_nil, or_false] at hw
  rcases hw with rfl | rfl | rfl | rfl | rfl
  · exact m291
  · exact m292
  · exact m293
  · exact m64
  · exact m294
theorem cvX5_54 : CV RX5 RX4 54 yX4_add cX4_add 6 (some .int) 4 := by
  refine ⟨?_, by decide +kernel, by decide⟩
  intro w hw
  simp only [List.mem_cons, List.not_mem_nil, or_false] at hw
  rcases hw with rfl | rfl | rfl | rfl | rfl
  · exact m295
  · exact m296
  · exact m297
  · exact m64
  · exact m298
theorem cvX5_58 : CV RX5 RX4 58 yX4_empty cX4_empty 3 (some .int) 1 := by
  refine ⟨?_, by decide +kernel, by decide⟩
  intro w hw
  simp only [List.mem_cons, List.not_mem_nil, or_false] at hw
  rcases hw with rfl | rfl | rfl | rfl | rfl
  · exact m307
  · exact m308
  · exact m309
  · exact m64
  · exact m310
theorem cvX5_62 : CV RX5 RX4 62 yX4_hasItem cX4_hasItem 2 (some .boolean) 1 := by
  refine ⟨?_, by decide +kernel, by decide⟩
  intro w hw
  simp only [List.mem_cons, List.not_mem_nil, or_false] at hw
  rcases hw with rfl | rfl | rfl | rfl | rfl
  · exact m315
  · exact m316
  · exact m317
  · exact m64
  · exact m318
theorem fX5_65 : FL RX5 65 4 2 RX4 TX4 3 := ⟨uX4, m92, rfl, by decide⟩
theorem cvX5_69 : CV RX5 RX0 69 yX0_isAsTold cX0_isAsTold 4 (some .boolean) 3 := by
  refine ⟨?_, by decide +kernel, by decide⟩
  intro w hw
  simp only [List.mem_cons, List.not_mem_nil, or_false] at hw
  rcases hw with rfl | rfl | rfl | rfl | rfl
  · exact m323
  · exact m324
  · exact m325
  · exact m65
  · exact m326
theorem cvX5_73 : CV RX5 RX0 73 yX0_add cX0_add 5 (some .int) 3 := by
  refine ⟨?_, by decide +kernel, by decide⟩
  intro w hw
  simp only [List.mem_cons, List.not_mem_nil, or_false] at hw
  rcases hw with rfl | rfl | rfl | rfl | rfl
  · exact m340
  · exact m341
  · exact m342
  · exact m65
  · exact m343
theorem cvX5_76 : CV RX5 RX0 76 yX0_has cX0_has 2 (some .boolean) 1 := by
  refine ⟨?_, by decide +kernel, by decide⟩
  intro w hw
  simp only [List.mem_cons, List.not_mem_nil, or_false] at hw
  rcases hw with rfl | rfl | rfl | rfl | rfl
  · exact m364
  · exact m334
  · exact m335
  · exact m65
  · exact m336
theorem fX5_77 : FL RX5 77 0 4 RX0 TX0 7 := ⟨uX0, m117, rfl, by decide⟩
theorem fX5_80 : FL RX5 80 0 5 RX0 TX0 7 := ⟨uX0, m120, rfl, by decide⟩
theorem csX5_84 : CS RX5 84 yX5_asNumber cX5_asNumber 1 (some .int) 1 := by
  refine ⟨?_, by decide +kernel, by decide⟩
  intro w hw
  simp only [List.mem_cons, List.not_mem_nil, or_false] at hw
  rcases hw with rfl | rfl | rfl | rfl
  · exact m365
  · exact m366
  · exact m63
  · exact m367
theorem cvX5_88 : CV RX5 RX1 88 yX1_isAsTold cX1_isAsTold 6 (some .boolean) 5 := by
  refine ⟨?_, by decide +kernel, by decide⟩
  intro w hw
  simp only [List.mem_cons, List.not_mem_nil, or_false] at hw
  rcases hw with rfl | rfl | rfl | rfl | rfl
  · exact m372
  · exact m373
  · exact m374
  · exact m66
  · exact m375
theorem cvX5_91 : CV RX5 RX1 91 yX1_hasRoom cX1_hasRoom 2 (some .boolean) 1 := by
  refine ⟨?_, by decide +kernel, by decide⟩
  intro w hw
  simp only [List.mem_cons, List.not_mem_nil, or_false] at hw
  rcases hw with rfl | rfl | rfl | rfl | rfl
  · exact m395
  · exact m396
  · exact m397
  · exact m66
  · exact m398
theorem cvX5_94 : CV RX5 RX1 94 yX1_boundOf cX1_boundOf 5 (some .int) 4 := by
  refine ⟨?_, by decide +kernel, by decide⟩
  intro w hw
  simp only [List.mem_cons, List.not_mem_nil, or_false] at hw
  rcases hw with rfl | rfl | rfl | rfl | rfl
  · exact m399
  · exact m400
  · exact m401
  · exact m66
  · exact m402
theorem cvX5_97 : CV RX5 RX1 97 yX1_add cX1_add 7 (some .int) 5 := by
  refine ⟨?_, by decide +kernel, by decide⟩
  intro w hw
  simp only [List.mem_cons, List.not_mem_nil, or_false] at hw
  rcases hw with rfl | rfl | rfl | rfl | rfl
  · exact m406
  · exact m407
  · exact m408
  · exact m66
  · exact m409
theorem cvX5_100 : CV RX5 RX1 100 yX1_has cX1_has 2 (some .boolean) 1 := by
  refine ⟨?_, by decide +kernel, by decide⟩
  intro w hw
  simp only [List.mem_cons, List.not_mem_nil, or_false] at hw
  rcases hw with rfl | rfl | rfl | rfl | rfl
  · exact m429
  · exact m377
  · exact m378
  · exact m66
  · exact m379
theorem fX5_101 : FL RX5 101 1 1 RX1 TX1 12 := ⟨uX1, m150, rfl, by decide⟩
theorem fX5_104 : FL RX5 104 1 2 RX1 TX1 12 := ⟨uX1, m154, rfl, by decide⟩
theorem fX5_107 : FL RX5 107 1 3 RX1 TX1 12 := ⟨uX1, m158, rfl, by decide⟩
theorem fX5_110 : FL RX5 110 1 4 RX1 TX1 12 := ⟨uX1, m162, rfl, by decide⟩
theorem fX5_113 : FL RX5 113 1 5 RX1 TX1 12 := ⟨uX1, m166, rfl, by decide⟩
theorem fX5_116 : FL RX5 116 1 6 RX1 TX1 12 := ⟨uX1, m168, rfl, by decide⟩
theorem fX5_119 : FL RX5 119 1 7 RX1 TX1 12 := ⟨uX1, m171, rfl, by decide⟩
theorem cvX5_120 : CV RX5 RX3 120 yX3_give cX3_give 5 (some .int) 1 := by
  refine ⟨?_, by decide +kernel, by decide⟩
  intro w hw
  simp only [List.mem_cons, List.not_mem_nil, or_false] at hw
  rcases hw with rfl | rfl | rfl | rfl | rfl
  · exact m434
  · exact m435
  · exact m436
  · exact m67
  · exact m437
theorem csX5_123 : CS RX5 123 yX5_isMember cX5_isMember 1 (some .boolean) 1 := by
  refine ⟨?_, by decide +kernel, by decide⟩
  intro w hw
  simp only [List.mem_cons, List.not_mem_nil, or_false] at hw
  rcases hw with rfl | rfl | rfl | rfl
  · exact m555
  · exact m328
  · exact m63
  · exact m329
theorem cvX5_126 : CV RX5 RX3 126 yX3_given cX3_given 3 (some .int) 2 := by
  refine ⟨?_, by decide +kernel, by decide⟩
  intro w hw
  simp only [List.mem_cons, List.not_mem_nil, or_false] at hw
  rcases hw with rfl | rfl | rfl | rfl | rfl
  · exact m556
  · exact m557
  · exact m558
  · exact m67
  · exact m559
theorem fX5_130 : FL RX5 130 3 9 RX3 TX3 13 := ⟨uX3, m220, rfl, by decide⟩
theorem fX5_134 : FL RX5 134 3 10 RX3 TX3 13 := ⟨uX3, m222, rfl, by decide⟩
theorem fX5_137 : FL RX5 137 3 11 RX3 TX3 13 := ⟨uX3, m224, rfl, by decide⟩
theorem fX5_140 : FL RX5 140 3 12 RX3 TX3 13 := ⟨uX3, m226, rfl, by decide⟩
theorem cvX5_143 : CV RX5 RX2 143 yX2_has cX2_has 2 (some .boolean) 1 := by
  refine ⟨?_, by decide +kernel, by decide⟩
  intro w hw
  simp only [List.mem_cons, List.not_mem_nil, or_false] at hw
  rcases hw with rfl | rfl | rfl | rfl | rfl
  · exact m568
  · exact m569
  · exact m570
  · exact m68
  · exact m571
theorem cvX5_144 : CV RX5 RX2 144 yX2_suits cX2_suits 4 (some .boolean) 2 := by
  refine ⟨?_, by decide +kernel, by decide⟩
  intro w hw
  simp only [List.mem_cons, List.not_mem_nil, or_false] at hw
  rcases hw with rfl | rfl | rfl | rfl | rfl
  · exact m572
  · exact m573
  · exact m574
  · exact m68
  · exact m575
theorem cvX5_148 : CV RX5 RX2 148 yX2_hasRoom cX2_hasRoom 3 (some .boolean) 2 := by
  refine ⟨?_, by decide +kernel, by decide⟩
  intro w hw
  simp only [List.mem_cons, List.not_mem_nil, or_false] at hw
  rcases hw with rfl | rfl | rfl | rfl | rfl
  · exact m600
  · exact m601
  · exact m602
  · exact m68
  · exact m603
theorem cvX5_150 : CV RX5 RX2 150 yX2_apply cX2_apply 4 none 2 := by
  refine ⟨?_, by decide +kernel, by decide⟩
  intro w hw
  simp only [List.mem_cons, List.not_mem_nil, or_false] at hw
  rcases hw with rfl | rfl | rfl | rfl | rfl
  · exact m608
  · exact m609
  · exact m610
  · exact m68
  · exact m611
theorem fX5_154 : FL RX5 154 1 8 RX1 TX1 12 := ⟨uX1, m174, rfl, by decide⟩
theorem cvX5_157 : CV RX5 RX2 157 yX2_leastNode cX2_leastNode 3 (some .int) 1 := by
  refine ⟨?_, by decide +kernel, by decide⟩
  intro w hw
  simp only [List.mem_cons, List.not_mem_nil, or_false] at hw
  rcases hw with rfl | rfl | rfl | rfl | rfl
  · exact m636
  · exact m637
  · exact m638
  · exact m68
  · exact m639
theorem cvX5_160 : CV RX5 RX2 160 yX2_leastRule cX2_leastRule 3 (some .int) 1 := by
  refine ⟨?_, by decide +kernel, by decide⟩
  intro w hw
  simp only [List.mem_cons, List.not_mem_nil, or_false] at hw
  rcases hw with rfl | rfl | rfl | rfl | rfl
  · exact m650
  · exact m646
  · exact m647
  · exact m68
  · exact m648
theorem fX5_163 : FL RX5 163 0 6 RX0 TX0 7 := ⟨uX0, m123, rfl, by decide⟩
theorem fX5_164 : FL RX5 164 2 2 RX2 TX2 3 := ⟨uX2, m263, rfl, by decide⟩
theorem cvX5_167 : CV RX5 RX4 167 yX4_total cX4_total 6 (some .int) 0 := by
  refine ⟨?_, by decide +kernel, by decide⟩
  intro w hw
  simp only [List.mem_cons, List.not_mem_nil, or_false] at hw
  rcases hw with rfl | rfl | rfl | rfl | rfl
  · exact m655
  · exact m656
  · exact m657
  · exact m64
  · exact m658
theorem fX6_7 : FL RX6 7 6 0 RX6 TX6 36 := ⟨uX6, m666, rfl, by decide⟩
theorem pX6_7 : FP RX6 7 6 0 RX6 TX6 36 (.array .int) := ⟨fX6_7, ⟨tyX6, tyX6_ok⟩, nmX6, by decide +kernel⟩
theorem fX6_13 : FL RX6 13 6 1 RX6 TX6 36 := ⟨uX6, m667, rfl, by decide⟩
theorem pX6_13 : FP RX6 13 6 1 RX6 TX6 36 (.array .int) := ⟨fX6_13, ⟨tyX6, tyX6_ok⟩, nmX6, by decide +kernel⟩
theorem fX6_16 : FL RX6 16 6 2 RX6 TX6 36 := ⟨uX6, m668, rfl, by decide⟩
theorem pX6_16 : FP RX6 16 6 2 RX6 TX6 36 (.array .int) := ⟨fX6_16, ⟨tyX6, tyX6_ok⟩, nmX6, by decide +kernel⟩
theorem fX6_19 : FL RX6 19 6 4 RX6 TX6 36 := ⟨uX6, m670, rfl, by decide⟩
theorem pX6_19 : FP RX6 19 6 4 RX6 TX6 36 (.array .int) := ⟨fX6_19, ⟨tyX6, tyX6_ok⟩, nmX6, by decide +kernel⟩
theorem fX6_22 : FL RX6 22 6 5 RX6 TX6 36 := ⟨uX6, m671, rfl, by decide⟩
theorem pX6_22 : FP RX6 22 6 5 RX6 TX6 36 (.array .int) := ⟨fX6_22, ⟨tyX6, tyX6_ok⟩, nmX6, by decide +kernel⟩
theorem fX6_25 : FL RX6 25 6 6 RX6 TX6 36 := ⟨uX6, m672, rfl, by decide⟩
theorem pX6_25 : FP RX6 25 6 6 RX6 TX6 36 (.array .int) := ⟨fX6_25, ⟨tyX6, tyX6_ok⟩, nmX6, by decide +kernel⟩
theorem fX6_28 : FL RX6 28 6 7 RX6 TX6 36 := ⟨uX6, m673, rfl, by decide⟩
theorem pX6_28 : FP RX6 28 6 7 RX6 TX6 36 (.array .int) := ⟨fX6_28, ⟨tyX6, tyX6_ok⟩, nmX6, by decide +kernel⟩
theorem fX6_31 : FL RX6 31 6 8 RX6 TX6 36 := ⟨uX6, m674, rfl, by decide⟩
theorem pX6_31 : FP RX6 31 6 8 RX6 TX6 36 (.array .boolean) := ⟨fX6_31, ⟨tyX6, tyX6_ok⟩, nmX6, by decide +kernel⟩
theorem fX6_35 : FL RX6 35 6 9 RX6 TX6 36 := ⟨uX6, m675, rfl, by decide⟩
theorem pX6_35 : FP RX6 35 6 9 RX6 TX6 36 (.array .int) := ⟨fX6_35, ⟨tyX6, tyX6_ok⟩, nmX6, by decide +kernel⟩
theorem fX6_38 : FL RX6 38 6 11 RX6 TX6 36 := ⟨uX6, m677, rfl, by decide⟩
theorem pX6_38 : FP RX6 38 6 11 RX6 TX6 36 (.array .int) := ⟨fX6_38, ⟨tyX6, tyX6_ok⟩, nmX6, by decide +kernel⟩
theorem fX6_41 : FL RX6 41 6 12 RX6 TX6 36 := ⟨uX6, m678, rfl, by decide⟩
theorem pX6_41 : FP RX6 41 6 12 RX6 TX6 36 (.array .int) := ⟨fX6_41, ⟨tyX6, tyX6_ok⟩, nmX6, by decide +kernel⟩
theorem fX6_44 : FL RX6 44 6 13 RX6 TX6 36 := ⟨uX6, m679, rfl, by decide⟩
theorem pX6_44 : FP RX6 44 6 13 RX6 TX6 36 (.array .int) := ⟨fX6_44, ⟨tyX6, tyX6_ok⟩, nmX6, by decide +kernel⟩
theorem fX6_47 : FL RX6 47 6 14 RX6 TX6 36 := ⟨uX6, m680, rfl, by decide⟩
theorem pX6_47 : FP RX6 47 6 14 RX6 TX6 36 (.array .int) := ⟨fX6_47, ⟨tyX6, tyX6_ok⟩, nmX6, by decide +kernel⟩
theorem fX6_50 : FL RX6 50 6 15 RX6 TX6 36 := ⟨uX6, m681, rfl, by decide⟩
theorem pX6_50 : FP RX6 50 6 15 RX6 TX6 36 (.array .int) := ⟨fX6_50, ⟨tyX6, tyX6_ok⟩, nmX6, by decide +kernel⟩
theorem fX6_53 : FL RX6 53 6 17 RX6 TX6 36 := ⟨uX6, m683, rfl, by decide⟩
theorem pX6_53 : FP RX6 53 6 17 RX6 TX6 36 (.array .int) := ⟨fX6_53, ⟨tyX6, tyX6_ok⟩, nmX6, by decide +kernel⟩
theorem fX6_56 : FL RX6 56 6 18 RX6 TX6 36 := ⟨uX6, m684, rfl, by decide⟩
theorem pX6_56 : FP RX6 56 6 18 RX6 TX6 36 (.array .boolean) := ⟨fX6_56, ⟨tyX6, tyX6_ok⟩, nmX6, by decide +kernel⟩
theorem fX6_59 : FL RX6 59 6 19 RX6 TX6 36 := ⟨uX6, m685, rfl, by decide⟩
theorem pX6_59 : FP RX6 59 6 19 RX6 TX6 36 (.array .int) := ⟨fX6_59, ⟨tyX6, tyX6_ok⟩, nmX6, by decide +kernel⟩
theorem fX6_62 : FL RX6 62 6 20 RX6 TX6 36 := ⟨uX6, m686, rfl, by decide⟩
theorem pX6_62 : FP RX6 62 6 20 RX6 TX6 36 (.array .int) := ⟨fX6_62, ⟨tyX6, tyX6_ok⟩, nmX6, by decide +kernel⟩
theorem fX6_65 : FL RX6 65 6 25 RX6 TX6 36 := ⟨uX6, m691, rfl, by decide⟩
theorem pX6_65 : FP RX6 65 6 25 RX6 TX6 36 (.array .int) := ⟨fX6_65, ⟨tyX6, tyX6_ok⟩, nmX6, by decide +kernel⟩
theorem kX6_68 : Cond.constant RX6 68 (36000) ∈ TB := m665
theorem fX6_69 : FL RX6 69 6 26 RX6 TX6 36 := ⟨uX6, m692, rfl, by decide⟩
theorem pX6_69 : FP RX6 69 6 26 RX6 TX6 36 (.array .int) := ⟨fX6_69, ⟨tyX6, tyX6_ok⟩, nmX6, by decide +kernel⟩
theorem fX6_72 : FL RX6 72 6 27 RX6 TX6 36 := ⟨uX6, m693, rfl, by decide⟩
theorem pX6_72 : FP RX6 72 6 27 RX6 TX6 36 (.array .int) := ⟨fX6_72, ⟨tyX6, tyX6_ok⟩, nmX6, by decide +kernel⟩
theorem fX6_75 : FL RX6 75 6 28 RX6 TX6 36 := ⟨uX6, m694, rfl, by decide⟩
theorem pX6_75 : FP RX6 75 6 28 RX6 TX6 36 (.array .boolean) := ⟨fX6_75, ⟨tyX6, tyX6_ok⟩, nmX6, by decide +kernel⟩
theorem fX6_78 : FL RX6 78 6 29 RX6 TX6 36 := ⟨uX6, m695, rfl, by decide⟩
theorem pX6_78 : FP RX6 78 6 29 RX6 TX6 36 (.array .int) := ⟨fX6_78, ⟨tyX6, tyX6_ok⟩, nmX6, by decide +kernel⟩
theorem fX6_81 : FL RX6 81 6 30 RX6 TX6 36 := ⟨uX6, m696, rfl, by decide⟩
theorem pX6_81 : FP RX6 81 6 30 RX6 TX6 36 (.array .int) := ⟨fX6_81, ⟨tyX6, tyX6_ok⟩, nmX6, by decide +kernel⟩
theorem fX6_84 : FL RX6 84 6 35 RX6 TX6 36 := ⟨uX6, m701, rfl, by decide⟩
theorem pX6_84 : FP RX6 84 6 35 RX6 TX6 36 .int := ⟨fX6_84, ⟨tyX6, tyX6_ok⟩, nmX6, by decide +kernel⟩
theorem kX6_88 : Cond.constantLong RX6 88 (3) ∈ TB := m779
theorem csX6_90 : CS RX6 90 yX6_in cX6_in 6 (some .boolean) 3 := by
  refine ⟨?_, by decide +kernel, by decide⟩
  intro w hw
  simp only [List.mem_cons, List.not_mem_nil, or_false] at hw
  rcases hw with rfl | rfl | rfl | rfl
  · exact m780
  · exact m781
  · exact m69
  · exact m782
theorem kX6_94 : Cond.constantLong RX6 94 (7) ∈ TB := m791
theorem fX6_96 : FL RX6 96 6 3 RX6 TX6 36 := ⟨uX6, m669, rfl, by decide⟩
theorem pX6_96 : FP RX6 96 6 3 RX6 TX6 36 .int := ⟨fX6_96, ⟨tyX6, tyX6_ok⟩, nmX6, by decide +kernel⟩
theorem csX6_99 : CS RX6 99 yX6_hasOne cX6_hasOne 1 (some .boolean) 1 := by
  refine ⟨?_, by decide +kernel, by decide⟩
  intro w hw
  simp only [List.mem_cons, List.not_mem_nil, or_false] at hw
  rcases hw with rfl | rfl | rfl | rfl
  · exact m798
  · exact m799
  · exact m69
  · exact m800
theorem csX6_103 : CS RX6 103 yX6_hasTwo cX6_hasTwo 1 (some .boolean) 1 := by
  refine ⟨?_, by decide +kernel, by decide⟩
  intro w hw
  simp only [List.mem_cons, List.not_mem_nil, or_false] at hw
  rcases hw with rfl | rfl | rfl | rfl
  · exact m805
  · exact m806
  · exact m69
  · exact m807
theorem cvX6_106 : CV RX6 RX6 106 yX6_sizeOf cX6_sizeOf 4 (some .int) 3 := by
  refine ⟨?_, by decide +kernel, by decide⟩
  intro w hw
  simp only [List.mem_cons, List.not_mem_nil, or_false] at hw
  rcases hw with rfl | rfl | rfl | rfl | rfl
  · exact m808
  · exact m810
  · exact m34
  · exact m69
  · exact m811
theorem kX6_110 : Cond.constantLong RX6 110 (11) ∈ TB := m796
theorem kX6_112 : Cond.constantLong RX6 112 (5) ∈ TB := m797
theorem cvX6_114 : CV RX6 RX6 114 yX6_isFormula cX6_isFormula 2 (some .boolean) 1 := by
  refine ⟨?_, by decide +kernel, by decide⟩
  intro w hw
  simp only [List.mem_cons, List.not_mem_nil, or_false] at hw
  rcases hw with rfl | rfl | rfl | rfl | rfl
  · exact m801
  · exact m803
  · exact m33
  · exact m69
  · exact m804
theorem cvX6_117 : CV RX6 RX6 117 yX6_tell cX6_tell 5 (some .int) 3 := by
  refine ⟨?_, by decide +kernel, by decide⟩
  intro w hw
  simp only [List.mem_cons, List.not_mem_nil, or_false] at hw
  rcases hw with rfl | rfl | rfl | rfl | rfl
  · exact m812
  · exact m814
  · exact m35
  · exact m69
  · exact m815
theorem fX6_120 : FL RX6 120 6 10 RX6 TX6 36 := ⟨uX6, m676, rfl, by decide⟩
theorem pX6_120 : FP RX6 120 6 10 RX6 TX6 36 .int := ⟨fX6_120, ⟨tyX6, tyX6_ok⟩, nmX6, by decide +kernel⟩
theorem kX6_123 : Cond.constantLong RX6 123 (4) ∈ TB := m852
theorem kX6_125 : Cond.constantLong RX6 125 (63) ∈ TB := m839
theorem kX6_127 : Cond.constantLong RX6 127 (100) ∈ TB := m840
theorem csX6_129 : CS RX6 129 yX6_isTwo cX6_isTwo 1 (some .boolean) 1 := by
  refine ⟨?_, by decide +kernel, by decide⟩
  intro w hw
  simp only [List.mem_cons, List.not_mem_nil, or_false] at hw
  rcases hw with rfl | rfl | rfl | rfl
  · exact m829
  · exact m830
  · exact m69
  · exact m831
theorem cvX6_132 : CV RX6 RX6 132 yX6_bound cX6_bound 4 (some .int) 1 := by
  refine ⟨?_, by decide +kernel, by decide⟩
  intro w hw
  simp only [List.mem_cons, List.not_mem_nil, or_false] at hw
  rcases hw with rfl | rfl | rfl | rfl | rfl
  · exact m857
  · exact m859
  · exact m41
  · exact m69
  · exact m860
theorem cvX6_136 : CV RX6 RX6 136 yX6_put cX6_put 7 none 6 := by
  refine ⟨?_, by decide +kernel, by decide⟩
  intro w hw
  simp only [List.mem_cons, List.not_mem_nil, or_false] at hw
  rcases hw with rfl | rfl | rfl | rfl | rfl
  · exact m845
  · exact m847
  · exact m39
  · exact m69
  · exact m848
theorem csX6_140 : CS RX6 140 yX6_hasMember cX6_hasMember 1 (some .boolean) 1 := by
  refine ⟨?_, by decide +kernel, by decide⟩
  intro w hw
  simp only [List.mem_cons, List.not_mem_nil, or_false] at hw
  rcases hw with rfl | rfl | rfl | rfl
  · exact m832
  · exact m833
  · exact m69
  · exact m834
theorem csX6_143 : CS RX6 143 yX6_hasNumber cX6_hasNumber 1 (some .boolean) 1 := by
  refine ⟨?_, by decide +kernel, by decide⟩
  intro w hw
  simp only [List.mem_cons, List.not_mem_nil, or_false] at hw
  rcases hw with rfl | rfl | rfl | rfl
  · exact m849
  · exact m850
  · exact m69
  · exact m851
theorem kX6_146 : Cond.constantLong RX6 146 (8) ∈ TB := m824
theorem cvX6_148 : CV RX6 RX6 148 yX6_isNode cX6_isNode 2 (some .boolean) 1 := by
  refine ⟨?_, by decide +kernel, by decide⟩
  intro w hw
  simp only [List.mem_cons, List.not_mem_nil, or_false] at hw
  rcases hw with rfl | rfl | rfl | rfl | rfl
  · exact m825
  · exact m827
  · exact m36
  · exact m69
  · exact m828
theorem cvX6_151 : CV RX6 RX6 151 yX6_isRight cX6_isRight 4 (some .boolean) 3 := by
  refine ⟨?_, by decide +kernel, by decide⟩
  intro w hw
  simp only [List.mem_cons, List.not_mem_nil, or_false] at hw
  rcases hw with rfl | rfl | rfl | rfl | rfl
  · exact m835
  · exact m837
  · exact m37
  · exact m69
  · exact m838
theorem cvX6_155 : CV RX6 RX6 155 yX6_lay cX6_lay 7 (some .int) 5 := by
  refine ⟨?_, by decide +kernel, by decide⟩
  intro w hw
  simp only [List.mem_cons, List.not_mem_nil, or_false] at hw
  rcases hw with rfl | rfl | rfl | rfl | rfl
  · exact m841
  · exact m843
  · exact m38
  · exact m69
  · exact m844
theorem cvX6_159 : CV RX6 RX6 159 yX6_look cX6_look 5 none 0 := by
  refine ⟨?_, by decide +kernel, by decide⟩
  intro w hw
  simp only [List.mem_cons, List.not_mem_nil, or_false] at hw
  rcases hw with rfl | rfl | rfl | rfl | rfl
  · exact m853
  · exact m855
  · exact m40
  · exact m69
  · exact m856
theorem kX6_162 : Cond.constantLong RX6 162 (6) ∈ TB := m865
theorem fX6_164 : FL RX6 164 6 21 RX6 TX6 36 := ⟨uX6, m687, rfl, by decide⟩
theorem pX6_164 : FP RX6 164 6 21 RX6 TX6 36 .int := ⟨fX6_164, ⟨tyX6, tyX6_ok⟩, nmX6, by decide +kernel⟩
theorem fX6_167 : FL RX6 167 6 24 RX6 TX6 36 := ⟨uX6, m690, rfl, by decide⟩
theorem pX6_167 : FP RX6 167 6 24 RX6 TX6 36 .int := ⟨fX6_167, ⟨tyX6, tyX6_ok⟩, nmX6, by decide +kernel⟩
theorem cvX6_170 : CV RX6 RX6 170 yX6_begins cX6_begins 2 none 1 := by
  refine ⟨?_, by decide +kernel, by decide⟩
  intro w hw
  simp only [List.mem_cons, List.not_mem_nil, or_false] at hw
  rcases hw with rfl | rfl | rfl | rfl | rfl
  · exact m885
  · exact m887
  · exact m45
  · exact m69
  · exact m888
theorem fX6_174 : FL RX6 174 6 22 RX6 TX6 36 := ⟨uX6, m688, rfl, by decide⟩
theorem pX6_174 : FP RX6 174 6 22 RX6 TX6 36 .int := ⟨fX6_174, ⟨tyX6, tyX6_ok⟩, nmX6, by decide +kernel⟩
theorem cvX6_177 : CV RX6 RX6 177 yX6_gives cX6_gives 2 none 1 := by
  refine ⟨?_, by decide +kernel, by decide⟩
  intro w hw
  simp only [List.mem_cons, List.not_mem_nil, or_false] at hw
  rcases hw with rfl | rfl | rfl | rfl | rfl
  · exact m893
  · exact m895
  · exact m47
  · exact m69
  · exact m896
theorem cvX6_180 : CV RX6 RX6 180 yX6_asks cX6_asks 2 none 1 := by
  refine ⟨?_, by decide +kernel, by decide⟩
  intro w hw
  simp only [List.mem_cons, List.not_mem_nil, or_false] at hw
  rcases hw with rfl | rfl | rfl | rfl | rfl
  · exact m897
  · exact m899
  · exact m48
  · exact m69
  · exact m900
theorem cvX6_183 : CV RX6 RX6 183 yX6_single cX6_single 2 none 1 := by
  refine ⟨?_, by decide +kernel, by decide⟩
  intro w hw
  simp only [List.mem_cons, List.not_mem_nil, or_false] at hw
  rcases hw with rfl | rfl | rfl | rfl | rfl
  · exact m901
  · exact m903
  · exact m49
  · exact m69
  · exact m904
theorem cvX6_186 : CV RX6 RX6 186 yX6_both cX6_both 4 none 3 := by
  refine ⟨?_, by decide +kernel, by decide⟩
  intro w hw
  simp only [List.mem_cons, List.not_mem_nil, or_false] at hw
  rcases hw with rfl | rfl | rfl | rfl | rfl
  · exact m905
  · exact m907
  · exact m50
  · exact m69
  · exact m908
theorem fX6_190 : FL RX6 190 6 23 RX6 TX6 36 := ⟨uX6, m689, rfl, by decide⟩
theorem pX6_190 : FP RX6 190 6 23 RX6 TX6 36 .int := ⟨fX6_190, ⟨tyX6, tyX6_ok⟩, nmX6, by decide +kernel⟩
theorem cvX6_193 : CV RX6 RX6 193 yX6_goesOn cX6_goesOn 5 none 1 := by
  refine ⟨?_, by decide +kernel, by decide⟩
  intro w hw
  simp only [List.mem_cons, List.not_mem_nil, or_false] at hw
  rcases hw with rfl | rfl | rfl | rfl | rfl
  · exact m889
  · exact m891
  · exact m46
  · exact m69
  · exact m892
theorem csX6_196 : CS RX6 196 yX6_place cX6_place 2 (some .int) 2 := by
  refine ⟨?_, by decide +kernel, by decide⟩
  intro w hw
  simp only [List.mem_cons, List.not_mem_nil, or_false] at hw
  rcases hw with rfl | rfl | rfl | rfl
  · exact m874
  · exact m875
  · exact m69
  · exact m876
theorem cvX6_200 : CV RX6 RX6 200 yX6_copy cX6_copy 4 (some .int) 2 := by
  refine ⟨?_, by decide +kernel, by decide⟩
  intro w hw
  simp only [List.mem_cons, List.not_mem_nil, or_false] at hw
  rcases hw with rfl | rfl | rfl | rfl | rfl
  · exact m913
  · exact m915
  · exact m52
  · exact m69
  · exact m916
theorem cvX6_203 : CV RX6 RX6 203 yX6_takes cX6_takes 5 none 3 := by
  refine ⟨?_, by decide +kernel, by decide⟩
  intro w hw
  simp only [List.mem_cons, List.not_mem_nil, or_false] at hw
  rcases hw with rfl | rfl | rfl | rfl | rfl
  · exact m877
  · exact m879
  · exact m43
  · exact m69
  · exact m880
theorem cvX6_206 : CV RX6 RX6 206 yX6_add cX6_add 4 none 2 := by
  refine ⟨?_, by decide +kernel, by decide⟩
  intro w hw
  simp only [List.mem_cons, List.not_mem_nil, or_false] at hw
  rcases hw with rfl | rfl | rfl | rfl | rfl
  · exact m909
  · exact m911
  · exact m51
  · exact m69
  · exact m912
theorem cvX6_210 : CV RX6 RX6 210 yX6_work cX6_work 3 none 2 := by
  refine ⟨?_, by decide +kernel, by decide⟩
  intro w hw
  simp only [List.mem_cons, List.not_mem_nil, or_false] at hw
  rcases hw with rfl | rfl | rfl | rfl | rfl
  · exact m881
  · exact m883
  · exact m44
  · exact m69
  · exact m884
theorem cvX6_213 : CV RX6 RX6 213 yX6_joins cX6_joins 8 none 2 := by
  refine ⟨?_, by decide +kernel, by decide⟩
  intro w hw
  simp only [List.mem_cons, List.not_mem_nil, or_false] at hw
  rcases hw with rfl | rfl | rfl | rfl | rfl
  · exact m917
  · exact m919
  · exact m53
  · exact m69
  · exact m920
theorem cvX6_216 : CV RX6 RX6 216 yX6_folds cX6_folds 6 none 2 := by
  refine ⟨?_, by decide +kernel, by decide⟩
  intro w hw
  simp only [List.mem_cons, List.not_mem_nil, or_false] at hw
  rcases hw with rfl | rfl | rfl | rfl | rfl
  · exact m921
  · exact m923
  · exact m54
  · exact m69
  · exact m924
theorem cvX6_219 : CV RX6 RX6 219 yX6_has cX6_has 6 (some .boolean) 2 := by
  refine ⟨?_, by decide +kernel, by decide⟩
  intro w hw
  simp only [List.mem_cons, List.not_mem_nil, or_false] at hw
  rcases hw with rfl | rfl | rfl | rfl | rfl
  · exact m925
  · exact m927
  · exact m55
  · exact m69
  · exact m928
theorem cvX6_223 : CV RX6 RX6 223 yX6_does cX6_does 5 none 1 := by
  refine ⟨?_, by decide +kernel, by decide⟩
  intro w hw
  simp only [List.mem_cons, List.not_mem_nil, or_false] at hw
  rcases hw with rfl | rfl | rfl | rfl | rfl
  · exact m870
  · exact m872
  · exact m42
  · exact m69
  · exact m873
theorem fX6_226 : FL RX6 226 6 32 RX6 TX6 36 := ⟨uX6, m698, rfl, by decide⟩
theorem pX6_226 : FP RX6 226 6 32 RX6 TX6 36 .int := ⟨fX6_226, ⟨tyX6, tyX6_ok⟩, nmX6, by decide +kernel⟩
theorem fX6_229 : FL RX6 229 6 33 RX6 TX6 36 := ⟨uX6, m699, rfl, by decide⟩
theorem pX6_229 : FP RX6 229 6 33 RX6 TX6 36 .int := ⟨fX6_229, ⟨tyX6, tyX6_ok⟩, nmX6, by decide +kernel⟩
theorem fX6_232 : FL RX6 232 6 34 RX6 TX6 36 := ⟨uX6, m700, rfl, by decide⟩
theorem pX6_232 : FP RX6 232 6 34 RX6 TX6 36 .int := ⟨fX6_232, ⟨tyX6, tyX6_ok⟩, nmX6, by decide +kernel⟩
theorem fX6_235 : FL RX6 235 6 31 RX6 TX6 36 := ⟨uX6, m697, rfl, by decide⟩
theorem pX6_235 : FP RX6 235 6 31 RX6 TX6 36 .int := ⟨fX6_235, ⟨tyX6, tyX6_ok⟩, nmX6, by decide +kernel⟩
theorem csX6_238 : CS RX6 238 yX6_isOf cX6_isOf 2 (some .boolean) 2 := by
  refine ⟨?_, by decide +kernel, by decide⟩
  intro w hw
  simp only [List.mem_cons, List.not_mem_nil, or_false] at hw
  rcases hw with rfl | rfl | rfl | rfl
  · exact m946
  · exact m947
  · exact m69
  · exact m948
theorem cvX6_241 : CV RX6 RX6 241 yX6_isFold cX6_isFold 4 (some .boolean) 3 := by
  refine ⟨?_, by decide +kernel, by decide⟩
  intro w hw
  simp only [List.mem_cons, List.not_mem_nil, or_false] at hw
  rcases hw with rfl | rfl | rfl | rfl | rfl
  · exact m949
  · exact m951
  · exact m57
  · exact m69
  · exact m952
theorem kX6_244 : Cond.constantLong RX6 244 (17) ∈ TB := m941
theorem cvX6_246 : CV RX6 RX6 246 yX6_stands cX6_stands 9 (some .boolean) 2 := by
  refine ⟨?_, by decide +kernel, by decide⟩
  intro w hw
  simp only [List.mem_cons, List.not_mem_nil, or_false] at hw
  rcases hw with rfl | rfl | rfl | rfl | rfl
  · exact m942
  · exact m944
  · exact m56
  · exact m69
  · exact m945
theorem kX6_249 : Cond.constantLong RX6 249 (10) ∈ TB := m964
theorem kX6_251 : Cond.constantLong RX6 251 (13) ∈ TB := m965
theorem kX6_253 : Cond.constantLong RX6 253 (15) ∈ TB := m966
theorem csX6_255 : CS RX6 255 yX6_news cX6_news 1 (some .int) 1 := by
  refine ⟨?_, by decide +kernel, by decide⟩
  intro w hw
  simp only [List.mem_cons, List.not_mem_nil, or_false] at hw
  rcases hw with rfl | rfl | rfl | rfl
  · exact m961
  · exact m962
  · exact m69
  · exact m963
theorem fX6_258 : FL RX6 258 6 16 RX6 TX6 36 := ⟨uX6, m682, rfl, by decide⟩
theorem pX6_258 : FP RX6 258 6 16 RX6 TX6 36 .int := ⟨fX6_258, ⟨tyX6, tyX6_ok⟩, nmX6, by decide +kernel⟩
theorem cvX6_261 : CV RX6 RX6 261 yX6_hasRoom cX6_hasRoom 4 (some .boolean) 2 := by
  refine ⟨?_, by decide +kernel, by decide⟩
  intro w hw
  simp only [List.mem_cons, List.not_mem_nil, or_false] at hw
  rcases hw with rfl | rfl | rfl | rfl | rfl
  · exact m957
  · exact m959
  · exact m58
  · exact m69
  · exact m960
theorem cvX6_264 : CV RX6 RX6 264 yX6_rewrites cX6_rewrites 11 none 2 := by
  refine ⟨?_, by decide +kernel, by decide⟩
  intro w hw
  simp only [List.mem_cons, List.not_mem_nil, or_false] at hw
  rcases hw with rfl | rfl | rfl | rfl | rfl
  · exact m967
  · exact m969
  · exact m59
  · exact m69
  · exact m970
theorem cvX6_267 : CV RX6 RX6 267 yX6_below cX6_below 7 (some .long) 1 := by
  refine ⟨?_, by decide +kernel, by decide⟩
  intro w hw
  simp only [List.mem_cons, List.not_mem_nil, or_false] at hw
  rcases hw with rfl | rfl | rfl | rfl | rfl
  · exact m975
  · exact m977
  · exact m60
  · exact m69
  · exact m978
theorem cvX6_271 : CV RX6 RX6 271 yX6_ruleFor cX6_ruleFor 3 (some .int) 1 := by
  refine ⟨?_, by decide +kernel, by decide⟩
  intro w hw
  simp only [List.mem_cons, List.not_mem_nil, or_false] at hw
  rcases hw with rfl | rfl | rfl | rfl | rfl
  · exact m979
  · exact m981
  · exact m61
  · exact m69
  · exact m982
theorem mn_s : Cond.static Lib.Math.min.name ∈ TB := m404
theorem mn_i : Cond.initialized "java/lang/Math" ∈ TB := m70
theorem mn_c : Cond.code Lib.Math.min.name Lib.Math.min.code 2 (some .int) ∈ TB := m405
theorem ac_n : Cond.native arraycopyName ∈ TB := m480
theorem ac_s : Cond.static arraycopyName ∈ TB := m479
theorem ac_i : Cond.initialized "java/lang/System" ∈ TB := m72
