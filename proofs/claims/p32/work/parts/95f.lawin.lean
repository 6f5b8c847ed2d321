set_option maxRecDepth 20000 in
theorem inX0 : ∀ w ∈ wsX00, w ∈ lw_tbl := by decide +kernel
set_option maxRecDepth 20000 in
theorem inX3 : ∀ w ∈ wsX30, w ∈ lw_tbl := by decide +kernel
set_option maxRecDepth 20000 in
theorem inX4 : ∀ w ∈ wsX40, w ∈ lw_tbl := by decide +kernel
set_option maxRecDepth 20000 in
theorem inX5 : ∀ w ∈ wsX50, w ∈ lw_tbl := by decide +kernel
set_option maxRecDepth 20000 in
theorem inX6 : ∀ w ∈ wsX60, w ∈ lw_tbl := by decide +kernel
theorem wsL_law_in0 : ∀ w ∈ wsL_law0, w ∈ lw_tbl := by
  unfold wsL_law0
  exact (in_app (in_app (in_app (in_app (in_app (in_app (in_app wsL_law0_r1_in (in_app wsL_law0_r2_in (in_app wsL_law0_r3_in (in_app wsL_law0_r4_in (in_app wsL_law0_r5_in (in_app wsL_law0_r6_in (in_app wsL_law0_r7_in (in_app wsL_law0_r8_in (in_app wsL_law0_r9_in (in_app wsL_law0_r10_in (in_app wsL_law0_r11_in (in_app wsL_law0_r12_in (in_app wsL_law0_r13_in (in_app wsL_law0_r14_in (in_app wsL_law0_r15_in (in_app wsL_law0_r16_in (in_app wsL_law0_r17_in (in_app wsL_law0_r18_in (in_app wsL_law0_r19_in (in_app wsL_law0_r20_in (in_app wsL_law0_r21_in (in_app wsL_law0_r22_in (in_app wsL_law0_r23_in (in_app wsL_law0_r24_in (in_app wsL_law0_r25_in (in_app wsL_law0_r26_in wsL_law0_r27_in)))))))))))))))))))))))))) inX6) inX4) inX3) inX5) inX0) (fun w h => (by cases h)))
theorem wsL_law_x0 : ∀ w ∈ (vx_atS RX6 52 "java/lang/IllegalArgumentException" ["java/lang/RuntimeException", "java/lang/Exception"]).filter goodWord, w ∈ lw_tbl := by decide +kernel
theorem wsL_law_x1 : ∀ w ∈ (vx_atS RX6 285 "java/lang/IndexOutOfBoundsException" ["java/lang/RuntimeException", "java/lang/Exception"]).filter goodWord, w ∈ lw_tbl := by decide +kernel
theorem wsL_law_x2 : ∀ w ∈ (vx_atS RX6 63 "java/lang/IllegalStateException" ["java/lang/RuntimeException", "java/lang/Exception"]).filter goodWord, w ∈ lw_tbl := by decide +kernel
theorem wsL_law_in : ∀ w ∈ wsL_law, w ∈ lw_tbl := by
  unfold wsL_law
  exact (in_app (in_app (in_app wsL_law_in0 wsL_law_x0) wsL_law_x1) wsL_law_x2)
