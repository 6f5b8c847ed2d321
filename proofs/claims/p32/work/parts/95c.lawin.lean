set_option maxRecDepth 20000 in
theorem wsL_law0_r12_in : ∀ w ∈ wsL_law0_r12, w ∈ lw_tbl := by decide +kernel
set_option maxRecDepth 20000 in
theorem wsL_law0_r13_in : ∀ w ∈ wsL_law0_r13, w ∈ lw_tbl := by decide +kernel
set_option maxRecDepth 20000 in
theorem wsL_law0_r14_in : ∀ w ∈ wsL_law0_r14, w ∈ lw_tbl := by decide +kernel
set_option maxRecDepth 20000 in
theorem wsL_law0_r15_in : ∀ w ∈ wsL_law0_r15, w ∈ lw_tbl := by decide +kernel
set_option maxRecDepth 20000 in
theorem wsL_law0_r16_in : ∀ w ∈ wsL_law0_r16, w ∈ lw_tbl := by decide +kernel
def wsL_law0_r17_a : List Cond := [Cond.static yX6_isStyle, Cond.code yX6_isStyle cX6_isStyle 1 (some .boolean), Cond.methodLink RX6 299 yX6_setsOrder, Cond.static yX6_setsOrder, Cond.code yX6_setsOrder cX6_setsOrder 2 (some .boolean), Cond.methodLink RX6 302 yX6_movesYear, Cond.static yX6_movesYear, Cond.code yX6_movesYear cX6_movesYear 3 (some .boolean), Cond.methodLink RX6 306 yX6_prints, Cond.static yX6_prints, Cond.code yX6_prints cX6_prints 2 (some .boolean), Cond.methodLink RX6 227 yX3_printKeys, Cond.instanceMethod yX3_printKeys, Cond.selects RX3 yX3_printKeys yX3_printKeys, Cond.code yX3_printKeys cX3_printKeys 2 none, Cond.methodLink RL 235 yL_errors, Cond.static yL_errors]
def wsL_law0_r17_b : List Cond := [Cond.constantLong RL 21 (-9000000000000000003), Cond.constantLong RL 147 (10000000000000000), Cond.methodLink RL 118 yL_at, Cond.static yL_at, Cond.codeWith yL_at cL_at 3 (some .long) [(0, 6, 7, 15)], Cond.methodLink RL 45 yX6_at]
set_option maxRecDepth 20000 in
theorem wsL_law0_r17_a_in : ∀ w ∈ wsL_law0_r17_a, w ∈ lw_tbl := by decide +kernel
set_option maxRecDepth 20000 in
theorem wsL_law0_r17_b_in : ∀ w ∈ wsL_law0_r17_b, w ∈ lw_tbl := by decide +kernel
theorem wsL_law0_r17_in : ∀ w ∈ wsL_law0_r17, w ∈ lw_tbl := in_app (l1 := wsL_law0_r17_a) (l2 := Cond.code yL_errors cL_errors 5 (some .boolean) :: wsL_law0_r17_b) wsL_law0_r17_a_in (List.forall_mem_cons.mpr ⟨hv_errors, wsL_law0_r17_b_in⟩)
