set_option maxRecDepth 20000 in
theorem wsL_law0_r18_in : ∀ w ∈ wsL_law0_r18, w ∈ lw_tbl := by decide +kernel
set_option maxRecDepth 20000 in
theorem wsL_law0_r19_in : ∀ w ∈ wsL_law0_r19, w ∈ lw_tbl := by decide +kernel
set_option maxRecDepth 20000 in
theorem wsL_law0_r20_in : ∀ w ∈ wsL_law0_r20, w ∈ lw_tbl := by decide +kernel
set_option maxRecDepth 20000 in
theorem wsL_law0_r21_in : ∀ w ∈ wsL_law0_r21, w ∈ lw_tbl := by decide +kernel
set_option maxRecDepth 20000 in
theorem wsL_law0_r22_in : ∀ w ∈ wsL_law0_r22, w ∈ lw_tbl := by decide +kernel
set_option maxRecDepth 20000 in
theorem wsL_law0_r23_in : ∀ w ∈ wsL_law0_r23, w ∈ lw_tbl := by decide +kernel
def wsL_law0_r24_a : List Cond := [Cond.static yX6_needSlot, Cond.code yX6_needSlot cX6_needSlot 1 none, Cond.methodLink RL 154 yL_restore, Cond.static yL_restore, Cond.codeWith yL_restore cL_restore 3 (some .long) [(0, 6, 7, 34), (0, 6, 12, 19)], Cond.methodLink RL 92 yX6_restore, Cond.instanceMethod yX6_restore, Cond.selects RX6 yX6_restore yX6_restore, Cond.code yX6_restore cX6_restore 2 (some .int), Cond.methodLink RL 156 yL_append, Cond.static yL_append, Cond.codeWith yL_append cL_append 3 (some .long) [(0, 6, 7, 15), (0, 6, 12, 19)], Cond.methodLink RL 9 yX6_append, Cond.instanceMethod yX6_append, Cond.selects RX6 yX6_append yX6_append, Cond.code yX6_append cX6_append 2 (some .int), Cond.fieldLink RX6 55 "CitationKeys$Text" "length" "I", Cond.methodLink RX6 64 yX4_put, Cond.instanceMethod yX4_put, Cond.selects RX4 yX4_put yX4_put, Cond.code yX4_put cX4_put 2 none, Cond.methodLink RL 239 yL_kept, Cond.static yL_kept]
def wsL_law0_r24_b : List Cond := []
set_option maxRecDepth 20000 in
theorem wsL_law0_r24_a_in : ∀ w ∈ wsL_law0_r24_a, w ∈ lw_tbl := by decide +kernel
set_option maxRecDepth 20000 in
theorem wsL_law0_r24_b_in : ∀ w ∈ wsL_law0_r24_b, w ∈ lw_tbl := by decide +kernel
theorem wsL_law0_r24_in : ∀ w ∈ wsL_law0_r24, w ∈ lw_tbl := in_app (l1 := wsL_law0_r24_a) (l2 := Cond.code yL_kept cL_kept 15 (some .boolean) :: wsL_law0_r24_b) wsL_law0_r24_a_in (List.forall_mem_cons.mpr ⟨hv_kept, wsL_law0_r24_b_in⟩)
