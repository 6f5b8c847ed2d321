set_option maxRecDepth 20000 in
theorem wsL_law0_r25_in : ∀ w ∈ wsL_law0_r25, w ∈ lw_tbl := by decide +kernel
set_option maxRecDepth 20000 in
theorem wsL_law0_r26_in : ∀ w ∈ wsL_law0_r26, w ∈ lw_tbl := by decide +kernel
def wsL_law0_r27_a : List Cond := [Cond.fieldLink RX6 230 "CitationKeys$History" "kept" "I", Cond.methodLink RX6 235 yX0_takeBack, Cond.instanceMethod yX0_takeBack, Cond.selects RX0 yX0_takeBack yX0_takeBack, Cond.code yX0_takeBack cX0_takeBack 2 none, Cond.methodLink RL 245 yL_follows, Cond.static yL_follows]
def wsL_law0_r27_b : List Cond := [Cond.methodLink RL 211 yX6_meaning, Cond.instanceMethod yX6_meaning, Cond.selects RX6 yX6_meaning yX6_meaning, Cond.code yX6_meaning cX6_meaning 2 (some .int), Cond.methodLink RX6 176 yX4_spells, Cond.instanceMethod yX4_spells, Cond.selects RX4 yX4_spells yX4_spells, Cond.code yX4_spells cX4_spells 4 (some .boolean), Cond.methodLink RX4 26 yX1_length, Cond.methodLink RX4 31 yX1_codeAt, Cond.methodLink RL 214 yX6_printedMeaning, Cond.instanceMethod yX6_printedMeaning, Cond.selects RX6 yX6_printedMeaning yX6_printedMeaning, Cond.code yX6_printedMeaning cX6_printedMeaning 2 (some .int), Cond.fieldLink RX6 180 "CitationKeys$State" "printedKeys" "[J", Cond.fieldLink RX6 183 "CitationKeys$State" "printedOwners" "[I"]
set_option maxRecDepth 20000 in
theorem wsL_law0_r27_a_in : ∀ w ∈ wsL_law0_r27_a, w ∈ lw_tbl := by decide +kernel
set_option maxRecDepth 20000 in
theorem wsL_law0_r27_b_in : ∀ w ∈ wsL_law0_r27_b, w ∈ lw_tbl := by decide +kernel
theorem wsL_law0_r27_in : ∀ w ∈ wsL_law0_r27, w ∈ lw_tbl := in_app (l1 := wsL_law0_r27_a) (l2 := Cond.code yL_follows cL_follows 21 (some .boolean) :: wsL_law0_r27_b) wsL_law0_r27_a_in (List.forall_mem_cons.mpr ⟨hv_follows, wsL_law0_r27_b_in⟩)
