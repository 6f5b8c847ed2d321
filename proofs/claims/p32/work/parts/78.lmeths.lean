def E_L_draw : Me := (yL_draw, cL_draw, 2, (some .int), wsL_draw, (0, 0), (0, 0), [])
def E_L_in : Me := (yL_in, cL_in, 6, (some .boolean), wsL_in, (0, 0), (0, 0), [])
def E_L_append : Me := (yL_append, cL_append, 3, (some .long), wsL_append, (7, 105), (1, 6), [(0, 6, 7, 15), (0, 6, 12, 19)])
def E_L_load : Me := (yL_load, cL_load, 2, (some .long), wsL_load, (7, 142), (1, 6), [(0, 5, 6, 19)])
def E_L_about : Me := (yL_about, cL_about, 3, (some .long), wsL_about, (7, 110), (1, 6), [(0, 6, 7, 15)])
def E_L_work : Me := (yL_work, cL_work, 4, (some .long), wsL_work, (8, 127), (2, 12), [(0, 7, 8, 34), (0, 7, 13, 15)])
def E_L_letter : Me := (yL_letter, cL_letter, 5, (some .long), wsL_letter, (8, 129), (2, 12), [(0, 8, 9, 34), (0, 8, 15, 15)])
def E_L_key : Me := (yL_key, cL_key, 4, (some .long), wsL_key, (8, 127), (2, 12), [(0, 7, 8, 34), (0, 7, 13, 15)])
def E_L_at : Me := (yL_at, cL_at, 3, (some .long), wsL_at, (7, 118), (1, 6), [(0, 6, 7, 15)])
def E_L_printed : Me := (yL_printed, cL_printed, 3, (some .long), wsL_printed, (7, 105), (1, 6), [(0, 6, 7, 15)])
def E_L_add : Me := (yL_add, cL_add, 2, (some .long), wsL_add, (7, 146), (1, 6), [(0, 5, 6, 19)])
def E_L_change : Me := (yL_change, cL_change, 3, (some .long), wsL_change, (8, 147), (2, 12), [(0, 6, 7, 34), (0, 6, 12, 19)])
def E_L_setYear : Me := (yL_setYear, cL_setYear, 4, (some .long), wsL_setYear, (8, 143), (2, 12), [(0, 7, 8, 34), (0, 7, 13, 15)])
def E_L_remove : Me := (yL_remove, cL_remove, 3, (some .long), wsL_remove, (8, 142), (1, 6), [(0, 6, 7, 34)])
def E_L_setStyle : Me := (yL_setStyle, cL_setStyle, 3, (some .long), wsL_setStyle, (8, 143), (1, 6), [(0, 6, 7, 15)])
def E_L_setOrder : Me := (yL_setOrder, cL_setOrder, 3, (some .long), wsL_setOrder, (7, 142), (1, 6), [(0, 6, 7, 15)])
def E_L_undo : Me := (yL_undo, cL_undo, 2, (some .long), wsL_undo, (7, 104), (1, 6), [(0, 5, 6, 19)])
def E_L_ifRemoved : Me := (yL_ifRemoved, cL_ifRemoved, 3, (some .long), wsL_ifRemoved, (8, 163), (1, 6), [(0, 6, 7, 34)])
def E_L_freeYear : Me := (yL_freeYear, cL_freeYear, 3, (some .long), wsL_freeYear, (8, 128), (1, 6), [(0, 6, 7, 34)])
def E_L_lettersWith : Me := (yL_lettersWith, cL_lettersWith, 3, (some .long), wsL_lettersWith, (8, 163), (1, 6), [(0, 6, 7, 15)])
def E_L_script : Me := (yL_script, cL_script, 5, (some .long), wsL_script, (7, 147), (1, 6), [(0, 7, 8, 15)])
def E_L_simulate : Me := (yL_simulate, cL_simulate, 5, (some .long), wsL_simulate, (7, 147), (1, 6), [(0, 7, 8, 15)])
def E_L_save : Me := (yL_save, cL_save, 3, (some .long), wsL_save, (8, 125), (1, 6), [(0, 6, 7, 34)])
def E_L_restore : Me := (yL_restore, cL_restore, 3, (some .long), wsL_restore, (8, 125), (2, 12), [(0, 6, 7, 34), (0, 6, 12, 19)])
def E_L_now : Me := (yL_now, cL_now, 6, (some .long), wsL_now, (9, 153), (2600, 15600), [])
def E_L_errors : Me := (yL_errors, cL_errors, 5, (some .boolean), wsL_errors, (10, 185), (5300, 31800), [])
def E_L_sameKey : Me := (yL_sameKey, cL_sameKey, 5, (some .boolean), wsL_sameKey, (9, 150), (80, 480), [])
def E_L_sameStem : Me := (yL_sameStem, cL_sameStem, 6, (some .boolean), wsL_sameStem, (9, 150), (60, 360), [])
def E_L_names : Me := (yL_names, cL_names, 10, (some .int), wsL_names, (9, 153), (32, 192), [])
def E_L_authors : Me := (yL_authors, cL_authors, 7, (some .int), wsL_authors, (10, 182), (140, 840), [])
def E_L_kept : Me := (yL_kept, cL_kept, 15, (some .boolean), wsL_kept, (11, 208), (40300, 241800), [])
def E_L_follows : Me := (yL_follows, cL_follows, 21, (some .boolean), wsL_follows, (10, 185), (21100, 126600), [])
def E_L_alike : Me := (yL_alike, cL_alike, 3, (some .boolean), wsL_alike, (10, 185), (5210, 31260), [])
def E_L_name : Me := (yL_name, cL_name, 5, (some .boolean), wsL_name, (8, 127), (8, 48), [])
def E_L_tells : Me := (yL_tells, cL_tells, 6, (some .boolean), wsL_tells, (9, 151), (50, 300), [])
def E_L_act : Me := (yL_act, cL_act, 4, (some .long), wsL_act, (10, 176), (60, 360), [])
def E_L_law : Me := (x, cL_law, 7, (some .boolean), wsL_law, (14, 566), (603858, 7289893), [])
set_option maxRecDepth 20000 in
theorem okL_draw : EOK E_L_draw := ⟨by decide +kernel, ⟨_, rfl⟩, rfl, by decide +kernel⟩
set_option maxRecDepth 20000 in
theorem okL_in : EOK E_L_in := ⟨by decide +kernel, ⟨_, rfl⟩, rfl, by decide +kernel⟩
set_option maxRecDepth 20000 in
theorem okL_append : EOKh E_L_append := ⟨by decide +kernel, ⟨_, rfl⟩, by decide +kernel⟩
set_option maxRecDepth 20000 in
theorem okL_load : EOKh E_L_load := ⟨by decide +kernel, ⟨_, rfl⟩, by decide +kernel⟩
set_option maxRecDepth 20000 in
theorem okL_about : EOKh E_L_about := ⟨by decide +kernel, ⟨_, rfl⟩, by decide +kernel⟩
set_option maxRecDepth 20000 in
theorem okL_work : EOKh E_L_work := ⟨by decide +kernel, ⟨_, rfl⟩, by decide +kernel⟩
set_option maxRecDepth 20000 in
theorem okL_letter : EOKh E_L_letter := ⟨by decide +kernel, ⟨_, rfl⟩, by decide +kernel⟩
set_option maxRecDepth 20000 in
theorem okL_key : EOKh E_L_key := ⟨by decide +kernel, ⟨_, rfl⟩, by decide +kernel⟩
set_option maxRecDepth 20000 in
theorem okL_at : EOKh E_L_at := ⟨by decide +kernel, ⟨_, rfl⟩, by decide +kernel⟩
set_option maxRecDepth 20000 in
theorem okL_printed : EOKh E_L_printed := ⟨by decide +kernel, ⟨_, rfl⟩, by decide +kernel⟩
set_option maxRecDepth 20000 in
theorem okL_add : EOKh E_L_add := ⟨by decide +kernel, ⟨_, rfl⟩, by decide +kernel⟩
set_option maxRecDepth 20000 in
theorem okL_change : EOKh E_L_change := ⟨by decide +kernel, ⟨_, rfl⟩, by decide +kernel⟩
set_option maxRecDepth 20000 in
theorem okL_setYear : EOKh E_L_setYear := ⟨by decide +kernel, ⟨_, rfl⟩, by decide +kernel⟩
set_option maxRecDepth 20000 in
theorem okL_remove : EOKh E_L_remove := ⟨by decide +kernel, ⟨_, rfl⟩, by decide +kernel⟩
set_option maxRecDepth 20000 in
theorem okL_setStyle : EOKh E_L_setStyle := ⟨by decide +kernel, ⟨_, rfl⟩, by decide +kernel⟩
set_option maxRecDepth 20000 in
theorem okL_setOrder : EOKh E_L_setOrder := ⟨by decide +kernel, ⟨_, rfl⟩, by decide +kernel⟩
set_option maxRecDepth 20000 in
theorem okL_undo : EOKh E_L_undo := ⟨by decide +kernel, ⟨_, rfl⟩, by decide +kernel⟩
set_option maxRecDepth 20000 in
theorem okL_ifRemoved : EOKh E_L_ifRemoved := ⟨by decide +kernel, ⟨_, rfl⟩, by decide +kernel⟩
set_option maxRecDepth 20000 in
theorem okL_freeYear : EOKh E_L_freeYear := ⟨by decide +kernel, ⟨_, rfl⟩, by decide +kernel⟩
set_option maxRecDepth 20000 in
theorem okL_lettersWith : EOKh E_L_lettersWith := ⟨by decide +kernel, ⟨_, rfl⟩, by decide +kernel⟩
set_option maxRecDepth 20000 in
theorem okL_script : EOKh E_L_script := ⟨by decide +kernel, ⟨_, rfl⟩, by decide +kernel⟩
set_option maxRecDepth 20000 in
theorem okL_simulate : EOKh E_L_simulate := ⟨by decide +kernel, ⟨_, rfl⟩, by decide +kernel⟩
set_option maxRecDepth 20000 in
theorem okL_save : EOKh E_L_save := ⟨by decide +kernel, ⟨_, rfl⟩, by decide +kernel⟩
set_option maxRecDepth 20000 in
theorem okL_restore : EOKh E_L_restore := ⟨by decide +kernel, ⟨_, rfl⟩, by decide +kernel⟩
set_option maxRecDepth 20000 in
theorem okL_now : EOK E_L_now := ⟨by decide +kernel, ⟨_, rfl⟩, rfl, by decide +kernel⟩
set_option maxRecDepth 20000 in
theorem okL_errors : EOK E_L_errors := ⟨by decide +kernel, ⟨_, rfl⟩, rfl, by decide +kernel⟩
set_option maxRecDepth 20000 in
theorem okL_sameKey : EOK E_L_sameKey := ⟨by decide +kernel, ⟨_, rfl⟩, rfl, by decide +kernel⟩
set_option maxRecDepth 20000 in
theorem okL_sameStem : EOK E_L_sameStem := ⟨by decide +kernel, ⟨_, rfl⟩, rfl, by decide +kernel⟩
set_option maxRecDepth 20000 in
theorem okL_names : EOK E_L_names := ⟨by decide +kernel, ⟨_, rfl⟩, rfl, by decide +kernel⟩
set_option maxRecDepth 20000 in
theorem okL_authors : EOK E_L_authors := ⟨by decide +kernel, ⟨_, rfl⟩, rfl, by decide +kernel⟩
set_option maxRecDepth 20000 in
theorem okL_kept : EOK E_L_kept := ⟨by decide +kernel, ⟨_, rfl⟩, rfl, by decide +kernel⟩
set_option maxRecDepth 20000 in
theorem okL_follows : EOK E_L_follows := ⟨by decide +kernel, ⟨_, rfl⟩, rfl, by decide +kernel⟩
set_option maxRecDepth 20000 in
theorem okL_alike : EOK E_L_alike := ⟨by decide +kernel, ⟨_, rfl⟩, rfl, by decide +kernel⟩
set_option maxRecDepth 20000 in
theorem okL_name : EOK E_L_name := ⟨by decide +kernel, ⟨_, rfl⟩, rfl, by decide +kernel⟩
set_option maxRecDepth 20000 in
theorem okL_tells : EOK E_L_tells := ⟨by decide +kernel, ⟨_, rfl⟩, rfl, by decide +kernel⟩
set_option maxRecDepth 20000 in
theorem okL_act : EOK E_L_act := ⟨by decide +kernel, ⟨_, rfl⟩, rfl, by decide +kernel⟩
