set_option maxRecDepth 20000 in
theorem gc_act : GoodIn wsL_law [Cond.code yL_act cL_act 4 (some .long)] := goodIn_sub (fun w hw => by
  rw [List.mem_singleton] at hw
  subst hw
  have h1 : Cond.code yL_act cL_act 4 (some .long) ∈ wsL_law0_r26 := List.mem_of_getElem? (i := 12) rfl
  have h2 : Cond.code yL_act cL_act 4 (some .long) ∈ wsL_law0 := by unfold wsL_law0; exact (List.mem_append_left _ (List.mem_append_left _ (List.mem_append_left _ (List.mem_append_left _ (List.mem_append_left _ (List.mem_append_left _ (List.mem_append_right _ (List.mem_append_right _ (List.mem_append_right _ (List.mem_append_right _ (List.mem_append_right _ (List.mem_append_right _ (List.mem_append_right _ (List.mem_append_right _ (List.mem_append_right _ (List.mem_append_right _ (List.mem_append_right _ (List.mem_append_right _ (List.mem_append_right _ (List.mem_append_right _ (List.mem_append_right _ (List.mem_append_right _ (List.mem_append_right _ (List.mem_append_right _ (List.mem_append_right _ (List.mem_append_right _ (List.mem_append_right _ (List.mem_append_right _ (List.mem_append_right _ (List.mem_append_right _ (List.mem_append_right _ (List.mem_append_left _ h1))))))))))))))))))))))))))))))))
  unfold wsL_law
  exact List.mem_append_left _ (List.mem_append_left _ (List.mem_append_left _ h2))) (by decide +kernel)
set_option maxRecDepth 20000 in
theorem gr_act_r1 : GoodIn wsL_law wsL_act_r1 := goodIn_r _ [402, 494, 495, 67, 496, 83, 84, 497, 498, 499, 2, 500, 27, 18, 92, 501, 502, 503, 89, 90, 383, 384, 385, 472] (by decide +kernel) (by decide +kernel)
set_option maxRecDepth 20000 in
theorem gr_act_r2 : GoodIn wsL_law wsL_act_r2 := goodIn_r _ [473, 474, 26, 475, 476, 477, 63, 478, 257, 258, 17, 259, 99, 260, 174, 137, 50, 51, 52, 53, 55, 261, 262, 263] (by decide +kernel) (by decide +kernel)
set_option maxRecDepth 20000 in
theorem gr_act_r3 : GoodIn wsL_law wsL_act_r3 := goodIn_r _ [22, 264, 44, 220, 265, 221, 266, 267, 268, 269, 173, 270, 271, 272, 273, 274, 275, 276, 277, 278, 125, 122, 126, 279] (by decide +kernel) (by decide +kernel)
set_option maxRecDepth 20000 in
theorem gr_act_r4 : GoodIn wsL_law wsL_act_r4 := goodIn_r _ [280, 281, 282, 283, 102, 284, 285, 286, 287, 288, 289, 290, 291, 292, 293, 294, 295, 296, 297, 298, 299, 300, 301, 169] (by decide +kernel) (by decide +kernel)
set_option maxRecDepth 20000 in
theorem gr_act_r5 : GoodIn wsL_law wsL_act_r5 := goodIn_r _ [170, 171, 172, 175, 176, 177, 178, 179, 180, 181, 182, 183, 184, 185, 186, 187, 188, 504, 505, 506, 507, 508, 509, 510] (by decide +kernel) (by decide +kernel)
set_option maxRecDepth 20000 in
theorem gr_act_r6 : GoodIn wsL_law wsL_act_r6 := goodIn_r _ [93, 613, 614, 615, 616, 94, 395, 396, 397, 398, 487, 488, 489, 141, 142, 490, 491, 492, 493, 152, 153, 154, 155, 156] (by decide +kernel) (by decide +kernel)
set_option maxRecDepth 20000 in
theorem gr_act_r7 : GoodIn wsL_law wsL_act_r7 := goodIn_r _ [157, 158, 159, 160, 161, 310, 311, 312, 313, 314, 315, 316, 317, 318, 480, 481, 482, 483, 484, 485, 486, 147, 148, 326] (by decide +kernel) (by decide +kernel)
