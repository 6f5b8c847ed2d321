set_option maxRecDepth 20000 in
theorem gc_follows : GoodIn wsL_law [Cond.code yL_follows cL_follows 21 (some .boolean)] := goodIn_sub (fun w hw => by
  rw [List.mem_singleton] at hw
  subst hw
  have h1 : Cond.code yL_follows cL_follows 21 (some .boolean) ∈ wsL_law0_r27 := List.mem_of_getElem? (i := 7) rfl
  have h2 : Cond.code yL_follows cL_follows 21 (some .boolean) ∈ wsL_law0 := by unfold wsL_law0; exact (List.mem_append_left _ (List.mem_append_left _ (List.mem_append_left _ (List.mem_append_left _ (List.mem_append_left _ (List.mem_append_left _ (List.mem_append_right _ (List.mem_append_right _ (List.mem_append_right _ (List.mem_append_right _ (List.mem_append_right _ (List.mem_append_right _ (List.mem_append_right _ (List.mem_append_right _ (List.mem_append_right _ (List.mem_append_right _ (List.mem_append_right _ (List.mem_append_right _ (List.mem_append_right _ (List.mem_append_right _ (List.mem_append_right _ (List.mem_append_right _ (List.mem_append_right _ (List.mem_append_right _ (List.mem_append_right _ (List.mem_append_right _ (List.mem_append_right _ (List.mem_append_right _ (List.mem_append_right _ (List.mem_append_right _ (List.mem_append_right _ (List.mem_append_right _ h1))))))))))))))))))))))))))))))))
  unfold wsL_law
  exact List.mem_append_left _ (List.mem_append_left _ (List.mem_append_left _ h2))) (by decide +kernel)
set_option maxRecDepth 20000 in
theorem gr_follows_r1 : GoodIn wsL_law wsL_follows_r1 := goodIn_r _ [581, 582, 402, 75, 76, 67, 77, 78, 79, 80, 81, 82, 83, 84, 85, 86, 87, 2, 88, 89, 90, 18, 91, 92] (by decide +kernel) (by decide +kernel)
set_option maxRecDepth 20000 in
theorem gr_follows_r2 : GoodIn wsL_law wsL_follows_r2 := goodIn_r _ [93, 94, 95, 96, 97, 17, 98, 99, 52, 100, 101, 102, 103, 104, 105, 106, 107, 108, 109, 110, 111, 112, 113, 114] (by decide +kernel) (by decide +kernel)
set_option maxRecDepth 20000 in
theorem gr_follows_r3 : GoodIn wsL_law wsL_follows_r3 := goodIn_r _ [115, 116, 117, 118, 119, 120, 121, 122, 123, 124, 125, 126, 127, 128, 129, 130, 131, 132, 133, 134, 135, 136, 137, 55] (by decide +kernel) (by decide +kernel)
set_option maxRecDepth 20000 in
theorem gr_follows_r4 : GoodIn wsL_law wsL_follows_r4 := goodIn_r _ [138, 139, 140, 141, 142, 143, 144, 145, 146, 147, 148, 149, 150, 151, 152, 153, 154, 155, 156, 157, 158, 159, 160, 161] (by decide +kernel) (by decide +kernel)
set_option maxRecDepth 20000 in
theorem gr_follows_r5 : GoodIn wsL_law wsL_follows_r5 := goodIn_r _ [162, 163, 164, 165, 166, 167, 168, 169, 170, 171, 172, 50, 173, 174, 175, 176, 177, 178, 22, 179, 44, 180, 181, 182] (by decide +kernel) (by decide +kernel)
set_option maxRecDepth 20000 in
theorem gr_follows_r6 : GoodIn wsL_law wsL_follows_r6 := goodIn_r _ [183, 184, 185, 186, 187, 188, 189, 190, 191, 192, 51, 193, 194, 195, 196, 197, 198, 199, 200, 201, 202, 203, 204, 205] (by decide +kernel) (by decide +kernel)
set_option maxRecDepth 20000 in
theorem gr_follows_r7 : GoodIn wsL_law wsL_follows_r7 := goodIn_r _ [206, 207, 208, 209, 210, 211, 212, 213, 214, 215, 216, 217, 218, 219, 220, 221, 222, 223, 224, 225, 226, 227, 228, 229] (by decide +kernel) (by decide +kernel)
