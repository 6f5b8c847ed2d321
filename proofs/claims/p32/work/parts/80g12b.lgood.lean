set_option maxRecDepth 20000 in
theorem gr_kept_r8 : GoodIn wsL_law wsL_kept_r8 := goodIn_r _ [193, 194, 195, 196, 197, 198, 199, 200, 201, 202, 203, 206, 207, 208, 597, 598, 599, 223, 224, 225, 226, 227, 228, 229] (by decide +kernel) (by decide +kernel)
set_option maxRecDepth 20000 in
theorem gr_kept_r9 : GoodIn wsL_law wsL_kept_r9 := goodIn_r _ [230, 231, 232, 233, 234, 235, 236, 237, 53, 238, 239, 240, 241, 242, 243, 244, 245, 246, 247, 511, 512, 513, 514, 515] (by decide +kernel) (by decide +kernel)
set_option maxRecDepth 20000 in
theorem gr_kept_r10 : GoodIn wsL_law wsL_kept_r10 := goodIn_r _ [516, 517, 19, 501, 502, 503, 383, 384, 385, 252, 253, 254, 255, 256, 257, 258, 259, 260, 261, 262, 263, 264, 265, 266] (by decide +kernel) (by decide +kernel)
set_option maxRecDepth 20000 in
theorem gr_kept_r11 : GoodIn wsL_law wsL_kept_r11 := goodIn_r _ [267, 268, 269, 270, 271, 272, 273, 274, 275, 276, 277, 278, 279, 280, 281, 282, 283, 284, 285, 286, 287, 288, 289, 290] (by decide +kernel) (by decide +kernel)
set_option maxRecDepth 20000 in
theorem gr_kept_r12 : GoodIn wsL_law wsL_kept_r12 := goodIn_r _ [291, 292, 293, 294, 295, 296, 297, 298, 299, 300, 301, 248, 249, 250, 251, 302, 303, 304, 305, 306, 307, 308, 309, 310] (by decide +kernel) (by decide +kernel)
set_option maxRecDepth 20000 in
theorem gr_kept_r13 : GoodIn wsL_law wsL_kept_r13 := goodIn_r _ [311, 312, 313, 314, 315, 316, 317, 318] (by decide +kernel) (by decide +kernel)
set_option maxRecDepth 20000 in
theorem gr_kept_wsX60 : GoodIn wsL_law wsX60 := goodIn_r _ [648, 649, 650, 651, 652, 653, 654] (by decide +kernel) (by decide +kernel)
set_option maxRecDepth 20000 in
theorem gr_kept_wsX30 : GoodIn wsL_law wsX30 := goodIn_r _ [661, 662, 663, 664, 665, 666, 667, 668, 669] (by decide +kernel) (by decide +kernel)
