set_option maxRecDepth 20000 in
theorem gr_follows_r8 : GoodIn wsL_law wsL_follows_r8 := goodIn_r _ [230, 231, 232, 233, 234, 235, 236, 237, 53, 238, 239, 240, 241, 242, 243, 244, 245, 246, 247, 544, 545, 546, 547, 548] (by decide +kernel) (by decide +kernel)
set_option maxRecDepth 20000 in
theorem gr_follows_r9 : GoodIn wsL_law wsL_follows_r9 := goodIn_r _ [549, 550, 28, 30, 551, 552, 553, 256, 257, 258, 259, 260, 261, 262, 263, 264, 265, 340, 341, 342, 343, 344, 345, 346] (by decide +kernel) (by decide +kernel)
set_option maxRecDepth 20000 in
theorem gr_follows_r10 : GoodIn wsL_law wsL_follows_r10 := goodIn_r _ [19, 347, 348, 349, 350, 351, 352, 23, 353, 354, 355, 356, 357, 358, 280, 281, 359, 360, 361, 362, 310, 311, 312, 313] (by decide +kernel) (by decide +kernel)
set_option maxRecDepth 20000 in
theorem gr_follows_r11 : GoodIn wsL_law wsL_follows_r11 := goodIn_r _ [314, 315, 316, 317, 318, 266, 267, 268, 269, 270, 271, 272, 273, 274, 275, 276, 277, 278, 279, 282, 283, 284, 285, 286] (by decide +kernel) (by decide +kernel)
set_option maxRecDepth 20000 in
theorem gr_follows_r12 : GoodIn wsL_law wsL_follows_r12 := goodIn_r _ [287, 288, 289, 290, 291, 292, 293, 294, 295, 296, 297, 298, 299, 300, 301, 248, 249, 250, 251, 252, 253, 254, 255, 511] (by decide +kernel) (by decide +kernel)
set_option maxRecDepth 20000 in
theorem gr_follows_r13 : GoodIn wsL_law wsL_follows_r13 := goodIn_r _ [512, 513, 514, 515, 516, 517, 501, 502, 503, 383, 384, 385, 494, 495, 496, 497, 498, 499, 500, 27, 472, 473, 474, 26] (by decide +kernel) (by decide +kernel)
set_option maxRecDepth 20000 in
theorem gr_follows_r14 : GoodIn wsL_law wsL_follows_r14 := goodIn_r _ [475, 476, 477, 63, 478, 617, 618, 619, 414, 620, 621, 622, 623, 419, 420, 624, 625, 626, 627, 628, 333, 334, 335, 336] (by decide +kernel) (by decide +kernel)
set_option maxRecDepth 20000 in
theorem gr_follows_r15 : GoodIn wsL_law wsL_follows_r15 := goodIn_r _ [337, 338, 339, 306, 307, 308, 309, 302, 303, 304, 305, 487, 488, 489, 490, 491, 492, 493, 319, 320, 321, 322, 323, 324] (by decide +kernel) (by decide +kernel)
