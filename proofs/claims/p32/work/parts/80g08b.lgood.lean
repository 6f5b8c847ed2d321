set_option maxRecDepth 20000 in
theorem gr_alike_r8 : GoodIn wsL_law wsL_alike_r8 := goodIn_r _ [232, 233, 234, 235, 236, 237, 53, 238, 239, 240, 241, 242, 243, 244, 245, 246, 247, 248, 249, 250, 251, 19, 252, 253] (by decide +kernel) (by decide +kernel)
set_option maxRecDepth 20000 in
theorem gr_alike_r9 : GoodIn wsL_law wsL_alike_r9 := goodIn_r _ [254, 255, 256, 257, 258, 259, 260, 261, 262, 263, 264, 265, 266, 267, 268, 269, 270, 271, 272, 273, 274, 275, 276, 277] (by decide +kernel) (by decide +kernel)
set_option maxRecDepth 20000 in
theorem gr_alike_r10 : GoodIn wsL_law wsL_alike_r10 := goodIn_r _ [278, 279, 280, 281, 282, 283, 284, 285, 286, 287, 288, 289, 290, 291, 292, 293, 294, 295, 296, 297, 298, 299, 300, 301] (by decide +kernel) (by decide +kernel)
set_option maxRecDepth 20000 in
theorem gr_alike_r11 : GoodIn wsL_law wsL_alike_r11 := goodIn_r _ [302, 303, 304, 305, 306, 307, 308, 309, 310, 311, 312, 313, 314, 315, 316, 317, 318, 319, 320, 321, 322, 323, 324, 325] (by decide +kernel) (by decide +kernel)
set_option maxRecDepth 20000 in
theorem gr_alike_r12 : GoodIn wsL_law wsL_alike_r12 := goodIn_r _ [326, 327, 328, 329, 330, 331, 332, 333, 334, 335, 336, 337, 338, 339, 340, 341, 342, 343, 344, 345, 346, 347, 348, 349] (by decide +kernel) (by decide +kernel)
set_option maxRecDepth 20000 in
theorem gr_alike_r13 : GoodIn wsL_law wsL_alike_r13 := goodIn_r _ [350, 351, 352, 23, 353, 354, 355, 356, 357, 358, 359, 360, 361, 362, 363, 364, 365, 366, 367, 368, 369, 370, 371, 372] (by decide +kernel) (by decide +kernel)
set_option maxRecDepth 20000 in
theorem gr_alike_r14 : GoodIn wsL_law wsL_alike_r14 := goodIn_r _ [373, 374, 375, 376, 377, 378, 379, 380, 381, 382, 383, 384, 385, 386, 387, 388, 389, 390, 391, 392, 393, 394, 395, 396] (by decide +kernel) (by decide +kernel)
set_option maxRecDepth 20000 in
theorem gr_alike_r15 : GoodIn wsL_law wsL_alike_r15 := goodIn_r _ [397, 398] (by decide +kernel) (by decide +kernel)
