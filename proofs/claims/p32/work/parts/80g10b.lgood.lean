set_option maxRecDepth 20000 in
theorem gr_errors_r8 : GoodIn wsL_law wsL_errors_r8 := goodIn_r _ [231, 232, 233, 234, 235, 236, 237, 53, 238, 239, 240, 241, 242, 243, 244, 245, 246, 247, 404, 405, 406, 407, 408, 409] (by decide +kernel) (by decide +kernel)
set_option maxRecDepth 20000 in
theorem gr_errors_r9 : GoodIn wsL_law wsL_errors_r9 := goodIn_r _ [410, 411, 412, 413, 414, 415, 416, 417, 418, 419, 420, 27, 14, 421, 422, 423, 424, 425, 426, 427, 428, 429, 13, 430] (by decide +kernel) (by decide +kernel)
set_option maxRecDepth 20000 in
theorem gr_errors_r10 : GoodIn wsL_law wsL_errors_r10 := goodIn_r _ [431, 432, 36, 433, 434, 435, 436, 437, 438, 38, 439, 440, 355, 356, 357, 265, 441, 442, 443, 444, 445, 446, 447, 448] (by decide +kernel) (by decide +kernel)
set_option maxRecDepth 20000 in
theorem gr_errors_r11 : GoodIn wsL_law wsL_errors_r11 := goodIn_r _ [449, 450, 451, 452, 453, 454, 455, 456, 457, 280, 281, 458, 459, 460, 461, 462, 463, 464, 465, 466, 467, 468, 469, 470] (by decide +kernel) (by decide +kernel)
set_option maxRecDepth 20000 in
theorem gr_errors_r12 : GoodIn wsL_law wsL_errors_r12 := goodIn_r _ [471, 472, 473, 474, 26, 475, 476, 477, 63, 478, 257, 258, 259, 260, 261, 262, 263, 264, 479, 266, 267, 268, 269, 270] (by decide +kernel) (by decide +kernel)
set_option maxRecDepth 20000 in
theorem gr_errors_r13 : GoodIn wsL_law wsL_errors_r13 := goodIn_r _ [271, 272, 273, 274, 275, 276, 277, 278, 279, 282, 283, 284, 285, 286, 287, 288, 289, 290, 291, 292, 293, 294, 295, 296] (by decide +kernel) (by decide +kernel)
set_option maxRecDepth 20000 in
theorem gr_errors_r14 : GoodIn wsL_law wsL_errors_r14 := goodIn_r _ [297, 298, 299, 300, 301, 480, 481, 482, 483, 484, 485, 486, 326, 327, 328, 487, 488, 489, 490, 491, 492, 493, 310, 311] (by decide +kernel) (by decide +kernel)
set_option maxRecDepth 20000 in
theorem gr_errors_r15 : GoodIn wsL_law wsL_errors_r15 := goodIn_r _ [312, 313, 314, 315, 316, 317, 318, 494, 495, 496, 497, 498, 499, 500, 501, 502, 503, 383, 384, 385, 504, 505, 506, 507] (by decide +kernel) (by decide +kernel)
