set_option maxRecDepth 20000 in
theorem gr_act_r8 : GoodIn wsL_law wsL_act_r8 := goodIn_r _ [327, 328, 617, 618, 619, 414, 620, 621, 622, 623, 419, 420, 624, 625, 626, 627, 628, 544, 545, 546, 547, 548, 549, 550] (by decide +kernel) (by decide +kernel)
set_option maxRecDepth 20000 in
theorem gr_act_r9 : GoodIn wsL_law wsL_act_r9 := goodIn_r _ [28, 30, 91, 551, 552, 553, 256, 554, 555, 556, 557, 558, 559, 560, 533, 534, 535, 536, 600, 601, 602, 603, 14, 568] (by decide +kernel) (by decide +kernel)
set_option maxRecDepth 20000 in
theorem gr_act_r10 : GoodIn wsL_law wsL_act_r10 := goodIn_r _ [604, 605, 606, 607, 608, 609, 561, 562, 563, 564, 565, 566, 567, 569, 570, 571, 13, 572, 432, 36, 411, 412, 413, 415] (by decide +kernel) (by decide +kernel)
set_option maxRecDepth 20000 in
theorem gr_act_r11 : GoodIn wsL_law wsL_act_r11 := goodIn_r _ [416, 417, 418, 421, 422, 423, 424, 425, 426, 427, 428, 429, 430, 431, 433, 434, 435, 436, 437, 438, 38, 439, 440, 355] (by decide +kernel) (by decide +kernel)
set_option maxRecDepth 20000 in
theorem gr_act_r12 : GoodIn wsL_law wsL_act_r12 := goodIn_r _ [356, 357, 441, 442, 443, 444, 445, 446, 447, 448, 449, 450, 451, 452, 453, 454, 455, 456, 457, 458, 459, 460, 461, 462] (by decide +kernel) (by decide +kernel)
set_option maxRecDepth 20000 in
theorem gr_act_r13 : GoodIn wsL_law wsL_act_r13 := goodIn_r _ [463, 464, 465, 466, 467, 468, 469, 470, 471, 479, 537, 538, 539, 540, 541, 542, 543, 359, 360, 361, 362] (by decide +kernel) (by decide +kernel)
set_option maxRecDepth 20000 in
theorem gr_act_wsX60 : GoodIn wsL_law wsX60 := goodIn_r _ [648, 649, 650, 651, 652, 653, 654] (by decide +kernel) (by decide +kernel)
set_option maxRecDepth 20000 in
theorem gr_act_wsX30 : GoodIn wsL_law wsX30 := goodIn_r _ [661, 662, 663, 664, 665, 666, 667, 668, 669] (by decide +kernel) (by decide +kernel)
