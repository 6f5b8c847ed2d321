set_option maxRecDepth 20000 in
theorem gr_follows_r16 : GoodIn wsL_law wsL_follows_r16 := goodIn_r _ [325, 326, 327, 328, 329, 330, 331, 332, 585, 586, 587, 480, 481, 482, 483, 484, 485, 486, 613, 614, 615, 616, 395, 396] (by decide +kernel) (by decide +kernel)
set_option maxRecDepth 20000 in
theorem gr_follows_r17 : GoodIn wsL_law wsL_follows_r17 := goodIn_r _ [397, 398, 600, 601, 602, 603, 14, 568, 561, 562, 563, 564, 565, 566, 567, 569, 570, 571, 13, 572, 432, 36, 632, 633] (by decide +kernel) (by decide +kernel)
set_option maxRecDepth 20000 in
theorem gr_follows_r18 : GoodIn wsL_law wsL_follows_r18 := goodIn_r _ [634, 635, 636, 637, 638, 639, 640, 641, 642, 643, 644, 645, 646, 647, 554, 555, 556, 557, 558, 559, 560, 533, 534, 535] (by decide +kernel) (by decide +kernel)
set_option maxRecDepth 20000 in
theorem gr_follows_r19 : GoodIn wsL_law wsL_follows_r19 := goodIn_r _ [536] (by decide +kernel) (by decide +kernel)
set_option maxRecDepth 20000 in
theorem gr_follows_wsX60 : GoodIn wsL_law wsX60 := goodIn_r _ [648, 649, 650, 651, 652, 653, 654] (by decide +kernel) (by decide +kernel)
set_option maxRecDepth 20000 in
theorem gr_follows_wsX30 : GoodIn wsL_law wsX30 := goodIn_r _ [661, 662, 663, 664, 665, 666, 667, 668, 669] (by decide +kernel) (by decide +kernel)
set_option maxRecDepth 20000 in
theorem gr_follows_wsX50 : GoodIn wsL_law wsX50 := goodIn_r _ [670, 671, 672, 673] (by decide +kernel) (by decide +kernel)
set_option maxRecDepth 20000 in
theorem gr_follows_wsX00 : GoodIn wsL_law wsX00 := goodIn_r _ [674, 675, 676] (by decide +kernel) (by decide +kernel)
