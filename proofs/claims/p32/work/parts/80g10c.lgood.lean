set_option maxRecDepth 20000 in
theorem gr_errors_r16 : GoodIn wsL_law wsL_errors_r16 := goodIn_r _ [508, 509, 510, 333, 334, 335, 336, 337, 338, 339, 306, 307, 308, 309, 19, 256, 319, 320, 321, 322, 323, 324, 325, 329] (by decide +kernel) (by decide +kernel)
set_option maxRecDepth 20000 in
theorem gr_errors_r17 : GoodIn wsL_law wsL_errors_r17 := goodIn_r _ [330, 331, 332, 511, 512, 513, 514, 515, 516, 517, 252, 253, 254, 255, 518, 519, 520, 521, 522, 523, 524, 525, 526, 527] (by decide +kernel) (by decide +kernel)
set_option maxRecDepth 20000 in
theorem gr_errors_r18 : GoodIn wsL_law wsL_errors_r18 := goodIn_r _ [528, 30, 529, 530, 531, 532, 359, 360, 361, 362, 533, 534, 535, 536, 537, 538, 539, 540, 541, 542, 543, 363, 364, 365] (by decide +kernel) (by decide +kernel)
set_option maxRecDepth 20000 in
theorem gr_errors_r19 : GoodIn wsL_law wsL_errors_r19 := goodIn_r _ [366, 367, 368, 369, 370, 371, 372, 373, 374, 375, 376, 377, 378, 379, 380, 381, 382, 386, 387, 388, 389, 390, 391, 392] (by decide +kernel) (by decide +kernel)
set_option maxRecDepth 20000 in
theorem gr_errors_r20 : GoodIn wsL_law wsL_errors_r20 := goodIn_r _ [393, 394, 395, 396, 397, 398, 340, 341, 342, 343, 344, 345, 346, 347, 348, 349, 350, 351, 352, 23, 353, 354, 358, 544] (by decide +kernel) (by decide +kernel)
set_option maxRecDepth 20000 in
theorem gr_errors_r21 : GoodIn wsL_law wsL_errors_r21 := goodIn_r _ [545, 546, 547, 548, 549, 550, 28, 551, 552, 553, 554, 555, 556, 557, 558, 559, 560, 561, 562, 563, 564, 565, 566, 567] (by decide +kernel) (by decide +kernel)
set_option maxRecDepth 20000 in
theorem gr_errors_r22 : GoodIn wsL_law wsL_errors_r22 := goodIn_r _ [568, 569, 570, 571, 572] (by decide +kernel) (by decide +kernel)
set_option maxRecDepth 20000 in
theorem gr_errors_wsX60 : GoodIn wsL_law wsX60 := goodIn_r _ [648, 649, 650, 651, 652, 653, 654] (by decide +kernel) (by decide +kernel)
