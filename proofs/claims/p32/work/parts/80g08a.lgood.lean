set_option maxRecDepth 20000 in
theorem gc_alike : GoodIn wsL_law [Cond.code yL_alike cL_alike 3 (some .boolean)] := goodIn_r _ [73] (by decide +kernel) (by decide +kernel)
set_option maxRecDepth 20000 in
theorem gr_alike_r1 : GoodIn wsL_law wsL_alike_r1 := goodIn_r _ [74, 75, 76, 67, 77, 78, 79, 80, 81, 82, 83, 84, 85, 86, 87, 2, 88, 89, 90, 18, 91, 92, 93, 94] (by decide +kernel) (by decide +kernel)
set_option maxRecDepth 20000 in
theorem gr_alike_r2 : GoodIn wsL_law wsL_alike_r2 := goodIn_r _ [95, 96, 97, 17, 98, 99, 52, 100, 101, 102, 103, 104, 105, 106, 107, 108, 109, 110, 111, 112, 113, 114, 115, 116] (by decide +kernel) (by decide +kernel)
set_option maxRecDepth 20000 in
theorem gr_alike_r3 : GoodIn wsL_law wsL_alike_r3 := goodIn_r _ [117, 118, 119, 120, 121, 122, 123, 124, 125, 126, 127, 128, 129, 130, 131, 132, 133, 134, 135, 136, 137, 55, 138, 139] (by decide +kernel) (by decide +kernel)
set_option maxRecDepth 20000 in
theorem gr_alike_r4 : GoodIn wsL_law wsL_alike_r4 := goodIn_r _ [140, 141, 142, 143, 144, 145, 146, 147, 148, 149, 150, 151, 152, 153, 154, 155, 156, 157, 158, 159, 160, 161, 162, 163] (by decide +kernel) (by decide +kernel)
set_option maxRecDepth 20000 in
theorem gr_alike_r5 : GoodIn wsL_law wsL_alike_r5 := goodIn_r _ [164, 165, 166, 167, 168, 169, 170, 171, 172, 50, 173, 174, 175, 176, 177, 178, 22, 179, 44, 180, 181, 182, 183, 184] (by decide +kernel) (by decide +kernel)
set_option maxRecDepth 20000 in
theorem gr_alike_r6 : GoodIn wsL_law wsL_alike_r6 := goodIn_r _ [185, 186, 187, 188, 189, 190, 191, 192, 51, 193, 194, 195, 196, 197, 198, 199, 200, 201, 202, 203, 204, 205, 206, 207] (by decide +kernel) (by decide +kernel)
set_option maxRecDepth 20000 in
theorem gr_alike_r7 : GoodIn wsL_law wsL_alike_r7 := goodIn_r _ [208, 209, 210, 211, 212, 213, 214, 215, 216, 217, 218, 219, 220, 221, 222, 223, 224, 225, 226, 227, 228, 229, 230, 231] (by decide +kernel) (by decide +kernel)
