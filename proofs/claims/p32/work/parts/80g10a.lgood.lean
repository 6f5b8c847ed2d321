set_option maxRecDepth 20000 in
theorem gc_errors : GoodIn wsL_law [Cond.code yL_errors cL_errors 5 (some .boolean)] := goodIn_r _ [401] (by decide +kernel) (by decide +kernel)
set_option maxRecDepth 20000 in
theorem gr_errors_r1 : GoodIn wsL_law wsL_errors_r1 := goodIn_r _ [84, 142, 402, 403, 75, 76, 67, 77, 78, 79, 80, 81, 82, 83, 85, 86, 87, 2, 88, 89, 90, 18, 91, 92] (by decide +kernel) (by decide +kernel)
set_option maxRecDepth 20000 in
theorem gr_errors_r2 : GoodIn wsL_law wsL_errors_r2 := goodIn_r _ [93, 94, 95, 96, 97, 17, 98, 99, 52, 100, 101, 102, 103, 104, 105, 106, 107, 108, 109, 110, 111, 112, 113, 114] (by decide +kernel) (by decide +kernel)
set_option maxRecDepth 20000 in
theorem gr_errors_r3 : GoodIn wsL_law wsL_errors_r3 := goodIn_r _ [115, 116, 117, 118, 119, 120, 121, 122, 123, 124, 125, 126, 127, 128, 129, 130, 131, 132, 133, 134, 135, 136, 137, 55] (by decide +kernel) (by decide +kernel)
set_option maxRecDepth 20000 in
theorem gr_errors_r4 : GoodIn wsL_law wsL_errors_r4 := goodIn_r _ [138, 139, 140, 141, 143, 144, 145, 146, 147, 148, 149, 150, 151, 152, 153, 154, 155, 156, 157, 158, 159, 160, 161, 162] (by decide +kernel) (by decide +kernel)
set_option maxRecDepth 20000 in
theorem gr_errors_r5 : GoodIn wsL_law wsL_errors_r5 := goodIn_r _ [163, 164, 165, 166, 167, 168, 169, 170, 171, 172, 50, 173, 174, 175, 176, 177, 178, 22, 179, 44, 180, 181, 182, 183] (by decide +kernel) (by decide +kernel)
set_option maxRecDepth 20000 in
theorem gr_errors_r6 : GoodIn wsL_law wsL_errors_r6 := goodIn_r _ [184, 185, 186, 187, 188, 189, 190, 191, 192, 51, 193, 194, 195, 196, 197, 198, 199, 200, 201, 202, 203, 204, 205, 206] (by decide +kernel) (by decide +kernel)
set_option maxRecDepth 20000 in
theorem gr_errors_r7 : GoodIn wsL_law wsL_errors_r7 := goodIn_r _ [207, 208, 209, 210, 211, 212, 213, 214, 215, 216, 217, 218, 219, 220, 221, 222, 223, 224, 225, 226, 227, 228, 229, 230] (by decide +kernel) (by decide +kernel)
