set_option maxRecDepth 20000 in
theorem pg_wsL_sign_r4 : GoodIn wsL_law wsL_sign_r4 := goodIn_r _ [112, 113, 114, 115, 311, 312, 313, 314, 201, 219, 228, 315, 316, 317, 318, 170, 171, 11, 172, 31, 33, 319, 153, 154] (by decide +kernel) (by decide +kernel)
set_option maxRecDepth 20000 in
theorem pg_wsL_sign_r5 : GoodIn wsL_law wsL_sign_r5 := goodIn_r _ [155, 320, 141, 142, 143, 164, 149, 150, 151, 152, 140, 160, 161, 162, 163, 165, 166, 167, 168, 169, 173, 174, 175, 176] (by decide +kernel) (by decide +kernel)
set_option maxRecDepth 20000 in
theorem pg_wsL_sign_r6 : GoodIn wsL_law wsL_sign_r6 := goodIn_r _ [177, 178, 179, 80, 81, 82, 83, 116, 117, 118, 119, 120, 121, 122, 16, 123, 124, 125, 126, 127, 32, 128, 129, 130] (by decide +kernel) (by decide +kernel)
