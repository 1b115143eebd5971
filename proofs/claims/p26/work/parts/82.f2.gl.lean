set_option maxRecDepth 20000 in
theorem pg_wsL_sign_r7 : GoodIn wsL_law wsL_sign_r7 := goodIn_r _ [131, 132, 133, 134, 135, 136, 137, 138, 139, 144, 145, 146, 147, 148, 156, 157, 158, 159, 180, 181, 182, 183, 184, 321] (by decide +kernel) (by decide +kernel)
set_option maxRecDepth 20000 in
theorem pg_wsL_sign_r8 : GoodIn wsL_law wsL_sign_r8 := goodIn_r _ [322, 323, 324, 325, 326, 327, 328, 329, 330, 331, 332, 333, 334, 335, 336, 246, 247, 248, 249, 337, 338, 339, 340, 341] (by decide +kernel) (by decide +kernel)
set_option maxRecDepth 20000 in
theorem pg_wsL_sign_r9 : GoodIn wsL_law wsL_sign_r9 := goodIn_r _ [342, 343, 344, 345, 346, 347, 348] (by decide +kernel) (by decide +kernel)
