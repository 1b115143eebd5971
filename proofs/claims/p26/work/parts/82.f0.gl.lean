set_option maxRecDepth 20000 in
theorem pg_wsL_sign_r1 : GoodIn wsL_law wsL_sign_r1 := goodIn_r _ [300, 301, 187, 302, 303, 304, 305, 2, 306, 12, 229, 202, 203, 204, 205, 206, 230, 231, 232, 233, 234, 235, 307, 308] (by decide +kernel) (by decide +kernel)
set_option maxRecDepth 20000 in
theorem pg_wsL_sign_r2 : GoodIn wsL_law wsL_sign_r2 := goodIn_r _ [309, 310, 24, 84, 85, 86, 87, 88, 89, 90, 91, 23, 92, 93, 74, 94, 42, 43, 44, 95, 75, 96, 97, 98] (by decide +kernel) (by decide +kernel)
set_option maxRecDepth 20000 in
theorem pg_wsL_sign_r3 : GoodIn wsL_law wsL_sign_r3 := goodIn_r _ [99, 100, 77, 78, 101, 79, 72, 73, 76, 102, 70, 71, 103, 46, 47, 48, 104, 105, 106, 107, 108, 109, 110, 111] (by decide +kernel) (by decide +kernel)
