set_option maxRecDepth 20000 in
theorem ggL_law_L_isError : GoodIn wsL_law wsL_isError := goodIn_r _ [428, 61, 221] (by decide +kernel) (by decide +kernel)
set_option maxRecDepth 20000 in
theorem gL_law_L_isError : GoodIn wsL_law (va_wsS RL 144 yL_isError wsL_isError) := goodIn_app (goodIn_of _ (by decide +kernel)) ggL_law_L_isError
set_option maxRecDepth 20000 in
theorem ggL_law_L_low : GoodIn wsL_law wsL_low := goodIn_r _ [149, 150] (by decide +kernel) (by decide +kernel)
set_option maxRecDepth 20000 in
theorem gL_law_L_low : GoodIn wsL_law (va_wsS RL 9 yL_low wsL_low) := goodIn_app (goodIn_of _ (by decide +kernel)) ggL_law_L_low
