set_option maxRecDepth 20000 in
theorem gL_law_L_profiles : GoodIn wsL_law (va_wsS RL 149 yL_profiles wsL_profiles) := goodIn_app (goodIn_of _ (by decide +kernel)) ggL_law_L_profiles
