set_option maxRecDepth 20000 in
theorem ggL_law_L_holds_p0 : GoodIn wsL_law [.code yL_holds cL_holds 17 (some .boolean)] := goodIn_r _ [597] (by decide +kernel) (by decide +kernel)
