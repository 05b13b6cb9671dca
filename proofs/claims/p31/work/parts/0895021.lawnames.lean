set_option maxRecDepth 100000 in
theorem ggL_law_L_holds_p0 : GoodIn wsL_law [.code yL_holds cL_holds 17 (some .boolean)] := goodIn_p _ [597] rfl (by decide +kernel)
