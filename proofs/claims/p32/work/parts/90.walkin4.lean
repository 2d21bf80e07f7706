set_option maxRecDepth 20000 in
theorem wk_0 : GoodIn wsL_law [Cond.code yL_isWalk cL_isWalk 22 (some .boolean)] := goodIn_r _ [88] rfl (by decide +kernel)
