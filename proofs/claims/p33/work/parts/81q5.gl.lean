set_option maxRecDepth 20000 in
theorem iq_X0 : GoodIn wsL_law wsX00 := goodIn_r _ [531, 532, 533, 534, 535, 536] (by decide +kernel) (by decide +kernel)
