set_option maxRecDepth 20000 in
theorem tg_X6_init : GoodIn lw_tbl wsX6_init := z_goodT _ [(2, 132), (2, 133), (1, 29), (1, 30), (2, 136), (2, 138), (1, 136), (2, 141), (2, 134), (2, 143), (2, 145), (2, 147), (2, 149), (2, 151), (2, 153)] (by decide +kernel) (by decide +kernel)
