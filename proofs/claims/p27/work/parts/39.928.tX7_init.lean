set_option maxRecDepth 20000 in
theorem tg_X7_init : GoodIn lw_tbl wsX7_init := z_goodT _ [(2, 177), (2, 178), (1, 29), (1, 30)] (by decide +kernel) (by decide +kernel)
