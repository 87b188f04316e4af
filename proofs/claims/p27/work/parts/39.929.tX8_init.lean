set_option maxRecDepth 20000 in
theorem tg_X8_init : GoodIn lw_tbl wsX8_init := z_goodT _ [(3, 26), (3, 27), (1, 29), (1, 30), (3, 28), (3, 29)] (by decide +kernel) (by decide +kernel)
