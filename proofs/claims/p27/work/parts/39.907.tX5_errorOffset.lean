set_option maxRecDepth 20000 in
theorem tg_X5_errorOffset : GoodIn lw_tbl (wsV RL 212 RX5 yX5_errorOffset wsX5_errorOffset) := z_goodT _ [(2, 21), (2, 22), (2, 23), (1, 1), (2, 24), (2, 5), (2, 6), (2, 8), (2, 10), (2, 12), (2, 14), (2, 16), (2, 18)] (by decide +kernel) (by decide +kernel)
