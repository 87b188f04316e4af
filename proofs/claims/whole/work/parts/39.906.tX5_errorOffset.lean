set_option maxRecDepth 20000 in
theorem tg_X5_errorOffset : GoodIn lw_tbl (wsV RL 90 RX5 yX5_errorOffset wsX5_errorOffset) := z_goodT _ [(2, 32), (2, 33), (2, 34), (1, 1), (2, 35), (2, 4), (2, 5), (2, 7), (2, 9), (2, 11), (2, 13), (2, 15), (2, 17)] (by decide +kernel) (by decide +kernel)
