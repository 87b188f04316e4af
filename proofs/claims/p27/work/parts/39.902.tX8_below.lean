set_option maxRecDepth 20000 in
theorem tg_X8_below : GoodIn lw_tbl (wsV RL 114 RX8 yX8_below wsX8_below) := z_goodT _ [(3, 32), (3, 33), (3, 34), (1, 7), (3, 35), (3, 36), (3, 28), (3, 29)] (by decide +kernel) (by decide +kernel)
