set_option maxRecDepth 20000 in
theorem tg_X6_adds : GoodIn lw_tbl (wsV RL 158 RX6 yX6_adds wsX6_adds) := z_goodT _ [(2, 210), (2, 211), (2, 212), (1, 8), (2, 213), (2, 143), (2, 134), (2, 145), (2, 147), (2, 149), (2, 151), (2, 153)] (by decide +kernel) (by decide +kernel)
