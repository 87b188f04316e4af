set_option maxRecDepth 20000 in
theorem ggL_flush_X5_append : GoodIn wsL_flush wsX5_append := goodIn_r _ [5, 6, 7, 8, 9, 10, 11, 12, 13, 14, 15, 16, 17, 18, 19, 20, 21, 22, 23, 24, 25, 26, 27, 28, 29, 30, 31, 32, 33] (by decide +kernel) (by decide +kernel)
set_option maxRecDepth 20000 in
theorem gL_flush_X5_append : GoodIn wsL_flush (wsV RL 13 RX5 yX5_append wsX5_append) := goodIn_app (goodIn_of _ (by decide +kernel)) ggL_flush_X5_append
set_option maxRecDepth 20000 in
theorem ggL_put_L_flush : GoodIn wsL_put wsL_flush := goodIn_r _ [4, 5, 6, 7, 8, 9, 10, 11, 12, 13, 14, 15, 16, 17, 18, 19, 20, 21, 22, 23, 24, 25, 26, 27, 28, 29, 30, 31, 32, 33, 34, 35, 36, 37] (by decide +kernel) (by decide +kernel)
set_option maxRecDepth 20000 in
theorem gL_put_L_flush : GoodIn wsL_put (va_wsS RL 7 yL_flush wsL_flush) := goodIn_app (goodIn_of _ (by decide +kernel)) ggL_put_L_flush
set_option maxRecDepth 20000 in
theorem ggL_write_L_put : GoodIn wsL_write wsL_put := goodIn_r _ [53, 54, 55, 52, 56, 57, 58, 59, 60, 61, 62, 63, 64, 65, 66, 67, 68, 69, 70, 71, 72, 73, 74, 75, 76, 77, 78, 79, 80, 81, 82, 83, 84, 85, 86, 87, 88, 89] (by decide +kernel) (by decide +kernel)
set_option maxRecDepth 20000 in
theorem gL_write_L_put : GoodIn wsL_write (va_wsS RL 33 yL_put wsL_put) := goodIn_app (goodIn_of _ (by decide +kernel)) ggL_write_L_put
set_option maxRecDepth 20000 in
theorem ggL_write_J0_length_8abf5 : GoodIn wsL_write wsJ0_length_8abf5 := goodIn_r _ [5, 6, 7, 8, 9, 4, 10, 11, 12] (by decide +kernel) (by decide +kernel)
set_option maxRecDepth 20000 in
theorem gL_write_J0_length_8abf5 : GoodIn wsL_write (wsV RL 23 RJ0 yJ0_length_8abf5 wsJ0_length_8abf5) := goodIn_app (goodIn_of _ (by decide +kernel)) ggL_write_J0_length_8abf5
set_option maxRecDepth 20000 in
theorem ggL_write_J0_charAt_5068e : GoodIn wsL_write wsJ0_charAt_5068e := goodIn_r _ [16, 6, 17, 18, 19, 4, 20, 11, 12, 21, 22, 23, 24, 25, 26, 27, 28, 29, 30, 31, 32, 33, 34, 35, 36, 37, 38, 39, 40, 41, 42, 43, 44, 45, 46, 47, 48, 49] (by decide +kernel) (by decide +kernel)
set_option maxRecDepth 20000 in
theorem gL_write_J0_charAt_5068e : GoodIn wsL_write (wsV RL 29 RJ0 yJ0_charAt_5068e wsJ0_charAt_5068e) := goodIn_app (goodIn_of _ (by decide +kernel)) ggL_write_J0_charAt_5068e
set_option maxRecDepth 20000 in
theorem ggL_writeNumber_L_put : GoodIn wsL_writeNumber wsL_put := goodIn_r _ [4, 5, 6, 3, 7, 8, 9, 10, 11, 12, 13, 14, 15, 16, 17, 18, 19, 20, 21, 22, 23, 24, 25, 26, 27, 28, 29, 30, 31, 32, 33, 34, 35, 36, 37, 38, 39, 40] (by decide +kernel) (by decide +kernel)
set_option maxRecDepth 20000 in
theorem gL_writeNumber_L_put : GoodIn wsL_writeNumber (va_wsS RL 33 yL_put wsL_put) := goodIn_app (goodIn_of _ (by decide +kernel)) ggL_writeNumber_L_put
set_option maxRecDepth 20000 in
theorem ggL_writeAll_L_write : GoodIn wsL_writeAll wsL_write := goodIn_r _ [4, 5, 6, 7, 8, 9, 10, 11, 12, 13, 14, 15, 16, 17, 18, 19, 20, 21, 22, 23, 24, 25, 26, 27, 28, 29, 30, 31, 32, 33, 34, 35, 36, 37, 38, 39, 40, 41, 42, 43, 44, 45, 46, 47, 48, 49, 50, 51, 52, 53, 54, 55, 3, 56, 57, 58, 59, 60, 61, 62, 63, 64, 65, 66, 67, 68, 69, 70, 71, 72, 73, 74, 75, 76, 77, 81, 82, 83, 84, 85, 86, 87, 88, 89, 90, 91, 92, 93, 94, 95] (by decide +kernel) (by decide +kernel)
set_option maxRecDepth 20000 in
theorem gL_writeAll_L_write : GoodIn wsL_writeAll (va_wsS RL 102 yL_write wsL_write) := goodIn_app (goodIn_of _ (by decide +kernel)) ggL_writeAll_L_write
set_option maxRecDepth 20000 in
theorem ggL_writeAll_L_writeNumber : GoodIn wsL_writeAll wsL_writeNumber := goodIn_r _ [80, 54, 55, 3, 56, 57, 58, 59, 60, 61, 62, 63, 64, 65, 66, 67, 68, 69, 70, 71, 72, 73, 74, 75, 76, 77, 81, 82, 83, 84, 85, 86, 87, 88, 89, 90, 91, 92, 93, 94, 95] (by decide +kernel) (by decide +kernel)
set_option maxRecDepth 20000 in
theorem gL_writeAll_L_writeNumber : GoodIn wsL_writeAll (va_wsS RL 108 yL_writeNumber wsL_writeNumber) := goodIn_app (goodIn_of _ (by decide +kernel)) ggL_writeAll_L_writeNumber
