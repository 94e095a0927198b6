set_option maxRecDepth 20000 in
theorem ggX5_greatestGap_X5_hasEnd : GoodIn wsX5_greatestGap wsX5_hasEnd := goodIn_r _ [7, 8, 9, 10, 6, 11, 16, 17, 18, 19, 20, 21, 22, 23, 24, 25, 26, 27, 28, 29, 30, 31, 32, 33, 34, 35, 36, 37, 38] (by decide +kernel) (by decide +kernel)
set_option maxRecDepth 20000 in
theorem gX5_greatestGap_X5_hasEnd : GoodIn wsX5_greatestGap (wsV RX5 148 RX5 yX5_hasEnd wsX5_hasEnd) := goodIn_app (goodIn_of _ (by decide +kernel)) ggX5_greatestGap_X5_hasEnd
set_option maxRecDepth 20000 in
theorem ggX5_greatestGap_X5_pays : GoodIn wsX5_greatestGap wsX5_pays := goodIn_r _ [15, 2, 8, 16, 17, 18, 19, 20, 21, 22, 23, 24, 25, 26, 27, 28, 29, 30, 31, 32, 33, 34, 35, 36, 37, 38] (by decide +kernel) (by decide +kernel)
set_option maxRecDepth 20000 in
theorem gX5_greatestGap_X5_pays : GoodIn wsX5_greatestGap (wsV RX5 152 RX5 yX5_pays wsX5_pays) := goodIn_app (goodIn_of _ (by decide +kernel)) ggX5_greatestGap_X5_pays
set_option maxRecDepth 20000 in
theorem ggX5_tables_X5_in : GoodIn wsX5_tables wsX5_in := goodIn_r _ [5] (by decide +kernel) (by decide +kernel)
set_option maxRecDepth 20000 in
theorem gX5_tables_X5_in : GoodIn wsX5_tables (va_wsS RX5 58 yX5_in wsX5_in) := goodIn_app (goodIn_of _ (by decide +kernel)) ggX5_tables_X5_in
