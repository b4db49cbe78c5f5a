set_option maxRecDepth 20000 in
theorem ggX5_lays_X5_finds : GoodIn wsX5_lays wsX5_finds := goodIn_r _ [22, 23, 9, 31, 32, 33, 34, 35, 36, 37, 38, 39, 40, 41, 42, 43, 44, 45, 46, 47] (by decide +kernel) (by decide +kernel)
set_option maxRecDepth 20000 in
theorem gX5_lays_X5_finds : GoodIn wsX5_lays (wsV RX5 65 RX5 yX5_finds wsX5_finds) := goodIn_app (goodIn_of _ (by decide +kernel)) ggX5_lays_X5_finds
set_option maxRecDepth 20000 in
theorem ggX5_lays_X5_isSet : GoodIn wsX5_lays wsX5_isSet := goodIn_r _ [26, 27, 16, 17, 7, 18] (by decide +kernel) (by decide +kernel)
set_option maxRecDepth 20000 in
theorem gX5_lays_X5_isSet : GoodIn wsX5_lays (va_wsS RX5 110 yX5_isSet wsX5_isSet) := goodIn_app (goodIn_of _ (by decide +kernel)) ggX5_lays_X5_isSet
set_option maxRecDepth 20000 in
theorem ggX5_lays_X5_spotOf : GoodIn wsX5_lays wsX5_spotOf := goodIn_r _ [30] (by decide +kernel) (by decide +kernel)
set_option maxRecDepth 20000 in
theorem gX5_lays_X5_spotOf : GoodIn wsX5_lays (va_wsS RX5 58 yX5_spotOf wsX5_spotOf) := goodIn_app (goodIn_of _ (by decide +kernel)) ggX5_lays_X5_spotOf
set_option maxRecDepth 20000 in
theorem ggX5_wrongBook_X5_wrong : GoodIn wsX5_wrongBook wsX5_wrong := goodIn_r _ [6, 1, 7, 8, 9, 10, 5, 11, 12, 13, 14, 15, 21, 22, 23, 24, 25, 26, 27, 28, 29, 30, 31, 32, 33, 34, 35, 36, 37] (by decide +kernel) (by decide +kernel)
set_option maxRecDepth 20000 in
theorem gX5_wrongBook_X5_wrong : GoodIn wsX5_wrongBook (wsV RX5 328 RX5 yX5_wrong wsX5_wrong) := goodIn_app (goodIn_of _ (by decide +kernel)) ggX5_wrongBook_X5_wrong
set_option maxRecDepth 20000 in
theorem ggX5_wrongBook_X5_isOne : GoodIn wsX5_wrongBook wsX5_isOne := goodIn_r _ [19, 20, 13, 14, 5, 15, 21, 22, 23, 24, 25, 26, 27, 28, 29, 30, 31, 32, 33, 34, 35, 36, 37] (by decide +kernel) (by decide +kernel)
set_option maxRecDepth 20000 in
theorem gX5_wrongBook_X5_isOne : GoodIn wsX5_wrongBook (wsV RX5 54 RX5 yX5_isOne wsX5_isOne) := goodIn_app (goodIn_of _ (by decide +kernel)) ggX5_wrongBook_X5_isOne
set_option maxRecDepth 20000 in
theorem ggX5_book_X5_wrongBook : GoodIn wsX5_book wsX5_wrongBook := goodIn_r _ [7, 8, 9, 10, 11, 6, 12, 13, 14, 15, 16, 17, 18, 19, 20, 21, 22, 23, 24, 25, 26, 97, 98, 99, 100, 101, 102, 103, 104, 105, 106, 107, 108, 109, 110, 111, 112, 113] (by decide +kernel) (by decide +kernel)
set_option maxRecDepth 20000 in
theorem gX5_book_X5_wrongBook : GoodIn wsX5_book (wsV RX5 335 RX5 yX5_wrongBook wsX5_wrongBook) := goodIn_app (goodIn_of _ (by decide +kernel)) ggX5_book_X5_wrongBook
set_option maxRecDepth 20000 in
theorem ggX5_book_X5_finds : GoodIn wsX5_book wsX5_finds := goodIn_r _ [30, 31, 8, 97, 98, 99, 100, 101, 102, 103, 104, 105, 106, 107, 108, 109, 110, 111, 112, 113] (by decide +kernel) (by decide +kernel)
set_option maxRecDepth 20000 in
theorem gX5_book_X5_finds : GoodIn wsX5_book (wsV RX5 65 RX5 yX5_finds wsX5_finds) := goodIn_app (goodIn_of _ (by decide +kernel)) ggX5_book_X5_finds
set_option maxRecDepth 20000 in
theorem ggX5_book_X5_laysAside : GoodIn wsX5_book wsX5_laysAside := goodIn_r _ [35, 36, 26, 97, 98, 99, 100, 101, 102, 103, 104, 105, 106, 107, 108, 109, 110, 111, 112, 113] (by decide +kernel) (by decide +kernel)
set_option maxRecDepth 20000 in
theorem gX5_book_X5_laysAside : GoodIn wsX5_book (wsV RX5 172 RX5 yX5_laysAside wsX5_laysAside) := goodIn_app (goodIn_of _ (by decide +kernel)) ggX5_book_X5_laysAside
set_option maxRecDepth 20000 in
theorem ggX5_book_X5_its : GoodIn wsX5_book wsX5_its := goodIn_r _ [40, 26, 41, 42, 6, 43, 97, 98, 99, 100, 101, 102, 103, 104, 105, 106, 107, 108, 109, 110, 111, 112, 113] (by decide +kernel) (by decide +kernel)
set_option maxRecDepth 20000 in
theorem gX5_book_X5_its : GoodIn wsX5_book (wsV RX5 83 RX5 yX5_its wsX5_its) := goodIn_app (goodIn_of _ (by decide +kernel)) ggX5_book_X5_its
set_option maxRecDepth 20000 in
theorem ggX5_book_X5_hour : GoodIn wsX5_book wsX5_hour := goodIn_r _ [47, 26, 37, 38, 39, 6, 40, 41, 42, 43, 48, 49, 50, 51, 52, 53, 54, 55, 56, 57, 58, 59, 60, 61, 62, 63, 64, 65, 19, 20, 21, 66, 67, 68, 69, 70, 71, 72, 73, 74, 75, 76, 77, 78, 79, 80, 81, 82, 83, 84, 85, 86, 87, 88, 89, 90, 91, 92, 97, 98, 99, 100, 101, 102, 103, 104, 105, 106, 107, 108, 109, 110, 111, 112, 113] (by decide +kernel) (by decide +kernel)
set_option maxRecDepth 20000 in
theorem gX5_book_X5_hour : GoodIn wsX5_book (wsV RX5 155 RX5 yX5_hour wsX5_hour) := goodIn_app (goodIn_of _ (by decide +kernel)) ggX5_book_X5_hour
set_option maxRecDepth 20000 in
theorem ggX5_book_X5_takesBack : GoodIn wsX5_book wsX5_takesBack := goodIn_r _ [96, 26, 36, 97, 98, 99, 100, 101, 102, 103, 104, 105, 106, 107, 108, 109, 110, 111, 112, 113] (by decide +kernel) (by decide +kernel)
set_option maxRecDepth 20000 in
theorem gX5_book_X5_takesBack : GoodIn wsX5_book (wsV RX5 175 RX5 yX5_takesBack wsX5_takesBack) := goodIn_app (goodIn_of _ (by decide +kernel)) ggX5_book_X5_takesBack
set_option maxRecDepth 20000 in
theorem ggX5_isSo_X5_its : GoodIn wsX5_isSo wsX5_its := goodIn_r _ [7, 8, 9, 10, 6, 11, 64, 65, 66, 67, 68, 69, 70, 71, 72, 73, 74, 75, 76, 77, 78, 79, 80] (by decide +kernel) (by decide +kernel)
set_option maxRecDepth 20000 in
theorem gX5_isSo_X5_its : GoodIn wsX5_isSo (wsV RX5 83 RX5 yX5_its wsX5_its) := goodIn_app (goodIn_of _ (by decide +kernel)) ggX5_isSo_X5_its
set_option maxRecDepth 20000 in
theorem ggX5_isSo_X5_hour : GoodIn wsX5_isSo wsX5_hour := goodIn_r _ [15, 8, 3, 4, 5, 6, 7, 9, 10, 11, 16, 17, 18, 19, 20, 21, 22, 23, 24, 25, 26, 27, 28, 29, 30, 31, 32, 33, 34, 35, 36, 37, 38, 39, 40, 41, 42, 43, 44, 45, 46, 47, 48, 49, 50, 51, 52, 53, 54, 55, 56, 57, 58, 59, 60, 61, 62, 63, 64, 65, 66, 67, 68, 69, 70, 71, 72, 73, 74, 75, 76, 77, 78, 79, 80] (by decide +kernel) (by decide +kernel)
set_option maxRecDepth 20000 in
theorem gX5_isSo_X5_hour : GoodIn wsX5_isSo (wsV RX5 155 RX5 yX5_hour wsX5_hour) := goodIn_app (goodIn_of _ (by decide +kernel)) ggX5_isSo_X5_hour
set_option maxRecDepth 20000 in
theorem ggX5_read_X5_wrongBook : GoodIn wsX5_read wsX5_wrongBook := goodIn_r _ [6, 7, 8, 9, 10, 5, 11, 12, 13, 14, 15, 16, 17, 18, 19, 20, 21, 22, 23, 24, 1, 101, 102, 103, 104, 105, 106, 107, 108, 109, 110, 111, 112, 113, 114, 115, 116, 117] (by decide +kernel) (by decide +kernel)
set_option maxRecDepth 20000 in
theorem gX5_read_X5_wrongBook : GoodIn wsX5_read (wsV RX5 335 RX5 yX5_wrongBook wsX5_wrongBook) := goodIn_app (goodIn_of _ (by decide +kernel)) ggX5_read_X5_wrongBook
set_option maxRecDepth 20000 in
theorem ggX5_read_X5_finds : GoodIn wsX5_read wsX5_finds := goodIn_r _ [28, 29, 7, 101, 102, 103, 104, 105, 106, 107, 108, 109, 110, 111, 112, 113, 114, 115, 116, 117] (by decide +kernel) (by decide +kernel)
set_option maxRecDepth 20000 in
theorem gX5_read_X5_finds : GoodIn wsX5_read (wsV RX5 65 RX5 yX5_finds wsX5_finds) := goodIn_app (goodIn_of _ (by decide +kernel)) ggX5_read_X5_finds
set_option maxRecDepth 20000 in
theorem ggX5_read_X5_laysAside : GoodIn wsX5_read wsX5_laysAside := goodIn_r _ [33, 34, 1, 101, 102, 103, 104, 105, 106, 107, 108, 109, 110, 111, 112, 113, 114, 115, 116, 117] (by decide +kernel) (by decide +kernel)
set_option maxRecDepth 20000 in
theorem gX5_read_X5_laysAside : GoodIn wsX5_read (wsV RX5 172 RX5 yX5_laysAside wsX5_laysAside) := goodIn_app (goodIn_of _ (by decide +kernel)) ggX5_read_X5_laysAside
set_option maxRecDepth 20000 in
theorem ggX5_read_X5_spotOf : GoodIn wsX5_read wsX5_spotOf := goodIn_r _ [37] (by decide +kernel) (by decide +kernel)
set_option maxRecDepth 20000 in
theorem gX5_read_X5_spotOf : GoodIn wsX5_read (va_wsS RX5 58 yX5_spotOf wsX5_spotOf) := goodIn_app (goodIn_of _ (by decide +kernel)) ggX5_read_X5_spotOf
set_option maxRecDepth 20000 in
theorem ggX5_read_X5_isSo : GoodIn wsX5_read wsX5_isSo := goodIn_r _ [41, 42, 43, 44, 45, 46, 5, 47, 1, 35, 36, 37, 48, 49, 50, 51, 52, 53, 54, 55, 56, 57, 58, 59, 60, 61, 62, 63, 64, 65, 66, 67, 68, 69, 18, 19, 20, 70, 71, 72, 73, 74, 75, 76, 77, 78, 79, 80, 81, 82, 83, 84, 85, 86, 87, 88, 89, 90, 91, 92, 93, 94, 95, 96, 101, 102, 103, 104, 105, 106, 107, 108, 109, 110, 111, 112, 113, 114, 115, 116, 117] (by decide +kernel) (by decide +kernel)
set_option maxRecDepth 20000 in
theorem gX5_read_X5_isSo : GoodIn wsX5_read (wsV RX5 338 RX5 yX5_isSo wsX5_isSo) := goodIn_app (goodIn_of _ (by decide +kernel)) ggX5_read_X5_isSo
set_option maxRecDepth 20000 in
theorem ggX5_read_X5_takesBack : GoodIn wsX5_read wsX5_takesBack := goodIn_r _ [100, 1, 34, 101, 102, 103, 104, 105, 106, 107, 108, 109, 110, 111, 112, 113, 114, 115, 116, 117] (by decide +kernel) (by decide +kernel)
set_option maxRecDepth 20000 in
theorem gX5_read_X5_takesBack : GoodIn wsX5_read (wsV RX5 175 RX5 yX5_takesBack wsX5_takesBack) := goodIn_app (goodIn_of _ (by decide +kernel)) ggX5_read_X5_takesBack
set_option maxRecDepth 20000 in
theorem ggX5_undo_X5_finds : GoodIn wsX5_undo wsX5_finds := goodIn_r _ [9, 10, 11, 12, 13, 14, 15, 16, 17, 18, 19, 20, 21, 22, 23, 24, 25, 26, 27, 28] (by decide +kernel) (by decide +kernel)
set_option maxRecDepth 20000 in
theorem gX5_undo_X5_finds : GoodIn wsX5_undo (wsV RX5 65 RX5 yX5_finds wsX5_finds) := goodIn_app (goodIn_of _ (by decide +kernel)) ggX5_undo_X5_finds
set_option maxRecDepth 20000 in
theorem ggX5_tipped_X5_its : GoodIn wsX5_tipped wsX5_its := goodIn_r _ [6, 1, 7, 8, 5, 9, 10, 11, 12, 13, 14, 15, 16, 17, 18, 19, 20, 21, 22, 23, 24, 25, 26] (by decide +kernel) (by decide +kernel)
set_option maxRecDepth 20000 in
theorem gX5_tipped_X5_its : GoodIn wsX5_tipped (wsV RX5 83 RX5 yX5_its wsX5_its) := goodIn_app (goodIn_of _ (by decide +kernel)) ggX5_tipped_X5_its
set_option maxRecDepth 20000 in
theorem ggX5_count_X5_ones : GoodIn wsX5_count wsX5_ones := goodIn_r _ [7] (by decide +kernel) (by decide +kernel)
set_option maxRecDepth 20000 in
theorem gX5_count_X5_ones : GoodIn wsX5_count (va_wsS RX5 145 yX5_ones wsX5_ones) := goodIn_app (goodIn_of _ (by decide +kernel)) ggX5_count_X5_ones
set_option maxRecDepth 20000 in
theorem ggX5_count_X5_tipped : GoodIn wsX5_count wsX5_tipped := goodIn_r _ [11, 1, 12, 13, 14, 6, 15, 16, 17, 18, 24, 25, 26, 27, 28, 29, 30, 31, 32, 33, 34, 35, 36, 37, 38, 39, 40] (by decide +kernel) (by decide +kernel)
set_option maxRecDepth 20000 in
theorem gX5_count_X5_tipped : GoodIn wsX5_count (wsV RX5 344 RX5 yX5_tipped wsX5_tipped) := goodIn_app (goodIn_of _ (by decide +kernel)) ggX5_count_X5_tipped
set_option maxRecDepth 20000 in
theorem ggX5_count_X5_finds : GoodIn wsX5_count wsX5_finds := goodIn_r _ [22, 23, 3, 24, 25, 26, 27, 28, 29, 30, 31, 32, 33, 34, 35, 36, 37, 38, 39, 40] (by decide +kernel) (by decide +kernel)
set_option maxRecDepth 20000 in
theorem gX5_count_X5_finds : GoodIn wsX5_count (wsV RX5 65 RX5 yX5_finds wsX5_finds) := goodIn_app (goodIn_of _ (by decide +kernel)) ggX5_count_X5_finds
set_option maxRecDepth 20000 in
theorem ggX5_status_X5_in : GoodIn wsX5_status wsX5_in := goodIn_r _ [8] (by decide +kernel) (by decide +kernel)
set_option maxRecDepth 20000 in
theorem gX5_status_X5_in : GoodIn wsX5_status (va_wsS RX5 44 yX5_in wsX5_in) := goodIn_app (goodIn_of _ (by decide +kernel)) ggX5_status_X5_in
set_option maxRecDepth 20000 in
theorem ggX5_status_X5_finds : GoodIn wsX5_status wsX5_finds := goodIn_r _ [12, 4, 3, 13, 14, 15, 16, 17, 18, 19, 20, 21, 22, 23, 24, 25, 26, 27, 28, 29] (by decide +kernel) (by decide +kernel)
set_option maxRecDepth 20000 in
theorem gX5_status_X5_finds : GoodIn wsX5_status (wsV RX5 65 RX5 yX5_finds wsX5_finds) := goodIn_app (goodIn_of _ (by decide +kernel)) ggX5_status_X5_finds
set_option maxRecDepth 20000 in
theorem ggL_law_X4_init : GoodIn wsL_law wsX4_init := goodIn_r _ [9, 10, 11, 12, 13, 14, 15, 16, 17, 18, 19, 20, 21, 22, 23, 24, 25, 26, 27, 28, 29, 30, 31, 32, 33, 34, 35, 36, 37, 38, 39, 40, 41, 42, 43, 44, 45, 46, 47, 48, 49, 50, 51, 52, 53, 54, 55, 56, 1098, 1099, 1100, 1101, 1102, 1103, 1104, 1105, 1106, 1073, 1074, 1075, 1076, 1077, 1078, 1079, 1080, 1107, 1108, 1109, 1110, 1111, 1112, 1113, 1114, 1115, 1116, 1117, 1118, 1119, 1120] (by decide +kernel) (by decide +kernel)
set_option maxRecDepth 20000 in
theorem gL_law_X4_init : GoodIn wsL_law (wsX4_init) := ggL_law_X4_init
set_option maxRecDepth 20000 in
theorem ggL_law_X5_init : GoodIn wsL_law wsX5_init := goodIn_r _ [59, 60, 11, 12, 31, 61, 62, 63, 64, 65, 66, 67, 68, 55, 69, 70, 1081, 1082, 1083, 1084, 1085, 1086, 1087, 1088, 1089, 1090, 1091, 1092, 1093, 1094, 1095, 1096, 1097] (by decide +kernel) (by decide +kernel)
set_option maxRecDepth 20000 in
theorem gL_law_X5_init : GoodIn wsL_law (wsX5_init) := ggL_law_X5_init
set_option maxRecDepth 20000 in
theorem ggL_law_X4_fence : GoodIn wsL_law wsX4_fence := goodIn_r _ [74, 16, 75, 76, 2, 77, 78, 79, 80, 81, 82, 83, 84, 85, 86, 87, 32, 88, 89, 90, 91, 15, 92, 93, 94, 95, 96, 97, 1073, 1074, 1075, 1076, 1077, 1078, 1079, 1080, 1098, 1099, 1100, 1101, 1102, 1103, 1104, 1105, 1106] (by decide +kernel) (by decide +kernel)
set_option maxRecDepth 20000 in
theorem gL_law_X4_fence : GoodIn wsL_law (wsV RL 13 RX4 yX4_fence wsX4_fence) := goodIn_app (goodIn_of _ (by decide +kernel)) ggL_law_X4_fence
set_option maxRecDepth 20000 in
theorem ggL_law_X5_fence : GoodIn wsL_law wsX5_fence := goodIn_r _ [101, 102, 103, 104, 5, 105, 106, 107, 108, 109, 110, 111, 112, 113, 65, 114, 115, 116, 117, 61, 118, 119, 120, 121, 1081, 1082, 1083, 1084, 1085, 1086, 1087, 1088, 1089, 1090, 1091, 1092, 1093, 1094, 1095, 1096, 1097] (by decide +kernel) (by decide +kernel)
set_option maxRecDepth 20000 in
theorem gL_law_X5_fence : GoodIn wsL_law (wsV RL 17 RX5 yX5_fence wsX5_fence) := goodIn_app (goodIn_of _ (by decide +kernel)) ggL_law_X5_fence
set_option maxRecDepth 20000 in
theorem ggL_law_X4_spot : GoodIn wsL_law wsX4_spot := goodIn_r _ [125, 16, 78, 79, 2, 80, 75, 76, 77, 84, 85, 86, 87, 32, 88, 1073, 1074, 1075, 1076, 1077, 1078, 1079, 1080, 1098, 1099, 1100, 1101, 1102, 1103, 1104, 1105, 1106] (by decide +kernel) (by decide +kernel)
set_option maxRecDepth 20000 in
theorem gL_law_X4_spot : GoodIn wsL_law (wsV RL 18 RX4 yX4_spot wsX4_spot) := goodIn_app (goodIn_of _ (by decide +kernel)) ggL_law_X4_spot
set_option maxRecDepth 20000 in
theorem ggL_law_X5_spot : GoodIn wsL_law wsX5_spot := goodIn_r _ [129, 130, 102, 107, 108, 5, 109, 103, 104, 105, 106, 131, 132, 133, 134, 61, 110, 111, 112, 113, 65, 1081, 1082, 1083, 1084, 1085, 1086, 1087, 1088, 1089, 1090, 1091, 1092, 1093, 1094, 1095, 1096, 1097] (by decide +kernel) (by decide +kernel)
set_option maxRecDepth 20000 in
theorem gL_law_X5_spot : GoodIn wsL_law (wsV RL 21 RX5 yX5_spot wsX5_spot) := goodIn_app (goodIn_of _ (by decide +kernel)) ggL_law_X5_spot
set_option maxRecDepth 20000 in
theorem ggL_law_X4_rain : GoodIn wsL_law wsX4_rain := goodIn_r _ [138, 139, 16, 140, 141, 2, 142, 84, 85, 86, 87, 32, 88, 1073, 1074, 1075, 1076, 1077, 1078, 1079, 1080, 1098, 1099, 1100, 1101, 1102, 1103, 1104, 1105, 1106] (by decide +kernel) (by decide +kernel)
set_option maxRecDepth 20000 in
theorem gL_law_X4_rain : GoodIn wsL_law (wsV RL 22 RX4 yX4_rain wsX4_rain) := goodIn_app (goodIn_of _ (by decide +kernel)) ggL_law_X4_rain
set_option maxRecDepth 20000 in
theorem ggL_law_X5_rain : GoodIn wsL_law wsX5_rain := goodIn_r _ [146, 147, 102, 107, 108, 5, 109, 131, 132, 133, 134, 61, 110, 111, 112, 113, 65, 1081, 1082, 1083, 1084, 1085, 1086, 1087, 1088, 1089, 1090, 1091, 1092, 1093, 1094, 1095, 1096, 1097] (by decide +kernel) (by decide +kernel)
set_option maxRecDepth 20000 in
theorem gL_law_X5_rain : GoodIn wsL_law (wsV RL 26 RX5 yX5_rain wsX5_rain) := goodIn_app (goodIn_of _ (by decide +kernel)) ggL_law_X5_rain
set_option maxRecDepth 20000 in
theorem ggL_law_X4_cell : GoodIn wsL_law wsX4_cell := goodIn_r _ [151, 16, 75, 76, 2, 77, 78, 79, 80, 84, 85, 86, 87, 32, 88, 89, 90, 91, 15, 92, 93, 152, 153, 154, 155, 156, 39, 157, 158, 159, 160, 40, 1073, 1074, 1075, 1076, 1077, 1078, 1079, 1080, 1098, 1099, 1100, 1101, 1102, 1103, 1104, 1105, 1106] (by decide +kernel) (by decide +kernel)
set_option maxRecDepth 20000 in
theorem gL_law_X4_cell : GoodIn wsL_law (wsV RL 27 RX4 yX4_cell wsX4_cell) := goodIn_app (goodIn_of _ (by decide +kernel)) ggL_law_X4_cell
set_option maxRecDepth 20000 in
theorem ggL_law_X5_cell : GoodIn wsL_law wsX5_cell := goodIn_r _ [164, 130, 102, 103, 104, 5, 105, 106, 107, 108, 109, 110, 111, 112, 113, 65, 114, 115, 116, 117, 61, 165, 166, 167, 168, 169, 170, 171, 172, 173, 174, 175, 176, 177, 178, 179, 1081, 1082, 1083, 1084, 1085, 1086, 1087, 1088, 1089, 1090, 1091, 1092, 1093, 1094, 1095, 1096, 1097] (by decide +kernel) (by decide +kernel)
set_option maxRecDepth 20000 in
theorem gL_law_X5_cell : GoodIn wsL_law (wsV RL 30 RX5 yX5_cell wsX5_cell) := goodIn_app (goodIn_of _ (by decide +kernel)) ggL_law_X5_cell
set_option maxRecDepth 20000 in
theorem ggL_law_X4_tortoise : GoodIn wsL_law wsX4_tortoise := goodIn_r _ [183, 16, 184, 185, 2, 186, 78, 79, 80, 75, 76, 77, 140, 141, 142, 84, 85, 86, 87, 32, 88, 187, 188, 189, 15, 190, 156, 191, 192, 193, 194, 38, 39, 40, 42, 1073, 1074, 1075, 1076, 1077, 1078, 1079, 1080, 1098, 1099, 1100, 1101, 1102, 1103, 1104, 1105, 1106] (by decide +kernel) (by decide +kernel)
set_option maxRecDepth 20000 in
theorem gL_law_X4_tortoise : GoodIn wsL_law (wsV RL 31 RX4 yX4_tortoise wsX4_tortoise) := goodIn_app (goodIn_of _ (by decide +kernel)) ggL_law_X4_tortoise
set_option maxRecDepth 20000 in
theorem ggL_law_X5_tortoise : GoodIn wsL_law wsX5_tortoise := goodIn_r _ [198, 102, 61, 199, 200, 201, 5, 202, 203, 107, 108, 109, 103, 104, 105, 106, 204, 205, 206, 207, 110, 111, 112, 113, 65, 208, 209, 210, 211, 173, 174, 175, 1081, 1082, 1083, 1084, 1085, 1086, 1087, 1088, 1089, 1090, 1091, 1092, 1093, 1094, 1095, 1096, 1097] (by decide +kernel) (by decide +kernel)
set_option maxRecDepth 20000 in
theorem gL_law_X5_tortoise : GoodIn wsL_law (wsV RL 35 RX5 yX5_tortoise wsX5_tortoise) := goodIn_app (goodIn_of _ (by decide +kernel)) ggL_law_X5_tortoise
set_option maxRecDepth 20000 in
theorem ggL_law_X4_of : GoodIn wsL_law wsX4_of := goodIn_r _ [215, 16, 216, 217, 218, 15, 219, 156, 79, 2, 80, 84, 85, 86, 87, 32, 88, 220, 221, 222, 223, 38, 37, 39, 224, 225, 226, 227, 228, 229, 230, 231, 232, 233, 234, 235, 236, 237, 238, 239, 240, 241, 1073, 1074, 1075, 1076, 1077, 1078, 1079, 1080, 1098, 1099, 1100, 1101, 1102, 1103, 1104, 1105, 1106] (by decide +kernel) (by decide +kernel)
set_option maxRecDepth 20000 in
theorem gL_law_X4_of : GoodIn wsL_law (wsV RL 36 RX4 yX4_of wsX4_of) := goodIn_app (goodIn_of _ (by decide +kernel)) ggL_law_X4_of
set_option maxRecDepth 20000 in
theorem ggL_law_X5_of : GoodIn wsL_law wsX5_of := goodIn_r _ [245, 203, 102, 246, 247, 248, 5, 249, 61, 107, 108, 109, 110, 111, 112, 113, 65, 169, 170, 171, 172, 173, 174, 175, 250, 251, 252, 253, 254, 255, 256, 257, 258, 259, 260, 261, 262, 263, 264, 265, 266, 267, 268, 269, 270, 271, 1081, 1082, 1083, 1084, 1085, 1086, 1087, 1088, 1089, 1090, 1091, 1092, 1093, 1094, 1095, 1096, 1097] (by decide +kernel) (by decide +kernel)
set_option maxRecDepth 20000 in
theorem gL_law_X5_of : GoodIn wsL_law (wsV RL 39 RX5 yX5_of wsX5_of) := goodIn_app (goodIn_of _ (by decide +kernel)) ggL_law_X5_of
set_option maxRecDepth 20000 in
theorem ggL_law_X4_set : GoodIn wsL_law wsX4_set := goodIn_r _ [275, 16, 216, 217, 218, 15, 219, 156, 79, 2, 80, 84, 85, 86, 87, 32, 88, 75, 76, 77, 78, 140, 141, 142, 81, 82, 83, 1073, 1074, 1075, 1076, 1077, 1078, 1079, 1080, 1098, 1099, 1100, 1101, 1102, 1103, 1104, 1105, 1106] (by decide +kernel) (by decide +kernel)
set_option maxRecDepth 20000 in
theorem gL_law_X4_set : GoodIn wsL_law (wsV RL 40 RX4 yX4_set wsX4_set) := goodIn_app (goodIn_of _ (by decide +kernel)) ggL_law_X4_set
set_option maxRecDepth 20000 in
theorem ggL_law_X5_set : GoodIn wsL_law wsX5_set := goodIn_r _ [279, 102, 103, 104, 5, 105, 106, 107, 108, 109, 204, 205, 206, 207, 246, 247, 248, 249, 61, 173, 174, 175, 131, 132, 133, 134, 110, 111, 112, 113, 65, 1081, 1082, 1083, 1084, 1085, 1086, 1087, 1088, 1089, 1090, 1091, 1092, 1093, 1094, 1095, 1096, 1097] (by decide +kernel) (by decide +kernel)
set_option maxRecDepth 20000 in
theorem gL_law_X5_set : GoodIn wsL_law (wsV RL 43 RX5 yX5_set wsX5_set) := goodIn_app (goodIn_of _ (by decide +kernel)) ggL_law_X5_set
set_option maxRecDepth 20000 in
theorem ggL_law_X4_turn : GoodIn wsL_law wsX4_turn := goodIn_r _ [283, 16, 216, 217, 218, 15, 219, 156, 79, 2, 80, 184, 185, 186, 78, 84, 85, 86, 87, 32, 88, 1073, 1074, 1075, 1076, 1077, 1078, 1079, 1080, 1098, 1099, 1100, 1101, 1102, 1103, 1104, 1105, 1106] (by decide +kernel) (by decide +kernel)
set_option maxRecDepth 20000 in
theorem gL_law_X4_turn : GoodIn wsL_law (wsV RL 44 RX4 yX4_turn wsX4_turn) := goodIn_app (goodIn_of _ (by decide +kernel)) ggL_law_X4_turn
set_option maxRecDepth 20000 in
theorem ggL_law_X5_turn : GoodIn wsL_law wsX5_turn := goodIn_r _ [287, 102, 246, 247, 248, 5, 249, 61, 107, 108, 109, 200, 201, 202, 203, 173, 174, 175, 131, 132, 133, 134, 110, 111, 112, 113, 65, 1081, 1082, 1083, 1084, 1085, 1086, 1087, 1088, 1089, 1090, 1091, 1092, 1093, 1094, 1095, 1096, 1097] (by decide +kernel) (by decide +kernel)
set_option maxRecDepth 20000 in
theorem gL_law_X5_turn : GoodIn wsL_law (wsV RL 47 RX5 yX5_turn wsX5_turn) := goodIn_app (goodIn_of _ (by decide +kernel)) ggL_law_X5_turn
set_option maxRecDepth 20000 in
theorem ggL_law_X4_as : GoodIn wsL_law wsX4_as := goodIn_r _ [291, 16, 216, 217, 218, 15, 219, 156, 79, 2, 80, 184, 185, 186, 78, 84, 85, 86, 87, 32, 88, 292, 293, 294, 295, 1073, 1074, 1075, 1076, 1077, 1078, 1079, 1080, 1098, 1099, 1100, 1101, 1102, 1103, 1104, 1105, 1106] (by decide +kernel) (by decide +kernel)
set_option maxRecDepth 20000 in
theorem gL_law_X4_as : GoodIn wsL_law (wsV RL 48 RX4 yX4_as wsX4_as) := goodIn_app (goodIn_of _ (by decide +kernel)) ggL_law_X4_as
set_option maxRecDepth 20000 in
theorem ggL_law_X5_as : GoodIn wsL_law wsX5_as := goodIn_r _ [299, 102, 300, 246, 247, 248, 5, 249, 61, 107, 108, 109, 200, 201, 202, 203, 110, 111, 112, 113, 65, 169, 170, 171, 172, 173, 174, 175, 301, 302, 303, 1081, 1082, 1083, 1084, 1085, 1086, 1087, 1088, 1089, 1090, 1091, 1092, 1093, 1094, 1095, 1096, 1097] (by decide +kernel) (by decide +kernel)
set_option maxRecDepth 20000 in
theorem gL_law_X5_as : GoodIn wsL_law (wsV RL 51 RX5 yX5_as wsX5_as) := goodIn_app (goodIn_of _ (by decide +kernel)) ggL_law_X5_as
set_option maxRecDepth 20000 in
theorem ggL_law_X4_lend : GoodIn wsL_law wsX4_lend := goodIn_r _ [307, 16, 308, 309, 310, 2, 311, 216, 217, 218, 15, 219, 156, 79, 80, 312, 313, 314, 78, 84, 85, 86, 87, 32, 88, 315, 316, 317, 318, 40, 1073, 1074, 1075, 1076, 1077, 1078, 1079, 1080, 1098, 1099, 1100, 1101, 1102, 1103, 1104, 1105, 1106] (by decide +kernel) (by decide +kernel)
set_option maxRecDepth 20000 in
theorem gL_law_X4_lend : GoodIn wsL_law (wsV RL 52 RX4 yX4_lend wsX4_lend) := goodIn_app (goodIn_of _ (by decide +kernel)) ggL_law_X4_lend
set_option maxRecDepth 20000 in
theorem ggL_law_X5_lend : GoodIn wsL_law wsX5_lend := goodIn_r _ [322, 102, 323, 324, 325, 326, 327, 5, 328, 246, 247, 248, 249, 61, 107, 108, 109, 329, 330, 331, 332, 110, 111, 112, 113, 65, 169, 170, 171, 172, 173, 174, 175, 333, 334, 335, 336, 1081, 1082, 1083, 1084, 1085, 1086, 1087, 1088, 1089, 1090, 1091, 1092, 1093, 1094, 1095, 1096, 1097] (by decide +kernel) (by decide +kernel)
set_option maxRecDepth 20000 in
theorem gL_law_X5_lend : GoodIn wsL_law (wsV RL 55 RX5 yX5_lend wsX5_lend) := goodIn_app (goodIn_of _ (by decide +kernel)) ggL_law_X5_lend
set_option maxRecDepth 20000 in
theorem ggL_law_X4_hours : GoodIn wsL_law wsX4_hours := goodIn_r _ [340, 16, 84, 85, 86, 2, 87, 32, 88, 341, 342, 343, 15, 344, 345, 346, 347, 348, 156, 228, 349, 350, 351, 352, 42, 39, 353, 221, 222, 223, 38, 37, 224, 225, 226, 227, 229, 230, 231, 232, 233, 234, 235, 236, 237, 354, 239, 240, 241, 355, 356, 357, 358, 359, 90, 91, 92, 93, 360, 361, 362, 363, 364, 365, 366, 367, 40, 368, 369, 370, 371, 372, 373, 374, 375, 316, 317, 318, 376, 377, 378, 379, 1073, 1074, 1075, 1076, 1077, 1078, 1079, 1080, 1098, 1099, 1100, 1101, 1102, 1103, 1104, 1105, 1106] (by decide +kernel) (by decide +kernel)
set_option maxRecDepth 20000 in
theorem gL_law_X4_hours : GoodIn wsL_law (wsV RL 56 RX4 yX4_hours wsX4_hours) := goodIn_app (goodIn_of _ (by decide +kernel)) ggL_law_X4_hours
set_option maxRecDepth 20000 in
theorem ggL_law_X5_hours : GoodIn wsL_law wsX5_hours := goodIn_r _ [383, 384, 102, 61, 323, 107, 108, 5, 109, 110, 111, 112, 113, 65, 385, 386, 387, 388, 389, 390, 391, 392, 169, 170, 171, 172, 173, 174, 175, 393, 394, 395, 396, 250, 251, 252, 253, 254, 255, 256, 257, 258, 259, 260, 261, 262, 263, 264, 265, 266, 267, 268, 269, 270, 271, 397, 398, 399, 400, 114, 115, 116, 117, 401, 402, 403, 404, 405, 406, 407, 333, 334, 335, 336, 408, 409, 410, 411, 1081, 1082, 1083, 1084, 1085, 1086, 1087, 1088, 1089, 1090, 1091, 1092, 1093, 1094, 1095, 1096, 1097] (by decide +kernel) (by decide +kernel)
set_option maxRecDepth 20000 in
theorem gL_law_X5_hours : GoodIn wsL_law (wsV RL 59 RX5 yX5_hours wsX5_hours) := goodIn_app (goodIn_of _ (by decide +kernel)) ggL_law_X5_hours
set_option maxRecDepth 20000 in
theorem ggL_law_X4_now : GoodIn wsL_law wsX4_now := goodIn_r _ [415, 16, 416, 417, 225, 226, 15, 227, 228, 418, 234, 235, 236, 237, 376, 377, 378, 379, 156, 40, 368, 369, 370, 371, 372, 373, 374, 157, 158, 159, 160, 39, 419, 420, 421, 422, 423, 424, 425, 426, 84, 85, 86, 2, 87, 32, 88, 1073, 1074, 1075, 1076, 1077, 1078, 1079, 1080, 1098, 1099, 1100, 1101, 1102, 1103, 1104, 1105, 1106] (by decide +kernel) (by decide +kernel)
set_option maxRecDepth 20000 in
theorem gL_law_X4_now : GoodIn wsL_law (wsV RL 60 RX4 yX4_now wsX4_now) := goodIn_app (goodIn_of _ (by decide +kernel)) ggL_law_X4_now
set_option maxRecDepth 20000 in
theorem ggL_law_X5_now : GoodIn wsL_law wsX5_now := goodIn_r _ [430, 61, 102, 260, 261, 262, 5, 263, 264, 265, 266, 267, 408, 409, 410, 411, 169, 170, 171, 172, 173, 174, 175, 405, 406, 407, 431, 432, 433, 434, 435, 436, 437, 438, 110, 111, 112, 113, 65, 1081, 1082, 1083, 1084, 1085, 1086, 1087, 1088, 1089, 1090, 1091, 1092, 1093, 1094, 1095, 1096, 1097] (by decide +kernel) (by decide +kernel)
set_option maxRecDepth 20000 in
theorem gL_law_X5_now : GoodIn wsL_law (wsV RL 63 RX5 yX5_now wsX5_now) := goodIn_app (goodIn_of _ (by decide +kernel)) ggL_law_X5_now
set_option maxRecDepth 20000 in
theorem ggL_law_X4_on : GoodIn wsL_law wsX4_on := goodIn_r _ [442, 16, 17, 216, 217, 218, 15, 219, 156, 79, 2, 80, 443, 444, 445, 81, 82, 83, 84, 85, 86, 87, 32, 88, 446, 447, 448, 449, 93, 237, 228, 37, 38, 39, 40, 42, 341, 342, 343, 344, 345, 346, 347, 348, 349, 350, 351, 352, 353, 221, 222, 223, 224, 225, 226, 227, 229, 230, 231, 232, 233, 234, 235, 236, 354, 239, 240, 241, 355, 356, 357, 358, 359, 90, 91, 92, 360, 361, 362, 363, 364, 365, 366, 367, 368, 369, 370, 371, 372, 373, 374, 375, 316, 317, 318, 1073, 1074, 1075, 1076, 1077, 1078, 1079, 1080, 1098, 1099, 1100, 1101, 1102, 1103, 1104, 1105, 1106] (by decide +kernel) (by decide +kernel)
set_option maxRecDepth 20000 in
theorem gL_law_X4_on : GoodIn wsL_law (wsV RL 64 RX4 yX4_on wsX4_on) := goodIn_app (goodIn_of _ (by decide +kernel)) ggL_law_X4_on
set_option maxRecDepth 20000 in
theorem ggL_law_X5_on : GoodIn wsL_law wsX5_on := goodIn_r _ [453, 384, 102, 246, 247, 248, 5, 249, 61, 107, 108, 109, 110, 111, 112, 113, 65, 454, 455, 456, 457, 64, 385, 386, 387, 388, 389, 390, 391, 392, 169, 170, 171, 172, 173, 174, 175, 393, 394, 395, 396, 250, 251, 252, 253, 254, 255, 256, 257, 258, 259, 260, 261, 262, 263, 264, 265, 266, 267, 268, 269, 270, 271, 397, 398, 399, 400, 114, 115, 116, 117, 401, 402, 403, 404, 405, 406, 407, 333, 334, 335, 336, 458, 459, 460, 461, 1081, 1082, 1083, 1084, 1085, 1086, 1087, 1088, 1089, 1090, 1091, 1092, 1093, 1094, 1095, 1096, 1097] (by decide +kernel) (by decide +kernel)
set_option maxRecDepth 20000 in
theorem gL_law_X5_on : GoodIn wsL_law (wsV RL 67 RX5 yX5_on wsX5_on) := goodIn_app (goodIn_of _ (by decide +kernel)) ggL_law_X5_on
set_option maxRecDepth 20000 in
theorem ggL_law_X4_when : GoodIn wsL_law wsX4_when := goodIn_r _ [465, 16, 17, 216, 217, 218, 15, 219, 156, 79, 2, 80, 75, 76, 77, 78, 84, 85, 86, 87, 32, 88, 446, 447, 448, 449, 93, 237, 228, 37, 38, 39, 40, 42, 466, 467, 468, 469, 470, 471, 472, 473, 349, 350, 351, 352, 353, 221, 222, 223, 224, 225, 226, 227, 229, 230, 231, 232, 233, 234, 235, 236, 354, 239, 240, 241, 355, 356, 357, 358, 359, 90, 91, 92, 474, 475, 476, 477, 1073, 1074, 1075, 1076, 1077, 1078, 1079, 1080, 1098, 1099, 1100, 1101, 1102, 1103, 1104, 1105, 1106] (by decide +kernel) (by decide +kernel)
set_option maxRecDepth 20000 in
theorem gL_law_X4_when : GoodIn wsL_law (wsV RL 68 RX4 yX4_when wsX4_when) := goodIn_app (goodIn_of _ (by decide +kernel)) ggL_law_X4_when
set_option maxRecDepth 20000 in
theorem ggL_law_X5_when : GoodIn wsL_law wsX5_when := goodIn_r _ [481, 102, 246, 247, 248, 5, 249, 61, 107, 108, 109, 103, 104, 105, 106, 482, 483, 484, 485, 454, 455, 456, 457, 64, 169, 170, 171, 172, 173, 174, 175, 389, 390, 391, 392, 393, 394, 395, 396, 250, 251, 252, 253, 254, 255, 256, 257, 258, 259, 260, 261, 262, 263, 264, 265, 266, 267, 268, 269, 270, 271, 397, 398, 399, 400, 114, 115, 116, 117, 401, 402, 403, 404, 405, 406, 407, 333, 334, 335, 336, 458, 459, 460, 461, 486, 487, 488, 489, 324, 110, 111, 112, 113, 65, 1081, 1082, 1083, 1084, 1085, 1086, 1087, 1088, 1089, 1090, 1091, 1092, 1093, 1094, 1095, 1096, 1097] (by decide +kernel) (by decide +kernel)
set_option maxRecDepth 20000 in
theorem gL_law_X5_when : GoodIn wsL_law (wsV RL 71 RX5 yX5_when wsX5_when) := goodIn_app (goodIn_of _ (by decide +kernel)) ggL_law_X5_when
set_option maxRecDepth 20000 in
theorem ggL_law_X4_meet : GoodIn wsL_law wsX4_meet := goodIn_r _ [493, 17, 16, 308, 309, 310, 2, 311, 216, 217, 218, 15, 219, 156, 79, 80, 84, 85, 86, 87, 32, 88, 446, 447, 448, 449, 93, 237, 228, 37, 38, 39, 40, 42, 494, 495, 496, 497, 345, 346, 347, 348, 349, 350, 351, 352, 353, 221, 222, 223, 224, 225, 226, 227, 229, 230, 231, 232, 233, 234, 235, 236, 354, 239, 240, 241, 355, 356, 357, 358, 359, 90, 91, 92, 360, 361, 362, 363, 364, 365, 366, 367, 368, 369, 370, 371, 372, 373, 374, 375, 316, 317, 318, 474, 475, 476, 477, 1073, 1074, 1075, 1076, 1077, 1078, 1079, 1080, 1098, 1099, 1100, 1101, 1102, 1103, 1104, 1105, 1106] (by decide +kernel) (by decide +kernel)
set_option maxRecDepth 20000 in
theorem gL_law_X4_meet : GoodIn wsL_law (wsV RL 72 RX4 yX4_meet wsX4_meet) := goodIn_app (goodIn_of _ (by decide +kernel)) ggL_law_X4_meet
set_option maxRecDepth 20000 in
theorem ggL_law_X5_meet : GoodIn wsL_law wsX5_meet := goodIn_r _ [501, 102, 325, 326, 327, 5, 328, 246, 247, 248, 249, 61, 107, 108, 109, 110, 111, 112, 113, 65, 454, 455, 456, 457, 64, 169, 170, 171, 172, 173, 174, 175, 389, 390, 391, 392, 393, 394, 395, 396, 250, 251, 252, 253, 254, 255, 256, 257, 258, 259, 260, 261, 262, 263, 264, 265, 266, 267, 268, 269, 270, 271, 397, 398, 399, 400, 114, 115, 116, 117, 401, 402, 403, 404, 405, 406, 407, 333, 334, 335, 336, 458, 459, 460, 461, 486, 487, 488, 489, 324, 1081, 1082, 1083, 1084, 1085, 1086, 1087, 1088, 1089, 1090, 1091, 1092, 1093, 1094, 1095, 1096, 1097] (by decide +kernel) (by decide +kernel)
set_option maxRecDepth 20000 in
theorem gL_law_X5_meet : GoodIn wsL_law (wsV RL 75 RX5 yX5_meet wsX5_meet) := goodIn_app (goodIn_of _ (by decide +kernel)) ggL_law_X5_meet
set_option maxRecDepth 20000 in
theorem ggL_law_X4_carries : GoodIn wsL_law wsX4_carries := goodIn_r _ [505, 17, 16, 312, 313, 2, 314, 78, 79, 80, 443, 444, 445, 84, 85, 86, 87, 32, 88, 446, 447, 448, 15, 449, 93, 237, 228, 156, 37, 38, 39, 40, 42, 341, 342, 343, 344, 345, 346, 347, 348, 349, 350, 351, 352, 353, 221, 222, 223, 224, 225, 226, 227, 229, 230, 231, 232, 233, 234, 235, 236, 354, 239, 240, 241, 355, 356, 357, 358, 359, 90, 91, 92, 360, 361, 362, 363, 364, 365, 366, 367, 368, 369, 370, 371, 372, 373, 374, 375, 316, 317, 318, 506, 507, 508, 509, 1073, 1074, 1075, 1076, 1077, 1078, 1079, 1080, 1098, 1099, 1100, 1101, 1102, 1103, 1104, 1105, 1106] (by decide +kernel) (by decide +kernel)
set_option maxRecDepth 20000 in
theorem gL_law_X4_carries : GoodIn wsL_law (wsV RL 76 RX4 yX4_carries wsX4_carries) := goodIn_app (goodIn_of _ (by decide +kernel)) ggL_law_X4_carries
set_option maxRecDepth 20000 in
theorem ggL_law_X5_carries : GoodIn wsL_law wsX5_carries := goodIn_r _ [513, 384, 102, 329, 330, 5, 331, 332, 107, 108, 109, 110, 111, 112, 113, 65, 454, 455, 456, 457, 64, 61, 385, 386, 387, 388, 389, 390, 391, 392, 169, 170, 171, 172, 173, 174, 175, 393, 394, 395, 396, 250, 251, 252, 253, 254, 255, 256, 257, 258, 259, 260, 261, 262, 263, 264, 265, 266, 267, 268, 269, 270, 271, 397, 398, 399, 400, 114, 115, 116, 117, 401, 402, 403, 404, 405, 406, 407, 333, 334, 335, 336, 514, 515, 516, 517, 458, 459, 460, 461, 1081, 1082, 1083, 1084, 1085, 1086, 1087, 1088, 1089, 1090, 1091, 1092, 1093, 1094, 1095, 1096, 1097] (by decide +kernel) (by decide +kernel)
set_option maxRecDepth 20000 in
theorem gL_law_X5_carries : GoodIn wsL_law (wsV RL 79 RX5 yX5_carries wsX5_carries) := goodIn_app (goodIn_of _ (by decide +kernel)) ggL_law_X5_carries
set_option maxRecDepth 20000 in
theorem ggL_law_X4_soonest : GoodIn wsL_law wsX4_soonest := goodIn_r _ [521, 22, 16, 522, 523, 524, 2, 525, 75, 76, 77, 78, 79, 80, 312, 313, 314, 84, 85, 86, 87, 32, 88, 89, 90, 91, 15, 92, 93, 526, 527, 528, 21, 529, 47, 530, 531, 532, 447, 448, 449, 237, 228, 156, 37, 38, 39, 40, 42, 533, 534, 535, 536, 537, 538, 539, 540, 541, 542, 507, 508, 509, 543, 424, 425, 426, 544, 346, 347, 348, 349, 350, 351, 352, 353, 221, 222, 223, 224, 225, 226, 227, 229, 230, 231, 232, 233, 234, 235, 236, 354, 239, 240, 241, 355, 356, 357, 358, 359, 360, 361, 362, 363, 364, 365, 366, 367, 368, 369, 370, 371, 372, 373, 374, 375, 316, 317, 318, 545, 546, 547, 548, 549, 550, 551, 474, 475, 476, 477, 1073, 1074, 1075, 1076, 1077, 1078, 1079, 1080, 1098, 1099, 1100, 1101, 1102, 1103, 1104, 1105, 1106, 1107, 1108, 1109, 1110] (by decide +kernel) (by decide +kernel)
set_option maxRecDepth 20000 in
theorem gL_law_X4_soonest : GoodIn wsL_law (wsV RL 80 RX4 yX4_soonest wsX4_soonest) := goodIn_app (goodIn_of _ (by decide +kernel)) ggL_law_X4_soonest
set_option maxRecDepth 20000 in
theorem ggL_law_X5_soonest : GoodIn wsL_law wsX5_soonest := goodIn_r _ [555, 556, 557, 558, 5, 559, 102, 323, 103, 104, 105, 106, 107, 108, 109, 329, 330, 331, 332, 114, 115, 116, 117, 61, 110, 111, 112, 113, 65, 560, 561, 562, 563, 564, 454, 455, 456, 457, 64, 565, 566, 567, 568, 169, 170, 171, 172, 173, 174, 175, 569, 570, 571, 572, 573, 574, 575, 576, 577, 389, 390, 391, 392, 393, 394, 395, 396, 250, 251, 252, 253, 254, 255, 256, 257, 258, 259, 260, 261, 262, 263, 264, 265, 266, 267, 268, 269, 270, 271, 397, 398, 399, 400, 401, 402, 403, 404, 405, 406, 407, 333, 334, 335, 336, 458, 459, 460, 461, 486, 487, 488, 489, 324, 1081, 1082, 1083, 1084, 1085, 1086, 1087, 1088, 1089, 1090, 1091, 1092, 1093, 1094, 1095, 1096, 1097] (by decide +kernel) (by decide +kernel)
set_option maxRecDepth 20000 in
theorem gL_law_X5_soonest : GoodIn wsL_law (wsV RL 83 RX5 yX5_soonest wsX5_soonest) := goodIn_app (goodIn_of _ (by decide +kernel)) ggL_law_X5_soonest
set_option maxRecDepth 20000 in
theorem ggL_law_X4_where : GoodIn wsL_law wsX4_where := goodIn_r _ [581, 22, 16, 522, 523, 524, 2, 525, 75, 76, 77, 78, 79, 80, 312, 313, 314, 84, 85, 86, 87, 32, 88, 89, 90, 91, 15, 92, 93, 526, 527, 528, 21, 529, 47, 530, 531, 532, 447, 448, 449, 237, 228, 156, 37, 38, 39, 40, 42, 533, 534, 535, 536, 537, 538, 539, 540, 541, 542, 507, 508, 509, 543, 424, 425, 426, 544, 346, 347, 348, 349, 350, 351, 352, 353, 221, 222, 223, 224, 225, 226, 227, 229, 230, 231, 232, 233, 234, 235, 236, 354, 239, 240, 241, 355, 356, 357, 358, 359, 360, 361, 362, 363, 364, 365, 366, 367, 368, 369, 370, 371, 372, 373, 374, 375, 316, 317, 318, 545, 546, 547, 548, 549, 550, 551, 582, 583, 584, 585, 586, 587, 588, 589, 1073, 1074, 1075, 1076, 1077, 1078, 1079, 1080, 1098, 1099, 1100, 1101, 1102, 1103, 1104, 1105, 1106, 1107, 1108, 1109, 1110] (by decide +kernel) (by decide +kernel)
set_option maxRecDepth 20000 in
theorem gL_law_X4_where : GoodIn wsL_law (wsV RL 84 RX4 yX4_where wsX4_where) := goodIn_app (goodIn_of _ (by decide +kernel)) ggL_law_X4_where
set_option maxRecDepth 20000 in
theorem ggL_law_X5_where : GoodIn wsL_law wsX5_where := goodIn_r _ [593, 324, 564, 556, 557, 558, 5, 559, 102, 323, 103, 104, 105, 106, 107, 108, 109, 329, 330, 331, 332, 114, 115, 116, 117, 61, 110, 111, 112, 113, 65, 560, 561, 562, 563, 454, 455, 456, 457, 64, 565, 566, 567, 568, 169, 170, 171, 172, 173, 174, 175, 569, 570, 571, 572, 573, 574, 575, 576, 577, 389, 390, 391, 392, 393, 394, 395, 396, 250, 251, 252, 253, 254, 255, 256, 257, 258, 259, 260, 261, 262, 263, 264, 265, 266, 267, 268, 269, 270, 271, 397, 398, 399, 400, 401, 402, 403, 404, 405, 406, 407, 333, 334, 335, 336, 458, 459, 460, 461, 1081, 1082, 1083, 1084, 1085, 1086, 1087, 1088, 1089, 1090, 1091, 1092, 1093, 1094, 1095, 1096, 1097] (by decide +kernel) (by decide +kernel)
set_option maxRecDepth 20000 in
theorem gL_law_X5_where : GoodIn wsL_law (wsV RL 87 RX5 yX5_where wsX5_where) := goodIn_app (goodIn_of _ (by decide +kernel)) ggL_law_X5_where
set_option maxRecDepth 20000 in
theorem ggL_law_X4_waits : GoodIn wsL_law wsX4_waits := goodIn_r _ [597, 22, 16, 522, 523, 524, 2, 525, 75, 76, 77, 78, 79, 80, 312, 313, 314, 84, 85, 86, 87, 32, 88, 89, 90, 91, 15, 92, 93, 598, 599, 600, 21, 601, 47, 530, 531, 532, 447, 448, 449, 237, 228, 156, 37, 38, 39, 40, 42, 533, 534, 535, 536, 537, 538, 539, 540, 541, 542, 507, 508, 509, 543, 424, 425, 426, 544, 346, 347, 348, 349, 350, 351, 352, 353, 221, 222, 223, 224, 225, 226, 227, 229, 230, 231, 232, 233, 234, 235, 236, 354, 239, 240, 241, 355, 356, 357, 358, 359, 360, 361, 362, 363, 364, 365, 366, 367, 368, 369, 370, 371, 372, 373, 374, 375, 316, 317, 318, 545, 546, 547, 548, 549, 550, 551, 474, 475, 476, 477, 1073, 1074, 1075, 1076, 1077, 1078, 1079, 1080, 1098, 1099, 1100, 1101, 1102, 1103, 1104, 1105, 1106, 1107, 1108, 1109, 1110] (by decide +kernel) (by decide +kernel)
set_option maxRecDepth 20000 in
theorem gL_law_X4_waits : GoodIn wsL_law (wsV RL 88 RX4 yX4_waits wsX4_waits) := goodIn_app (goodIn_of _ (by decide +kernel)) ggL_law_X4_waits
set_option maxRecDepth 20000 in
theorem ggL_law_X5_waits : GoodIn wsL_law wsX5_waits := goodIn_r _ [605, 556, 557, 558, 5, 559, 102, 323, 103, 104, 105, 106, 107, 108, 109, 329, 330, 331, 332, 114, 115, 116, 117, 61, 110, 111, 112, 113, 65, 454, 455, 456, 457, 64, 565, 566, 567, 568, 169, 170, 171, 172, 173, 174, 175, 389, 390, 391, 392, 393, 394, 395, 396, 250, 251, 252, 253, 254, 255, 256, 257, 258, 259, 260, 261, 262, 263, 264, 265, 266, 267, 268, 269, 270, 271, 397, 398, 399, 400, 401, 402, 403, 404, 405, 406, 407, 333, 334, 335, 336, 458, 459, 460, 461, 486, 487, 488, 489, 324, 1081, 1082, 1083, 1084, 1085, 1086, 1087, 1088, 1089, 1090, 1091, 1092, 1093, 1094, 1095, 1096, 1097] (by decide +kernel) (by decide +kernel)
set_option maxRecDepth 20000 in
theorem gL_law_X5_waits : GoodIn wsL_law (wsV RL 91 RX5 yX5_waits wsX5_waits) := goodIn_app (goodIn_of _ (by decide +kernel)) ggL_law_X5_waits
set_option maxRecDepth 20000 in
theorem ggL_law_X4_waterhole : GoodIn wsL_law wsX4_waterhole := goodIn_r _ [609, 22, 416, 16, 312, 313, 2, 314, 78, 79, 80, 84, 85, 86, 87, 32, 88, 598, 599, 600, 21, 601, 47, 530, 531, 532, 447, 448, 15, 449, 93, 237, 228, 156, 37, 38, 39, 40, 42, 533, 534, 535, 536, 537, 538, 539, 540, 541, 542, 507, 508, 509, 543, 424, 425, 426, 544, 346, 347, 348, 349, 350, 351, 352, 353, 221, 222, 223, 224, 225, 226, 227, 229, 230, 231, 232, 233, 234, 235, 236, 354, 239, 240, 241, 355, 356, 357, 358, 359, 90, 91, 92, 360, 361, 362, 363, 364, 365, 366, 367, 368, 369, 370, 371, 372, 373, 374, 375, 316, 317, 318, 545, 546, 547, 548, 549, 550, 551, 582, 583, 584, 585, 586, 587, 588, 589, 1073, 1074, 1075, 1076, 1077, 1078, 1079, 1080, 1098, 1099, 1100, 1101, 1102, 1103, 1104, 1105, 1106, 1107, 1108, 1109, 1110] (by decide +kernel) (by decide +kernel)
set_option maxRecDepth 20000 in
theorem gL_law_X4_waterhole : GoodIn wsL_law (wsV RL 92 RX4 yX4_waterhole wsX4_waterhole) := goodIn_app (goodIn_of _ (by decide +kernel)) ggL_law_X4_waterhole
set_option maxRecDepth 20000 in
theorem ggL_law_X5_waterhole : GoodIn wsL_law wsX5_waterhole := goodIn_r _ [613, 102, 329, 330, 5, 331, 332, 107, 108, 109, 110, 111, 112, 113, 65, 454, 455, 456, 457, 64, 61, 565, 566, 567, 568, 169, 170, 171, 172, 173, 174, 175, 573, 574, 575, 576, 577, 389, 390, 391, 392, 393, 394, 395, 396, 250, 251, 252, 253, 254, 255, 256, 257, 258, 259, 260, 261, 262, 263, 264, 265, 266, 267, 268, 269, 270, 271, 397, 398, 399, 400, 114, 115, 116, 117, 401, 402, 403, 404, 405, 406, 407, 333, 334, 335, 336, 458, 459, 460, 461, 486, 487, 488, 489, 324, 1081, 1082, 1083, 1084, 1085, 1086, 1087, 1088, 1089, 1090, 1091, 1092, 1093, 1094, 1095, 1096, 1097] (by decide +kernel) (by decide +kernel)
set_option maxRecDepth 20000 in
theorem gL_law_X5_waterhole : GoodIn wsL_law (wsV RL 95 RX5 yX5_waterhole wsX5_waterhole) := goodIn_app (goodIn_of _ (by decide +kernel)) ggL_law_X5_waterhole
set_option maxRecDepth 20000 in
theorem ggL_law_X4_many : GoodIn wsL_law wsX4_many := goodIn_r _ [617, 16, 22, 75, 76, 2, 77, 78, 79, 80, 84, 85, 86, 87, 32, 88, 89, 90, 91, 15, 92, 93, 526, 527, 528, 21, 529, 47, 530, 531, 532, 447, 448, 449, 237, 228, 156, 37, 38, 39, 40, 42, 618, 619, 620, 621, 622, 158, 159, 160, 544, 346, 347, 348, 349, 350, 351, 352, 353, 221, 222, 223, 224, 225, 226, 227, 229, 230, 231, 232, 233, 234, 235, 236, 354, 239, 240, 241, 355, 356, 357, 358, 359, 360, 361, 362, 363, 364, 365, 366, 367, 368, 369, 370, 371, 372, 373, 374, 375, 316, 317, 318, 545, 546, 547, 548, 549, 550, 551, 589, 1073, 1074, 1075, 1076, 1077, 1078, 1079, 1080, 1098, 1099, 1100, 1101, 1102, 1103, 1104, 1105, 1106, 1107, 1108, 1109, 1110] (by decide +kernel) (by decide +kernel)
set_option maxRecDepth 20000 in
theorem gL_law_X4_many : GoodIn wsL_law (wsV RL 96 RX4 yX4_many wsX4_many) := goodIn_app (goodIn_of _ (by decide +kernel)) ggL_law_X4_many
set_option maxRecDepth 20000 in
theorem ggL_law_X5_many : GoodIn wsL_law wsX5_many := goodIn_r _ [626, 627, 102, 323, 103, 104, 5, 105, 106, 107, 108, 109, 110, 111, 112, 113, 65, 114, 115, 116, 117, 61, 560, 561, 562, 563, 564, 454, 455, 456, 457, 64, 565, 566, 567, 568, 169, 170, 171, 172, 173, 174, 175, 569, 570, 571, 572, 573, 574, 575, 576, 577, 389, 390, 391, 392, 393, 394, 395, 396, 250, 251, 252, 253, 254, 255, 256, 257, 258, 259, 260, 261, 262, 263, 264, 265, 266, 267, 268, 269, 270, 271, 397, 398, 399, 400, 401, 402, 403, 404, 405, 406, 407, 333, 334, 335, 336, 458, 459, 460, 461, 1081, 1082, 1083, 1084, 1085, 1086, 1087, 1088, 1089, 1090, 1091, 1092, 1093, 1094, 1095, 1096, 1097] (by decide +kernel) (by decide +kernel)
set_option maxRecDepth 20000 in
theorem gL_law_X5_many : GoodIn wsL_law (wsV RL 99 RX5 yX5_many wsX5_many) := goodIn_app (goodIn_of _ (by decide +kernel)) ggL_law_X5_many
set_option maxRecDepth 20000 in
theorem ggL_law_X4_both : GoodIn wsL_law wsX4_both := goodIn_r _ [631, 22, 16, 312, 313, 2, 314, 78, 79, 80, 84, 85, 86, 87, 32, 88, 522, 523, 524, 525, 75, 76, 77, 89, 90, 91, 15, 92, 93, 526, 527, 528, 21, 529, 47, 530, 531, 532, 447, 448, 449, 237, 228, 156, 37, 38, 39, 40, 42, 632, 633, 634, 635, 538, 539, 540, 541, 542, 507, 508, 509, 543, 424, 425, 426, 545, 546, 547, 548, 549, 550, 551, 544, 346, 347, 348, 349, 350, 351, 352, 353, 221, 222, 223, 224, 225, 226, 227, 229, 230, 231, 232, 233, 234, 235, 236, 354, 239, 240, 241, 355, 356, 357, 358, 359, 360, 361, 362, 363, 364, 365, 366, 367, 368, 369, 370, 371, 372, 373, 374, 375, 316, 317, 318, 474, 475, 476, 477, 1073, 1074, 1075, 1076, 1077, 1078, 1079, 1080, 1098, 1099, 1100, 1101, 1102, 1103, 1104, 1105, 1106, 1107, 1108, 1109, 1110] (by decide +kernel) (by decide +kernel)
set_option maxRecDepth 20000 in
theorem gL_law_X4_both : GoodIn wsL_law (wsV RL 100 RX4 yX4_both wsX4_both) := goodIn_app (goodIn_of _ (by decide +kernel)) ggL_law_X4_both
set_option maxRecDepth 20000 in
theorem ggL_law_X5_both : GoodIn wsL_law wsX5_both := goodIn_r _ [639, 102, 556, 557, 558, 5, 559, 323, 103, 104, 105, 106, 107, 108, 109, 329, 330, 331, 332, 114, 115, 116, 117, 61, 110, 111, 112, 113, 65, 454, 455, 456, 457, 64, 565, 566, 567, 568, 169, 170, 171, 172, 173, 174, 175, 569, 570, 571, 572, 573, 574, 575, 576, 577, 389, 390, 391, 392, 393, 394, 395, 396, 250, 251, 252, 253, 254, 255, 256, 257, 258, 259, 260, 261, 262, 263, 264, 265, 266, 267, 268, 269, 270, 271, 397, 398, 399, 400, 401, 402, 403, 404, 405, 406, 407, 333, 334, 335, 336, 458, 459, 460, 461, 486, 487, 488, 489, 324, 1081, 1082, 1083, 1084, 1085, 1086, 1087, 1088, 1089, 1090, 1091, 1092, 1093, 1094, 1095, 1096, 1097] (by decide +kernel) (by decide +kernel)
set_option maxRecDepth 20000 in
theorem gL_law_X5_both : GoodIn wsL_law (wsV RL 103 RX5 yX5_both wsX5_both) := goodIn_app (goodIn_of _ (by decide +kernel)) ggL_law_X5_both
set_option maxRecDepth 20000 in
theorem ggL_law_X4_censors : GoodIn wsL_law wsX4_censors := goodIn_r _ [643, 22, 16, 75, 76, 2, 77, 78, 79, 80, 84, 85, 86, 87, 32, 88, 522, 523, 524, 525, 312, 313, 314, 89, 90, 91, 15, 92, 93, 526, 527, 528, 21, 529, 47, 530, 531, 532, 447, 448, 449, 237, 228, 156, 37, 38, 39, 40, 42, 533, 534, 535, 536, 537, 538, 539, 540, 541, 542, 507, 508, 509, 543, 424, 425, 426, 544, 346, 347, 348, 349, 350, 351, 352, 353, 221, 222, 223, 224, 225, 226, 227, 229, 230, 231, 232, 233, 234, 235, 236, 354, 239, 240, 241, 355, 356, 357, 358, 359, 360, 361, 362, 363, 364, 365, 366, 367, 368, 369, 370, 371, 372, 373, 374, 375, 316, 317, 318, 545, 546, 547, 548, 549, 550, 551, 94, 95, 96, 97, 1073, 1074, 1075, 1076, 1077, 1078, 1079, 1080, 1107, 1108, 1109, 1110, 1098, 1099, 1100, 1101, 1102, 1103, 1104, 1105, 1106] (by decide +kernel) (by decide +kernel)
set_option maxRecDepth 20000 in
theorem gL_law_X4_censors : GoodIn wsL_law (wsV RL 104 RX4 yX4_censors wsX4_censors) := goodIn_app (goodIn_of _ (by decide +kernel)) ggL_law_X4_censors
set_option maxRecDepth 20000 in
theorem ggL_law_X5_censors : GoodIn wsL_law wsX5_censors := goodIn_r _ [647, 102, 324, 61, 556, 557, 558, 5, 559, 323, 103, 104, 105, 106, 107, 108, 109, 329, 330, 331, 332, 114, 115, 116, 117, 110, 111, 112, 113, 65, 560, 561, 562, 563, 564, 454, 455, 456, 457, 64, 565, 566, 567, 568, 169, 170, 171, 172, 173, 174, 175, 569, 570, 571, 572, 573, 574, 575, 576, 577, 389, 390, 391, 392, 393, 394, 395, 396, 250, 251, 252, 253, 254, 255, 256, 257, 258, 259, 260, 261, 262, 263, 264, 265, 266, 267, 268, 269, 270, 271, 397, 398, 399, 400, 401, 402, 403, 404, 405, 406, 407, 333, 334, 335, 336, 458, 459, 460, 461, 118, 119, 120, 121, 1081, 1082, 1083, 1084, 1085, 1086, 1087, 1088, 1089, 1090, 1091, 1092, 1093, 1094, 1095, 1096, 1097] (by decide +kernel) (by decide +kernel)
set_option maxRecDepth 20000 in
theorem gL_law_X5_censors : GoodIn wsL_law (wsV RL 107 RX5 yX5_censors wsX5_censors) := goodIn_app (goodIn_of _ (by decide +kernel)) ggL_law_X5_censors
set_option maxRecDepth 20000 in
theorem ggL_law_X4_tips : GoodIn wsL_law wsX4_tips := goodIn_r _ [651, 522, 523, 524, 2, 525, 16, 75, 76, 77, 78, 79, 80, 312, 313, 314, 84, 85, 86, 87, 32, 88, 89, 90, 91, 15, 92, 93, 652, 653, 654, 655, 22, 526, 527, 528, 21, 529, 47, 530, 531, 532, 447, 448, 449, 237, 228, 156, 37, 38, 39, 40, 42, 533, 534, 535, 536, 537, 538, 539, 540, 541, 542, 507, 508, 509, 543, 424, 425, 426, 544, 346, 347, 348, 349, 350, 351, 352, 353, 221, 222, 223, 224, 225, 226, 227, 229, 230, 231, 232, 233, 234, 235, 236, 354, 239, 240, 241, 355, 356, 357, 358, 359, 360, 361, 362, 363, 364, 365, 366, 367, 368, 369, 370, 371, 372, 373, 374, 375, 316, 317, 318, 545, 546, 547, 548, 549, 550, 551, 1073, 1074, 1075, 1076, 1077, 1078, 1079, 1080, 1098, 1099, 1100, 1101, 1102, 1103, 1104, 1105, 1106, 1107, 1108, 1109, 1110] (by decide +kernel) (by decide +kernel)
set_option maxRecDepth 20000 in
theorem gL_law_X4_tips : GoodIn wsL_law (wsV RL 108 RX4 yX4_tips wsX4_tips) := goodIn_app (goodIn_of _ (by decide +kernel)) ggL_law_X4_tips
set_option maxRecDepth 20000 in
theorem ggL_law_X5_tips : GoodIn wsL_law wsX5_tips := goodIn_r _ [659, 61, 556, 557, 558, 5, 559, 102, 323, 103, 104, 105, 106, 107, 108, 109, 329, 330, 331, 332, 114, 115, 116, 117, 110, 111, 112, 113, 65, 560, 561, 562, 563, 564, 454, 455, 456, 457, 64, 565, 566, 567, 568, 169, 170, 171, 172, 173, 174, 175, 569, 570, 571, 572, 573, 574, 575, 576, 577, 389, 390, 391, 392, 393, 394, 395, 396, 250, 251, 252, 253, 254, 255, 256, 257, 258, 259, 260, 261, 262, 263, 264, 265, 266, 267, 268, 269, 270, 271, 397, 398, 399, 400, 401, 402, 403, 404, 405, 406, 407, 333, 334, 335, 336, 458, 459, 460, 461, 660, 661, 662, 486, 487, 488, 489, 324, 1081, 1082, 1083, 1084, 1085, 1086, 1087, 1088, 1089, 1090, 1091, 1092, 1093, 1094, 1095, 1096, 1097] (by decide +kernel) (by decide +kernel)
set_option maxRecDepth 20000 in
theorem gL_law_X5_tips : GoodIn wsL_law (wsV RL 111 RX5 yX5_tips wsX5_tips) := goodIn_app (goodIn_of _ (by decide +kernel)) ggL_law_X5_tips
set_option maxRecDepth 20000 in
theorem ggL_law_X4_spring : GoodIn wsL_law wsX4_spring := goodIn_r _ [666, 522, 523, 524, 2, 525, 16, 75, 76, 77, 78, 79, 80, 312, 313, 314, 84, 85, 86, 87, 32, 88, 89, 90, 91, 15, 92, 93, 667, 668, 669, 670, 22, 526, 527, 528, 21, 529, 47, 530, 531, 532, 447, 448, 449, 237, 228, 156, 37, 38, 39, 40, 42, 533, 534, 535, 536, 537, 538, 539, 540, 541, 542, 507, 508, 509, 543, 424, 425, 426, 544, 346, 347, 348, 349, 350, 351, 352, 353, 221, 222, 223, 224, 225, 226, 227, 229, 230, 231, 232, 233, 234, 235, 236, 354, 239, 240, 241, 355, 356, 357, 358, 359, 360, 361, 362, 363, 364, 365, 366, 367, 368, 369, 370, 371, 372, 373, 374, 375, 316, 317, 318, 545, 546, 547, 548, 549, 550, 551, 1073, 1074, 1075, 1076, 1077, 1078, 1079, 1080, 1098, 1099, 1100, 1101, 1102, 1103, 1104, 1105, 1106, 1107, 1108, 1109, 1110] (by decide +kernel) (by decide +kernel)
set_option maxRecDepth 20000 in
theorem gL_law_X4_spring : GoodIn wsL_law (wsV RL 112 RX4 yX4_spring wsX4_spring) := goodIn_app (goodIn_of _ (by decide +kernel)) ggL_law_X4_spring
set_option maxRecDepth 20000 in
theorem ggL_law_X5_spring : GoodIn wsL_law wsX5_spring := goodIn_r _ [674, 61, 556, 557, 558, 5, 559, 102, 323, 103, 104, 105, 106, 107, 108, 109, 329, 330, 331, 332, 114, 115, 116, 117, 110, 111, 112, 113, 65, 560, 561, 562, 563, 564, 454, 455, 456, 457, 64, 565, 566, 567, 568, 169, 170, 171, 172, 173, 174, 175, 569, 570, 571, 572, 573, 574, 575, 576, 577, 389, 390, 391, 392, 393, 394, 395, 396, 250, 251, 252, 253, 254, 255, 256, 257, 258, 259, 260, 261, 262, 263, 264, 265, 266, 267, 268, 269, 270, 271, 397, 398, 399, 400, 401, 402, 403, 404, 405, 406, 407, 333, 334, 335, 336, 458, 459, 460, 461, 660, 661, 662, 486, 487, 488, 489, 324, 1081, 1082, 1083, 1084, 1085, 1086, 1087, 1088, 1089, 1090, 1091, 1092, 1093, 1094, 1095, 1096, 1097] (by decide +kernel) (by decide +kernel)
set_option maxRecDepth 20000 in
theorem gL_law_X5_spring : GoodIn wsL_law (wsV RL 115 RX5 yX5_spring wsX5_spring) := goodIn_app (goodIn_of _ (by decide +kernel)) ggL_law_X5_spring
set_option maxRecDepth 20000 in
theorem ggL_law_X4_kind : GoodIn wsL_law wsX4_kind := goodIn_r _ [678, 16, 216, 217, 218, 15, 219, 156, 79, 2, 80, 75, 76, 77, 78, 84, 85, 86, 87, 32, 88, 679, 680, 681, 682, 17, 446, 447, 448, 449, 93, 237, 228, 37, 38, 39, 40, 42, 466, 467, 468, 469, 470, 471, 472, 473, 349, 350, 351, 352, 353, 221, 222, 223, 224, 225, 226, 227, 229, 230, 231, 232, 233, 234, 235, 236, 354, 239, 240, 241, 355, 356, 357, 358, 359, 90, 91, 92, 1073, 1074, 1075, 1076, 1077, 1078, 1079, 1080, 1098, 1099, 1100, 1101, 1102, 1103, 1104, 1105, 1106] (by decide +kernel) (by decide +kernel)
set_option maxRecDepth 20000 in
theorem gL_law_X4_kind : GoodIn wsL_law (wsV RL 116 RX4 yX4_kind wsX4_kind) := goodIn_app (goodIn_of _ (by decide +kernel)) ggL_law_X4_kind
set_option maxRecDepth 20000 in
theorem ggL_law_X5_kind : GoodIn wsL_law wsX5_kind := goodIn_r _ [686, 102, 61, 246, 247, 248, 5, 249, 107, 108, 109, 103, 104, 105, 106, 110, 111, 112, 113, 65, 169, 170, 171, 172, 173, 174, 175, 482, 483, 484, 485, 454, 455, 456, 457, 64, 389, 390, 391, 392, 393, 394, 395, 396, 250, 251, 252, 253, 254, 255, 256, 257, 258, 259, 260, 261, 262, 263, 264, 265, 266, 267, 268, 269, 270, 271, 397, 398, 399, 400, 114, 115, 116, 117, 401, 402, 403, 404, 405, 406, 407, 333, 334, 335, 336, 458, 459, 460, 461, 486, 487, 488, 489, 324, 1081, 1082, 1083, 1084, 1085, 1086, 1087, 1088, 1089, 1090, 1091, 1092, 1093, 1094, 1095, 1096, 1097] (by decide +kernel) (by decide +kernel)
set_option maxRecDepth 20000 in
theorem gL_law_X5_kind : GoodIn wsL_law (wsV RL 119 RX5 yX5_kind wsX5_kind) := goodIn_app (goodIn_of _ (by decide +kernel)) ggL_law_X5_kind
set_option maxRecDepth 20000 in
theorem ggL_law_X4_feed : GoodIn wsL_law wsX4_feed := goodIn_r _ [690, 26, 84, 85, 86, 2, 87, 32, 88, 691, 692, 693, 25, 694, 51, 695, 1073, 1074, 1075, 1076, 1077, 1078, 1079, 1080, 1111, 1112, 1113, 1114, 1115, 1116, 1117] (by decide +kernel) (by decide +kernel)
set_option maxRecDepth 20000 in
theorem gL_law_X4_feed : GoodIn wsL_law (wsV RL 120 RX4 yX4_feed wsX4_feed) := goodIn_app (goodIn_of _ (by decide +kernel)) ggL_law_X4_feed
set_option maxRecDepth 20000 in
theorem ggL_law_X5_feed : GoodIn wsL_law wsX5_feed := goodIn_r _ [699, 700, 102, 701, 199, 66, 107, 108, 5, 109, 110, 111, 112, 113, 65, 1081, 1082, 1083, 1084, 1085, 1086, 1087, 1088, 1089, 1090, 1091, 1092, 1093, 1094, 1095, 1096, 1097] (by decide +kernel) (by decide +kernel)
set_option maxRecDepth 20000 in
theorem gL_law_X5_feed : GoodIn wsL_law (wsV RL 123 RX5 yX5_feed wsX5_feed) := goodIn_app (goodIn_of _ (by decide +kernel)) ggL_law_X5_feed
set_option maxRecDepth 20000 in
theorem ggL_law_X4_wipe : GoodIn wsL_law wsX4_wipe := goodIn_r _ [705, 26, 1073, 1074, 1075, 1076, 1077, 1078, 1079, 1080, 1111, 1112, 1113, 1114, 1115, 1116, 1117] (by decide +kernel) (by decide +kernel)
set_option maxRecDepth 20000 in
theorem gL_law_X4_wipe : GoodIn wsL_law (wsV RL 124 RX4 yX4_wipe wsX4_wipe) := goodIn_app (goodIn_of _ (by decide +kernel)) ggL_law_X4_wipe
set_option maxRecDepth 20000 in
theorem ggL_law_X5_wipe : GoodIn wsL_law wsX5_wipe := goodIn_r _ [709, 701, 1081, 1082, 1083, 1084, 1085, 1086, 1087, 1088, 1089, 1090, 1091, 1092, 1093, 1094, 1095, 1096, 1097] (by decide +kernel) (by decide +kernel)
set_option maxRecDepth 20000 in
theorem gL_law_X5_wipe : GoodIn wsL_law (wsV RL 128 RX5 yX5_wipe wsX5_wipe) := goodIn_app (goodIn_of _ (by decide +kernel)) ggL_law_X5_wipe
set_option maxRecDepth 20000 in
theorem ggL_law_X4_island : GoodIn wsL_law wsX4_island := goodIn_r _ [713, 17, 16, 26, 446, 447, 448, 15, 449, 93, 237, 228, 156, 37, 38, 39, 40, 42, 714, 715, 716, 25, 717, 718, 719, 720, 721, 722, 723, 724, 695, 51, 725, 726, 727, 728, 729, 730, 731, 732, 733, 734, 735, 736, 737, 738, 739, 740, 741, 742, 743, 744, 745, 746, 747, 748, 749, 750, 751, 752, 753, 754, 755, 756, 757, 758, 759, 760, 761, 762, 763, 764, 765, 766, 767, 768, 769, 770, 771, 772, 773, 774, 775, 776, 777, 778, 779, 780, 781, 782, 783, 784, 785, 786, 787, 788, 789, 790, 791, 792, 793, 794, 795, 796, 797, 798, 799, 800, 801, 802, 803, 804, 805, 188, 189, 190, 806, 807, 808, 809, 810, 192, 193, 194, 811, 812, 813, 814, 815, 95, 96, 97, 816, 817, 818, 819, 820, 821, 822, 823, 1073, 1074, 1075, 1076, 1077, 1078, 1079, 1080, 1111, 1112, 1113, 1114, 1115, 1116, 1117, 1098, 1099, 1100, 1101, 1102, 1103, 1104, 1105, 1106] (by decide +kernel) (by decide +kernel)
set_option maxRecDepth 20000 in
theorem gL_law_X4_island : GoodIn wsL_law (wsV RL 129 RX4 yX4_island wsX4_island) := goodIn_app (goodIn_of _ (by decide +kernel)) ggL_law_X4_island
set_option maxRecDepth 20000 in
theorem ggL_law_X5_island : GoodIn wsL_law wsX5_island := goodIn_r _ [827, 828, 829, 830, 701, 831, 832, 833, 5, 834, 63, 61, 835, 836, 837, 838, 839, 840, 841, 842, 66, 843, 844, 845, 846, 847, 107, 108, 109, 848, 849, 850, 627, 851, 852, 853, 854, 855, 856, 857, 858, 859, 860, 861, 862, 863, 864, 865, 866, 867, 868, 869, 870, 871, 872, 873, 874, 875, 876, 877, 878, 879, 880, 881, 882, 883, 884, 885, 886, 887, 888, 889, 890, 891, 892, 208, 209, 210, 211, 173, 174, 175, 893, 894, 895, 896, 118, 119, 120, 121, 897, 898, 899, 900, 901, 902, 903, 904, 905, 906, 907, 908, 909, 910, 911, 912, 913, 914, 915, 916, 1081, 1082, 1083, 1084, 1085, 1086, 1087, 1088, 1089, 1090, 1091, 1092, 1093, 1094, 1095, 1096, 1097] (by decide +kernel) (by decide +kernel)
set_option maxRecDepth 20000 in
theorem gL_law_X5_island : GoodIn wsL_law (wsV RL 132 RX5 yX5_island wsX5_island) := goodIn_app (goodIn_of _ (by decide +kernel)) ggL_law_X5_island
set_option maxRecDepth 20000 in
theorem ggL_law_X4_sheet : GoodIn wsL_law wsX4_sheet := goodIn_r _ [920, 28, 78, 79, 2, 80, 84, 85, 86, 87, 32, 88, 921, 922, 923, 30, 924, 925, 926, 56, 1073, 1074, 1075, 1076, 1077, 1078, 1079, 1080, 1118, 1119, 1120] (by decide +kernel) (by decide +kernel)
set_option maxRecDepth 20000 in
theorem gL_law_X4_sheet : GoodIn wsL_law (wsV RL 133 RX4 yX4_sheet wsX4_sheet) := goodIn_app (goodIn_of _ (by decide +kernel)) ggL_law_X4_sheet
set_option maxRecDepth 20000 in
theorem ggL_law_X5_sheet : GoodIn wsL_law wsX5_sheet := goodIn_r _ [930, 102, 931, 67, 68, 69, 932, 933, 5, 934, 935, 107, 108, 109, 110, 111, 112, 113, 65, 1081, 1082, 1083, 1084, 1085, 1086, 1087, 1088, 1089, 1090, 1091, 1092, 1093, 1094, 1095, 1096, 1097] (by decide +kernel) (by decide +kernel)
set_option maxRecDepth 20000 in
theorem gL_law_X5_sheet : GoodIn wsL_law (wsV RL 136 RX5 yX5_sheet wsX5_sheet) := goodIn_app (goodIn_of _ (by decide +kernel)) ggL_law_X5_sheet
set_option maxRecDepth 20000 in
theorem ggL_law_X4_write : GoodIn wsL_law wsX4_write := goodIn_r _ [939, 28, 940, 941, 942, 2, 943, 78, 79, 80, 84, 85, 86, 87, 32, 88, 944, 945, 946, 30, 947, 925, 948, 949, 950, 951, 1073, 1074, 1075, 1076, 1077, 1078, 1079, 1080, 1118, 1119, 1120] (by decide +kernel) (by decide +kernel)
set_option maxRecDepth 20000 in
theorem gL_law_X4_write : GoodIn wsL_law (wsV RL 139 RX4 yX4_write wsX4_write) := goodIn_app (goodIn_of _ (by decide +kernel)) ggL_law_X4_write
set_option maxRecDepth 20000 in
theorem ggL_law_X5_write : GoodIn wsL_law wsX5_write := goodIn_r _ [955, 68, 102, 69, 67, 956, 957, 958, 5, 959, 960, 932, 933, 934, 935, 107, 108, 109, 110, 111, 112, 113, 65, 961, 962, 963, 1081, 1082, 1083, 1084, 1085, 1086, 1087, 1088, 1089, 1090, 1091, 1092, 1093, 1094, 1095, 1096, 1097] (by decide +kernel) (by decide +kernel)
set_option maxRecDepth 20000 in
theorem gL_law_X5_write : GoodIn wsL_law (wsV RL 143 RX5 yX5_write wsX5_write) := goodIn_app (goodIn_of _ (by decide +kernel)) ggL_law_X5_write
set_option maxRecDepth 20000 in
theorem ggL_law_X4_copy : GoodIn wsL_law wsX4_copy := goodIn_r _ [967, 28, 968, 969, 970, 971, 78, 79, 2, 80, 84, 85, 86, 87, 32, 88, 944, 945, 946, 30, 947, 925, 972, 973, 974, 975, 926, 1073, 1074, 1075, 1076, 1077, 1078, 1079, 1080, 1118, 1119, 1120] (by decide +kernel) (by decide +kernel)
set_option maxRecDepth 20000 in
theorem gL_law_X4_copy : GoodIn wsL_law (wsV RL 144 RX4 yX4_copy wsX4_copy) := goodIn_app (goodIn_of _ (by decide +kernel)) ggL_law_X4_copy
set_option maxRecDepth 20000 in
theorem ggL_law_X5_copy : GoodIn wsL_law wsX5_copy := goodIn_r _ [979, 102, 67, 960, 300, 68, 70, 69, 932, 933, 5, 934, 935, 107, 108, 109, 110, 111, 112, 113, 65, 1081, 1082, 1083, 1084, 1085, 1086, 1087, 1088, 1089, 1090, 1091, 1092, 1093, 1094, 1095, 1096, 1097] (by decide +kernel) (by decide +kernel)
set_option maxRecDepth 20000 in
theorem gL_law_X5_copy : GoodIn wsL_law (wsV RL 148 RX5 yX5_copy wsX5_copy) := goodIn_app (goodIn_of _ (by decide +kernel)) ggL_law_X5_copy
set_option maxRecDepth 20000 in
theorem ggL_law_X4_lays : GoodIn wsL_law wsX4_lays := goodIn_r _ [983, 28, 940, 941, 942, 2, 943, 78, 79, 80, 84, 85, 86, 87, 32, 88, 944, 945, 946, 30, 947, 925, 984, 985, 986, 987, 16, 988, 1073, 1074, 1075, 1076, 1077, 1078, 1079, 1080, 1118, 1119, 1120, 1098, 1099, 1100, 1101, 1102, 1103, 1104, 1105, 1106] (by decide +kernel) (by decide +kernel)
set_option maxRecDepth 20000 in
theorem gL_law_X4_lays : GoodIn wsL_law (wsV RL 149 RX4 yX4_lays wsX4_lays) := goodIn_app (goodIn_of _ (by decide +kernel)) ggL_law_X4_lays
set_option maxRecDepth 20000 in
theorem ggL_law_X5_lays : GoodIn wsL_law wsX5_lays := goodIn_r _ [992, 68, 61, 69, 956, 957, 958, 5, 959, 102, 67, 960, 932, 933, 934, 935, 107, 108, 109, 110, 111, 112, 113, 65, 204, 205, 206, 207, 173, 174, 175, 1081, 1082, 1083, 1084, 1085, 1086, 1087, 1088, 1089, 1090, 1091, 1092, 1093, 1094, 1095, 1096, 1097] (by decide +kernel) (by decide +kernel)
set_option maxRecDepth 20000 in
theorem gL_law_X5_lays : GoodIn wsL_law (wsV RL 152 RX5 yX5_lays wsX5_lays) := goodIn_app (goodIn_of _ (by decide +kernel)) ggL_law_X5_lays
set_option maxRecDepth 20000 in
theorem ggL_law_X4_book : GoodIn wsL_law wsX4_book := goodIn_r _ [996, 28, 16, 17, 940, 941, 942, 2, 943, 78, 79, 80, 84, 85, 86, 87, 32, 88, 944, 945, 946, 30, 947, 925, 216, 217, 218, 15, 219, 156, 446, 447, 448, 449, 93, 237, 228, 37, 38, 39, 40, 42, 997, 471, 472, 473, 349, 350, 351, 352, 353, 221, 222, 223, 224, 225, 226, 227, 229, 230, 231, 232, 233, 234, 235, 236, 354, 239, 240, 241, 355, 356, 357, 358, 359, 90, 91, 92, 1073, 1074, 1075, 1076, 1077, 1078, 1079, 1080, 1118, 1119, 1120, 1098, 1099, 1100, 1101, 1102, 1103, 1104, 1105, 1106] (by decide +kernel) (by decide +kernel)
set_option maxRecDepth 20000 in
theorem gL_law_X4_book : GoodIn wsL_law (wsV RL 153 RX4 yX4_book wsX4_book) := goodIn_app (goodIn_of _ (by decide +kernel)) ggL_law_X4_book
set_option maxRecDepth 20000 in
theorem ggL_law_X5_book : GoodIn wsL_law wsX5_book := goodIn_r _ [1001, 68, 69, 1002, 1003, 1004, 5, 1005, 102, 956, 957, 958, 959, 67, 960, 932, 933, 934, 935, 107, 108, 109, 246, 247, 248, 249, 61, 110, 111, 112, 113, 65, 454, 455, 456, 457, 64, 169, 170, 171, 172, 173, 174, 175, 389, 390, 391, 392, 393, 394, 395, 396, 250, 251, 252, 253, 254, 255, 256, 257, 258, 259, 260, 261, 262, 263, 264, 265, 266, 267, 268, 269, 270, 271, 397, 398, 399, 400, 114, 115, 116, 117, 401, 402, 403, 404, 405, 406, 407, 333, 334, 335, 336, 458, 459, 460, 461, 1081, 1082, 1083, 1084, 1085, 1086, 1087, 1088, 1089, 1090, 1091, 1092, 1093, 1094, 1095, 1096, 1097] (by decide +kernel) (by decide +kernel)
set_option maxRecDepth 20000 in
theorem gL_law_X5_book : GoodIn wsL_law (wsV RL 156 RX5 yX5_book wsX5_book) := goodIn_app (goodIn_of _ (by decide +kernel)) ggL_law_X5_book
set_option maxRecDepth 20000 in
theorem ggL_law_X4_read : GoodIn wsL_law wsX4_read := goodIn_r _ [1009, 16, 17, 28, 940, 941, 942, 2, 943, 78, 79, 80, 84, 85, 86, 87, 32, 88, 944, 945, 946, 30, 947, 925, 216, 217, 218, 15, 219, 156, 446, 447, 448, 449, 93, 237, 228, 37, 38, 39, 40, 42, 1010, 1011, 1012, 1013, 470, 471, 472, 473, 349, 350, 351, 352, 353, 221, 222, 223, 224, 225, 226, 227, 229, 230, 231, 232, 233, 234, 235, 236, 354, 239, 240, 241, 355, 356, 357, 358, 359, 90, 91, 92, 1073, 1074, 1075, 1076, 1077, 1078, 1079, 1080, 1098, 1099, 1100, 1101, 1102, 1103, 1104, 1105, 1106, 1118, 1119, 1120] (by decide +kernel) (by decide +kernel)
set_option maxRecDepth 20000 in
theorem gL_law_X4_read : GoodIn wsL_law (wsV RL 157 RX4 yX4_read wsX4_read) := goodIn_app (goodIn_of _ (by decide +kernel)) ggL_law_X4_read
set_option maxRecDepth 20000 in
theorem ggL_law_X5_read : GoodIn wsL_law wsX5_read := goodIn_r _ [1017, 61, 1002, 1003, 1004, 5, 1005, 102, 956, 957, 958, 959, 67, 960, 932, 933, 934, 935, 107, 108, 109, 246, 247, 248, 249, 110, 111, 112, 113, 65, 454, 455, 456, 457, 64, 173, 174, 175, 1018, 1019, 1020, 1021, 68, 69, 169, 170, 171, 172, 389, 390, 391, 392, 393, 394, 395, 396, 250, 251, 252, 253, 254, 255, 256, 257, 258, 259, 260, 261, 262, 263, 264, 265, 266, 267, 268, 269, 270, 271, 397, 398, 399, 400, 114, 115, 116, 117, 401, 402, 403, 404, 405, 406, 407, 333, 334, 335, 336, 458, 459, 460, 461, 1081, 1082, 1083, 1084, 1085, 1086, 1087, 1088, 1089, 1090, 1091, 1092, 1093, 1094, 1095, 1096, 1097] (by decide +kernel) (by decide +kernel)
set_option maxRecDepth 20000 in
theorem gL_law_X5_read : GoodIn wsL_law (wsV RL 160 RX5 yX5_read wsX5_read) := goodIn_app (goodIn_of _ (by decide +kernel)) ggL_law_X5_read
set_option maxRecDepth 20000 in
theorem ggL_law_X4_image : GoodIn wsL_law wsX4_image := goodIn_r _ [1025, 18, 16, 33, 446, 447, 448, 15, 449, 93, 237, 228, 156, 37, 38, 39, 40, 42, 1073, 1074, 1075, 1076, 1077, 1078, 1079, 1080, 1098, 1099, 1100, 1101, 1102, 1103, 1104, 1105, 1106] (by decide +kernel) (by decide +kernel)
set_option maxRecDepth 20000 in
theorem gL_law_X4_image : GoodIn wsL_law (wsV RL 161 RX4 yX4_image wsX4_image) := goodIn_app (goodIn_of _ (by decide +kernel)) ggL_law_X4_image
set_option maxRecDepth 20000 in
theorem ggL_law_X5_image : GoodIn wsL_law wsX5_image := goodIn_r _ [1029, 62, 61, 1030, 1081, 1082, 1083, 1084, 1085, 1086, 1087, 1088, 1089, 1090, 1091, 1092, 1093, 1094, 1095, 1096, 1097] (by decide +kernel) (by decide +kernel)
set_option maxRecDepth 20000 in
theorem gL_law_X5_image : GoodIn wsL_law (wsV RL 164 RX5 yX5_image wsX5_image) := goodIn_app (goodIn_of _ (by decide +kernel)) ggL_law_X5_image
