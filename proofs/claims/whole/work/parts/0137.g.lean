set_option maxRecDepth 20000 in
theorem ggX5_waterhole_X5_places : GoodIn wsX5_waterhole wsX5_places := goodIn_r _ [24, 20, 25, 26, 27, 4, 28, 29, 30, 31, 95, 96, 97, 98, 99, 100, 101, 102, 103, 104, 105, 106, 107, 108, 109, 110, 111] (by decide +kernel) (by decide +kernel)
set_option maxRecDepth 20000 in
theorem gX5_waterhole_X5_places : GoodIn wsX5_waterhole (wsV RX5 191 RX5 yX5_places wsX5_places) := goodIn_app (goodIn_of _ (by decide +kernel)) ggX5_waterhole_X5_places
set_option maxRecDepth 20000 in
theorem ggX5_waterhole_X5_open : GoodIn wsX5_waterhole wsX5_open := goodIn_r _ [35, 36, 20, 95, 96, 97, 98, 99, 100, 101, 102, 103, 104, 105, 106, 107, 108, 109, 110, 111] (by decide +kernel) (by decide +kernel)
set_option maxRecDepth 20000 in
theorem gX5_waterhole_X5_open : GoodIn wsX5_waterhole (wsV RX5 188 RX5 yX5_open wsX5_open) := goodIn_app (goodIn_of _ (by decide +kernel)) ggX5_waterhole_X5_open
set_option maxRecDepth 20000 in
theorem ggX5_waterhole_X5_hour : GoodIn wsX5_waterhole wsX5_hour := goodIn_r _ [40, 20, 25, 26, 27, 4, 28, 29, 30, 31, 41, 42, 43, 44, 45, 46, 47, 48, 49, 50, 51, 52, 53, 54, 55, 56, 57, 58, 7, 8, 9, 59, 60, 61, 62, 63, 64, 65, 66, 67, 68, 69, 70, 71, 72, 73, 74, 75, 76, 77, 78, 79, 80, 81, 82, 83, 84, 85, 95, 96, 97, 98, 99, 100, 101, 102, 103, 104, 105, 106, 107, 108, 109, 110, 111] (by decide +kernel) (by decide +kernel)
set_option maxRecDepth 20000 in
theorem gX5_waterhole_X5_hour : GoodIn wsX5_waterhole (wsV RX5 155 RX5 yX5_hour wsX5_hour) := goodIn_app (goodIn_of _ (by decide +kernel)) ggX5_waterhole_X5_hour
set_option maxRecDepth 20000 in
theorem ggX5_waterhole_X5_takesBack : GoodIn wsX5_waterhole wsX5_takesBack := goodIn_r _ [89, 20, 19, 95, 96, 97, 98, 99, 100, 101, 102, 103, 104, 105, 106, 107, 108, 109, 110, 111] (by decide +kernel) (by decide +kernel)
set_option maxRecDepth 20000 in
theorem gX5_waterhole_X5_takesBack : GoodIn wsX5_waterhole (wsV RX5 175 RX5 yX5_takesBack wsX5_takesBack) := goodIn_app (goodIn_of _ (by decide +kernel)) ggX5_waterhole_X5_takesBack
set_option maxRecDepth 20000 in
theorem ggX5_waterhole_X5_orNone : GoodIn wsX5_waterhole wsX5_orNone := goodIn_r _ [93, 94, 7, 8, 4, 9, 10, 11, 12, 13, 14, 1, 95, 96, 97, 98, 99, 100, 101, 102, 103, 104, 105, 106, 107, 108, 109, 110, 111] (by decide +kernel) (by decide +kernel)
set_option maxRecDepth 20000 in
theorem gX5_waterhole_X5_orNone : GoodIn wsX5_waterhole (wsV RX5 181 RX5 yX5_orNone wsX5_orNone) := goodIn_app (goodIn_of _ (by decide +kernel)) ggX5_waterhole_X5_orNone
set_option maxRecDepth 20000 in
theorem ggX5_many_X5_isCell : GoodIn wsX5_many wsX5_isCell := goodIn_r _ [7, 8, 9, 10, 6, 11] (by decide +kernel) (by decide +kernel)
set_option maxRecDepth 20000 in
theorem gX5_many_X5_isCell : GoodIn wsX5_many (va_wsS RX5 62 yX5_isCell wsX5_isCell) := goodIn_app (goodIn_of _ (by decide +kernel)) ggX5_many_X5_isCell
set_option maxRecDepth 20000 in
theorem ggX5_many_X5_in : GoodIn wsX5_many wsX5_in := goodIn_r _ [11] (by decide +kernel) (by decide +kernel)
set_option maxRecDepth 20000 in
theorem gX5_many_X5_in : GoodIn wsX5_many (va_wsS RX5 44 yX5_in wsX5_in) := goodIn_app (goodIn_of _ (by decide +kernel)) ggX5_many_X5_in
set_option maxRecDepth 20000 in
theorem ggX5_many_X5_finds : GoodIn wsX5_many wsX5_finds := goodIn_r _ [15, 16, 2, 101, 102, 103, 104, 105, 106, 107, 108, 109, 110, 111, 112, 113, 114, 115, 116, 117] (by decide +kernel) (by decide +kernel)
set_option maxRecDepth 20000 in
theorem gX5_many_X5_finds : GoodIn wsX5_many (wsV RX5 65 RX5 yX5_finds wsX5_finds) := goodIn_app (goodIn_of _ (by decide +kernel)) ggX5_many_X5_finds
set_option maxRecDepth 20000 in
theorem ggX5_many_X5_isFenced : GoodIn wsX5_many wsX5_isFenced := goodIn_r _ [20, 21, 101, 102, 103, 104, 105, 106, 107, 108, 109, 110, 111, 112, 113, 114, 115, 116, 117] (by decide +kernel) (by decide +kernel)
set_option maxRecDepth 20000 in
theorem gX5_many_X5_isFenced : GoodIn wsX5_many (wsV RX5 69 RX5 yX5_isFenced wsX5_isFenced) := goodIn_app (goodIn_of _ (by decide +kernel)) ggX5_many_X5_isFenced
set_option maxRecDepth 20000 in
theorem ggX5_many_X5_soonestOf : GoodIn wsX5_many wsX5_soonestOf := goodIn_r _ [25, 26, 27, 28, 29, 6, 30, 31, 21, 32, 33, 34, 35, 36, 37, 38, 39, 40, 41, 42, 43, 44, 45, 46, 47, 48, 49, 50, 51, 52, 53, 54, 55, 56, 57, 58, 59, 60, 61, 62, 63, 64, 65, 66, 67, 68, 69, 70, 71, 72, 73, 9, 10, 11, 74, 75, 76, 77, 78, 79, 80, 81, 82, 83, 84, 85, 17, 18, 19, 20, 86, 87, 88, 89, 90, 91, 92, 93, 94, 95, 96, 97, 98, 99, 100, 101, 102, 103, 104, 105, 106, 107, 108, 109, 110, 111, 112, 113, 114, 115, 116, 117] (by decide +kernel) (by decide +kernel)
set_option maxRecDepth 20000 in
theorem gX5_many_X5_soonestOf : GoodIn wsX5_many (wsV RX5 204 RX5 yX5_soonestOf wsX5_soonestOf) := goodIn_app (goodIn_of _ (by decide +kernel)) ggX5_many_X5_soonestOf
set_option maxRecDepth 20000 in
theorem ggX5_both_X5_wrongReader : GoodIn wsX5_both wsX5_wrongReader := goodIn_r _ [6, 1, 7, 8, 9, 5, 10, 11, 12, 13, 14, 15, 16, 17, 18, 19, 20, 21, 22, 23, 108, 109, 110, 111, 112, 113, 114, 115, 116, 117, 118, 119, 120, 121, 122, 123, 124] (by decide +kernel) (by decide +kernel)
set_option maxRecDepth 20000 in
theorem gX5_both_X5_wrongReader : GoodIn wsX5_both (wsV RX5 201 RX5 yX5_wrongReader wsX5_wrongReader) := goodIn_app (goodIn_of _ (by decide +kernel)) ggX5_both_X5_wrongReader
set_option maxRecDepth 20000 in
theorem ggX5_both_X5_isSubject : GoodIn wsX5_both wsX5_isSubject := goodIn_r _ [17, 18, 12, 13, 5, 14] (by decide +kernel) (by decide +kernel)
set_option maxRecDepth 20000 in
theorem gX5_both_X5_isSubject : GoodIn wsX5_both (va_wsS RX5 133 yX5_isSubject wsX5_isSubject) := goodIn_app (goodIn_of _ (by decide +kernel)) ggX5_both_X5_isSubject
set_option maxRecDepth 20000 in
theorem ggX5_both_X5_finds : GoodIn wsX5_both wsX5_finds := goodIn_r _ [27, 28, 1, 108, 109, 110, 111, 112, 113, 114, 115, 116, 117, 118, 119, 120, 121, 122, 123, 124] (by decide +kernel) (by decide +kernel)
set_option maxRecDepth 20000 in
theorem gX5_both_X5_finds : GoodIn wsX5_both (wsV RX5 65 RX5 yX5_finds wsX5_finds) := goodIn_app (goodIn_of _ (by decide +kernel)) ggX5_both_X5_finds
set_option maxRecDepth 20000 in
theorem ggX5_both_X5_laysAside : GoodIn wsX5_both wsX5_laysAside := goodIn_r _ [32, 33, 23, 108, 109, 110, 111, 112, 113, 114, 115, 116, 117, 118, 119, 120, 121, 122, 123, 124] (by decide +kernel) (by decide +kernel)
set_option maxRecDepth 20000 in
theorem gX5_both_X5_laysAside : GoodIn wsX5_both (wsV RX5 172 RX5 yX5_laysAside wsX5_laysAside) := goodIn_app (goodIn_of _ (by decide +kernel)) ggX5_both_X5_laysAside
set_option maxRecDepth 20000 in
theorem ggX5_both_X5_places : GoodIn wsX5_both wsX5_places := goodIn_r _ [37, 23, 38, 39, 40, 5, 41, 42, 43, 44, 108, 109, 110, 111, 112, 113, 114, 115, 116, 117, 118, 119, 120, 121, 122, 123, 124] (by decide +kernel) (by decide +kernel)
set_option maxRecDepth 20000 in
theorem gX5_both_X5_places : GoodIn wsX5_both (wsV RX5 191 RX5 yX5_places wsX5_places) := goodIn_app (goodIn_of _ (by decide +kernel)) ggX5_both_X5_places
set_option maxRecDepth 20000 in
theorem ggX5_both_X5_spread : GoodIn wsX5_both wsX5_spread := goodIn_r _ [48, 49, 50, 51, 5, 52, 53, 23, 108, 109, 110, 111, 112, 113, 114, 115, 116, 117, 118, 119, 120, 121, 122, 123, 124] (by decide +kernel) (by decide +kernel)
set_option maxRecDepth 20000 in
theorem gX5_both_X5_spread : GoodIn wsX5_both (wsV RX5 198 RX5 yX5_spread wsX5_spread) := goodIn_app (goodIn_of _ (by decide +kernel)) ggX5_both_X5_spread
set_option maxRecDepth 20000 in
theorem ggX5_both_X5_hour : GoodIn wsX5_both wsX5_hour := goodIn_r _ [57, 23, 38, 39, 40, 5, 41, 42, 43, 44, 58, 59, 60, 61, 62, 63, 64, 65, 66, 67, 68, 69, 70, 71, 72, 73, 74, 75, 12, 13, 14, 76, 77, 78, 79, 80, 81, 82, 83, 84, 85, 86, 87, 19, 20, 21, 22, 88, 89, 90, 91, 92, 93, 94, 95, 96, 97, 98, 108, 109, 110, 111, 112, 113, 114, 115, 116, 117, 118, 119, 120, 121, 122, 123, 124] (by decide +kernel) (by decide +kernel)
set_option maxRecDepth 20000 in
theorem gX5_both_X5_hour : GoodIn wsX5_both (wsV RX5 155 RX5 yX5_hour wsX5_hour) := goodIn_app (goodIn_of _ (by decide +kernel)) ggX5_both_X5_hour
set_option maxRecDepth 20000 in
theorem ggX5_both_X5_takesBack : GoodIn wsX5_both wsX5_takesBack := goodIn_r _ [102, 23, 33, 108, 109, 110, 111, 112, 113, 114, 115, 116, 117, 118, 119, 120, 121, 122, 123, 124] (by decide +kernel) (by decide +kernel)
set_option maxRecDepth 20000 in
theorem gX5_both_X5_takesBack : GoodIn wsX5_both (wsV RX5 175 RX5 yX5_takesBack wsX5_takesBack) := goodIn_app (goodIn_of _ (by decide +kernel)) ggX5_both_X5_takesBack
set_option maxRecDepth 20000 in
theorem ggX5_both_X5_orNone : GoodIn wsX5_both wsX5_orNone := goodIn_r _ [106, 107, 12, 13, 5, 14, 24, 25, 26, 27, 28, 1, 108, 109, 110, 111, 112, 113, 114, 115, 116, 117, 118, 119, 120, 121, 122, 123, 124] (by decide +kernel) (by decide +kernel)
set_option maxRecDepth 20000 in
theorem gX5_both_X5_orNone : GoodIn wsX5_both (wsV RX5 181 RX5 yX5_orNone wsX5_orNone) := goodIn_app (goodIn_of _ (by decide +kernel)) ggX5_both_X5_orNone
set_option maxRecDepth 20000 in
theorem ggX5_censors_X5_wrongReader : GoodIn wsX5_censors wsX5_wrongReader := goodIn_r _ [8, 1, 9, 10, 11, 7, 12, 13, 14, 15, 16, 17, 18, 19, 20, 21, 22, 23, 24, 3, 113, 114, 115, 116, 117, 118, 119, 120, 121, 122, 123, 124, 125, 126, 127, 128, 129] (by decide +kernel) (by decide +kernel)
set_option maxRecDepth 20000 in
theorem gX5_censors_X5_wrongReader : GoodIn wsX5_censors (wsV RX5 201 RX5 yX5_wrongReader wsX5_wrongReader) := goodIn_app (goodIn_of _ (by decide +kernel)) ggX5_censors_X5_wrongReader
set_option maxRecDepth 20000 in
theorem ggX5_censors_X5_isCell : GoodIn wsX5_censors wsX5_isCell := goodIn_r _ [12, 13, 14, 15, 7, 16] (by decide +kernel) (by decide +kernel)
set_option maxRecDepth 20000 in
theorem gX5_censors_X5_isCell : GoodIn wsX5_censors (va_wsS RX5 62 yX5_isCell wsX5_isCell) := goodIn_app (goodIn_of _ (by decide +kernel)) ggX5_censors_X5_isCell
set_option maxRecDepth 20000 in
theorem ggX5_censors_X5_finds : GoodIn wsX5_censors wsX5_finds := goodIn_r _ [28, 29, 1, 113, 114, 115, 116, 117, 118, 119, 120, 121, 122, 123, 124, 125, 126, 127, 128, 129] (by decide +kernel) (by decide +kernel)
set_option maxRecDepth 20000 in
theorem gX5_censors_X5_finds : GoodIn wsX5_censors (wsV RX5 65 RX5 yX5_finds wsX5_finds) := goodIn_app (goodIn_of _ (by decide +kernel)) ggX5_censors_X5_finds
set_option maxRecDepth 20000 in
theorem ggX5_censors_X5_soonestOf : GoodIn wsX5_censors wsX5_soonestOf := goodIn_r _ [33, 34, 35, 36, 37, 7, 38, 39, 3, 40, 41, 42, 43, 44, 45, 46, 47, 48, 49, 50, 51, 52, 53, 54, 55, 56, 57, 58, 59, 60, 61, 62, 63, 64, 65, 66, 67, 68, 69, 70, 71, 72, 73, 74, 75, 76, 77, 78, 79, 80, 81, 14, 15, 16, 82, 83, 84, 85, 86, 87, 88, 89, 90, 91, 92, 93, 21, 22, 23, 24, 94, 95, 96, 97, 98, 99, 100, 101, 102, 103, 104, 105, 106, 107, 108, 113, 114, 115, 116, 117, 118, 119, 120, 121, 122, 123, 124, 125, 126, 127, 128, 129] (by decide +kernel) (by decide +kernel)
set_option maxRecDepth 20000 in
theorem gX5_censors_X5_soonestOf : GoodIn wsX5_censors (wsV RX5 204 RX5 yX5_soonestOf wsX5_soonestOf) := goodIn_app (goodIn_of _ (by decide +kernel)) ggX5_censors_X5_soonestOf
set_option maxRecDepth 20000 in
theorem ggX5_censors_X5_fences : GoodIn wsX5_censors wsX5_fences := goodIn_r _ [112, 3, 113, 114, 115, 116, 117, 118, 119, 120, 121, 122, 123, 124, 125, 126, 127, 128, 129] (by decide +kernel) (by decide +kernel)
set_option maxRecDepth 20000 in
theorem gX5_censors_X5_fences : GoodIn wsX5_censors (wsV RX5 72 RX5 yX5_fences wsX5_fences) := goodIn_app (goodIn_of _ (by decide +kernel)) ggX5_censors_X5_fences
set_option maxRecDepth 20000 in
theorem ggX5_tips_X5_wrongReader : GoodIn wsX5_tips wsX5_wrongReader := goodIn_r _ [6, 7, 8, 9, 10, 5, 11, 12, 13, 14, 15, 16, 17, 18, 19, 20, 21, 22, 23, 1, 116, 117, 118, 119, 120, 121, 122, 123, 124, 125, 126, 127, 128, 129, 130, 131, 132] (by decide +kernel) (by decide +kernel)
set_option maxRecDepth 20000 in
theorem gX5_tips_X5_wrongReader : GoodIn wsX5_tips (wsV RX5 201 RX5 yX5_wrongReader wsX5_wrongReader) := goodIn_app (goodIn_of _ (by decide +kernel)) ggX5_tips_X5_wrongReader
set_option maxRecDepth 20000 in
theorem ggX5_tips_X5_finds : GoodIn wsX5_tips wsX5_finds := goodIn_r _ [27, 28, 7, 116, 117, 118, 119, 120, 121, 122, 123, 124, 125, 126, 127, 128, 129, 130, 131, 132] (by decide +kernel) (by decide +kernel)
set_option maxRecDepth 20000 in
theorem gX5_tips_X5_finds : GoodIn wsX5_tips (wsV RX5 65 RX5 yX5_finds wsX5_finds) := goodIn_app (goodIn_of _ (by decide +kernel)) ggX5_tips_X5_finds
set_option maxRecDepth 20000 in
theorem ggX5_tips_X5_soonestOf : GoodIn wsX5_tips wsX5_soonestOf := goodIn_r _ [32, 33, 34, 35, 36, 5, 37, 38, 1, 39, 40, 41, 42, 43, 44, 45, 46, 47, 48, 49, 50, 51, 52, 53, 54, 55, 56, 57, 58, 59, 60, 61, 62, 63, 64, 65, 66, 67, 68, 69, 70, 71, 72, 73, 74, 75, 76, 77, 78, 79, 80, 13, 14, 15, 81, 82, 83, 84, 85, 86, 87, 88, 89, 90, 91, 92, 20, 21, 22, 23, 93, 94, 95, 96, 97, 98, 99, 100, 101, 102, 103, 104, 105, 106, 107, 116, 117, 118, 119, 120, 121, 122, 123, 124, 125, 126, 127, 128, 129, 130, 131, 132] (by decide +kernel) (by decide +kernel)
set_option maxRecDepth 20000 in
theorem gX5_tips_X5_soonestOf : GoodIn wsX5_tips (wsV RX5 204 RX5 yX5_soonestOf wsX5_soonestOf) := goodIn_app (goodIn_of _ (by decide +kernel)) ggX5_tips_X5_soonestOf
set_option maxRecDepth 20000 in
theorem ggX5_tips_X5_its : GoodIn wsX5_tips wsX5_its := goodIn_r _ [46, 1, 47, 48, 5, 49, 116, 117, 118, 119, 120, 121, 122, 123, 124, 125, 126, 127, 128, 129, 130, 131, 132] (by decide +kernel) (by decide +kernel)
set_option maxRecDepth 20000 in
theorem gX5_tips_X5_its : GoodIn wsX5_tips (wsV RX5 83 RX5 yX5_its wsX5_its) := goodIn_app (goodIn_of _ (by decide +kernel)) ggX5_tips_X5_its
set_option maxRecDepth 20000 in
theorem ggX5_tips_X5_spotOf : GoodIn wsX5_tips wsX5_spotOf := goodIn_r _ [49] (by decide +kernel) (by decide +kernel)
set_option maxRecDepth 20000 in
theorem gX5_tips_X5_spotOf : GoodIn wsX5_tips (va_wsS RX5 58 yX5_spotOf wsX5_spotOf) := goodIn_app (goodIn_of _ (by decide +kernel)) ggX5_tips_X5_spotOf
set_option maxRecDepth 20000 in
theorem ggX5_tips_X5_isSooner : GoodIn wsX5_tips wsX5_isSooner := goodIn_r _ [110] (by decide +kernel) (by decide +kernel)
set_option maxRecDepth 20000 in
theorem gX5_tips_X5_isSooner : GoodIn wsX5_tips (va_wsS RX5 209 yX5_isSooner wsX5_isSooner) := goodIn_app (goodIn_of _ (by decide +kernel)) ggX5_tips_X5_isSooner
set_option maxRecDepth 20000 in
theorem ggX5_tips_X5_orNone : GoodIn wsX5_tips wsX5_orNone := goodIn_r _ [114, 115, 13, 14, 5, 15, 24, 25, 26, 27, 28, 7, 116, 117, 118, 119, 120, 121, 122, 123, 124, 125, 126, 127, 128, 129, 130, 131, 132] (by decide +kernel) (by decide +kernel)
set_option maxRecDepth 20000 in
theorem gX5_tips_X5_orNone : GoodIn wsX5_tips (wsV RX5 181 RX5 yX5_orNone wsX5_orNone) := goodIn_app (goodIn_of _ (by decide +kernel)) ggX5_tips_X5_orNone
set_option maxRecDepth 20000 in
theorem ggX5_spring_X5_wrongReader : GoodIn wsX5_spring wsX5_wrongReader := goodIn_r _ [6, 7, 8, 9, 10, 5, 11, 12, 13, 14, 15, 16, 17, 18, 19, 20, 21, 22, 23, 1, 116, 117, 118, 119, 120, 121, 122, 123, 124, 125, 126, 127, 128, 129, 130, 131, 132] (by decide +kernel) (by decide +kernel)
set_option maxRecDepth 20000 in
theorem gX5_spring_X5_wrongReader : GoodIn wsX5_spring (wsV RX5 201 RX5 yX5_wrongReader wsX5_wrongReader) := goodIn_app (goodIn_of _ (by decide +kernel)) ggX5_spring_X5_wrongReader
set_option maxRecDepth 20000 in
theorem ggX5_spring_X5_finds : GoodIn wsX5_spring wsX5_finds := goodIn_r _ [27, 28, 7, 116, 117, 118, 119, 120, 121, 122, 123, 124, 125, 126, 127, 128, 129, 130, 131, 132] (by decide +kernel) (by decide +kernel)
set_option maxRecDepth 20000 in
theorem gX5_spring_X5_finds : GoodIn wsX5_spring (wsV RX5 65 RX5 yX5_finds wsX5_finds) := goodIn_app (goodIn_of _ (by decide +kernel)) ggX5_spring_X5_finds
set_option maxRecDepth 20000 in
theorem ggX5_spring_X5_isFenced : GoodIn wsX5_spring wsX5_isFenced := goodIn_r _ [23, 1, 116, 117, 118, 119, 120, 121, 122, 123, 124, 125, 126, 127, 128, 129, 130, 131, 132] (by decide +kernel) (by decide +kernel)
set_option maxRecDepth 20000 in
theorem gX5_spring_X5_isFenced : GoodIn wsX5_spring (wsV RX5 69 RX5 yX5_isFenced wsX5_isFenced) := goodIn_app (goodIn_of _ (by decide +kernel)) ggX5_spring_X5_isFenced
set_option maxRecDepth 20000 in
theorem ggX5_spring_X5_soonestOf : GoodIn wsX5_spring wsX5_soonestOf := goodIn_r _ [32, 33, 34, 35, 36, 5, 37, 38, 1, 39, 40, 41, 42, 43, 44, 45, 46, 47, 48, 49, 50, 51, 52, 53, 54, 55, 56, 57, 58, 59, 60, 61, 62, 63, 64, 65, 66, 67, 68, 69, 70, 71, 72, 73, 74, 75, 76, 77, 78, 79, 80, 13, 14, 15, 81, 82, 83, 84, 85, 86, 87, 88, 89, 90, 91, 92, 20, 21, 22, 23, 93, 94, 95, 96, 97, 98, 99, 100, 101, 102, 103, 104, 105, 106, 107, 116, 117, 118, 119, 120, 121, 122, 123, 124, 125, 126, 127, 128, 129, 130, 131, 132] (by decide +kernel) (by decide +kernel)
set_option maxRecDepth 20000 in
theorem gX5_spring_X5_soonestOf : GoodIn wsX5_spring (wsV RX5 204 RX5 yX5_soonestOf wsX5_soonestOf) := goodIn_app (goodIn_of _ (by decide +kernel)) ggX5_spring_X5_soonestOf
set_option maxRecDepth 20000 in
theorem ggX5_spring_X5_isSooner : GoodIn wsX5_spring wsX5_isSooner := goodIn_r _ [110] (by decide +kernel) (by decide +kernel)
set_option maxRecDepth 20000 in
theorem gX5_spring_X5_isSooner : GoodIn wsX5_spring (va_wsS RX5 209 yX5_isSooner wsX5_isSooner) := goodIn_app (goodIn_of _ (by decide +kernel)) ggX5_spring_X5_isSooner
set_option maxRecDepth 20000 in
theorem ggX5_spring_X5_orNone : GoodIn wsX5_spring wsX5_orNone := goodIn_r _ [114, 115, 13, 14, 5, 15, 24, 25, 26, 27, 28, 7, 116, 117, 118, 119, 120, 121, 122, 123, 124, 125, 126, 127, 128, 129, 130, 131, 132] (by decide +kernel) (by decide +kernel)
set_option maxRecDepth 20000 in
theorem gX5_spring_X5_orNone : GoodIn wsX5_spring (wsV RX5 181 RX5 yX5_orNone wsX5_orNone) := goodIn_app (goodIn_of _ (by decide +kernel)) ggX5_spring_X5_orNone
set_option maxRecDepth 20000 in
theorem ggX5_kind_X5_isOne : GoodIn wsX5_kind wsX5_isOne := goodIn_r _ [7, 2, 8, 9, 6, 10, 94, 95, 96, 97, 98, 99, 100, 101, 102, 103, 104, 105, 106, 107, 108, 109, 110] (by decide +kernel) (by decide +kernel)
set_option maxRecDepth 20000 in
theorem gX5_kind_X5_isOne : GoodIn wsX5_kind (wsV RX5 54 RX5 yX5_isOne wsX5_isOne) := goodIn_app (goodIn_of _ (by decide +kernel)) ggX5_kind_X5_isOne
set_option maxRecDepth 20000 in
theorem ggX5_kind_X5_isCell : GoodIn wsX5_kind wsX5_isCell := goodIn_r _ [13, 14, 8, 9, 6, 10] (by decide +kernel) (by decide +kernel)
set_option maxRecDepth 20000 in
theorem gX5_kind_X5_isCell : GoodIn wsX5_kind (va_wsS RX5 62 yX5_isCell wsX5_isCell) := goodIn_app (goodIn_of _ (by decide +kernel)) ggX5_kind_X5_isCell
set_option maxRecDepth 20000 in
theorem ggX5_kind_X5_finds : GoodIn wsX5_kind wsX5_finds := goodIn_r _ [18, 19, 1, 94, 95, 96, 97, 98, 99, 100, 101, 102, 103, 104, 105, 106, 107, 108, 109, 110] (by decide +kernel) (by decide +kernel)
set_option maxRecDepth 20000 in
theorem gX5_kind_X5_finds : GoodIn wsX5_kind (wsV RX5 65 RX5 yX5_finds wsX5_finds) := goodIn_app (goodIn_of _ (by decide +kernel)) ggX5_kind_X5_finds
set_option maxRecDepth 20000 in
theorem ggX5_kind_X5_its : GoodIn wsX5_kind wsX5_its := goodIn_r _ [23, 2, 24, 25, 6, 26, 94, 95, 96, 97, 98, 99, 100, 101, 102, 103, 104, 105, 106, 107, 108, 109, 110] (by decide +kernel) (by decide +kernel)
set_option maxRecDepth 20000 in
theorem gX5_kind_X5_its : GoodIn wsX5_kind (wsV RX5 83 RX5 yX5_its wsX5_its) := goodIn_app (goodIn_of _ (by decide +kernel)) ggX5_kind_X5_its
set_option maxRecDepth 20000 in
theorem ggX5_kind_X5_spotOf : GoodIn wsX5_kind wsX5_spotOf := goodIn_r _ [26] (by decide +kernel) (by decide +kernel)
set_option maxRecDepth 20000 in
theorem gX5_kind_X5_spotOf : GoodIn wsX5_kind (va_wsS RX5 58 yX5_spotOf wsX5_spotOf) := goodIn_app (goodIn_of _ (by decide +kernel)) ggX5_kind_X5_spotOf
set_option maxRecDepth 20000 in
theorem ggX5_kind_X5_whenOf : GoodIn wsX5_kind wsX5_whenOf := goodIn_r _ [30, 31, 32, 33, 6, 34, 35, 2, 20, 21, 22, 23, 24, 25, 26, 36, 37, 38, 39, 40, 41, 42, 43, 44, 45, 46, 47, 48, 49, 50, 51, 52, 53, 54, 55, 56, 57, 8, 9, 10, 58, 59, 60, 61, 62, 63, 64, 65, 66, 67, 68, 69, 70, 71, 72, 73, 74, 75, 76, 77, 78, 79, 80, 81, 82, 83, 84, 85, 86, 87, 88, 94, 95, 96, 97, 98, 99, 100, 101, 102, 103, 104, 105, 106, 107, 108, 109, 110] (by decide +kernel) (by decide +kernel)
set_option maxRecDepth 20000 in
theorem gX5_kind_X5_whenOf : GoodIn wsX5_kind (wsV RX5 178 RX5 yX5_whenOf wsX5_whenOf) := goodIn_app (goodIn_of _ (by decide +kernel)) ggX5_kind_X5_whenOf
set_option maxRecDepth 20000 in
theorem ggX5_kind_X5_orNone : GoodIn wsX5_kind wsX5_orNone := goodIn_r _ [92, 93, 8, 9, 6, 10, 15, 16, 17, 18, 19, 1, 94, 95, 96, 97, 98, 99, 100, 101, 102, 103, 104, 105, 106, 107, 108, 109, 110] (by decide +kernel) (by decide +kernel)
set_option maxRecDepth 20000 in
theorem gX5_kind_X5_orNone : GoodIn wsX5_kind (wsV RX5 181 RX5 yX5_orNone wsX5_orNone) := goodIn_app (goodIn_of _ (by decide +kernel)) ggX5_kind_X5_orNone
set_option maxRecDepth 20000 in
theorem ggX5_feed_X5_in : GoodIn wsX5_feed wsX5_in := goodIn_r _ [9] (by decide +kernel) (by decide +kernel)
set_option maxRecDepth 20000 in
theorem gX5_feed_X5_in : GoodIn wsX5_feed (va_wsS RX5 44 yX5_in wsX5_in) := goodIn_app (goodIn_of _ (by decide +kernel)) ggX5_feed_X5_in
set_option maxRecDepth 20000 in
theorem ggX5_feed_X5_finds : GoodIn wsX5_feed wsX5_finds := goodIn_r _ [13, 14, 2, 15, 16, 17, 18, 19, 20, 21, 22, 23, 24, 25, 26, 27, 28, 29, 30, 31] (by decide +kernel) (by decide +kernel)
set_option maxRecDepth 20000 in
theorem gX5_feed_X5_finds : GoodIn wsX5_feed (wsV RX5 65 RX5 yX5_finds wsX5_finds) := goodIn_app (goodIn_of _ (by decide +kernel)) ggX5_feed_X5_finds
set_option maxRecDepth 20000 in
theorem ggX5_isLetter_X5_in : GoodIn wsX5_isLetter wsX5_in := goodIn_r _ [6] (by decide +kernel) (by decide +kernel)
set_option maxRecDepth 20000 in
theorem gX5_isLetter_X5_in : GoodIn wsX5_isLetter (va_wsS RX5 44 yX5_in wsX5_in) := goodIn_app (goodIn_of _ (by decide +kernel)) ggX5_isLetter_X5_in
set_option maxRecDepth 20000 in
theorem ggX5_isDigit_X5_in : GoodIn wsX5_isDigit wsX5_in := goodIn_r _ [6] (by decide +kernel) (by decide +kernel)
set_option maxRecDepth 20000 in
theorem gX5_isDigit_X5_in : GoodIn wsX5_isDigit (va_wsS RX5 44 yX5_in wsX5_in) := goodIn_app (goodIn_of _ (by decide +kernel)) ggX5_isDigit_X5_in
set_option maxRecDepth 20000 in
theorem ggX5_token_X5_byteAt : GoodIn wsX5_token wsX5_byteAt := goodIn_r _ [8, 3, 9, 23, 24, 25, 26, 27, 28, 29, 30, 31, 32, 33, 34, 35, 36, 37, 38, 39] (by decide +kernel) (by decide +kernel)
set_option maxRecDepth 20000 in
theorem gX5_token_X5_byteAt : GoodIn wsX5_token (wsV RX5 229 RX5 yX5_byteAt wsX5_byteAt) := goodIn_app (goodIn_of _ (by decide +kernel)) ggX5_token_X5_byteAt
set_option maxRecDepth 20000 in
theorem ggX5_token_X5_isLetter : GoodIn wsX5_token wsX5_isLetter := goodIn_r _ [12, 13, 14, 15, 16, 7, 17] (by decide +kernel) (by decide +kernel)
set_option maxRecDepth 20000 in
theorem gX5_token_X5_isLetter : GoodIn wsX5_token (va_wsS RX5 232 yX5_isLetter wsX5_isLetter) := goodIn_app (goodIn_of _ (by decide +kernel)) ggX5_token_X5_isLetter
set_option maxRecDepth 20000 in
theorem ggX5_token_X5_isDigit : GoodIn wsX5_token wsX5_isDigit := goodIn_r _ [20, 21, 22, 15, 16, 7, 17] (by decide +kernel) (by decide +kernel)
set_option maxRecDepth 20000 in
theorem gX5_token_X5_isDigit : GoodIn wsX5_token (va_wsS RX5 235 yX5_isDigit wsX5_isDigit) := goodIn_app (goodIn_of _ (by decide +kernel)) ggX5_token_X5_isDigit
set_option maxRecDepth 20000 in
theorem ggX5_wants_X5_token : GoodIn wsX5_wants wsX5_token := goodIn_r _ [6, 7, 8, 9, 10, 11, 12, 5, 13, 14, 15, 16, 17, 18, 19, 20, 21, 22, 23, 24, 25, 26, 27, 28, 29, 30, 31, 32, 33, 34, 35, 36, 37, 38, 39, 40, 41, 42, 43, 44] (by decide +kernel) (by decide +kernel)
set_option maxRecDepth 20000 in
theorem gX5_wants_X5_token : GoodIn wsX5_wants (wsV RX5 242 RX5 yX5_token wsX5_token) := goodIn_app (goodIn_of _ (by decide +kernel)) ggX5_wants_X5_token
set_option maxRecDepth 20000 in
theorem ggX5_word_X5_byteAt : GoodIn wsX5_word wsX5_byteAt := goodIn_r _ [11, 12, 5, 21, 22, 23, 24, 25, 26, 27, 28, 29, 30, 31, 32, 33, 34, 35, 36, 37] (by decide +kernel) (by decide +kernel)
set_option maxRecDepth 20000 in
theorem gX5_word_X5_byteAt : GoodIn wsX5_word (wsV RX5 229 RX5 yX5_byteAt wsX5_byteAt) := goodIn_app (goodIn_of _ (by decide +kernel)) ggX5_word_X5_byteAt
set_option maxRecDepth 20000 in
theorem ggX5_word_X5_isLetter : GoodIn wsX5_word wsX5_isLetter := goodIn_r _ [15, 16, 17, 18, 19, 10, 20] (by decide +kernel) (by decide +kernel)
set_option maxRecDepth 20000 in
theorem gX5_word_X5_isLetter : GoodIn wsX5_word (va_wsS RX5 232 yX5_isLetter wsX5_isLetter) := goodIn_app (goodIn_of _ (by decide +kernel)) ggX5_word_X5_isLetter
set_option maxRecDepth 20000 in
theorem ggX5_number_X5_byteAt : GoodIn wsX5_number wsX5_byteAt := goodIn_r _ [10, 11, 4, 33, 34, 35, 36, 37, 38, 39, 40, 41, 42, 43, 44, 45, 46, 47, 48, 49] (by decide +kernel) (by decide +kernel)
set_option maxRecDepth 20000 in
theorem gX5_number_X5_byteAt : GoodIn wsX5_number (wsV RX5 229 RX5 yX5_byteAt wsX5_byteAt) := goodIn_app (goodIn_of _ (by decide +kernel)) ggX5_number_X5_byteAt
set_option maxRecDepth 20000 in
theorem ggX5_number_X5_isDigit : GoodIn wsX5_number wsX5_isDigit := goodIn_r _ [14, 15, 16, 17, 18, 9, 19] (by decide +kernel) (by decide +kernel)
set_option maxRecDepth 20000 in
theorem gX5_number_X5_isDigit : GoodIn wsX5_number (va_wsS RX5 235 yX5_isDigit wsX5_isDigit) := goodIn_app (goodIn_of _ (by decide +kernel)) ggX5_number_X5_isDigit
set_option maxRecDepth 20000 in
theorem ggX5_number_X5_in : GoodIn wsX5_number wsX5_in := goodIn_r _ [19] (by decide +kernel) (by decide +kernel)
set_option maxRecDepth 20000 in
theorem gX5_number_X5_in : GoodIn wsX5_number (va_wsS RX5 44 yX5_in wsX5_in) := goodIn_app (goodIn_of _ (by decide +kernel)) ggX5_number_X5_in
set_option maxRecDepth 20000 in
theorem ggX5_number_X5_wants : GoodIn wsX5_number wsX5_wants := goodIn_r _ [23, 1, 24, 25, 26, 9, 27, 3, 2, 11, 6, 7, 8, 10, 4, 28, 29, 30, 31, 32, 17, 18, 19, 12, 13, 14, 15, 16, 33, 34, 35, 36, 37, 38, 39, 40, 41, 42, 43, 44, 45, 46, 47, 48, 49] (by decide +kernel) (by decide +kernel)
set_option maxRecDepth 20000 in
theorem gX5_number_X5_wants : GoodIn wsX5_number (wsV RX5 252 RX5 yX5_wants wsX5_wants) := goodIn_app (goodIn_of _ (by decide +kernel)) ggX5_number_X5_wants
set_option maxRecDepth 20000 in
theorem ggX5_kindHere_X5_word : GoodIn wsX5_kindHere wsX5_word := goodIn_r _ [11, 12, 13, 14, 15, 16, 17, 18, 19, 20, 10, 21, 22, 23, 24, 25, 26, 27, 28, 29, 30, 31, 32, 33, 34, 35, 36, 37, 38, 39, 40, 41, 42, 43, 44, 45, 46, 47] (by decide +kernel) (by decide +kernel)
set_option maxRecDepth 20000 in
theorem gX5_kindHere_X5_word : GoodIn wsX5_kindHere (wsV RX5 256 RX5 yX5_word wsX5_word) := goodIn_app (goodIn_of _ (by decide +kernel)) ggX5_kindHere_X5_word
set_option maxRecDepth 20000 in
theorem ggX5_placeHere_X5_word : GoodIn wsX5_placeHere wsX5_word := goodIn_r _ [8, 9, 10, 11, 12, 13, 14, 15, 16, 17, 7, 18, 19, 20, 21, 22, 23, 24, 25, 26, 27, 28, 29, 30, 31, 32, 33, 34, 35, 36, 37, 38, 39, 40, 41, 42, 43, 44] (by decide +kernel) (by decide +kernel)
set_option maxRecDepth 20000 in
theorem gX5_placeHere_X5_word : GoodIn wsX5_placeHere (wsV RX5 256 RX5 yX5_word wsX5_word) := goodIn_app (goodIn_of _ (by decide +kernel)) ggX5_placeHere_X5_word
set_option maxRecDepth 20000 in
theorem ggX5_cellHere_X5_number : GoodIn wsX5_cellHere wsX5_number := goodIn_r _ [5, 6, 7, 8, 9, 10, 11, 12, 13, 4, 14, 15, 16, 17, 18, 19, 20, 21, 22, 23, 24, 25, 26, 27, 28, 29, 30, 31, 32, 33, 34, 35, 36, 37, 38, 39, 40, 41, 42, 43, 44, 45, 46, 47, 48, 49, 50, 51, 52, 53] (by decide +kernel) (by decide +kernel)
set_option maxRecDepth 20000 in
theorem gX5_cellHere_X5_number : GoodIn wsX5_cellHere (wsV RX5 278 RX5 yX5_number wsX5_number) := goodIn_app (goodIn_of _ (by decide +kernel)) ggX5_cellHere_X5_number
set_option maxRecDepth 20000 in
theorem ggX5_tortoiseItem_X5_wants : GoodIn wsX5_tortoiseItem wsX5_wants := goodIn_r _ [10, 4, 11, 12, 13, 9, 14, 15, 5, 16, 17, 18, 19, 20, 21, 22, 23, 24, 25, 26, 27, 28, 29, 30, 31, 32, 33, 34, 56, 57, 58, 59, 60, 61, 62, 63, 64, 65, 66, 67, 68, 69, 70, 71, 72] (by decide +kernel) (by decide +kernel)
set_option maxRecDepth 20000 in
theorem gX5_tortoiseItem_X5_wants : GoodIn wsX5_tortoiseItem (wsV RX5 252 RX5 yX5_wants wsX5_wants) := goodIn_app (goodIn_of _ (by decide +kernel)) ggX5_tortoiseItem_X5_wants
set_option maxRecDepth 20000 in
theorem ggX5_tortoiseItem_X5_word : GoodIn wsX5_tortoiseItem wsX5_word := goodIn_r _ [38, 5, 15, 39, 40, 21, 4, 17, 18, 19, 9, 20, 16, 22, 23, 24, 25, 26, 27, 28, 29, 56, 57, 58, 59, 60, 61, 62, 63, 64, 65, 66, 67, 68, 69, 70, 71, 72] (by decide +kernel) (by decide +kernel)
set_option maxRecDepth 20000 in
theorem gX5_tortoiseItem_X5_word : GoodIn wsX5_tortoiseItem (wsV RX5 256 RX5 yX5_word wsX5_word) := goodIn_app (goodIn_of _ (by decide +kernel)) ggX5_tortoiseItem_X5_word
set_option maxRecDepth 20000 in
theorem ggX5_tortoiseItem_X5_cellHere : GoodIn wsX5_tortoiseItem wsX5_cellHere := goodIn_r _ [44, 45, 46, 47, 9, 48, 4, 5, 15, 21, 3, 17, 18, 19, 20, 16, 30, 31, 32, 33, 34, 27, 28, 29, 6, 7, 8, 10, 11, 12, 13, 14, 22, 23, 24, 25, 26, 56, 57, 58, 59, 60, 61, 62, 63, 64, 65, 66, 67, 68, 69, 70, 71, 72] (by decide +kernel) (by decide +kernel)
set_option maxRecDepth 20000 in
theorem gX5_tortoiseItem_X5_cellHere : GoodIn wsX5_tortoiseItem (wsV RX5 283 RX5 yX5_cellHere wsX5_cellHere) := goodIn_app (goodIn_of _ (by decide +kernel)) ggX5_tortoiseItem_X5_cellHere
set_option maxRecDepth 20000 in
theorem ggX5_tortoiseItem_X5_byteAt : GoodIn wsX5_tortoiseItem wsX5_byteAt := goodIn_r _ [20, 16, 21, 56, 57, 58, 59, 60, 61, 62, 63, 64, 65, 66, 67, 68, 69, 70, 71, 72] (by decide +kernel) (by decide +kernel)
set_option maxRecDepth 20000 in
theorem gX5_tortoiseItem_X5_byteAt : GoodIn wsX5_tortoiseItem (wsV RX5 229 RX5 yX5_byteAt wsX5_byteAt) := goodIn_app (goodIn_of _ (by decide +kernel)) ggX5_tortoiseItem_X5_byteAt
set_option maxRecDepth 20000 in
theorem ggX5_tortoiseItem_X5_isDigit : GoodIn wsX5_tortoiseItem wsX5_isDigit := goodIn_r _ [32, 33, 34, 27, 28, 9, 29] (by decide +kernel) (by decide +kernel)
set_option maxRecDepth 20000 in
theorem gX5_tortoiseItem_X5_isDigit : GoodIn wsX5_tortoiseItem (va_wsS RX5 235 yX5_isDigit wsX5_isDigit) := goodIn_app (goodIn_of _ (by decide +kernel)) ggX5_tortoiseItem_X5_isDigit
set_option maxRecDepth 20000 in
theorem ggX5_tortoiseItem_X5_number : GoodIn wsX5_tortoiseItem wsX5_number := goodIn_r _ [48, 4, 5, 15, 21, 3, 17, 18, 19, 9, 20, 16, 30, 31, 32, 33, 34, 27, 28, 29, 6, 7, 8, 10, 11, 12, 13, 14, 22, 23, 24, 25, 26, 56, 57, 58, 59, 60, 61, 62, 63, 64, 65, 66, 67, 68, 69, 70, 71, 72] (by decide +kernel) (by decide +kernel)
set_option maxRecDepth 20000 in
theorem gX5_tortoiseItem_X5_number : GoodIn wsX5_tortoiseItem (wsV RX5 278 RX5 yX5_number wsX5_number) := goodIn_app (goodIn_of _ (by decide +kernel)) ggX5_tortoiseItem_X5_number
set_option maxRecDepth 20000 in
theorem ggX5_tortoiseItem_X5_adds : GoodIn wsX5_tortoiseItem wsX5_adds := goodIn_r _ [52, 1, 53, 54, 9, 55, 56, 57, 58, 59, 60, 61, 62, 63, 64, 65, 66, 67, 68, 69, 70, 71, 72] (by decide +kernel) (by decide +kernel)
set_option maxRecDepth 20000 in
theorem gX5_tortoiseItem_X5_adds : GoodIn wsX5_tortoiseItem (wsV RX5 115 RX5 yX5_adds wsX5_adds) := goodIn_app (goodIn_of _ (by decide +kernel)) ggX5_tortoiseItem_X5_adds
set_option maxRecDepth 20000 in
theorem ggX5_fenceItem_X5_wants : GoodIn wsX5_fenceItem wsX5_wants := goodIn_r _ [7, 1, 8, 9, 10, 6, 11, 12, 13, 14, 15, 16, 17, 18, 19, 20, 21, 22, 23, 24, 25, 26, 27, 28, 29, 30, 31, 32, 46, 47, 48, 49, 50, 51, 52, 53, 54, 55, 56, 57, 58, 59, 60, 61, 62] (by decide +kernel) (by decide +kernel)
set_option maxRecDepth 20000 in
theorem gX5_fenceItem_X5_wants : GoodIn wsX5_fenceItem (wsV RX5 252 RX5 yX5_wants wsX5_wants) := goodIn_app (goodIn_of _ (by decide +kernel)) ggX5_fenceItem_X5_wants
set_option maxRecDepth 20000 in
theorem ggX5_fenceItem_X5_cellHere : GoodIn wsX5_fenceItem wsX5_cellHere := goodIn_r _ [36, 37, 38, 39, 6, 40, 1, 13, 12, 19, 2, 15, 16, 17, 18, 14, 28, 29, 30, 31, 32, 25, 26, 27, 3, 4, 5, 7, 8, 9, 10, 11, 20, 21, 22, 23, 24, 46, 47, 48, 49, 50, 51, 52, 53, 54, 55, 56, 57, 58, 59, 60, 61, 62] (by decide +kernel) (by decide +kernel)
set_option maxRecDepth 20000 in
theorem gX5_fenceItem_X5_cellHere : GoodIn wsX5_fenceItem (wsV RX5 283 RX5 yX5_cellHere wsX5_cellHere) := goodIn_app (goodIn_of _ (by decide +kernel)) ggX5_fenceItem_X5_cellHere
set_option maxRecDepth 20000 in
theorem ggX5_fenceItem_X5_fences : GoodIn wsX5_fenceItem wsX5_fences := goodIn_r _ [44, 45, 46, 47, 48, 49, 50, 51, 52, 53, 54, 55, 56, 57, 58, 59, 60, 61, 62] (by decide +kernel) (by decide +kernel)
set_option maxRecDepth 20000 in
theorem gX5_fenceItem_X5_fences : GoodIn wsX5_fenceItem (wsV RX5 72 RX5 yX5_fences wsX5_fences) := goodIn_app (goodIn_of _ (by decide +kernel)) ggX5_fenceItem_X5_fences
set_option maxRecDepth 20000 in
theorem ggX5_rainItem_X5_wants : GoodIn wsX5_rainItem wsX5_wants := goodIn_r _ [9, 3, 10, 11, 12, 8, 13, 14, 15, 16, 17, 18, 19, 20, 21, 22, 23, 24, 25, 26, 27, 28, 29, 30, 31, 32, 33, 34, 45, 46, 47, 48, 49, 50, 51, 52, 53, 54, 55, 56, 57, 58, 59, 60, 61] (by decide +kernel) (by decide +kernel)
set_option maxRecDepth 20000 in
theorem gX5_rainItem_X5_wants : GoodIn wsX5_rainItem (wsV RX5 252 RX5 yX5_wants wsX5_wants) := goodIn_app (goodIn_of _ (by decide +kernel)) ggX5_rainItem_X5_wants
set_option maxRecDepth 20000 in
theorem ggX5_rainItem_X5_number : GoodIn wsX5_rainItem wsX5_number := goodIn_r _ [38, 3, 15, 14, 21, 1, 17, 18, 19, 8, 20, 16, 30, 31, 32, 33, 34, 27, 28, 29, 5, 6, 7, 9, 10, 11, 12, 13, 22, 23, 24, 25, 26, 45, 46, 47, 48, 49, 50, 51, 52, 53, 54, 55, 56, 57, 58, 59, 60, 61] (by decide +kernel) (by decide +kernel)
set_option maxRecDepth 20000 in
theorem gX5_rainItem_X5_number : GoodIn wsX5_rainItem (wsV RX5 278 RX5 yX5_number wsX5_number) := goodIn_app (goodIn_of _ (by decide +kernel)) ggX5_rainItem_X5_number
set_option maxRecDepth 20000 in
theorem ggX5_rainItem_X5_word : GoodIn wsX5_rainItem wsX5_word := goodIn_r _ [42, 15, 14, 43, 44, 21, 3, 17, 18, 19, 8, 20, 16, 22, 23, 24, 25, 26, 27, 28, 29, 45, 46, 47, 48, 49, 50, 51, 52, 53, 54, 55, 56, 57, 58, 59, 60, 61] (by decide +kernel) (by decide +kernel)
set_option maxRecDepth 20000 in
theorem gX5_rainItem_X5_word : GoodIn wsX5_rainItem (wsV RX5 256 RX5 yX5_word wsX5_word) := goodIn_app (goodIn_of _ (by decide +kernel)) ggX5_rainItem_X5_word
set_option maxRecDepth 20000 in
theorem ggX5_placeItem_X5_wants : GoodIn wsX5_placeItem wsX5_wants := goodIn_r _ [8, 1, 9, 10, 11, 7, 12, 13, 14, 15, 16, 17, 18, 19, 20, 21, 22, 23, 24, 25, 26, 27, 28, 29, 30, 31, 32, 33, 42, 43, 44, 45, 46, 47, 48, 49, 50, 51, 52, 53, 54, 55, 56, 57, 58] (by decide +kernel) (by decide +kernel)
set_option maxRecDepth 20000 in
theorem gX5_placeItem_X5_wants : GoodIn wsX5_placeItem (wsV RX5 252 RX5 yX5_wants wsX5_wants) := goodIn_app (goodIn_of _ (by decide +kernel)) ggX5_placeItem_X5_wants
set_option maxRecDepth 20000 in
theorem ggX5_placeItem_X5_cellHere : GoodIn wsX5_placeItem wsX5_cellHere := goodIn_r _ [37, 38, 39, 40, 7, 41, 1, 14, 13, 20, 3, 16, 17, 18, 19, 15, 29, 30, 31, 32, 33, 26, 27, 28, 4, 5, 6, 8, 9, 10, 11, 12, 21, 22, 23, 24, 25, 42, 43, 44, 45, 46, 47, 48, 49, 50, 51, 52, 53, 54, 55, 56, 57, 58] (by decide +kernel) (by decide +kernel)
set_option maxRecDepth 20000 in
theorem gX5_placeItem_X5_cellHere : GoodIn wsX5_placeItem (wsV RX5 283 RX5 yX5_cellHere wsX5_cellHere) := goodIn_app (goodIn_of _ (by decide +kernel)) ggX5_placeItem_X5_cellHere
set_option maxRecDepth 20000 in
theorem ggX5_item_X5_kindHere : GoodIn wsX5_item wsX5_kindHere := goodIn_r _ [8, 9, 10, 11, 12, 13, 14, 15, 16, 17, 7, 18, 19, 20, 21, 22, 23, 24, 25, 26, 27, 28, 29, 30, 31, 32, 33, 34, 35, 36, 37, 97, 98, 99, 100, 101, 102, 103, 104, 105, 106, 107, 108, 109, 110, 111, 112, 113] (by decide +kernel) (by decide +kernel)
set_option maxRecDepth 20000 in
theorem gX5_item_X5_kindHere : GoodIn wsX5_item (wsV RX5 288 RX5 yX5_kindHere wsX5_kindHere) := goodIn_app (goodIn_of _ (by decide +kernel)) ggX5_item_X5_kindHere
set_option maxRecDepth 20000 in
theorem ggX5_item_X5_word : GoodIn wsX5_item wsX5_word := goodIn_r _ [18, 19, 20, 21, 22, 23, 24, 25, 26, 27, 7, 28, 29, 30, 31, 32, 33, 34, 35, 36, 37, 97, 98, 99, 100, 101, 102, 103, 104, 105, 106, 107, 108, 109, 110, 111, 112, 113] (by decide +kernel) (by decide +kernel)
set_option maxRecDepth 20000 in
theorem gX5_item_X5_word : GoodIn wsX5_item (wsV RX5 256 RX5 yX5_word wsX5_word) := goodIn_app (goodIn_of _ (by decide +kernel)) ggX5_item_X5_word
set_option maxRecDepth 20000 in
theorem ggX5_item_X5_tortoiseItem : GoodIn wsX5_item wsX5_tortoiseItem := goodIn_r _ [41, 42, 43, 44, 24, 19, 45, 46, 47, 7, 48, 49, 50, 51, 52, 20, 29, 25, 26, 27, 28, 23, 30, 31, 32, 33, 34, 35, 36, 37, 53, 54, 55, 56, 57, 15, 16, 17, 18, 21, 22, 58, 59, 60, 61, 62, 63, 64, 65, 66, 67, 68, 69, 70, 71, 72, 97, 98, 99, 100, 101, 102, 103, 104, 105, 106, 107, 108, 109, 110, 111, 112, 113] (by decide +kernel) (by decide +kernel)
set_option maxRecDepth 20000 in
theorem gX5_item_X5_tortoiseItem : GoodIn wsX5_item (wsV RX5 291 RX5 yX5_tortoiseItem wsX5_tortoiseItem) := goodIn_app (goodIn_of _ (by decide +kernel)) ggX5_item_X5_tortoiseItem
set_option maxRecDepth 20000 in
theorem ggX5_item_X5_fenceItem : GoodIn wsX5_item wsX5_fenceItem := goodIn_r _ [76, 24, 44, 45, 46, 47, 7, 48, 49, 50, 51, 52, 20, 19, 29, 25, 26, 27, 28, 23, 30, 31, 32, 33, 34, 35, 36, 37, 53, 54, 55, 56, 57, 58, 59, 60, 61, 62, 63, 64, 65, 77, 78, 79, 80, 42, 97, 98, 99, 100, 101, 102, 103, 104, 105, 106, 107, 108, 109, 110, 111, 112, 113] (by decide +kernel) (by decide +kernel)
set_option maxRecDepth 20000 in
theorem gX5_item_X5_fenceItem : GoodIn wsX5_item (wsV RX5 298 RX5 yX5_fenceItem wsX5_fenceItem) := goodIn_app (goodIn_of _ (by decide +kernel)) ggX5_item_X5_fenceItem
set_option maxRecDepth 20000 in
theorem ggX5_item_X5_rainItem : GoodIn wsX5_item wsX5_rainItem := goodIn_r _ [84, 44, 85, 24, 42, 45, 46, 47, 7, 48, 49, 50, 51, 52, 20, 19, 29, 25, 26, 27, 28, 23, 30, 31, 32, 33, 34, 35, 36, 37, 53, 54, 55, 56, 57, 62, 63, 64, 65, 15, 16, 17, 18, 21, 22, 97, 98, 99, 100, 101, 102, 103, 104, 105, 106, 107, 108, 109, 110, 111, 112, 113] (by decide +kernel) (by decide +kernel)
set_option maxRecDepth 20000 in
theorem gX5_item_X5_rainItem : GoodIn wsX5_item (wsV RX5 303 RX5 yX5_rainItem wsX5_rainItem) := goodIn_app (goodIn_of _ (by decide +kernel)) ggX5_item_X5_rainItem
set_option maxRecDepth 20000 in
theorem ggX5_item_X5_placeHere : GoodIn wsX5_item wsX5_placeHere := goodIn_r _ [89, 90, 91, 92, 15, 16, 17, 7, 18, 19, 20, 21, 22, 23, 24, 25, 26, 27, 28, 29, 30, 31, 32, 33, 34, 35, 36, 37, 97, 98, 99, 100, 101, 102, 103, 104, 105, 106, 107, 108, 109, 110, 111, 112, 113] (by decide +kernel) (by decide +kernel)
set_option maxRecDepth 20000 in
theorem gX5_item_X5_placeHere : GoodIn wsX5_item (wsV RX5 306 RX5 yX5_placeHere wsX5_placeHere) := goodIn_app (goodIn_of _ (by decide +kernel)) ggX5_item_X5_placeHere
set_option maxRecDepth 20000 in
theorem ggX5_item_X5_placeItem : GoodIn wsX5_item wsX5_placeItem := goodIn_r _ [96, 24, 42, 44, 45, 46, 47, 7, 48, 49, 50, 51, 52, 20, 19, 29, 25, 26, 27, 28, 23, 30, 31, 32, 33, 34, 35, 36, 37, 53, 54, 55, 56, 57, 58, 59, 60, 61, 62, 63, 64, 65, 97, 98, 99, 100, 101, 102, 103, 104, 105, 106, 107, 108, 109, 110, 111, 112, 113] (by decide +kernel) (by decide +kernel)
set_option maxRecDepth 20000 in
theorem gX5_item_X5_placeItem : GoodIn wsX5_item (wsV RX5 309 RX5 yX5_placeItem wsX5_placeItem) := goodIn_app (goodIn_of _ (by decide +kernel)) ggX5_item_X5_placeItem
set_option maxRecDepth 20000 in
theorem ggX5_island_X5_saves : GoodIn wsX5_island wsX5_saves := goodIn_r _ [9, 10, 11, 110, 111, 112, 113, 114, 115, 116, 117, 118, 119, 120, 121, 122, 123, 124, 125, 126] (by decide +kernel) (by decide +kernel)
set_option maxRecDepth 20000 in
theorem gX5_island_X5_saves : GoodIn wsX5_island (wsV RX5 312 RX5 yX5_saves wsX5_saves) := goodIn_app (goodIn_of _ (by decide +kernel)) ggX5_island_X5_saves
set_option maxRecDepth 20000 in
theorem ggX5_island_X5_token : GoodIn wsX5_island wsX5_token := goodIn_r _ [15, 2, 3, 4, 16, 17, 18, 8, 19, 20, 21, 22, 23, 24, 25, 26, 27, 28, 29, 30, 31, 32, 33, 110, 111, 112, 113, 114, 115, 116, 117, 118, 119, 120, 121, 122, 123, 124, 125, 126] (by decide +kernel) (by decide +kernel)
set_option maxRecDepth 20000 in
theorem gX5_island_X5_token : GoodIn wsX5_island (wsV RX5 242 RX5 yX5_token wsX5_token) := goodIn_app (goodIn_of _ (by decide +kernel)) ggX5_island_X5_token
set_option maxRecDepth 20000 in
theorem ggX5_island_X5_item : GoodIn wsX5_island wsX5_item := goodIn_r _ [37, 38, 39, 40, 41, 42, 43, 8, 44, 45, 46, 47, 48, 49, 50, 51, 52, 53, 54, 3, 2, 55, 56, 20, 1, 16, 17, 18, 19, 4, 21, 22, 23, 24, 25, 26, 27, 28, 57, 58, 59, 60, 11, 61, 62, 63, 64, 65, 66, 12, 13, 14, 15, 29, 30, 31, 32, 33, 67, 68, 69, 70, 71, 72, 73, 74, 75, 76, 77, 78, 79, 80, 81, 82, 83, 84, 85, 86, 87, 88, 89, 90, 91, 92, 93, 94, 95, 96, 97, 98, 99, 100, 101, 102, 103, 104, 105, 110, 111, 112, 113, 114, 115, 116, 117, 118, 119, 120, 121, 122, 123, 124, 125, 126] (by decide +kernel) (by decide +kernel)
set_option maxRecDepth 20000 in
theorem gX5_island_X5_item : GoodIn wsX5_island (wsV RX5 315 RX5 yX5_item wsX5_item) := goodIn_app (goodIn_of _ (by decide +kernel)) ggX5_island_X5_item
set_option maxRecDepth 20000 in
theorem ggX5_island_X5_byteAt : GoodIn wsX5_island wsX5_byteAt := goodIn_r _ [19, 4, 20, 110, 111, 112, 113, 114, 115, 116, 117, 118, 119, 120, 121, 122, 123, 124, 125, 126] (by decide +kernel) (by decide +kernel)
set_option maxRecDepth 20000 in
theorem gX5_island_X5_byteAt : GoodIn wsX5_island (wsV RX5 229 RX5 yX5_byteAt wsX5_byteAt) := goodIn_app (goodIn_of _ (by decide +kernel)) ggX5_island_X5_byteAt
set_option maxRecDepth 20000 in
theorem ggX5_island_X5_wants : GoodIn wsX5_island wsX5_wants := goodIn_r _ [66, 1, 12, 13, 14, 8, 15, 2, 3, 4, 16, 17, 18, 19, 20, 21, 22, 23, 24, 25, 26, 27, 28, 29, 30, 31, 32, 33, 110, 111, 112, 113, 114, 115, 116, 117, 118, 119, 120, 121, 122, 123, 124, 125, 126] (by decide +kernel) (by decide +kernel)
set_option maxRecDepth 20000 in
theorem gX5_island_X5_wants : GoodIn wsX5_island (wsV RX5 252 RX5 yX5_wants wsX5_wants) := goodIn_app (goodIn_of _ (by decide +kernel)) ggX5_island_X5_wants
set_option maxRecDepth 20000 in
theorem ggX5_island_X5_putsBack : GoodIn wsX5_island wsX5_putsBack := goodIn_r _ [109, 11, 10, 110, 111, 112, 113, 114, 115, 116, 117, 118, 119, 120, 121, 122, 123, 124, 125, 126] (by decide +kernel) (by decide +kernel)
set_option maxRecDepth 20000 in
theorem gX5_island_X5_putsBack : GoodIn wsX5_island (wsV RX5 318 RX5 yX5_putsBack wsX5_putsBack) := goodIn_app (goodIn_of _ (by decide +kernel)) ggX5_island_X5_putsBack
set_option maxRecDepth 20000 in
theorem ggX5_isRow_X5_in : GoodIn wsX5_isRow wsX5_in := goodIn_r _ [5] (by decide +kernel) (by decide +kernel)
set_option maxRecDepth 20000 in
theorem gX5_isRow_X5_in : GoodIn wsX5_isRow (va_wsS RX5 44 yX5_in wsX5_in) := goodIn_app (goodIn_of _ (by decide +kernel)) ggX5_isRow_X5_in
set_option maxRecDepth 20000 in
theorem ggX5_sheet_X5_isRow : GoodIn wsX5_sheet wsX5_isRow := goodIn_r _ [9, 10, 11, 12, 8, 13] (by decide +kernel) (by decide +kernel)
set_option maxRecDepth 20000 in
theorem gX5_sheet_X5_isRow : GoodIn wsX5_sheet (va_wsS RX5 323 yX5_isRow wsX5_isRow) := goodIn_app (goodIn_of _ (by decide +kernel)) ggX5_sheet_X5_isRow
set_option maxRecDepth 20000 in
theorem ggX5_sheet_X5_finds : GoodIn wsX5_sheet wsX5_finds := goodIn_r _ [17, 18, 1, 19, 20, 21, 22, 23, 24, 25, 26, 27, 28, 29, 30, 31, 32, 33, 34, 35] (by decide +kernel) (by decide +kernel)
set_option maxRecDepth 20000 in
theorem gX5_sheet_X5_finds : GoodIn wsX5_sheet (wsV RX5 65 RX5 yX5_finds wsX5_finds) := goodIn_app (goodIn_of _ (by decide +kernel)) ggX5_sheet_X5_finds
set_option maxRecDepth 20000 in
theorem ggX5_wrong_X5_isRow : GoodIn wsX5_wrong wsX5_isRow := goodIn_r _ [7, 8, 9, 10, 6, 11] (by decide +kernel) (by decide +kernel)
set_option maxRecDepth 20000 in
theorem gX5_wrong_X5_isRow : GoodIn wsX5_wrong (va_wsS RX5 323 yX5_isRow wsX5_isRow) := goodIn_app (goodIn_of _ (by decide +kernel)) ggX5_wrong_X5_isRow
set_option maxRecDepth 20000 in
theorem ggX5_write_X5_wrong : GoodIn wsX5_write wsX5_wrong := goodIn_r _ [9, 2, 4, 10, 11, 12, 8, 13, 14, 15, 16, 17, 26, 27, 28, 29, 30, 31, 32, 33, 34, 35, 36, 37, 38, 39, 40, 41, 42] (by decide +kernel) (by decide +kernel)
set_option maxRecDepth 20000 in
theorem gX5_write_X5_wrong : GoodIn wsX5_write (wsV RX5 328 RX5 yX5_wrong wsX5_wrong) := goodIn_app (goodIn_of _ (by decide +kernel)) ggX5_write_X5_wrong
set_option maxRecDepth 20000 in
theorem ggX5_write_X5_finds : GoodIn wsX5_write wsX5_finds := goodIn_r _ [21, 22, 2, 26, 27, 28, 29, 30, 31, 32, 33, 34, 35, 36, 37, 38, 39, 40, 41, 42] (by decide +kernel) (by decide +kernel)
set_option maxRecDepth 20000 in
theorem gX5_write_X5_finds : GoodIn wsX5_write (wsV RX5 65 RX5 yX5_finds wsX5_finds) := goodIn_app (goodIn_of _ (by decide +kernel)) ggX5_write_X5_finds
set_option maxRecDepth 20000 in
theorem ggX5_write_X5_in : GoodIn wsX5_write wsX5_in := goodIn_r _ [17] (by decide +kernel) (by decide +kernel)
set_option maxRecDepth 20000 in
theorem gX5_write_X5_in : GoodIn wsX5_write (va_wsS RX5 44 yX5_in wsX5_in) := goodIn_app (goodIn_of _ (by decide +kernel)) ggX5_write_X5_in
set_option maxRecDepth 20000 in
theorem ggX5_write_X5_narrowed : GoodIn wsX5_write wsX5_narrowed := goodIn_r _ [25] (by decide +kernel) (by decide +kernel)
set_option maxRecDepth 20000 in
theorem gX5_write_X5_narrowed : GoodIn wsX5_write (va_wsS RX5 331 yX5_narrowed wsX5_narrowed) := goodIn_app (goodIn_of _ (by decide +kernel)) ggX5_write_X5_narrowed
set_option maxRecDepth 20000 in
theorem ggX5_copy_X5_isRow : GoodIn wsX5_copy wsX5_isRow := goodIn_r _ [11, 12, 13, 14, 10, 15] (by decide +kernel) (by decide +kernel)
set_option maxRecDepth 20000 in
theorem gX5_copy_X5_isRow : GoodIn wsX5_copy (va_wsS RX5 323 yX5_isRow wsX5_isRow) := goodIn_app (goodIn_of _ (by decide +kernel)) ggX5_copy_X5_isRow
set_option maxRecDepth 20000 in
theorem ggX5_copy_X5_finds : GoodIn wsX5_copy wsX5_finds := goodIn_r _ [19, 20, 1, 21, 22, 23, 24, 25, 26, 27, 28, 29, 30, 31, 32, 33, 34, 35, 36, 37] (by decide +kernel) (by decide +kernel)
set_option maxRecDepth 20000 in
theorem gX5_copy_X5_finds : GoodIn wsX5_copy (wsV RX5 65 RX5 yX5_finds wsX5_finds) := goodIn_app (goodIn_of _ (by decide +kernel)) ggX5_copy_X5_finds
set_option maxRecDepth 20000 in
theorem ggX5_lays_X5_wrong : GoodIn wsX5_lays wsX5_wrong := goodIn_r _ [8, 9, 10, 11, 12, 13, 7, 14, 15, 16, 17, 18, 31, 32, 33, 34, 35, 36, 37, 38, 39, 40, 41, 42, 43, 44, 45, 46, 47] (by decide +kernel) (by decide +kernel)
set_option maxRecDepth 20000 in
theorem gX5_lays_X5_wrong : GoodIn wsX5_lays (wsV RX5 328 RX5 yX5_wrong wsX5_wrong) := goodIn_app (goodIn_of _ (by decide +kernel)) ggX5_lays_X5_wrong
