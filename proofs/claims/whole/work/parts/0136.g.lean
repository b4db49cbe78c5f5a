set_option maxRecDepth 20000 in
theorem ggX5_turn_X5_becomes : GoodIn wsX5_turn wsX5_becomes := goodIn_r _ [21, 7, 27, 28, 29, 30, 31, 32, 33, 34, 35, 36, 37, 38, 39, 40, 41, 42, 43] (by decide +kernel) (by decide +kernel)
set_option maxRecDepth 20000 in
theorem gX5_turn_X5_becomes : GoodIn wsX5_turn (wsV RX5 78 RX5 yX5_becomes wsX5_becomes) := goodIn_app (goodIn_of _ (by decide +kernel)) ggX5_turn_X5_becomes
set_option maxRecDepth 20000 in
theorem ggX5_turn_X5_finds : GoodIn wsX5_turn wsX5_finds := goodIn_r _ [25, 26, 1, 27, 28, 29, 30, 31, 32, 33, 34, 35, 36, 37, 38, 39, 40, 41, 42, 43] (by decide +kernel) (by decide +kernel)
set_option maxRecDepth 20000 in
theorem gX5_turn_X5_finds : GoodIn wsX5_turn (wsV RX5 65 RX5 yX5_finds wsX5_finds) := goodIn_app (goodIn_of _ (by decide +kernel)) ggX5_turn_X5_finds
set_option maxRecDepth 20000 in
theorem ggX5_as_X5_isOne : GoodIn wsX5_as wsX5_isOne := goodIn_r _ [7, 8, 9, 10, 6, 11, 31, 32, 33, 34, 35, 36, 37, 38, 39, 40, 41, 42, 43, 44, 45, 46, 47] (by decide +kernel) (by decide +kernel)
set_option maxRecDepth 20000 in
theorem gX5_as_X5_isOne : GoodIn wsX5_as (wsV RX5 54 RX5 yX5_isOne wsX5_isOne) := goodIn_app (goodIn_of _ (by decide +kernel)) ggX5_as_X5_isOne
set_option maxRecDepth 20000 in
theorem ggX5_as_X5_isKind : GoodIn wsX5_as wsX5_isKind := goodIn_r _ [14, 15, 9, 10, 6, 11] (by decide +kernel) (by decide +kernel)
set_option maxRecDepth 20000 in
theorem gX5_as_X5_isKind : GoodIn wsX5_as (va_wsS RX5 107 yX5_isKind wsX5_isKind) := goodIn_app (goodIn_of _ (by decide +kernel)) ggX5_as_X5_isKind
set_option maxRecDepth 20000 in
theorem ggX5_as_X5_finds : GoodIn wsX5_as wsX5_finds := goodIn_r _ [19, 20, 1, 31, 32, 33, 34, 35, 36, 37, 38, 39, 40, 41, 42, 43, 44, 45, 46, 47] (by decide +kernel) (by decide +kernel)
set_option maxRecDepth 20000 in
theorem gX5_as_X5_finds : GoodIn wsX5_as (wsV RX5 65 RX5 yX5_finds wsX5_finds) := goodIn_app (goodIn_of _ (by decide +kernel)) ggX5_as_X5_finds
set_option maxRecDepth 20000 in
theorem ggX5_as_X5_its : GoodIn wsX5_as wsX5_its := goodIn_r _ [24, 8, 25, 26, 6, 27, 31, 32, 33, 34, 35, 36, 37, 38, 39, 40, 41, 42, 43, 44, 45, 46, 47] (by decide +kernel) (by decide +kernel)
set_option maxRecDepth 20000 in
theorem gX5_as_X5_its : GoodIn wsX5_as (wsV RX5 83 RX5 yX5_its wsX5_its) := goodIn_app (goodIn_of _ (by decide +kernel)) ggX5_as_X5_its
set_option maxRecDepth 20000 in
theorem ggX5_as_X5_above : GoodIn wsX5_as wsX5_above := goodIn_r _ [30] (by decide +kernel) (by decide +kernel)
set_option maxRecDepth 20000 in
theorem gX5_as_X5_above : GoodIn wsX5_as (va_wsS RX5 125 yX5_above wsX5_above) := goodIn_app (goodIn_of _ (by decide +kernel)) ggX5_as_X5_above
set_option maxRecDepth 20000 in
theorem ggX5_lends_X5_spotOf : GoodIn wsX5_lends wsX5_spotOf := goodIn_r _ [5] (by decide +kernel) (by decide +kernel)
set_option maxRecDepth 20000 in
theorem gX5_lends_X5_spotOf : GoodIn wsX5_lends (va_wsS RX5 58 yX5_spotOf wsX5_spotOf) := goodIn_app (goodIn_of _ (by decide +kernel)) ggX5_lends_X5_spotOf
set_option maxRecDepth 20000 in
theorem ggX5_lend_X5_areTwo : GoodIn wsX5_lend wsX5_areTwo := goodIn_r _ [8, 9, 10, 11, 7, 12, 13, 14, 15, 16, 37, 38, 39, 40, 41, 42, 43, 44, 45, 46, 47, 48, 49, 50, 51, 52, 53] (by decide +kernel) (by decide +kernel)
set_option maxRecDepth 20000 in
theorem gX5_lend_X5_areTwo : GoodIn wsX5_lend (wsV RX5 129 RX5 yX5_areTwo wsX5_areTwo) := goodIn_app (goodIn_of _ (by decide +kernel)) ggX5_lend_X5_areTwo
set_option maxRecDepth 20000 in
theorem ggX5_lend_X5_isSubject : GoodIn wsX5_lend wsX5_isSubject := goodIn_r _ [19, 20, 14, 15, 7, 16] (by decide +kernel) (by decide +kernel)
set_option maxRecDepth 20000 in
theorem gX5_lend_X5_isSubject : GoodIn wsX5_lend (va_wsS RX5 133 yX5_isSubject wsX5_isSubject) := goodIn_app (goodIn_of _ (by decide +kernel)) ggX5_lend_X5_isSubject
set_option maxRecDepth 20000 in
theorem ggX5_lend_X5_finds : GoodIn wsX5_lend wsX5_finds := goodIn_r _ [24, 25, 1, 37, 38, 39, 40, 41, 42, 43, 44, 45, 46, 47, 48, 49, 50, 51, 52, 53] (by decide +kernel) (by decide +kernel)
set_option maxRecDepth 20000 in
theorem gX5_lend_X5_finds : GoodIn wsX5_lend (wsV RX5 65 RX5 yX5_finds wsX5_finds) := goodIn_app (goodIn_of _ (by decide +kernel)) ggX5_lend_X5_finds
set_option maxRecDepth 20000 in
theorem ggX5_lend_X5_its : GoodIn wsX5_lend wsX5_its := goodIn_r _ [29, 13, 30, 31, 7, 32, 37, 38, 39, 40, 41, 42, 43, 44, 45, 46, 47, 48, 49, 50, 51, 52, 53] (by decide +kernel) (by decide +kernel)
set_option maxRecDepth 20000 in
theorem gX5_lend_X5_its : GoodIn wsX5_lend (wsV RX5 83 RX5 yX5_its wsX5_its) := goodIn_app (goodIn_of _ (by decide +kernel)) ggX5_lend_X5_its
set_option maxRecDepth 20000 in
theorem ggX5_lend_X5_lends : GoodIn wsX5_lend wsX5_lends := goodIn_r _ [36, 13, 30, 31, 7, 32, 37, 38, 39, 40, 41, 42, 43, 44, 45, 46, 47, 48, 49, 50, 51, 52, 53] (by decide +kernel) (by decide +kernel)
set_option maxRecDepth 20000 in
theorem gX5_lend_X5_lends : GoodIn wsX5_lend (wsV RX5 138 RX5 yX5_lends wsX5_lends) := goodIn_app (goodIn_of _ (by decide +kernel)) ggX5_lend_X5_lends
set_option maxRecDepth 20000 in
theorem ggX5_nearer_X5_isFenced : GoodIn wsX5_nearer wsX5_isFenced := goodIn_r _ [5, 6, 7, 8, 9, 10, 11, 12, 13, 14, 15, 16, 17, 18, 19, 20, 21, 22, 23] (by decide +kernel) (by decide +kernel)
set_option maxRecDepth 20000 in
theorem gX5_nearer_X5_isFenced : GoodIn wsX5_nearer (wsV RX5 69 RX5 yX5_isFenced wsX5_isFenced) := goodIn_app (goodIn_of _ (by decide +kernel)) ggX5_nearer_X5_isFenced
set_option maxRecDepth 20000 in
theorem ggX5_goes_X5_aimOf : GoodIn wsX5_goes wsX5_aimOf := goodIn_r _ [6, 1, 7, 8, 9, 5, 10, 11, 12, 13, 14, 15, 16, 17, 18, 19, 20, 21, 22, 23, 24, 25, 26, 27, 28, 29, 30, 43, 44, 45, 46, 47, 48, 49, 50, 51, 52, 53, 54, 55, 56, 57, 58, 59] (by decide +kernel) (by decide +kernel)
set_option maxRecDepth 20000 in
theorem gX5_goes_X5_aimOf : GoodIn wsX5_goes (wsV RX5 119 RX5 yX5_aimOf wsX5_aimOf) := goodIn_app (goodIn_of _ (by decide +kernel)) ggX5_goes_X5_aimOf
set_option maxRecDepth 20000 in
theorem ggX5_goes_X5_paceOf : GoodIn wsX5_goes wsX5_paceOf := goodIn_r _ [34, 7, 8, 9, 5, 10, 1, 11, 12, 13, 20, 21, 22, 23, 43, 44, 45, 46, 47, 48, 49, 50, 51, 52, 53, 54, 55, 56, 57, 58, 59] (by decide +kernel) (by decide +kernel)
set_option maxRecDepth 20000 in
theorem gX5_goes_X5_paceOf : GoodIn wsX5_goes (wsV RX5 122 RX5 yX5_paceOf wsX5_paceOf) := goodIn_app (goodIn_of _ (by decide +kernel)) ggX5_goes_X5_paceOf
set_option maxRecDepth 20000 in
theorem ggX5_goes_X5_spotOf : GoodIn wsX5_goes wsX5_spotOf := goodIn_r _ [13] (by decide +kernel) (by decide +kernel)
set_option maxRecDepth 20000 in
theorem gX5_goes_X5_spotOf : GoodIn wsX5_goes (va_wsS RX5 58 yX5_spotOf wsX5_spotOf) := goodIn_app (goodIn_of _ (by decide +kernel)) ggX5_goes_X5_spotOf
set_option maxRecDepth 20000 in
theorem ggX5_goes_X5_its : GoodIn wsX5_goes wsX5_its := goodIn_r _ [10, 1, 11, 12, 5, 13, 43, 44, 45, 46, 47, 48, 49, 50, 51, 52, 53, 54, 55, 56, 57, 58, 59] (by decide +kernel) (by decide +kernel)
set_option maxRecDepth 20000 in
theorem gX5_goes_X5_its : GoodIn wsX5_goes (wsV RX5 83 RX5 yX5_its wsX5_its) := goodIn_app (goodIn_of _ (by decide +kernel)) ggX5_goes_X5_its
set_option maxRecDepth 20000 in
theorem ggX5_goes_X5_nearer : GoodIn wsX5_goes wsX5_nearer := goodIn_r _ [38, 39, 40, 41, 5, 42, 1, 43, 44, 45, 46, 47, 48, 49, 50, 51, 52, 53, 54, 55, 56, 57, 58, 59] (by decide +kernel) (by decide +kernel)
set_option maxRecDepth 20000 in
theorem gX5_goes_X5_nearer : GoodIn wsX5_goes (wsV RX5 142 RX5 yX5_nearer wsX5_nearer) := goodIn_app (goodIn_of _ (by decide +kernel)) ggX5_goes_X5_nearer
set_option maxRecDepth 20000 in
theorem ggX5_meets_X5_its : GoodIn wsX5_meets wsX5_its := goodIn_r _ [5, 6, 7, 8, 4, 9, 17, 18, 19, 20, 21, 22, 23, 24, 25, 26, 27, 28, 29, 30, 31, 32, 33] (by decide +kernel) (by decide +kernel)
set_option maxRecDepth 20000 in
theorem gX5_meets_X5_its : GoodIn wsX5_meets (wsV RX5 83 RX5 yX5_its wsX5_its) := goodIn_app (goodIn_of _ (by decide +kernel)) ggX5_meets_X5_its
set_option maxRecDepth 20000 in
theorem ggX5_meets_X5_ones : GoodIn wsX5_meets wsX5_ones := goodIn_r _ [12] (by decide +kernel) (by decide +kernel)
set_option maxRecDepth 20000 in
theorem gX5_meets_X5_ones : GoodIn wsX5_meets (va_wsS RX5 145 yX5_ones wsX5_ones) := goodIn_app (goodIn_of _ (by decide +kernel)) ggX5_meets_X5_ones
set_option maxRecDepth 20000 in
theorem ggX5_meets_X5_lends : GoodIn wsX5_meets wsX5_lends := goodIn_r _ [16, 6, 7, 8, 4, 9, 17, 18, 19, 20, 21, 22, 23, 24, 25, 26, 27, 28, 29, 30, 31, 32, 33] (by decide +kernel) (by decide +kernel)
set_option maxRecDepth 20000 in
theorem gX5_meets_X5_lends : GoodIn wsX5_meets (wsV RX5 138 RX5 yX5_lends wsX5_lends) := goodIn_app (goodIn_of _ (by decide +kernel)) ggX5_meets_X5_lends
set_option maxRecDepth 20000 in
theorem ggX5_hour_X5_its : GoodIn wsX5_hour wsX5_its := goodIn_r _ [6, 1, 7, 8, 5, 9, 58, 59, 60, 61, 62, 63, 64, 65, 66, 67, 68, 69, 70, 71, 72, 73, 74] (by decide +kernel) (by decide +kernel)
set_option maxRecDepth 20000 in
theorem gX5_hour_X5_its : GoodIn wsX5_hour (wsV RX5 83 RX5 yX5_its wsX5_its) := goodIn_app (goodIn_of _ (by decide +kernel)) ggX5_hour_X5_its
set_option maxRecDepth 20000 in
theorem ggX5_hour_X5_goes : GoodIn wsX5_hour wsX5_goes := goodIn_r _ [13, 1, 14, 15, 16, 5, 17, 2, 3, 4, 6, 7, 8, 9, 18, 19, 20, 21, 22, 23, 24, 25, 26, 27, 28, 29, 30, 31, 32, 33, 34, 35, 36, 37, 38, 39, 40, 41, 42, 43, 44, 45, 46, 58, 59, 60, 61, 62, 63, 64, 65, 66, 67, 68, 69, 70, 71, 72, 73, 74] (by decide +kernel) (by decide +kernel)
set_option maxRecDepth 20000 in
theorem gX5_hour_X5_goes : GoodIn wsX5_hour (wsV RX5 148 RX5 yX5_goes wsX5_goes) := goodIn_app (goodIn_of _ (by decide +kernel)) ggX5_hour_X5_goes
set_option maxRecDepth 20000 in
theorem ggX5_hour_X5_meets : GoodIn wsX5_hour wsX5_meets := goodIn_r _ [50, 2, 3, 4, 5, 6, 1, 7, 8, 9, 51, 52, 53, 54, 55, 56, 57, 58, 59, 60, 61, 62, 63, 64, 65, 66, 67, 68, 69, 70, 71, 72, 73, 74] (by decide +kernel) (by decide +kernel)
set_option maxRecDepth 20000 in
theorem gX5_hour_X5_meets : GoodIn wsX5_hour (wsV RX5 152 RX5 yX5_meets wsX5_meets) := goodIn_app (goodIn_of _ (by decide +kernel)) ggX5_hour_X5_meets
set_option maxRecDepth 20000 in
theorem ggX5_go_X5_hour : GoodIn wsX5_go wsX5_hour := goodIn_r _ [5, 6, 7, 8, 9, 4, 10, 11, 12, 13, 14, 15, 16, 17, 18, 19, 20, 21, 22, 23, 24, 25, 26, 27, 28, 29, 30, 31, 32, 33, 34, 35, 36, 37, 38, 39, 40, 41, 42, 43, 44, 45, 46, 47, 48, 49, 50, 51, 52, 53, 54, 55, 56, 57, 58, 59, 60, 61, 62, 63, 64, 65, 66, 67, 68, 69, 70, 71, 72, 73, 74, 75, 76, 77, 78] (by decide +kernel) (by decide +kernel)
set_option maxRecDepth 20000 in
theorem gX5_go_X5_hour : GoodIn wsX5_go (wsV RX5 155 RX5 yX5_hour wsX5_hour) := goodIn_app (goodIn_of _ (by decide +kernel)) ggX5_go_X5_hour
set_option maxRecDepth 20000 in
theorem ggX5_allBooks_X5_its : GoodIn wsX5_allBooks wsX5_its := goodIn_r _ [6, 1, 7, 8, 5, 9, 13, 14, 15, 16, 17, 18, 19, 20, 21, 22, 23, 24, 25, 26, 27, 28, 29] (by decide +kernel) (by decide +kernel)
set_option maxRecDepth 20000 in
theorem gX5_allBooks_X5_its : GoodIn wsX5_allBooks (wsV RX5 83 RX5 yX5_its wsX5_its) := goodIn_app (goodIn_of _ (by decide +kernel)) ggX5_allBooks_X5_its
set_option maxRecDepth 20000 in
theorem ggX5_allBooks_X5_ones : GoodIn wsX5_allBooks wsX5_ones := goodIn_r _ [12] (by decide +kernel) (by decide +kernel)
set_option maxRecDepth 20000 in
theorem gX5_allBooks_X5_ones : GoodIn wsX5_allBooks (va_wsS RX5 145 yX5_ones wsX5_ones) := goodIn_app (goodIn_of _ (by decide +kernel)) ggX5_allBooks_X5_ones
set_option maxRecDepth 20000 in
theorem ggX5_hours_X5_in : GoodIn wsX5_hours wsX5_in := goodIn_r _ [8] (by decide +kernel) (by decide +kernel)
set_option maxRecDepth 20000 in
theorem gX5_hours_X5_in : GoodIn wsX5_hours (va_wsS RX5 44 yX5_in wsX5_in) := goodIn_app (goodIn_of _ (by decide +kernel)) ggX5_hours_X5_in
set_option maxRecDepth 20000 in
theorem ggX5_hours_X5_finds : GoodIn wsX5_hours wsX5_finds := goodIn_r _ [12, 13, 2, 78, 79, 80, 81, 82, 83, 84, 85, 86, 87, 88, 89, 90, 91, 92, 93, 94] (by decide +kernel) (by decide +kernel)
set_option maxRecDepth 20000 in
theorem gX5_hours_X5_finds : GoodIn wsX5_hours (wsV RX5 65 RX5 yX5_finds wsX5_finds) := goodIn_app (goodIn_of _ (by decide +kernel)) ggX5_hours_X5_finds
set_option maxRecDepth 20000 in
theorem ggX5_hours_X5_go : GoodIn wsX5_hours wsX5_go := goodIn_r _ [17, 18, 19, 20, 7, 21, 3, 22, 23, 24, 25, 26, 27, 28, 29, 30, 31, 32, 33, 34, 35, 36, 37, 38, 39, 40, 41, 42, 43, 44, 45, 46, 5, 6, 8, 47, 48, 49, 50, 51, 52, 53, 54, 55, 56, 57, 58, 59, 60, 61, 62, 63, 64, 65, 66, 67, 68, 69, 70, 71, 72, 73, 78, 79, 80, 81, 82, 83, 84, 85, 86, 87, 88, 89, 90, 91, 92, 93, 94] (by decide +kernel) (by decide +kernel)
set_option maxRecDepth 20000 in
theorem gX5_hours_X5_go : GoodIn wsX5_hours (wsV RX5 160 RX5 yX5_go wsX5_go) := goodIn_app (goodIn_of _ (by decide +kernel)) ggX5_hours_X5_go
set_option maxRecDepth 20000 in
theorem ggX5_hours_X5_allBooks : GoodIn wsX5_hours wsX5_allBooks := goodIn_r _ [77, 3, 22, 23, 24, 7, 25, 26, 27, 28, 67, 68, 69, 78, 79, 80, 81, 82, 83, 84, 85, 86, 87, 88, 89, 90, 91, 92, 93, 94] (by decide +kernel) (by decide +kernel)
set_option maxRecDepth 20000 in
theorem gX5_hours_X5_allBooks : GoodIn wsX5_hours (wsV RX5 163 RX5 yX5_allBooks wsX5_allBooks) := goodIn_app (goodIn_of _ (by decide +kernel)) ggX5_hours_X5_allBooks
set_option maxRecDepth 20000 in
theorem ggX5_allSubjects_X5_its : GoodIn wsX5_allSubjects wsX5_its := goodIn_r _ [6, 1, 7, 8, 5, 9, 10, 11, 12, 13, 14, 15, 16, 17, 18, 19, 20, 21, 22, 23, 24, 25, 26] (by decide +kernel) (by decide +kernel)
set_option maxRecDepth 20000 in
theorem gX5_allSubjects_X5_its : GoodIn wsX5_allSubjects (wsV RX5 83 RX5 yX5_its wsX5_its) := goodIn_app (goodIn_of _ (by decide +kernel)) ggX5_allSubjects_X5_its
set_option maxRecDepth 20000 in
theorem ggX5_allCells_X5_its : GoodIn wsX5_allCells wsX5_its := goodIn_r _ [6, 1, 7, 8, 5, 9, 10, 11, 12, 13, 14, 15, 16, 17, 18, 19, 20, 21, 22, 23, 24, 25, 26] (by decide +kernel) (by decide +kernel)
set_option maxRecDepth 20000 in
theorem gX5_allCells_X5_its : GoodIn wsX5_allCells (wsV RX5 83 RX5 yX5_its wsX5_its) := goodIn_app (goodIn_of _ (by decide +kernel)) ggX5_allCells_X5_its
set_option maxRecDepth 20000 in
theorem ggX5_now_X5_clock : GoodIn wsX5_now wsX5_clock := goodIn_r _ [7, 1, 39, 40, 41, 42, 43, 44, 45, 46, 47, 48, 49, 50, 51, 52, 53, 54, 55] (by decide +kernel) (by decide +kernel)
set_option maxRecDepth 20000 in
theorem gX5_now_X5_clock : GoodIn wsX5_now (wsV RX5 92 RX5 yX5_clock wsX5_clock) := goodIn_app (goodIn_of _ (by decide +kernel)) ggX5_now_X5_clock
set_option maxRecDepth 20000 in
theorem ggX5_now_X5_rains : GoodIn wsX5_now wsX5_rains := goodIn_r _ [11, 1, 3, 4, 5, 6, 7, 39, 40, 41, 42, 43, 44, 45, 46, 47, 48, 49, 50, 51, 52, 53, 54, 55] (by decide +kernel) (by decide +kernel)
set_option maxRecDepth 20000 in
theorem gX5_now_X5_rains : GoodIn wsX5_now (wsV RX5 103 RX5 yX5_rains wsX5_rains) := goodIn_app (goodIn_of _ (by decide +kernel)) ggX5_now_X5_rains
set_option maxRecDepth 20000 in
theorem ggX5_now_X5_allBooks : GoodIn wsX5_now wsX5_allBooks := goodIn_r _ [15, 1, 16, 17, 18, 6, 19, 20, 21, 22, 23, 24, 25, 39, 40, 41, 42, 43, 44, 45, 46, 47, 48, 49, 50, 51, 52, 53, 54, 55] (by decide +kernel) (by decide +kernel)
set_option maxRecDepth 20000 in
theorem gX5_now_X5_allBooks : GoodIn wsX5_now (wsV RX5 163 RX5 yX5_allBooks wsX5_allBooks) := goodIn_app (goodIn_of _ (by decide +kernel)) ggX5_now_X5_allBooks
set_option maxRecDepth 20000 in
theorem ggX5_now_X5_allSubjects : GoodIn wsX5_now wsX5_allSubjects := goodIn_r _ [29, 1, 16, 17, 18, 6, 19, 20, 21, 22, 39, 40, 41, 42, 43, 44, 45, 46, 47, 48, 49, 50, 51, 52, 53, 54, 55] (by decide +kernel) (by decide +kernel)
set_option maxRecDepth 20000 in
theorem gX5_now_X5_allSubjects : GoodIn wsX5_now (wsV RX5 166 RX5 yX5_allSubjects wsX5_allSubjects) := goodIn_app (goodIn_of _ (by decide +kernel)) ggX5_now_X5_allSubjects
set_option maxRecDepth 20000 in
theorem ggX5_now_X5_allCells : GoodIn wsX5_now wsX5_allCells := goodIn_r _ [33, 1, 16, 17, 18, 6, 19, 20, 21, 22, 39, 40, 41, 42, 43, 44, 45, 46, 47, 48, 49, 50, 51, 52, 53, 54, 55] (by decide +kernel) (by decide +kernel)
set_option maxRecDepth 20000 in
theorem gX5_now_X5_allCells : GoodIn wsX5_now (wsV RX5 169 RX5 yX5_allCells wsX5_allCells) := goodIn_app (goodIn_of _ (by decide +kernel)) ggX5_now_X5_allCells
set_option maxRecDepth 20000 in
theorem ggX5_now_X5_finds : GoodIn wsX5_now wsX5_finds := goodIn_r _ [37, 38, 2, 39, 40, 41, 42, 43, 44, 45, 46, 47, 48, 49, 50, 51, 52, 53, 54, 55] (by decide +kernel) (by decide +kernel)
set_option maxRecDepth 20000 in
theorem gX5_now_X5_finds : GoodIn wsX5_now (wsV RX5 65 RX5 yX5_finds wsX5_finds) := goodIn_app (goodIn_of _ (by decide +kernel)) ggX5_now_X5_finds
set_option maxRecDepth 20000 in
theorem ggX5_on_X5_isOne : GoodIn wsX5_on wsX5_isOne := goodIn_r _ [7, 8, 9, 10, 6, 11, 86, 87, 88, 89, 90, 91, 92, 93, 94, 95, 96, 97, 98, 99, 100, 101, 102] (by decide +kernel) (by decide +kernel)
set_option maxRecDepth 20000 in
theorem gX5_on_X5_isOne : GoodIn wsX5_on (wsV RX5 54 RX5 yX5_isOne wsX5_isOne) := goodIn_app (goodIn_of _ (by decide +kernel)) ggX5_on_X5_isOne
set_option maxRecDepth 20000 in
theorem ggX5_on_X5_in : GoodIn wsX5_on wsX5_in := goodIn_r _ [11] (by decide +kernel) (by decide +kernel)
set_option maxRecDepth 20000 in
theorem gX5_on_X5_in : GoodIn wsX5_on (va_wsS RX5 44 yX5_in wsX5_in) := goodIn_app (goodIn_of _ (by decide +kernel)) ggX5_on_X5_in
set_option maxRecDepth 20000 in
theorem ggX5_on_X5_finds : GoodIn wsX5_on wsX5_finds := goodIn_r _ [15, 16, 2, 86, 87, 88, 89, 90, 91, 92, 93, 94, 95, 96, 97, 98, 99, 100, 101, 102] (by decide +kernel) (by decide +kernel)
set_option maxRecDepth 20000 in
theorem gX5_on_X5_finds : GoodIn wsX5_on (wsV RX5 65 RX5 yX5_finds wsX5_finds) := goodIn_app (goodIn_of _ (by decide +kernel)) ggX5_on_X5_finds
set_option maxRecDepth 20000 in
theorem ggX5_on_X5_laysAside : GoodIn wsX5_on wsX5_laysAside := goodIn_r _ [20, 21, 8, 86, 87, 88, 89, 90, 91, 92, 93, 94, 95, 96, 97, 98, 99, 100, 101, 102] (by decide +kernel) (by decide +kernel)
set_option maxRecDepth 20000 in
theorem gX5_on_X5_laysAside : GoodIn wsX5_on (wsV RX5 172 RX5 yX5_laysAside wsX5_laysAside) := goodIn_app (goodIn_of _ (by decide +kernel)) ggX5_on_X5_laysAside
set_option maxRecDepth 20000 in
theorem ggX5_on_X5_go : GoodIn wsX5_on wsX5_go := goodIn_r _ [25, 26, 27, 28, 6, 29, 8, 30, 31, 32, 33, 34, 35, 36, 37, 38, 39, 40, 41, 42, 43, 44, 45, 46, 47, 48, 49, 50, 51, 52, 53, 54, 9, 10, 11, 55, 56, 57, 58, 59, 60, 61, 62, 63, 64, 65, 66, 67, 68, 69, 70, 71, 72, 73, 74, 75, 76, 77, 78, 79, 80, 81, 86, 87, 88, 89, 90, 91, 92, 93, 94, 95, 96, 97, 98, 99, 100, 101, 102] (by decide +kernel) (by decide +kernel)
set_option maxRecDepth 20000 in
theorem gX5_on_X5_go : GoodIn wsX5_on (wsV RX5 160 RX5 yX5_go wsX5_go) := goodIn_app (goodIn_of _ (by decide +kernel)) ggX5_on_X5_go
set_option maxRecDepth 20000 in
theorem ggX5_on_X5_its : GoodIn wsX5_on wsX5_its := goodIn_r _ [33, 8, 34, 35, 6, 36, 86, 87, 88, 89, 90, 91, 92, 93, 94, 95, 96, 97, 98, 99, 100, 101, 102] (by decide +kernel) (by decide +kernel)
set_option maxRecDepth 20000 in
theorem gX5_on_X5_its : GoodIn wsX5_on (wsV RX5 83 RX5 yX5_its wsX5_its) := goodIn_app (goodIn_of _ (by decide +kernel)) ggX5_on_X5_its
set_option maxRecDepth 20000 in
theorem ggX5_on_X5_takesBack : GoodIn wsX5_on wsX5_takesBack := goodIn_r _ [85, 8, 21, 86, 87, 88, 89, 90, 91, 92, 93, 94, 95, 96, 97, 98, 99, 100, 101, 102] (by decide +kernel) (by decide +kernel)
set_option maxRecDepth 20000 in
theorem gX5_on_X5_takesBack : GoodIn wsX5_on (wsV RX5 175 RX5 yX5_takesBack wsX5_takesBack) := goodIn_app (goodIn_of _ (by decide +kernel)) ggX5_on_X5_takesBack
set_option maxRecDepth 20000 in
theorem ggX5_whenOf_X5_laysAside : GoodIn wsX5_whenOf wsX5_laysAside := goodIn_r _ [5, 6, 7, 71, 72, 73, 74, 75, 76, 77, 78, 79, 80, 81, 82, 83, 84, 85, 86, 87] (by decide +kernel) (by decide +kernel)
set_option maxRecDepth 20000 in
theorem gX5_whenOf_X5_laysAside : GoodIn wsX5_whenOf (wsV RX5 172 RX5 yX5_laysAside wsX5_laysAside) := goodIn_app (goodIn_of _ (by decide +kernel)) ggX5_whenOf_X5_laysAside
set_option maxRecDepth 20000 in
theorem ggX5_whenOf_X5_its : GoodIn wsX5_whenOf wsX5_its := goodIn_r _ [11, 7, 12, 13, 4, 14, 71, 72, 73, 74, 75, 76, 77, 78, 79, 80, 81, 82, 83, 84, 85, 86, 87] (by decide +kernel) (by decide +kernel)
set_option maxRecDepth 20000 in
theorem gX5_whenOf_X5_its : GoodIn wsX5_whenOf (wsV RX5 83 RX5 yX5_its wsX5_its) := goodIn_app (goodIn_of _ (by decide +kernel)) ggX5_whenOf_X5_its
set_option maxRecDepth 20000 in
theorem ggX5_whenOf_X5_hour : GoodIn wsX5_whenOf wsX5_hour := goodIn_r _ [18, 7, 8, 9, 10, 4, 11, 12, 13, 14, 19, 20, 21, 22, 23, 24, 25, 26, 27, 28, 29, 30, 31, 32, 33, 34, 35, 36, 37, 38, 39, 40, 41, 42, 43, 44, 45, 46, 47, 48, 49, 50, 51, 52, 53, 54, 55, 56, 57, 58, 59, 60, 61, 62, 63, 64, 65, 66, 71, 72, 73, 74, 75, 76, 77, 78, 79, 80, 81, 82, 83, 84, 85, 86, 87] (by decide +kernel) (by decide +kernel)
set_option maxRecDepth 20000 in
theorem gX5_whenOf_X5_hour : GoodIn wsX5_whenOf (wsV RX5 155 RX5 yX5_hour wsX5_hour) := goodIn_app (goodIn_of _ (by decide +kernel)) ggX5_whenOf_X5_hour
set_option maxRecDepth 20000 in
theorem ggX5_whenOf_X5_takesBack : GoodIn wsX5_whenOf wsX5_takesBack := goodIn_r _ [70, 7, 6, 71, 72, 73, 74, 75, 76, 77, 78, 79, 80, 81, 82, 83, 84, 85, 86, 87] (by decide +kernel) (by decide +kernel)
set_option maxRecDepth 20000 in
theorem gX5_whenOf_X5_takesBack : GoodIn wsX5_whenOf (wsV RX5 175 RX5 yX5_takesBack wsX5_takesBack) := goodIn_app (goodIn_of _ (by decide +kernel)) ggX5_whenOf_X5_takesBack
set_option maxRecDepth 20000 in
theorem ggX5_orNone_X5_in : GoodIn wsX5_orNone wsX5_in := goodIn_r _ [5] (by decide +kernel) (by decide +kernel)
set_option maxRecDepth 20000 in
theorem gX5_orNone_X5_in : GoodIn wsX5_orNone (va_wsS RX5 44 yX5_in wsX5_in) := goodIn_app (goodIn_of _ (by decide +kernel)) ggX5_orNone_X5_in
set_option maxRecDepth 20000 in
theorem ggX5_orNone_X5_finds : GoodIn wsX5_orNone wsX5_finds := goodIn_r _ [9, 10, 11, 12, 13, 14, 15, 16, 17, 18, 19, 20, 21, 22, 23, 24, 25, 26, 27, 28] (by decide +kernel) (by decide +kernel)
set_option maxRecDepth 20000 in
theorem gX5_orNone_X5_finds : GoodIn wsX5_orNone (wsV RX5 65 RX5 yX5_finds wsX5_finds) := goodIn_app (goodIn_of _ (by decide +kernel)) ggX5_orNone_X5_finds
set_option maxRecDepth 20000 in
theorem ggX5_when_X5_isOne : GoodIn wsX5_when wsX5_isOne := goodIn_r _ [6, 7, 8, 9, 5, 10, 94, 95, 96, 97, 98, 99, 100, 101, 102, 103, 104, 105, 106, 107, 108, 109, 110] (by decide +kernel) (by decide +kernel)
set_option maxRecDepth 20000 in
theorem gX5_when_X5_isOne : GoodIn wsX5_when (wsV RX5 54 RX5 yX5_isOne wsX5_isOne) := goodIn_app (goodIn_of _ (by decide +kernel)) ggX5_when_X5_isOne
set_option maxRecDepth 20000 in
theorem ggX5_when_X5_isCell : GoodIn wsX5_when wsX5_isCell := goodIn_r _ [13, 14, 8, 9, 5, 10] (by decide +kernel) (by decide +kernel)
set_option maxRecDepth 20000 in
theorem gX5_when_X5_isCell : GoodIn wsX5_when (va_wsS RX5 62 yX5_isCell wsX5_isCell) := goodIn_app (goodIn_of _ (by decide +kernel)) ggX5_when_X5_isCell
set_option maxRecDepth 20000 in
theorem ggX5_when_X5_whenOf : GoodIn wsX5_when wsX5_whenOf := goodIn_r _ [18, 19, 20, 21, 5, 22, 23, 7, 24, 25, 26, 27, 28, 29, 30, 31, 32, 33, 34, 35, 36, 37, 38, 39, 40, 41, 42, 43, 44, 45, 46, 47, 48, 49, 50, 51, 52, 8, 9, 10, 53, 54, 55, 56, 57, 58, 59, 60, 61, 62, 63, 64, 65, 66, 67, 68, 69, 70, 71, 72, 73, 74, 75, 76, 77, 78, 79, 80, 81, 82, 83, 94, 95, 96, 97, 98, 99, 100, 101, 102, 103, 104, 105, 106, 107, 108, 109, 110] (by decide +kernel) (by decide +kernel)
set_option maxRecDepth 20000 in
theorem gX5_when_X5_whenOf : GoodIn wsX5_when (wsV RX5 178 RX5 yX5_whenOf wsX5_whenOf) := goodIn_app (goodIn_of _ (by decide +kernel)) ggX5_when_X5_whenOf
set_option maxRecDepth 20000 in
theorem ggX5_when_X5_orNone : GoodIn wsX5_when wsX5_orNone := goodIn_r _ [87, 88, 8, 9, 5, 10, 89, 90, 91, 92, 93, 1, 94, 95, 96, 97, 98, 99, 100, 101, 102, 103, 104, 105, 106, 107, 108, 109, 110] (by decide +kernel) (by decide +kernel)
set_option maxRecDepth 20000 in
theorem gX5_when_X5_orNone : GoodIn wsX5_when (wsV RX5 181 RX5 yX5_orNone wsX5_orNone) := goodIn_app (goodIn_of _ (by decide +kernel)) ggX5_when_X5_orNone
set_option maxRecDepth 20000 in
theorem ggX5_when_X5_finds : GoodIn wsX5_when wsX5_finds := goodIn_r _ [92, 93, 1, 94, 95, 96, 97, 98, 99, 100, 101, 102, 103, 104, 105, 106, 107, 108, 109, 110] (by decide +kernel) (by decide +kernel)
set_option maxRecDepth 20000 in
theorem gX5_when_X5_finds : GoodIn wsX5_when (wsV RX5 65 RX5 yX5_finds wsX5_finds) := goodIn_app (goodIn_of _ (by decide +kernel)) ggX5_when_X5_finds
set_option maxRecDepth 20000 in
theorem ggX5_meet_X5_areTwo : GoodIn wsX5_meet wsX5_areTwo := goodIn_r _ [6, 7, 8, 9, 5, 10, 11, 12, 13, 14, 90, 91, 92, 93, 94, 95, 96, 97, 98, 99, 100, 101, 102, 103, 104, 105, 106] (by decide +kernel) (by decide +kernel)
set_option maxRecDepth 20000 in
theorem gX5_meet_X5_areTwo : GoodIn wsX5_meet (wsV RX5 129 RX5 yX5_areTwo wsX5_areTwo) := goodIn_app (goodIn_of _ (by decide +kernel)) ggX5_meet_X5_areTwo
set_option maxRecDepth 20000 in
theorem ggX5_meet_X5_finds : GoodIn wsX5_meet wsX5_finds := goodIn_r _ [18, 19, 1, 90, 91, 92, 93, 94, 95, 96, 97, 98, 99, 100, 101, 102, 103, 104, 105, 106] (by decide +kernel) (by decide +kernel)
set_option maxRecDepth 20000 in
theorem gX5_meet_X5_finds : GoodIn wsX5_meet (wsV RX5 65 RX5 yX5_finds wsX5_finds) := goodIn_app (goodIn_of _ (by decide +kernel)) ggX5_meet_X5_finds
set_option maxRecDepth 20000 in
theorem ggX5_meet_X5_laysAside : GoodIn wsX5_meet wsX5_laysAside := goodIn_r _ [23, 24, 11, 90, 91, 92, 93, 94, 95, 96, 97, 98, 99, 100, 101, 102, 103, 104, 105, 106] (by decide +kernel) (by decide +kernel)
set_option maxRecDepth 20000 in
theorem gX5_meet_X5_laysAside : GoodIn wsX5_meet (wsV RX5 172 RX5 yX5_laysAside wsX5_laysAside) := goodIn_app (goodIn_of _ (by decide +kernel)) ggX5_meet_X5_laysAside
set_option maxRecDepth 20000 in
theorem ggX5_meet_X5_its : GoodIn wsX5_meet wsX5_its := goodIn_r _ [28, 11, 29, 30, 5, 31, 90, 91, 92, 93, 94, 95, 96, 97, 98, 99, 100, 101, 102, 103, 104, 105, 106] (by decide +kernel) (by decide +kernel)
set_option maxRecDepth 20000 in
theorem gX5_meet_X5_its : GoodIn wsX5_meet (wsV RX5 83 RX5 yX5_its wsX5_its) := goodIn_app (goodIn_of _ (by decide +kernel)) ggX5_meet_X5_its
set_option maxRecDepth 20000 in
theorem ggX5_meet_X5_hour : GoodIn wsX5_meet wsX5_hour := goodIn_r _ [35, 11, 25, 26, 27, 5, 28, 29, 30, 31, 36, 37, 38, 39, 40, 41, 42, 43, 44, 45, 46, 47, 48, 49, 50, 51, 52, 53, 12, 13, 14, 54, 55, 56, 57, 58, 59, 60, 61, 62, 63, 64, 65, 66, 67, 68, 69, 70, 71, 72, 73, 74, 75, 76, 77, 78, 79, 80, 90, 91, 92, 93, 94, 95, 96, 97, 98, 99, 100, 101, 102, 103, 104, 105, 106] (by decide +kernel) (by decide +kernel)
set_option maxRecDepth 20000 in
theorem gX5_meet_X5_hour : GoodIn wsX5_meet (wsV RX5 155 RX5 yX5_hour wsX5_hour) := goodIn_app (goodIn_of _ (by decide +kernel)) ggX5_meet_X5_hour
set_option maxRecDepth 20000 in
theorem ggX5_meet_X5_takesBack : GoodIn wsX5_meet wsX5_takesBack := goodIn_r _ [84, 11, 24, 90, 91, 92, 93, 94, 95, 96, 97, 98, 99, 100, 101, 102, 103, 104, 105, 106] (by decide +kernel) (by decide +kernel)
set_option maxRecDepth 20000 in
theorem gX5_meet_X5_takesBack : GoodIn wsX5_meet (wsV RX5 175 RX5 yX5_takesBack wsX5_takesBack) := goodIn_app (goodIn_of _ (by decide +kernel)) ggX5_meet_X5_takesBack
set_option maxRecDepth 20000 in
theorem ggX5_meet_X5_orNone : GoodIn wsX5_meet wsX5_orNone := goodIn_r _ [88, 89, 12, 13, 5, 14, 15, 16, 17, 18, 19, 1, 90, 91, 92, 93, 94, 95, 96, 97, 98, 99, 100, 101, 102, 103, 104, 105, 106] (by decide +kernel) (by decide +kernel)
set_option maxRecDepth 20000 in
theorem gX5_meet_X5_orNone : GoodIn wsX5_meet (wsV RX5 181 RX5 yX5_orNone wsX5_orNone) := goodIn_app (goodIn_of _ (by decide +kernel)) ggX5_meet_X5_orNone
set_option maxRecDepth 20000 in
theorem ggX5_carriers_X5_its : GoodIn wsX5_carriers wsX5_its := goodIn_r _ [6, 1, 7, 8, 5, 9, 10, 11, 12, 13, 14, 15, 16, 17, 18, 19, 20, 21, 22, 23, 24, 25, 26] (by decide +kernel) (by decide +kernel)
set_option maxRecDepth 20000 in
theorem gX5_carriers_X5_its : GoodIn wsX5_carriers (wsV RX5 83 RX5 yX5_its wsX5_its) := goodIn_app (goodIn_of _ (by decide +kernel)) ggX5_carriers_X5_its
set_option maxRecDepth 20000 in
theorem ggX5_carries_X5_isSubject : GoodIn wsX5_carries wsX5_isSubject := goodIn_r _ [6, 7, 8, 9, 5, 10] (by decide +kernel) (by decide +kernel)
set_option maxRecDepth 20000 in
theorem gX5_carries_X5_isSubject : GoodIn wsX5_carries (va_wsS RX5 133 yX5_isSubject wsX5_isSubject) := goodIn_app (goodIn_of _ (by decide +kernel)) ggX5_carries_X5_isSubject
set_option maxRecDepth 20000 in
theorem ggX5_carries_X5_in : GoodIn wsX5_carries wsX5_in := goodIn_r _ [10] (by decide +kernel) (by decide +kernel)
set_option maxRecDepth 20000 in
theorem gX5_carries_X5_in : GoodIn wsX5_carries (va_wsS RX5 44 yX5_in wsX5_in) := goodIn_app (goodIn_of _ (by decide +kernel)) ggX5_carries_X5_in
set_option maxRecDepth 20000 in
theorem ggX5_carries_X5_finds : GoodIn wsX5_carries wsX5_finds := goodIn_r _ [14, 15, 2, 90, 91, 92, 93, 94, 95, 96, 97, 98, 99, 100, 101, 102, 103, 104, 105, 106] (by decide +kernel) (by decide +kernel)
set_option maxRecDepth 20000 in
theorem gX5_carries_X5_finds : GoodIn wsX5_carries (wsV RX5 65 RX5 yX5_finds wsX5_finds) := goodIn_app (goodIn_of _ (by decide +kernel)) ggX5_carries_X5_finds
set_option maxRecDepth 20000 in
theorem ggX5_carries_X5_laysAside : GoodIn wsX5_carries wsX5_laysAside := goodIn_r _ [19, 20, 21, 90, 91, 92, 93, 94, 95, 96, 97, 98, 99, 100, 101, 102, 103, 104, 105, 106] (by decide +kernel) (by decide +kernel)
set_option maxRecDepth 20000 in
theorem gX5_carries_X5_laysAside : GoodIn wsX5_carries (wsV RX5 172 RX5 yX5_laysAside wsX5_laysAside) := goodIn_app (goodIn_of _ (by decide +kernel)) ggX5_carries_X5_laysAside
set_option maxRecDepth 20000 in
theorem ggX5_carries_X5_go : GoodIn wsX5_carries wsX5_go := goodIn_r _ [25, 26, 27, 28, 5, 29, 21, 30, 31, 32, 33, 34, 35, 36, 37, 38, 39, 40, 41, 42, 43, 44, 45, 46, 47, 48, 49, 50, 51, 52, 53, 54, 8, 9, 10, 55, 56, 57, 58, 59, 60, 61, 62, 63, 64, 65, 66, 67, 68, 69, 70, 71, 72, 73, 74, 75, 76, 77, 78, 79, 80, 81, 90, 91, 92, 93, 94, 95, 96, 97, 98, 99, 100, 101, 102, 103, 104, 105, 106] (by decide +kernel) (by decide +kernel)
set_option maxRecDepth 20000 in
theorem gX5_carries_X5_go : GoodIn wsX5_carries (wsV RX5 160 RX5 yX5_go wsX5_go) := goodIn_app (goodIn_of _ (by decide +kernel)) ggX5_carries_X5_go
set_option maxRecDepth 20000 in
theorem ggX5_carries_X5_carriers : GoodIn wsX5_carries wsX5_carriers := goodIn_r _ [85, 21, 30, 31, 32, 5, 33, 34, 35, 36, 90, 91, 92, 93, 94, 95, 96, 97, 98, 99, 100, 101, 102, 103, 104, 105, 106] (by decide +kernel) (by decide +kernel)
set_option maxRecDepth 20000 in
theorem gX5_carries_X5_carriers : GoodIn wsX5_carries (wsV RX5 184 RX5 yX5_carriers wsX5_carriers) := goodIn_app (goodIn_of _ (by decide +kernel)) ggX5_carries_X5_carriers
set_option maxRecDepth 20000 in
theorem ggX5_carries_X5_takesBack : GoodIn wsX5_carries wsX5_takesBack := goodIn_r _ [89, 21, 20, 90, 91, 92, 93, 94, 95, 96, 97, 98, 99, 100, 101, 102, 103, 104, 105, 106] (by decide +kernel) (by decide +kernel)
set_option maxRecDepth 20000 in
theorem gX5_carries_X5_takesBack : GoodIn wsX5_carries (wsV RX5 175 RX5 yX5_takesBack wsX5_takesBack) := goodIn_app (goodIn_of _ (by decide +kernel)) ggX5_carries_X5_takesBack
set_option maxRecDepth 20000 in
theorem ggX5_spread_X5_open : GoodIn wsX5_spread wsX5_open := goodIn_r _ [5, 6, 7, 8, 9, 10, 11, 12, 13, 14, 15, 16, 17, 18, 19, 20, 21, 22, 23, 24] (by decide +kernel) (by decide +kernel)
set_option maxRecDepth 20000 in
theorem gX5_spread_X5_open : GoodIn wsX5_spread (wsV RX5 188 RX5 yX5_open wsX5_open) := goodIn_app (goodIn_of _ (by decide +kernel)) ggX5_spread_X5_open
set_option maxRecDepth 20000 in
theorem ggX5_places_X5_its : GoodIn wsX5_places wsX5_its := goodIn_r _ [6, 1, 7, 8, 5, 9, 10, 11, 12, 13, 14, 15, 16, 17, 18, 19, 20, 21, 22, 23, 24, 25, 26] (by decide +kernel) (by decide +kernel)
set_option maxRecDepth 20000 in
theorem gX5_places_X5_its : GoodIn wsX5_places (wsV RX5 83 RX5 yX5_its wsX5_its) := goodIn_app (goodIn_of _ (by decide +kernel)) ggX5_places_X5_its
set_option maxRecDepth 20000 in
theorem ggX5_soonestOf_X5_laysAside : GoodIn wsX5_soonestOf wsX5_laysAside := goodIn_r _ [6, 7, 8, 85, 86, 87, 88, 89, 90, 91, 92, 93, 94, 95, 96, 97, 98, 99, 100, 101] (by decide +kernel) (by decide +kernel)
set_option maxRecDepth 20000 in
theorem gX5_soonestOf_X5_laysAside : GoodIn wsX5_soonestOf (wsV RX5 172 RX5 yX5_laysAside wsX5_laysAside) := goodIn_app (goodIn_of _ (by decide +kernel)) ggX5_soonestOf_X5_laysAside
set_option maxRecDepth 20000 in
theorem ggX5_soonestOf_X5_places : GoodIn wsX5_soonestOf wsX5_places := goodIn_r _ [12, 8, 13, 14, 15, 5, 16, 17, 18, 19, 85, 86, 87, 88, 89, 90, 91, 92, 93, 94, 95, 96, 97, 98, 99, 100, 101] (by decide +kernel) (by decide +kernel)
set_option maxRecDepth 20000 in
theorem gX5_soonestOf_X5_places : GoodIn wsX5_soonestOf (wsV RX5 191 RX5 yX5_places wsX5_places) := goodIn_app (goodIn_of _ (by decide +kernel)) ggX5_soonestOf_X5_places
set_option maxRecDepth 20000 in
theorem ggX5_soonestOf_X5_spread : GoodIn wsX5_soonestOf wsX5_spread := goodIn_r _ [23, 24, 25, 26, 5, 27, 28, 8, 85, 86, 87, 88, 89, 90, 91, 92, 93, 94, 95, 96, 97, 98, 99, 100, 101] (by decide +kernel) (by decide +kernel)
set_option maxRecDepth 20000 in
theorem gX5_soonestOf_X5_spread : GoodIn wsX5_soonestOf (wsV RX5 198 RX5 yX5_spread wsX5_spread) := goodIn_app (goodIn_of _ (by decide +kernel)) ggX5_soonestOf_X5_spread
set_option maxRecDepth 20000 in
theorem ggX5_soonestOf_X5_hour : GoodIn wsX5_soonestOf wsX5_hour := goodIn_r _ [32, 8, 13, 14, 15, 5, 16, 17, 18, 19, 33, 34, 35, 36, 37, 38, 39, 40, 41, 42, 43, 44, 45, 46, 47, 48, 49, 50, 51, 52, 53, 54, 55, 56, 57, 58, 59, 60, 61, 62, 63, 64, 65, 66, 67, 68, 69, 70, 71, 72, 73, 74, 75, 76, 77, 78, 79, 80, 85, 86, 87, 88, 89, 90, 91, 92, 93, 94, 95, 96, 97, 98, 99, 100, 101] (by decide +kernel) (by decide +kernel)
set_option maxRecDepth 20000 in
theorem gX5_soonestOf_X5_hour : GoodIn wsX5_soonestOf (wsV RX5 155 RX5 yX5_hour wsX5_hour) := goodIn_app (goodIn_of _ (by decide +kernel)) ggX5_soonestOf_X5_hour
set_option maxRecDepth 20000 in
theorem ggX5_soonestOf_X5_takesBack : GoodIn wsX5_soonestOf wsX5_takesBack := goodIn_r _ [84, 8, 7, 85, 86, 87, 88, 89, 90, 91, 92, 93, 94, 95, 96, 97, 98, 99, 100, 101] (by decide +kernel) (by decide +kernel)
set_option maxRecDepth 20000 in
theorem gX5_soonestOf_X5_takesBack : GoodIn wsX5_soonestOf (wsV RX5 175 RX5 yX5_takesBack wsX5_takesBack) := goodIn_app (goodIn_of _ (by decide +kernel)) ggX5_soonestOf_X5_takesBack
set_option maxRecDepth 20000 in
theorem ggX5_wrongReader_X5_isCell : GoodIn wsX5_wrongReader wsX5_isCell := goodIn_r _ [6, 7, 8, 9, 5, 10] (by decide +kernel) (by decide +kernel)
set_option maxRecDepth 20000 in
theorem gX5_wrongReader_X5_isCell : GoodIn wsX5_wrongReader (va_wsS RX5 62 yX5_isCell wsX5_isCell) := goodIn_app (goodIn_of _ (by decide +kernel)) ggX5_wrongReader_X5_isCell
set_option maxRecDepth 20000 in
theorem ggX5_wrongReader_X5_isSubject : GoodIn wsX5_wrongReader wsX5_isSubject := goodIn_r _ [13, 14, 8, 9, 5, 10] (by decide +kernel) (by decide +kernel)
set_option maxRecDepth 20000 in
theorem gX5_wrongReader_X5_isSubject : GoodIn wsX5_wrongReader (va_wsS RX5 133 yX5_isSubject wsX5_isSubject) := goodIn_app (goodIn_of _ (by decide +kernel)) ggX5_wrongReader_X5_isSubject
set_option maxRecDepth 20000 in
theorem ggX5_wrongReader_X5_isFenced : GoodIn wsX5_wrongReader wsX5_isFenced := goodIn_r _ [18, 19, 20, 21, 22, 23, 24, 25, 26, 27, 28, 29, 30, 31, 32, 33, 34, 35, 36] (by decide +kernel) (by decide +kernel)
set_option maxRecDepth 20000 in
theorem gX5_wrongReader_X5_isFenced : GoodIn wsX5_wrongReader (wsV RX5 69 RX5 yX5_isFenced wsX5_isFenced) := goodIn_app (goodIn_of _ (by decide +kernel)) ggX5_wrongReader_X5_isFenced
set_option maxRecDepth 20000 in
theorem ggX5_soonest_X5_wrongReader : GoodIn wsX5_soonest wsX5_wrongReader := goodIn_r _ [5, 6, 7, 8, 9, 4, 10, 11, 12, 13, 14, 15, 16, 17, 18, 19, 20, 21, 22, 23, 113, 114, 115, 116, 117, 118, 119, 120, 121, 122, 123, 124, 125, 126, 127, 128, 129] (by decide +kernel) (by decide +kernel)
set_option maxRecDepth 20000 in
theorem gX5_soonest_X5_wrongReader : GoodIn wsX5_soonest (wsV RX5 201 RX5 yX5_wrongReader wsX5_wrongReader) := goodIn_app (goodIn_of _ (by decide +kernel)) ggX5_soonest_X5_wrongReader
set_option maxRecDepth 20000 in
theorem ggX5_soonest_X5_finds : GoodIn wsX5_soonest wsX5_finds := goodIn_r _ [27, 28, 6, 113, 114, 115, 116, 117, 118, 119, 120, 121, 122, 123, 124, 125, 126, 127, 128, 129] (by decide +kernel) (by decide +kernel)
set_option maxRecDepth 20000 in
theorem gX5_soonest_X5_finds : GoodIn wsX5_soonest (wsV RX5 65 RX5 yX5_finds wsX5_finds) := goodIn_app (goodIn_of _ (by decide +kernel)) ggX5_soonest_X5_finds
set_option maxRecDepth 20000 in
theorem ggX5_soonest_X5_soonestOf : GoodIn wsX5_soonest wsX5_soonestOf := goodIn_r _ [32, 33, 34, 35, 36, 4, 37, 38, 23, 39, 40, 41, 42, 43, 44, 45, 46, 47, 48, 49, 50, 51, 52, 53, 54, 55, 56, 57, 58, 59, 60, 61, 62, 63, 64, 65, 66, 67, 68, 69, 70, 71, 72, 73, 74, 75, 76, 77, 78, 79, 80, 12, 13, 14, 81, 82, 83, 84, 85, 86, 87, 88, 89, 90, 91, 92, 19, 20, 21, 22, 93, 94, 95, 96, 97, 98, 99, 100, 101, 102, 103, 104, 105, 106, 107, 113, 114, 115, 116, 117, 118, 119, 120, 121, 122, 123, 124, 125, 126, 127, 128, 129] (by decide +kernel) (by decide +kernel)
set_option maxRecDepth 20000 in
theorem gX5_soonest_X5_soonestOf : GoodIn wsX5_soonest (wsV RX5 204 RX5 yX5_soonestOf wsX5_soonestOf) := goodIn_app (goodIn_of _ (by decide +kernel)) ggX5_soonest_X5_soonestOf
set_option maxRecDepth 20000 in
theorem ggX5_soonest_X5_orNone : GoodIn wsX5_soonest wsX5_orNone := goodIn_r _ [111, 112, 12, 13, 4, 14, 24, 25, 26, 27, 28, 6, 113, 114, 115, 116, 117, 118, 119, 120, 121, 122, 123, 124, 125, 126, 127, 128, 129] (by decide +kernel) (by decide +kernel)
set_option maxRecDepth 20000 in
theorem gX5_soonest_X5_orNone : GoodIn wsX5_soonest (wsV RX5 181 RX5 yX5_orNone wsX5_orNone) := goodIn_app (goodIn_of _ (by decide +kernel)) ggX5_soonest_X5_orNone
set_option maxRecDepth 20000 in
theorem ggX5_where_X5_wrongReader : GoodIn wsX5_where wsX5_wrongReader := goodIn_r _ [7, 8, 9, 10, 11, 6, 12, 13, 14, 15, 16, 17, 18, 19, 20, 21, 22, 23, 24, 25, 109, 110, 111, 112, 113, 114, 115, 116, 117, 118, 119, 120, 121, 122, 123, 124, 125] (by decide +kernel) (by decide +kernel)
set_option maxRecDepth 20000 in
theorem gX5_where_X5_wrongReader : GoodIn wsX5_where (wsV RX5 201 RX5 yX5_wrongReader wsX5_wrongReader) := goodIn_app (goodIn_of _ (by decide +kernel)) ggX5_where_X5_wrongReader
set_option maxRecDepth 20000 in
theorem ggX5_where_X5_finds : GoodIn wsX5_where wsX5_finds := goodIn_r _ [29, 30, 8, 109, 110, 111, 112, 113, 114, 115, 116, 117, 118, 119, 120, 121, 122, 123, 124, 125] (by decide +kernel) (by decide +kernel)
set_option maxRecDepth 20000 in
theorem gX5_where_X5_finds : GoodIn wsX5_where (wsV RX5 65 RX5 yX5_finds wsX5_finds) := goodIn_app (goodIn_of _ (by decide +kernel)) ggX5_where_X5_finds
set_option maxRecDepth 20000 in
theorem ggX5_where_X5_soonestOf : GoodIn wsX5_where wsX5_soonestOf := goodIn_r _ [34, 2, 35, 36, 37, 6, 38, 39, 25, 40, 41, 42, 43, 44, 45, 46, 47, 48, 49, 50, 51, 52, 53, 54, 55, 56, 57, 58, 59, 60, 61, 62, 63, 64, 65, 66, 67, 68, 69, 70, 71, 72, 73, 74, 75, 76, 77, 78, 79, 80, 81, 14, 15, 16, 82, 83, 84, 85, 86, 87, 88, 89, 90, 91, 92, 93, 21, 22, 23, 24, 94, 95, 96, 97, 98, 99, 100, 101, 102, 103, 104, 105, 106, 107, 108, 109, 110, 111, 112, 113, 114, 115, 116, 117, 118, 119, 120, 121, 122, 123, 124, 125] (by decide +kernel) (by decide +kernel)
set_option maxRecDepth 20000 in
theorem gX5_where_X5_soonestOf : GoodIn wsX5_where (wsV RX5 204 RX5 yX5_soonestOf wsX5_soonestOf) := goodIn_app (goodIn_of _ (by decide +kernel)) ggX5_where_X5_soonestOf
set_option maxRecDepth 20000 in
theorem ggX5_waits_X5_wrongReader : GoodIn wsX5_waits wsX5_wrongReader := goodIn_r _ [5, 6, 7, 8, 9, 4, 10, 11, 12, 13, 14, 15, 16, 17, 18, 19, 20, 21, 22, 23, 99, 100, 101, 102, 103, 104, 105, 106, 107, 108, 109, 110, 111, 112, 113, 114, 115] (by decide +kernel) (by decide +kernel)
set_option maxRecDepth 20000 in
theorem gX5_waits_X5_wrongReader : GoodIn wsX5_waits (wsV RX5 201 RX5 yX5_wrongReader wsX5_wrongReader) := goodIn_app (goodIn_of _ (by decide +kernel)) ggX5_waits_X5_wrongReader
set_option maxRecDepth 20000 in
theorem ggX5_waits_X5_finds : GoodIn wsX5_waits wsX5_finds := goodIn_r _ [27, 28, 6, 99, 100, 101, 102, 103, 104, 105, 106, 107, 108, 109, 110, 111, 112, 113, 114, 115] (by decide +kernel) (by decide +kernel)
set_option maxRecDepth 20000 in
theorem gX5_waits_X5_finds : GoodIn wsX5_waits (wsV RX5 65 RX5 yX5_finds wsX5_finds) := goodIn_app (goodIn_of _ (by decide +kernel)) ggX5_waits_X5_finds
set_option maxRecDepth 20000 in
theorem ggX5_waits_X5_laysAside : GoodIn wsX5_waits wsX5_laysAside := goodIn_r _ [32, 33, 23, 99, 100, 101, 102, 103, 104, 105, 106, 107, 108, 109, 110, 111, 112, 113, 114, 115] (by decide +kernel) (by decide +kernel)
set_option maxRecDepth 20000 in
theorem gX5_waits_X5_laysAside : GoodIn wsX5_waits (wsV RX5 172 RX5 yX5_laysAside wsX5_laysAside) := goodIn_app (goodIn_of _ (by decide +kernel)) ggX5_waits_X5_laysAside
set_option maxRecDepth 20000 in
theorem ggX5_waits_X5_places : GoodIn wsX5_waits wsX5_places := goodIn_r _ [37, 23, 38, 39, 40, 4, 41, 42, 43, 44, 99, 100, 101, 102, 103, 104, 105, 106, 107, 108, 109, 110, 111, 112, 113, 114, 115] (by decide +kernel) (by decide +kernel)
set_option maxRecDepth 20000 in
theorem gX5_waits_X5_places : GoodIn wsX5_waits (wsV RX5 191 RX5 yX5_places wsX5_places) := goodIn_app (goodIn_of _ (by decide +kernel)) ggX5_waits_X5_places
set_option maxRecDepth 20000 in
theorem ggX5_waits_X5_hour : GoodIn wsX5_waits wsX5_hour := goodIn_r _ [48, 23, 38, 39, 40, 4, 41, 42, 43, 44, 49, 50, 51, 52, 53, 54, 55, 56, 57, 58, 59, 60, 61, 62, 63, 64, 65, 66, 12, 13, 14, 67, 68, 69, 70, 71, 72, 73, 74, 75, 76, 77, 78, 19, 20, 21, 22, 79, 80, 81, 82, 83, 84, 85, 86, 87, 88, 89, 99, 100, 101, 102, 103, 104, 105, 106, 107, 108, 109, 110, 111, 112, 113, 114, 115] (by decide +kernel) (by decide +kernel)
set_option maxRecDepth 20000 in
theorem gX5_waits_X5_hour : GoodIn wsX5_waits (wsV RX5 155 RX5 yX5_hour wsX5_hour) := goodIn_app (goodIn_of _ (by decide +kernel)) ggX5_waits_X5_hour
set_option maxRecDepth 20000 in
theorem ggX5_waits_X5_takesBack : GoodIn wsX5_waits wsX5_takesBack := goodIn_r _ [93, 23, 33, 99, 100, 101, 102, 103, 104, 105, 106, 107, 108, 109, 110, 111, 112, 113, 114, 115] (by decide +kernel) (by decide +kernel)
set_option maxRecDepth 20000 in
theorem gX5_waits_X5_takesBack : GoodIn wsX5_waits (wsV RX5 175 RX5 yX5_takesBack wsX5_takesBack) := goodIn_app (goodIn_of _ (by decide +kernel)) ggX5_waits_X5_takesBack
set_option maxRecDepth 20000 in
theorem ggX5_waits_X5_orNone : GoodIn wsX5_waits wsX5_orNone := goodIn_r _ [97, 98, 12, 13, 4, 14, 24, 25, 26, 27, 28, 6, 99, 100, 101, 102, 103, 104, 105, 106, 107, 108, 109, 110, 111, 112, 113, 114, 115] (by decide +kernel) (by decide +kernel)
set_option maxRecDepth 20000 in
theorem gX5_waits_X5_orNone : GoodIn wsX5_waits (wsV RX5 181 RX5 yX5_orNone wsX5_orNone) := goodIn_app (goodIn_of _ (by decide +kernel)) ggX5_waits_X5_orNone
set_option maxRecDepth 20000 in
theorem ggX5_waterhole_X5_isSubject : GoodIn wsX5_waterhole wsX5_isSubject := goodIn_r _ [5, 6, 7, 8, 4, 9] (by decide +kernel) (by decide +kernel)
set_option maxRecDepth 20000 in
theorem gX5_waterhole_X5_isSubject : GoodIn wsX5_waterhole (va_wsS RX5 133 yX5_isSubject wsX5_isSubject) := goodIn_app (goodIn_of _ (by decide +kernel)) ggX5_waterhole_X5_isSubject
set_option maxRecDepth 20000 in
theorem ggX5_waterhole_X5_finds : GoodIn wsX5_waterhole wsX5_finds := goodIn_r _ [13, 14, 1, 95, 96, 97, 98, 99, 100, 101, 102, 103, 104, 105, 106, 107, 108, 109, 110, 111] (by decide +kernel) (by decide +kernel)
set_option maxRecDepth 20000 in
theorem gX5_waterhole_X5_finds : GoodIn wsX5_waterhole (wsV RX5 65 RX5 yX5_finds wsX5_finds) := goodIn_app (goodIn_of _ (by decide +kernel)) ggX5_waterhole_X5_finds
set_option maxRecDepth 20000 in
theorem ggX5_waterhole_X5_laysAside : GoodIn wsX5_waterhole wsX5_laysAside := goodIn_r _ [18, 19, 20, 95, 96, 97, 98, 99, 100, 101, 102, 103, 104, 105, 106, 107, 108, 109, 110, 111] (by decide +kernel) (by decide +kernel)
set_option maxRecDepth 20000 in
theorem gX5_waterhole_X5_laysAside : GoodIn wsX5_waterhole (wsV RX5 172 RX5 yX5_laysAside wsX5_laysAside) := goodIn_app (goodIn_of _ (by decide +kernel)) ggX5_waterhole_X5_laysAside
