set_option maxRecDepth 20000 in
theorem ggX4_as_X4_isKind : GoodIn wsX4_as wsX4_isKind := goodIn_r _ [13, 14, 8, 9, 10] (by decide +kernel) (by decide +kernel)
set_option maxRecDepth 20000 in
theorem gX4_as_X4_isKind : GoodIn wsX4_as (va_wsS RX4 90 yX4_isKind wsX4_isKind) := goodIn_app (goodIn_of _ (by decide +kernel)) ggX4_as_X4_isKind
set_option maxRecDepth 20000 in
theorem ggX4_as_X4_finding : GoodIn wsX4_as wsX4_finding := goodIn_r _ [18, 19, 20, 25, 26, 27, 28, 29, 30, 31, 32] (by decide +kernel) (by decide +kernel)
set_option maxRecDepth 20000 in
theorem gX4_as_X4_finding : GoodIn wsX4_as (wsV RX4 58 RX4 yX4_finding wsX4_finding) := goodIn_app (goodIn_of _ (by decide +kernel)) ggX4_as_X4_finding
set_option maxRecDepth 20000 in
theorem ggX4_as_X4_isUnder : GoodIn wsX4_as wsX4_isUnder := goodIn_r _ [23, 24] (by decide +kernel) (by decide +kernel)
set_option maxRecDepth 20000 in
theorem gX4_as_X4_isUnder : GoodIn wsX4_as (va_wsS RX4 123 yX4_isUnder wsX4_isUnder) := goodIn_app (goodIn_of _ (by decide +kernel)) ggX4_as_X4_isUnder
set_option maxRecDepth 20000 in
theorem ggX4_lend_X4_areTwo : GoodIn wsX4_lend wsX4_areTwo := goodIn_r _ [6, 1, 7, 8, 9, 10, 11, 12, 13, 5, 14, 30, 31, 32, 33, 34, 35, 36, 37, 38, 39, 40, 41, 42, 43, 44, 45, 46] (by decide +kernel) (by decide +kernel)
set_option maxRecDepth 20000 in
theorem gX4_lend_X4_areTwo : GoodIn wsX4_lend (wsV RX4 126 RX4 yX4_areTwo wsX4_areTwo) := goodIn_app (goodIn_of _ (by decide +kernel)) ggX4_lend_X4_areTwo
set_option maxRecDepth 20000 in
theorem ggX4_lend_X4_isSubject : GoodIn wsX4_lend wsX4_isSubject := goodIn_r _ [17, 18, 13, 5, 14] (by decide +kernel) (by decide +kernel)
set_option maxRecDepth 20000 in
theorem gX4_lend_X4_isSubject : GoodIn wsX4_lend (va_wsS RX4 129 yX4_isSubject wsX4_isSubject) := goodIn_app (goodIn_of _ (by decide +kernel)) ggX4_lend_X4_isSubject
set_option maxRecDepth 20000 in
theorem ggX4_lend_X4_finding : GoodIn wsX4_lend wsX4_finding := goodIn_r _ [22, 23, 24, 30, 31, 32, 33, 34, 35, 36, 37] (by decide +kernel) (by decide +kernel)
set_option maxRecDepth 20000 in
theorem gX4_lend_X4_finding : GoodIn wsX4_lend (wsV RX4 58 RX4 yX4_finding wsX4_finding) := goodIn_app (goodIn_of _ (by decide +kernel)) ggX4_lend_X4_finding
set_option maxRecDepth 20000 in
theorem ggX4_lend_X0_handsOver : GoodIn wsX4_lend wsX0_handsOver := goodIn_r _ [28, 29, 38, 39, 40, 41, 42, 43, 44, 45, 46] (by decide +kernel) (by decide +kernel)
set_option maxRecDepth 20000 in
theorem gX4_lend_X0_handsOver : GoodIn wsX4_lend (wsV RX4 132 RX0 yX0_handsOver wsX0_handsOver) := goodIn_app (goodIn_of _ (by decide +kernel)) ggX4_lend_X0_handsOver
set_option maxRecDepth 20000 in
theorem ggX4_hours_X4_finding : GoodIn wsX4_hours wsX4_finding := goodIn_r _ [6, 7, 8, 82, 83, 84, 85, 86, 87, 88, 89] (by decide +kernel) (by decide +kernel)
set_option maxRecDepth 20000 in
theorem gX4_hours_X4_finding : GoodIn wsX4_hours (wsV RX4 58 RX4 yX4_finding wsX4_finding) := goodIn_app (goodIn_of _ (by decide +kernel)) ggX4_hours_X4_finding
set_option maxRecDepth 20000 in
theorem ggX4_hours_X0_goHours : GoodIn wsX4_hours wsX0_goHours := goodIn_r _ [13, 14, 15, 16, 12, 17, 18, 19, 20, 21, 22, 23, 24, 25, 26, 27, 28, 29, 30, 31, 32, 33, 34, 35, 36, 37, 38, 39, 40, 41, 42, 43, 44, 45, 46, 47, 48, 49, 50, 51, 52, 53, 54, 55, 56, 57, 58, 59, 60, 61, 62, 63, 64, 65, 66, 67, 68, 69, 70, 71, 72, 73, 74, 75, 76, 77, 90, 91, 92, 93, 94, 95, 96, 97, 98] (by decide +kernel) (by decide +kernel)
set_option maxRecDepth 20000 in
theorem gX4_hours_X0_goHours : GoodIn wsX4_hours (wsV RX4 139 RX0 yX0_goHours wsX0_goHours) := goodIn_app (goodIn_of _ (by decide +kernel)) ggX4_hours_X0_goHours
set_option maxRecDepth 20000 in
theorem ggX4_hours_X0_booksOfAll : GoodIn wsX4_hours wsX0_booksOfAll := goodIn_r _ [81, 18, 66, 67, 68, 69, 70, 71, 72, 73, 90, 91, 92, 93, 94, 95, 96, 97, 98] (by decide +kernel) (by decide +kernel)
set_option maxRecDepth 20000 in
theorem gX4_hours_X0_booksOfAll : GoodIn wsX4_hours (wsV RX4 143 RX0 yX0_booksOfAll wsX0_booksOfAll) := goodIn_app (goodIn_of _ (by decide +kernel)) ggX4_hours_X0_booksOfAll
set_option maxRecDepth 20000 in
theorem ggX4_now_X0_clock : GoodIn wsX4_now wsX0_clock := goodIn_r _ [7, 8, 55, 56, 57, 58, 59, 60, 61, 62, 63] (by decide +kernel) (by decide +kernel)
set_option maxRecDepth 20000 in
theorem gX4_now_X0_clock : GoodIn wsX4_now (wsV RX4 147 RX0 yX0_clock wsX0_clock) := goodIn_app (goodIn_of _ (by decide +kernel)) ggX4_now_X0_clock
set_option maxRecDepth 20000 in
theorem ggX4_now_X0_rainsAt : GoodIn wsX4_now wsX0_rainsAt := goodIn_r _ [12, 13, 55, 56, 57, 58, 59, 60, 61, 62, 63] (by decide +kernel) (by decide +kernel)
set_option maxRecDepth 20000 in
theorem gX4_now_X0_rainsAt : GoodIn wsX4_now (wsV RX4 150 RX0 yX0_rainsAt wsX0_rainsAt) := goodIn_app (goodIn_of _ (by decide +kernel)) ggX4_now_X0_rainsAt
set_option maxRecDepth 20000 in
theorem ggX4_now_X0_booksOfAll : GoodIn wsX4_now wsX0_booksOfAll := goodIn_r _ [17, 18, 19, 20, 21, 22, 23, 24, 25, 26, 55, 56, 57, 58, 59, 60, 61, 62, 63] (by decide +kernel) (by decide +kernel)
set_option maxRecDepth 20000 in
theorem gX4_now_X0_booksOfAll : GoodIn wsX4_now (wsV RX4 143 RX0 yX0_booksOfAll wsX0_booksOfAll) := goodIn_app (goodIn_of _ (by decide +kernel)) ggX4_now_X0_booksOfAll
set_option maxRecDepth 20000 in
theorem ggX4_now_X0_subjectsIn : GoodIn wsX4_now wsX0_subjectsIn := goodIn_r _ [30, 18, 31, 19, 55, 56, 57, 58, 59, 60, 61, 62, 63] (by decide +kernel) (by decide +kernel)
set_option maxRecDepth 20000 in
theorem gX4_now_X0_subjectsIn : GoodIn wsX4_now (wsV RX4 87 RX0 yX0_subjectsIn wsX0_subjectsIn) := goodIn_app (goodIn_of _ (by decide +kernel)) ggX4_now_X0_subjectsIn
set_option maxRecDepth 20000 in
theorem ggX4_now_X0_allTortoises : GoodIn wsX4_now wsX0_allTortoises := goodIn_r _ [35, 18, 55, 56, 57, 58, 59, 60, 61, 62, 63] (by decide +kernel) (by decide +kernel)
set_option maxRecDepth 20000 in
theorem gX4_now_X0_allTortoises : GoodIn wsX4_now (wsV RX4 154 RX0 yX0_allTortoises wsX0_allTortoises) := goodIn_app (goodIn_of _ (by decide +kernel)) ggX4_now_X0_allTortoises
set_option maxRecDepth 20000 in
theorem ggX4_now_X0_cellsOf : GoodIn wsX4_now wsX0_cellsOf := goodIn_r _ [39, 18, 31, 55, 56, 57, 58, 59, 60, 61, 62, 63] (by decide +kernel) (by decide +kernel)
set_option maxRecDepth 20000 in
theorem gX4_now_X0_cellsOf : GoodIn wsX4_now (wsV RX4 157 RX0 yX0_cellsOf wsX0_cellsOf) := goodIn_app (goodIn_of _ (by decide +kernel)) ggX4_now_X0_cellsOf
set_option maxRecDepth 20000 in
theorem ggX4_now_X4_finding : GoodIn wsX4_now wsX4_finding := goodIn_r _ [44, 45, 46, 47, 48, 49, 50, 51, 52, 53, 54] (by decide +kernel) (by decide +kernel)
set_option maxRecDepth 20000 in
theorem gX4_now_X4_finding : GoodIn wsX4_now (wsV RX4 58 RX4 yX4_finding wsX4_finding) := goodIn_app (goodIn_of _ (by decide +kernel)) ggX4_now_X4_finding
set_option maxRecDepth 20000 in
theorem ggX4_on_X0_has : GoodIn wsX4_on wsX0_has := goodIn_r _ [7, 8, 9, 10, 11, 103, 104, 105, 106, 107, 108, 109, 110, 111] (by decide +kernel) (by decide +kernel)
set_option maxRecDepth 20000 in
theorem gX4_on_X0_has : GoodIn wsX4_on (wsV RX4 101 RX0 yX0_has wsX0_has) := goodIn_app (goodIn_of _ (by decide +kernel)) ggX4_on_X0_has
set_option maxRecDepth 20000 in
theorem ggX4_on_X4_isForeseen : GoodIn wsX4_on wsX4_isForeseen := goodIn_r _ [14] (by decide +kernel) (by decide +kernel)
set_option maxRecDepth 20000 in
theorem gX4_on_X4_isForeseen : GoodIn wsX4_on (va_wsS RX4 160 yX4_isForeseen wsX4_isForeseen) := goodIn_app (goodIn_of _ (by decide +kernel)) ggX4_on_X4_isForeseen
set_option maxRecDepth 20000 in
theorem ggX4_on_X4_isFlag : GoodIn wsX4_on wsX4_isFlag := goodIn_r _ [17] (by decide +kernel) (by decide +kernel)
set_option maxRecDepth 20000 in
theorem gX4_on_X4_isFlag : GoodIn wsX4_on (va_wsS RX4 55 yX4_isFlag wsX4_isFlag) := goodIn_app (goodIn_of _ (by decide +kernel)) ggX4_on_X4_isFlag
set_option maxRecDepth 20000 in
theorem ggX4_on_X4_finding : GoodIn wsX4_on wsX4_finding := goodIn_r _ [21, 22, 23, 95, 96, 97, 98, 99, 100, 101, 102] (by decide +kernel) (by decide +kernel)
set_option maxRecDepth 20000 in
theorem gX4_on_X4_finding : GoodIn wsX4_on (wsV RX4 58 RX4 yX4_finding wsX4_finding) := goodIn_app (goodIn_of _ (by decide +kernel)) ggX4_on_X4_finding
set_option maxRecDepth 20000 in
theorem ggX4_on_X0_becomes : GoodIn wsX4_on wsX0_becomes := goodIn_r _ [27, 28, 29, 30, 8, 31, 32, 33, 34, 35, 103, 104, 105, 106, 107, 108, 109, 110, 111] (by decide +kernel) (by decide +kernel)
set_option maxRecDepth 20000 in
theorem gX4_on_X0_becomes : GoodIn wsX4_on (wsV RX4 163 RX0 yX0_becomes wsX0_becomes) := goodIn_app (goodIn_of _ (by decide +kernel)) ggX4_on_X0_becomes
set_option maxRecDepth 20000 in
theorem ggX4_on_X0_goHours : GoodIn wsX4_on wsX0_goHours := goodIn_r _ [39, 40, 41, 42, 6, 43, 8, 30, 44, 45, 46, 47, 35, 33, 48, 49, 50, 51, 32, 31, 52, 53, 54, 55, 56, 57, 58, 59, 60, 61, 62, 63, 29, 64, 65, 66, 67, 68, 69, 70, 71, 72, 73, 74, 75, 28, 76, 77, 78, 79, 80, 81, 82, 83, 34, 84, 85, 86, 87, 88, 89, 90, 91, 92, 93, 94, 103, 104, 105, 106, 107, 108, 109, 110, 111] (by decide +kernel) (by decide +kernel)
set_option maxRecDepth 20000 in
theorem gX4_on_X0_goHours : GoodIn wsX4_on (wsV RX4 139 RX0 yX0_goHours wsX0_goHours) := goodIn_app (goodIn_of _ (by decide +kernel)) ggX4_on_X0_goHours
set_option maxRecDepth 20000 in
theorem ggX4_when_X0_has : GoodIn wsX4_when wsX0_has := goodIn_r _ [7, 8, 9, 10, 11, 86, 87, 88, 89, 90, 91, 92, 93, 94] (by decide +kernel) (by decide +kernel)
set_option maxRecDepth 20000 in
theorem gX4_when_X0_has : GoodIn wsX4_when (wsV RX4 101 RX0 yX0_has wsX0_has) := goodIn_app (goodIn_of _ (by decide +kernel)) ggX4_when_X0_has
set_option maxRecDepth 20000 in
theorem ggX4_when_X4_isCell : GoodIn wsX4_when wsX4_isCell := goodIn_r _ [14, 15, 9, 10, 11] (by decide +kernel) (by decide +kernel)
set_option maxRecDepth 20000 in
theorem gX4_when_X4_isCell : GoodIn wsX4_when (va_wsS RX4 51 yX4_isCell wsX4_isCell) := goodIn_app (goodIn_of _ (by decide +kernel)) ggX4_when_X4_isCell
set_option maxRecDepth 20000 in
theorem ggX4_when_X4_finding : GoodIn wsX4_when wsX4_finding := goodIn_r _ [19, 20, 21, 78, 79, 80, 81, 82, 83, 84, 85] (by decide +kernel) (by decide +kernel)
set_option maxRecDepth 20000 in
theorem gX4_when_X4_finding : GoodIn wsX4_when (wsV RX4 58 RX4 yX4_finding wsX4_finding) := goodIn_app (goodIn_of _ (by decide +kernel)) ggX4_when_X4_finding
set_option maxRecDepth 20000 in
theorem ggX4_when_X0_becomes : GoodIn wsX4_when wsX0_becomes := goodIn_r _ [25, 26, 27, 28, 8, 29, 30, 31, 32, 33, 86, 87, 88, 89, 90, 91, 92, 93, 94] (by decide +kernel) (by decide +kernel)
set_option maxRecDepth 20000 in
theorem gX4_when_X0_becomes : GoodIn wsX4_when (wsV RX4 163 RX0 yX0_becomes wsX0_becomes) := goodIn_app (goodIn_of _ (by decide +kernel)) ggX4_when_X0_becomes
set_option maxRecDepth 20000 in
theorem ggX4_when_X0_hoursTill : GoodIn wsX4_when wsX0_hoursTill := goodIn_r _ [37, 31, 38, 39, 40, 6, 41, 28, 42, 43, 44, 45, 33, 46, 47, 48, 49, 30, 29, 50, 51, 52, 53, 54, 55, 56, 57, 58, 59, 60, 61, 27, 62, 63, 64, 65, 66, 67, 68, 69, 70, 71, 72, 73, 26, 86, 87, 88, 89, 90, 91, 92, 93, 94] (by decide +kernel) (by decide +kernel)
set_option maxRecDepth 20000 in
theorem gX4_when_X0_hoursTill : GoodIn wsX4_when (wsV RX4 167 RX0 yX0_hoursTill wsX0_hoursTill) := goodIn_app (goodIn_of _ (by decide +kernel)) ggX4_when_X0_hoursTill
set_option maxRecDepth 20000 in
theorem ggX4_when_X4_hoursOrNone : GoodIn wsX4_when wsX4_hoursOrNone := goodIn_r _ [77, 16, 17, 18, 10, 19, 20, 21, 78, 79, 80, 81, 82, 83, 84, 85] (by decide +kernel) (by decide +kernel)
set_option maxRecDepth 20000 in
theorem gX4_when_X4_hoursOrNone : GoodIn wsX4_when (wsV RX4 170 RX4 yX4_hoursOrNone wsX4_hoursOrNone) := goodIn_app (goodIn_of _ (by decide +kernel)) ggX4_when_X4_hoursOrNone
set_option maxRecDepth 20000 in
theorem ggX4_meet_X4_areTwo : GoodIn wsX4_meet wsX4_areTwo := goodIn_r _ [7, 2, 8, 9, 10, 11, 12, 13, 14, 6, 15, 97, 98, 99, 100, 101, 102, 103, 104, 105, 106, 107, 108, 109, 110, 111, 112, 113] (by decide +kernel) (by decide +kernel)
set_option maxRecDepth 20000 in
theorem gX4_meet_X4_areTwo : GoodIn wsX4_meet (wsV RX4 126 RX4 yX4_areTwo wsX4_areTwo) := goodIn_app (goodIn_of _ (by decide +kernel)) ggX4_meet_X4_areTwo
set_option maxRecDepth 20000 in
theorem ggX4_meet_X4_finding : GoodIn wsX4_meet wsX4_finding := goodIn_r _ [19, 20, 21, 97, 98, 99, 100, 101, 102, 103, 104] (by decide +kernel) (by decide +kernel)
set_option maxRecDepth 20000 in
theorem gX4_meet_X4_finding : GoodIn wsX4_meet (wsV RX4 58 RX4 yX4_finding wsX4_finding) := goodIn_app (goodIn_of _ (by decide +kernel)) ggX4_meet_X4_finding
set_option maxRecDepth 20000 in
theorem ggX4_meet_X0_becomes : GoodIn wsX4_meet wsX0_becomes := goodIn_r _ [25, 26, 27, 28, 13, 29, 30, 31, 32, 33, 105, 106, 107, 108, 109, 110, 111, 112, 113] (by decide +kernel) (by decide +kernel)
set_option maxRecDepth 20000 in
theorem gX4_meet_X0_becomes : GoodIn wsX4_meet (wsV RX4 163 RX0 yX0_becomes wsX0_becomes) := goodIn_app (goodIn_of _ (by decide +kernel)) ggX4_meet_X0_becomes
set_option maxRecDepth 20000 in
theorem ggX4_meet_X0_hoursTillTogether : GoodIn wsX4_meet wsX0_hoursTillTogether := goodIn_r _ [37, 31, 38, 39, 40, 11, 41, 13, 28, 42, 43, 44, 45, 33, 46, 47, 48, 49, 30, 29, 50, 51, 52, 53, 54, 55, 56, 57, 58, 59, 60, 61, 27, 62, 63, 64, 65, 66, 67, 68, 69, 70, 71, 72, 73, 26, 74, 75, 76, 77, 78, 79, 80, 81, 32, 82, 83, 84, 85, 86, 87, 88, 89, 90, 91, 92, 105, 106, 107, 108, 109, 110, 111, 112, 113] (by decide +kernel) (by decide +kernel)
set_option maxRecDepth 20000 in
theorem gX4_meet_X0_hoursTillTogether : GoodIn wsX4_meet (wsV RX4 173 RX0 yX0_hoursTillTogether wsX0_hoursTillTogether) := goodIn_app (goodIn_of _ (by decide +kernel)) ggX4_meet_X0_hoursTillTogether
set_option maxRecDepth 20000 in
theorem ggX4_meet_X4_hoursOrNone : GoodIn wsX4_meet wsX4_hoursOrNone := goodIn_r _ [96, 16, 17, 18, 6, 19, 20, 21, 97, 98, 99, 100, 101, 102, 103, 104] (by decide +kernel) (by decide +kernel)
set_option maxRecDepth 20000 in
theorem gX4_meet_X4_hoursOrNone : GoodIn wsX4_meet (wsV RX4 170 RX4 yX4_hoursOrNone wsX4_hoursOrNone) := goodIn_app (goodIn_of _ (by decide +kernel)) ggX4_meet_X4_hoursOrNone
set_option maxRecDepth 20000 in
theorem ggX4_carries_X4_isSubject : GoodIn wsX4_carries wsX4_isSubject := goodIn_r _ [6, 7, 8, 5, 9] (by decide +kernel) (by decide +kernel)
set_option maxRecDepth 20000 in
theorem gX4_carries_X4_isSubject : GoodIn wsX4_carries (va_wsS RX4 129 yX4_isSubject wsX4_isSubject) := goodIn_app (goodIn_of _ (by decide +kernel)) ggX4_carries_X4_isSubject
set_option maxRecDepth 20000 in
theorem ggX4_carries_X4_isForeseen : GoodIn wsX4_carries wsX4_isForeseen := goodIn_r _ [12] (by decide +kernel) (by decide +kernel)
set_option maxRecDepth 20000 in
theorem gX4_carries_X4_isForeseen : GoodIn wsX4_carries (va_wsS RX4 160 yX4_isForeseen wsX4_isForeseen) := goodIn_app (goodIn_of _ (by decide +kernel)) ggX4_carries_X4_isForeseen
set_option maxRecDepth 20000 in
theorem ggX4_carries_X4_finding : GoodIn wsX4_carries wsX4_finding := goodIn_r _ [16, 17, 18, 96, 97, 98, 99, 100, 101, 102, 103] (by decide +kernel) (by decide +kernel)
set_option maxRecDepth 20000 in
theorem gX4_carries_X4_finding : GoodIn wsX4_carries (wsV RX4 58 RX4 yX4_finding wsX4_finding) := goodIn_app (goodIn_of _ (by decide +kernel)) ggX4_carries_X4_finding
set_option maxRecDepth 20000 in
theorem ggX4_carries_X0_becomes : GoodIn wsX4_carries wsX0_becomes := goodIn_r _ [23, 24, 25, 26, 27, 28, 29, 30, 31, 32, 104, 105, 106, 107, 108, 109, 110, 111, 112] (by decide +kernel) (by decide +kernel)
set_option maxRecDepth 20000 in
theorem gX4_carries_X0_becomes : GoodIn wsX4_carries (wsV RX4 163 RX0 yX0_becomes wsX0_becomes) := goodIn_app (goodIn_of _ (by decide +kernel)) ggX4_carries_X0_becomes
set_option maxRecDepth 20000 in
theorem ggX4_carries_X0_goHours : GoodIn wsX4_carries wsX0_goHours := goodIn_r _ [36, 37, 38, 39, 22, 40, 27, 26, 41, 42, 43, 44, 32, 30, 45, 46, 47, 48, 29, 28, 49, 50, 51, 52, 53, 54, 55, 56, 57, 58, 59, 60, 25, 61, 62, 63, 64, 65, 66, 67, 68, 69, 70, 71, 72, 24, 73, 74, 75, 76, 77, 78, 79, 80, 31, 81, 82, 83, 84, 85, 86, 87, 88, 89, 90, 91, 104, 105, 106, 107, 108, 109, 110, 111, 112] (by decide +kernel) (by decide +kernel)
set_option maxRecDepth 20000 in
theorem gX4_carries_X0_goHours : GoodIn wsX4_carries (wsV RX4 139 RX0 yX0_goHours wsX0_goHours) := goodIn_app (goodIn_of _ (by decide +kernel)) ggX4_carries_X0_goHours
set_option maxRecDepth 20000 in
theorem ggX4_carries_X0_tortoisesWith : GoodIn wsX4_carries wsX0_tortoisesWith := goodIn_r _ [95, 27, 31, 104, 105, 106, 107, 108, 109, 110, 111, 112] (by decide +kernel) (by decide +kernel)
set_option maxRecDepth 20000 in
theorem gX4_carries_X0_tortoisesWith : GoodIn wsX4_carries (wsV RX4 176 RX0 yX0_tortoisesWith wsX0_tortoisesWith) := goodIn_app (goodIn_of _ (by decide +kernel)) ggX4_carries_X0_tortoisesWith
set_option maxRecDepth 20000 in
theorem ggX4_soonest_X4_askOfReader : GoodIn wsX4_soonest wsX4_askOfReader := goodIn_r _ [7, 2, 8, 9, 6, 10, 11, 12, 13, 14, 15, 16, 17, 18, 19, 20, 21, 22, 23, 24, 25, 26, 27, 28, 129, 130, 131, 132, 133, 134, 135, 136, 137, 138, 139, 140, 141, 142, 143, 144, 145] (by decide +kernel) (by decide +kernel)
set_option maxRecDepth 20000 in
theorem gX4_soonest_X4_askOfReader : GoodIn wsX4_soonest (wsV RX4 179 RX4 yX4_askOfReader wsX4_askOfReader) := goodIn_app (goodIn_of _ (by decide +kernel)) ggX4_soonest_X4_askOfReader
set_option maxRecDepth 20000 in
theorem ggX4_soonest_X1_goesFrom : GoodIn wsX4_soonest wsX1_goesFrom := goodIn_r _ [33, 34, 35, 36, 37, 38, 39, 26, 40, 28, 41, 42, 43, 44, 45, 46, 47, 48, 146, 147, 148, 149, 137, 138, 139, 140, 141, 142, 143, 144, 145] (by decide +kernel) (by decide +kernel)
set_option maxRecDepth 20000 in
theorem gX4_soonest_X1_goesFrom : GoodIn wsX4_soonest (wsV RX4 183 RX1 yX1_goesFrom wsX1_goesFrom) := goodIn_app (goodIn_of _ (by decide +kernel)) ggX4_soonest_X1_goesFrom
set_option maxRecDepth 20000 in
theorem ggX4_soonest_X1_seek : GoodIn wsX4_soonest wsX1_seek := goodIn_r _ [52, 35, 53, 34, 54, 55, 56, 32, 57, 58, 59, 60, 26, 61, 43, 47, 62, 63, 64, 65, 46, 66, 67, 68, 69, 42, 70, 71, 72, 73, 48, 74, 75, 76, 77, 45, 44, 78, 79, 80, 81, 82, 83, 84, 85, 86, 87, 88, 89, 41, 90, 91, 92, 93, 94, 95, 96, 97, 98, 24, 25, 27, 28, 99, 100, 101, 102, 103, 104, 105, 106, 107, 108, 109, 110, 111, 112, 113, 114, 115, 116, 117, 118, 119, 120, 121, 36, 122, 123, 124, 146, 147, 148, 149, 137, 138, 139, 140, 141, 142, 143, 144, 145] (by decide +kernel) (by decide +kernel)
set_option maxRecDepth 20000 in
theorem gX4_soonest_X1_seek : GoodIn wsX4_soonest (wsV RX4 187 RX1 yX1_seek wsX1_seek) := goodIn_app (goodIn_of _ (by decide +kernel)) ggX4_soonest_X1_seek
set_option maxRecDepth 20000 in
theorem ggX4_soonest_X4_hoursOrNone : GoodIn wsX4_soonest wsX4_hoursOrNone := goodIn_r _ [128, 17, 18, 19, 6, 20, 21, 22, 129, 130, 131, 132, 133, 134, 135, 136] (by decide +kernel) (by decide +kernel)
set_option maxRecDepth 20000 in
theorem gX4_soonest_X4_hoursOrNone : GoodIn wsX4_soonest (wsV RX4 170 RX4 yX4_hoursOrNone wsX4_hoursOrNone) := goodIn_app (goodIn_of _ (by decide +kernel)) ggX4_soonest_X4_hoursOrNone
set_option maxRecDepth 20000 in
theorem ggX4_where_X4_askOfReader : GoodIn wsX4_where wsX4_askOfReader := goodIn_r _ [7, 2, 8, 9, 6, 10, 11, 12, 13, 14, 15, 16, 17, 18, 19, 20, 21, 22, 23, 24, 25, 26, 27, 28, 133, 134, 135, 136, 137, 138, 139, 140, 141, 142, 143, 144, 145, 146, 147, 148, 149] (by decide +kernel) (by decide +kernel)
set_option maxRecDepth 20000 in
theorem gX4_where_X4_askOfReader : GoodIn wsX4_where (wsV RX4 179 RX4 yX4_askOfReader wsX4_askOfReader) := goodIn_app (goodIn_of _ (by decide +kernel)) ggX4_where_X4_askOfReader
set_option maxRecDepth 20000 in
theorem ggX4_where_X1_goesFrom : GoodIn wsX4_where wsX1_goesFrom := goodIn_r _ [33, 34, 35, 36, 37, 38, 39, 26, 40, 28, 41, 42, 43, 44, 45, 46, 47, 48, 150, 151, 152, 153, 141, 142, 143, 144, 145, 146, 147, 148, 149] (by decide +kernel) (by decide +kernel)
set_option maxRecDepth 20000 in
theorem gX4_where_X1_goesFrom : GoodIn wsX4_where (wsV RX4 183 RX1 yX1_goesFrom wsX1_goesFrom) := goodIn_app (goodIn_of _ (by decide +kernel)) ggX4_where_X1_goesFrom
set_option maxRecDepth 20000 in
theorem ggX4_where_X1_seek : GoodIn wsX4_where wsX1_seek := goodIn_r _ [52, 35, 53, 34, 54, 55, 56, 32, 57, 58, 59, 60, 26, 61, 43, 47, 62, 63, 64, 65, 46, 66, 67, 68, 69, 42, 70, 71, 72, 73, 48, 74, 75, 76, 77, 45, 44, 78, 79, 80, 81, 82, 83, 84, 85, 86, 87, 88, 89, 41, 90, 91, 92, 93, 94, 95, 96, 97, 98, 24, 25, 27, 28, 99, 100, 101, 102, 103, 104, 105, 106, 107, 108, 109, 110, 111, 112, 113, 114, 115, 116, 117, 118, 119, 120, 121, 36, 122, 123, 124, 150, 151, 152, 153, 141, 142, 143, 144, 145, 146, 147, 148, 149] (by decide +kernel) (by decide +kernel)
set_option maxRecDepth 20000 in
theorem gX4_where_X1_seek : GoodIn wsX4_where (wsV RX4 187 RX1 yX1_seek wsX1_seek) := goodIn_app (goodIn_of _ (by decide +kernel)) ggX4_where_X1_seek
set_option maxRecDepth 20000 in
theorem ggX4_where_X4_placeOrNone : GoodIn wsX4_where wsX4_placeOrNone := goodIn_r _ [128, 1, 17, 18, 19, 6, 20, 21, 22, 129, 130, 131, 132, 108, 109, 110, 111, 112, 113, 133, 134, 135, 136, 137, 138, 139, 140, 150, 151, 152, 153] (by decide +kernel) (by decide +kernel)
set_option maxRecDepth 20000 in
theorem gX4_where_X4_placeOrNone : GoodIn wsX4_where (wsV RX4 190 RX4 yX4_placeOrNone wsX4_placeOrNone) := goodIn_app (goodIn_of _ (by decide +kernel)) ggX4_where_X4_placeOrNone
set_option maxRecDepth 20000 in
theorem ggX4_waits_X4_askOfReader : GoodIn wsX4_waits wsX4_askOfReader := goodIn_r _ [7, 2, 8, 9, 6, 10, 11, 12, 13, 14, 15, 16, 17, 18, 19, 20, 21, 22, 23, 24, 25, 26, 27, 28, 129, 130, 131, 132, 133, 134, 135, 136, 137, 138, 139, 140, 141, 142, 143, 144, 145] (by decide +kernel) (by decide +kernel)
set_option maxRecDepth 20000 in
theorem gX4_waits_X4_askOfReader : GoodIn wsX4_waits (wsV RX4 179 RX4 yX4_askOfReader wsX4_askOfReader) := goodIn_app (goodIn_of _ (by decide +kernel)) ggX4_waits_X4_askOfReader
set_option maxRecDepth 20000 in
theorem ggX4_waits_X1_staysInOneOf : GoodIn wsX4_waits wsX1_staysInOneOf := goodIn_r _ [33, 34, 35, 36, 37, 38, 39, 26, 40, 28, 41, 42, 43, 44, 45, 46, 47, 48, 146, 147, 148, 149, 137, 138, 139, 140, 141, 142, 143, 144, 145] (by decide +kernel) (by decide +kernel)
set_option maxRecDepth 20000 in
theorem gX4_waits_X1_staysInOneOf : GoodIn wsX4_waits (wsV RX4 193 RX1 yX1_staysInOneOf wsX1_staysInOneOf) := goodIn_app (goodIn_of _ (by decide +kernel)) ggX4_waits_X1_staysInOneOf
set_option maxRecDepth 20000 in
theorem ggX4_waits_X1_seek : GoodIn wsX4_waits wsX1_seek := goodIn_r _ [52, 35, 53, 34, 54, 55, 56, 32, 57, 58, 59, 60, 26, 61, 43, 47, 62, 63, 64, 65, 46, 66, 67, 68, 69, 42, 70, 71, 72, 73, 48, 74, 75, 76, 77, 45, 44, 78, 79, 80, 81, 82, 83, 84, 85, 86, 87, 88, 89, 41, 90, 91, 92, 93, 94, 95, 96, 97, 98, 24, 25, 27, 28, 99, 100, 101, 102, 103, 104, 105, 106, 107, 108, 109, 110, 111, 112, 113, 114, 115, 116, 117, 118, 119, 120, 121, 36, 122, 123, 124, 146, 147, 148, 149, 137, 138, 139, 140, 141, 142, 143, 144, 145] (by decide +kernel) (by decide +kernel)
set_option maxRecDepth 20000 in
theorem gX4_waits_X1_seek : GoodIn wsX4_waits (wsV RX4 187 RX1 yX1_seek wsX1_seek) := goodIn_app (goodIn_of _ (by decide +kernel)) ggX4_waits_X1_seek
set_option maxRecDepth 20000 in
theorem ggX4_waits_X4_hoursOrNone : GoodIn wsX4_waits wsX4_hoursOrNone := goodIn_r _ [128, 17, 18, 19, 6, 20, 21, 22, 129, 130, 131, 132, 133, 134, 135, 136] (by decide +kernel) (by decide +kernel)
set_option maxRecDepth 20000 in
theorem gX4_waits_X4_hoursOrNone : GoodIn wsX4_waits (wsV RX4 170 RX4 yX4_hoursOrNone wsX4_hoursOrNone) := goodIn_app (goodIn_of _ (by decide +kernel)) ggX4_waits_X4_hoursOrNone
set_option maxRecDepth 20000 in
theorem ggX4_waterhole_X4_isSubject : GoodIn wsX4_waterhole wsX4_isSubject := goodIn_r _ [7, 8, 9, 6, 10] (by decide +kernel) (by decide +kernel)
set_option maxRecDepth 20000 in
theorem gX4_waterhole_X4_isSubject : GoodIn wsX4_waterhole (va_wsS RX4 129 yX4_isSubject wsX4_isSubject) := goodIn_app (goodIn_of _ (by decide +kernel)) ggX4_waterhole_X4_isSubject
set_option maxRecDepth 20000 in
theorem ggX4_waterhole_X4_finding : GoodIn wsX4_waterhole wsX4_finding := goodIn_r _ [14, 15, 16, 126, 127, 128, 129, 130, 131, 132, 133] (by decide +kernel) (by decide +kernel)
set_option maxRecDepth 20000 in
theorem gX4_waterhole_X4_finding : GoodIn wsX4_waterhole (wsV RX4 58 RX4 yX4_finding wsX4_finding) := goodIn_app (goodIn_of _ (by decide +kernel)) ggX4_waterhole_X4_finding
set_option maxRecDepth 20000 in
theorem ggX4_waterhole_X1_staysInOneOf : GoodIn wsX4_waterhole wsX1_staysInOneOf := goodIn_r _ [21, 22, 23, 24, 25, 26, 27, 28, 29, 30, 31, 32, 33, 34, 35, 36, 37, 38, 143, 144, 145, 146, 134, 135, 136, 137, 138, 139, 140, 141, 142] (by decide +kernel) (by decide +kernel)
set_option maxRecDepth 20000 in
theorem gX4_waterhole_X1_staysInOneOf : GoodIn wsX4_waterhole (wsV RX4 193 RX1 yX1_staysInOneOf wsX1_staysInOneOf) := goodIn_app (goodIn_of _ (by decide +kernel)) ggX4_waterhole_X1_staysInOneOf
set_option maxRecDepth 20000 in
theorem ggX4_waterhole_X1_seek : GoodIn wsX4_waterhole wsX1_seek := goodIn_r _ [42, 23, 43, 22, 44, 45, 46, 20, 47, 48, 49, 50, 28, 51, 33, 37, 52, 53, 54, 55, 36, 56, 57, 58, 59, 32, 60, 61, 62, 63, 38, 64, 65, 66, 67, 35, 34, 68, 69, 70, 71, 72, 73, 74, 75, 76, 77, 78, 79, 31, 80, 81, 82, 83, 84, 85, 86, 87, 88, 89, 90, 91, 30, 92, 93, 94, 95, 96, 97, 98, 99, 100, 101, 102, 103, 104, 105, 106, 107, 108, 109, 110, 111, 112, 113, 114, 24, 115, 116, 117, 143, 144, 145, 146, 134, 135, 136, 137, 138, 139, 140, 141, 142] (by decide +kernel) (by decide +kernel)
set_option maxRecDepth 20000 in
theorem gX4_waterhole_X1_seek : GoodIn wsX4_waterhole (wsV RX4 187 RX1 yX1_seek wsX1_seek) := goodIn_app (goodIn_of _ (by decide +kernel)) ggX4_waterhole_X1_seek
set_option maxRecDepth 20000 in
theorem ggX4_waterhole_X4_placeOrNone : GoodIn wsX4_waterhole wsX4_placeOrNone := goodIn_r _ [121, 1, 11, 12, 13, 6, 14, 15, 16, 122, 123, 124, 125, 101, 102, 103, 104, 105, 106, 126, 127, 128, 129, 130, 131, 132, 133, 143, 144, 145, 146] (by decide +kernel) (by decide +kernel)
set_option maxRecDepth 20000 in
theorem gX4_waterhole_X4_placeOrNone : GoodIn wsX4_waterhole (wsV RX4 190 RX4 yX4_placeOrNone wsX4_placeOrNone) := goodIn_app (goodIn_of _ (by decide +kernel)) ggX4_waterhole_X4_placeOrNone
set_option maxRecDepth 20000 in
theorem ggX4_many_X4_isCell : GoodIn wsX4_many wsX4_isCell := goodIn_r _ [6, 7, 8, 5, 9] (by decide +kernel) (by decide +kernel)
set_option maxRecDepth 20000 in
theorem gX4_many_X4_isCell : GoodIn wsX4_many (va_wsS RX4 51 yX4_isCell wsX4_isCell) := goodIn_app (goodIn_of _ (by decide +kernel)) ggX4_many_X4_isCell
set_option maxRecDepth 20000 in
theorem ggX4_many_X4_finding : GoodIn wsX4_many wsX4_finding := goodIn_r _ [13, 14, 15, 110, 111, 112, 113, 114, 115, 116, 117] (by decide +kernel) (by decide +kernel)
set_option maxRecDepth 20000 in
theorem gX4_many_X4_finding : GoodIn wsX4_many (wsV RX4 58 RX4 yX4_finding wsX4_finding) := goodIn_app (goodIn_of _ (by decide +kernel)) ggX4_many_X4_finding
set_option maxRecDepth 20000 in
theorem ggX4_many_X0_isFenced : GoodIn wsX4_many wsX0_isFenced := goodIn_r _ [20, 21, 118, 119, 120, 121, 122, 123, 124, 125, 126] (by decide +kernel) (by decide +kernel)
set_option maxRecDepth 20000 in
theorem gX4_many_X0_isFenced : GoodIn wsX4_many (wsV RX4 62 RX0 yX0_isFenced wsX0_isFenced) := goodIn_app (goodIn_of _ (by decide +kernel)) ggX4_many_X0_isFenced
set_option maxRecDepth 20000 in
theorem ggX4_many_X1_goesFrom : GoodIn wsX4_many wsX1_goesFrom := goodIn_r _ [26, 27, 28, 29, 30, 31, 32, 19, 33, 21, 34, 35, 36, 37, 38, 39, 40, 41, 127, 128, 129, 130, 118, 119, 120, 121, 122, 123, 124, 125, 126] (by decide +kernel) (by decide +kernel)
set_option maxRecDepth 20000 in
theorem gX4_many_X1_goesFrom : GoodIn wsX4_many (wsV RX4 183 RX1 yX1_goesFrom wsX1_goesFrom) := goodIn_app (goodIn_of _ (by decide +kernel)) ggX4_many_X1_goesFrom
set_option maxRecDepth 20000 in
theorem ggX4_many_X1_subjectsWithin : GoodIn wsX4_many wsX1_subjectsWithin := goodIn_r _ [45, 27, 28, 46, 47, 48, 19, 49, 36, 39, 40, 50, 51, 52, 53, 35, 54, 55, 56, 57, 41, 58, 59, 60, 61, 38, 37, 62, 63, 64, 65, 66, 67, 68, 69, 70, 71, 72, 73, 34, 74, 75, 76, 77, 78, 79, 80, 81, 82, 17, 18, 20, 21, 83, 84, 85, 86, 87, 88, 89, 90, 91, 92, 93, 94, 95, 96, 97, 98, 99, 100, 101, 102, 103, 104, 25, 105, 29, 106, 107, 108, 127, 128, 129, 130, 118, 119, 120, 121, 122, 123, 124, 125, 126] (by decide +kernel) (by decide +kernel)
set_option maxRecDepth 20000 in
theorem gX4_many_X1_subjectsWithin : GoodIn wsX4_many (wsV RX4 199 RX1 yX1_subjectsWithin wsX1_subjectsWithin) := goodIn_app (goodIn_of _ (by decide +kernel)) ggX4_many_X1_subjectsWithin
set_option maxRecDepth 20000 in
theorem ggX4_many_J6_bitCount_0f7a4 : GoodIn wsX4_many wsJ6_bitCount_0f7a4 := goodIn_r _ [94, 95, 96, 97] (by decide +kernel) (by decide +kernel)
set_option maxRecDepth 20000 in
theorem gX4_many_J6_bitCount_0f7a4 : GoodIn wsX4_many (va_wsS RX4 202 yJ6_bitCount_0f7a4 wsJ6_bitCount_0f7a4) := goodIn_app (goodIn_of _ (by decide +kernel)) ggX4_many_J6_bitCount_0f7a4
set_option maxRecDepth 20000 in
theorem ggX4_both_X4_isSubject : GoodIn wsX4_both wsX4_isSubject := goodIn_r _ [6, 7, 8, 5, 9] (by decide +kernel) (by decide +kernel)
set_option maxRecDepth 20000 in
theorem gX4_both_X4_isSubject : GoodIn wsX4_both (va_wsS RX4 129 yX4_isSubject wsX4_isSubject) := goodIn_app (goodIn_of _ (by decide +kernel)) ggX4_both_X4_isSubject
set_option maxRecDepth 20000 in
theorem ggX4_both_X4_finding : GoodIn wsX4_both wsX4_finding := goodIn_r _ [13, 14, 15, 128, 129, 130, 131, 132, 133, 134, 135] (by decide +kernel) (by decide +kernel)
set_option maxRecDepth 20000 in
theorem gX4_both_X4_finding : GoodIn wsX4_both (wsV RX4 58 RX4 yX4_finding wsX4_finding) := goodIn_app (goodIn_of _ (by decide +kernel)) ggX4_both_X4_finding
set_option maxRecDepth 20000 in
theorem ggX4_both_X4_askOfReader : GoodIn wsX4_both wsX4_askOfReader := goodIn_r _ [19, 2, 20, 21, 5, 22, 7, 8, 9, 3, 4, 6, 10, 11, 12, 13, 14, 15, 23, 24, 25, 26, 27, 28, 128, 129, 130, 131, 132, 133, 134, 135, 136, 137, 138, 139, 140, 141, 142, 143, 144] (by decide +kernel) (by decide +kernel)
set_option maxRecDepth 20000 in
theorem gX4_both_X4_askOfReader : GoodIn wsX4_both (wsV RX4 179 RX4 yX4_askOfReader wsX4_askOfReader) := goodIn_app (goodIn_of _ (by decide +kernel)) ggX4_both_X4_askOfReader
set_option maxRecDepth 20000 in
theorem ggX4_both_X1_goesFrom : GoodIn wsX4_both wsX1_goesFrom := goodIn_r _ [33, 34, 35, 36, 37, 38, 39, 26, 40, 28, 41, 42, 43, 44, 45, 46, 47, 48, 145, 146, 147, 148, 136, 137, 138, 139, 140, 141, 142, 143, 144] (by decide +kernel) (by decide +kernel)
set_option maxRecDepth 20000 in
theorem gX4_both_X1_goesFrom : GoodIn wsX4_both (wsV RX4 183 RX1 yX1_goesFrom wsX1_goesFrom) := goodIn_app (goodIn_of _ (by decide +kernel)) ggX4_both_X1_goesFrom
set_option maxRecDepth 20000 in
theorem ggX4_both_X1_seekTwo : GoodIn wsX4_both wsX1_seekTwo := goodIn_r _ [52, 35, 34, 53, 54, 55, 32, 56, 57, 58, 59, 26, 60, 43, 47, 61, 62, 63, 64, 46, 65, 66, 67, 68, 36, 69, 70, 71, 72, 73, 74, 75, 42, 76, 77, 78, 79, 48, 80, 81, 82, 83, 45, 44, 84, 85, 86, 87, 88, 89, 90, 91, 92, 93, 94, 95, 41, 96, 97, 98, 99, 100, 101, 102, 103, 104, 24, 25, 27, 28, 105, 106, 107, 108, 109, 110, 111, 112, 113, 114, 115, 116, 117, 118, 119, 120, 121, 122, 123, 145, 146, 147, 148, 136, 137, 138, 139, 140, 141, 142, 143, 144] (by decide +kernel) (by decide +kernel)
set_option maxRecDepth 20000 in
theorem gX4_both_X1_seekTwo : GoodIn wsX4_both (wsV RX4 207 RX1 yX1_seekTwo wsX1_seekTwo) := goodIn_app (goodIn_of _ (by decide +kernel)) ggX4_both_X1_seekTwo
set_option maxRecDepth 20000 in
theorem ggX4_both_X4_hoursOrNone : GoodIn wsX4_both wsX4_hoursOrNone := goodIn_r _ [127, 10, 11, 12, 5, 13, 14, 15, 128, 129, 130, 131, 132, 133, 134, 135] (by decide +kernel) (by decide +kernel)
set_option maxRecDepth 20000 in
theorem gX4_both_X4_hoursOrNone : GoodIn wsX4_both (wsV RX4 170 RX4 yX4_hoursOrNone wsX4_hoursOrNone) := goodIn_app (goodIn_of _ (by decide +kernel)) ggX4_both_X4_hoursOrNone
set_option maxRecDepth 20000 in
theorem ggX4_censors_X4_isCell : GoodIn wsX4_censors wsX4_isCell := goodIn_r _ [6, 7, 8, 5, 9] (by decide +kernel) (by decide +kernel)
set_option maxRecDepth 20000 in
theorem gX4_censors_X4_isCell : GoodIn wsX4_censors (va_wsS RX4 51 yX4_isCell wsX4_isCell) := goodIn_app (goodIn_of _ (by decide +kernel)) ggX4_censors_X4_isCell
set_option maxRecDepth 20000 in
theorem ggX4_censors_X4_finding : GoodIn wsX4_censors wsX4_finding := goodIn_r _ [13, 14, 15, 129, 130, 131, 132, 133, 134, 135, 136] (by decide +kernel) (by decide +kernel)
set_option maxRecDepth 20000 in
theorem gX4_censors_X4_finding : GoodIn wsX4_censors (wsV RX4 58 RX4 yX4_finding wsX4_finding) := goodIn_app (goodIn_of _ (by decide +kernel)) ggX4_censors_X4_finding
set_option maxRecDepth 20000 in
theorem ggX4_censors_X4_askOfReader : GoodIn wsX4_censors wsX4_askOfReader := goodIn_r _ [19, 2, 3, 4, 5, 6, 7, 8, 9, 20, 21, 22, 10, 11, 12, 13, 14, 15, 23, 24, 25, 26, 27, 28, 129, 130, 131, 132, 133, 134, 135, 136, 141, 142, 143, 144, 145, 146, 147, 148, 149] (by decide +kernel) (by decide +kernel)
set_option maxRecDepth 20000 in
theorem gX4_censors_X4_askOfReader : GoodIn wsX4_censors (wsV RX4 179 RX4 yX4_askOfReader wsX4_askOfReader) := goodIn_app (goodIn_of _ (by decide +kernel)) ggX4_censors_X4_askOfReader
set_option maxRecDepth 20000 in
theorem ggX4_censors_X1_goesFrom : GoodIn wsX4_censors wsX1_goesFrom := goodIn_r _ [33, 34, 35, 36, 37, 38, 39, 26, 40, 28, 41, 42, 43, 44, 45, 46, 47, 48, 137, 138, 139, 140, 141, 142, 143, 144, 145, 146, 147, 148, 149] (by decide +kernel) (by decide +kernel)
set_option maxRecDepth 20000 in
theorem gX4_censors_X1_goesFrom : GoodIn wsX4_censors (wsV RX4 183 RX1 yX1_goesFrom wsX1_goesFrom) := goodIn_app (goodIn_of _ (by decide +kernel)) ggX4_censors_X1_goesFrom
set_option maxRecDepth 20000 in
theorem ggX4_censors_X1_seek : GoodIn wsX4_censors wsX1_seek := goodIn_r _ [52, 35, 53, 34, 54, 55, 56, 32, 57, 58, 59, 60, 26, 61, 43, 47, 62, 63, 64, 65, 46, 66, 67, 68, 69, 42, 70, 71, 72, 73, 48, 74, 75, 76, 77, 45, 44, 78, 79, 80, 81, 82, 83, 84, 85, 86, 87, 88, 89, 41, 90, 91, 92, 93, 94, 95, 96, 97, 98, 24, 25, 27, 28, 99, 100, 101, 102, 103, 104, 105, 106, 107, 108, 109, 110, 111, 112, 113, 114, 115, 116, 117, 118, 119, 120, 121, 36, 122, 123, 124, 137, 138, 139, 140, 141, 142, 143, 144, 145, 146, 147, 148, 149] (by decide +kernel) (by decide +kernel)
set_option maxRecDepth 20000 in
theorem gX4_censors_X1_seek : GoodIn wsX4_censors (wsV RX4 187 RX1 yX1_seek wsX1_seek) := goodIn_app (goodIn_of _ (by decide +kernel)) ggX4_censors_X1_seek
set_option maxRecDepth 20000 in
theorem ggX4_censors_X0_fences : GoodIn wsX4_censors wsX0_fences := goodIn_r _ [128, 28, 141, 142, 143, 144, 145, 146, 147, 148, 149] (by decide +kernel) (by decide +kernel)
set_option maxRecDepth 20000 in
theorem gX4_censors_X0_fences : GoodIn wsX4_censors (wsV RX4 65 RX0 yX0_fences wsX0_fences) := goodIn_app (goodIn_of _ (by decide +kernel)) ggX4_censors_X0_fences
set_option maxRecDepth 20000 in
theorem ggX4_tips_X4_askOfReader : GoodIn wsX4_tips wsX4_askOfReader := goodIn_r _ [5, 6, 7, 8, 4, 9, 10, 11, 12, 13, 14, 15, 16, 17, 18, 19, 20, 21, 22, 23, 24, 25, 26, 27, 129, 130, 131, 132, 133, 134, 135, 136, 137, 138, 139, 140, 141, 142, 143, 144, 145] (by decide +kernel) (by decide +kernel)
set_option maxRecDepth 20000 in
theorem gX4_tips_X4_askOfReader : GoodIn wsX4_tips (wsV RX4 179 RX4 yX4_askOfReader wsX4_askOfReader) := goodIn_app (goodIn_of _ (by decide +kernel)) ggX4_tips_X4_askOfReader
set_option maxRecDepth 20000 in
theorem ggX4_tips_X4_bestTipped : GoodIn wsX4_tips wsX4_bestTipped := goodIn_r _ [31, 32, 6, 33, 34, 35, 36, 37, 38, 39, 40, 41, 42, 43, 25, 44, 27, 45, 46, 47, 48, 49, 50, 51, 52, 53, 54, 55, 56, 57, 58, 59, 60, 61, 62, 63, 64, 65, 66, 67, 68, 69, 70, 71, 72, 73, 74, 75, 76, 77, 78, 79, 80, 81, 82, 83, 84, 85, 86, 87, 88, 89, 90, 91, 92, 93, 94, 95, 96, 97, 98, 99, 100, 101, 102, 23, 24, 26, 103, 104, 105, 106, 107, 108, 109, 110, 111, 112, 113, 114, 115, 116, 117, 118, 119, 120, 121, 122, 123, 124, 125, 126, 127, 128, 129, 130, 131, 132, 133, 134, 135, 136, 137, 138, 139, 140, 141, 142, 143, 144, 145, 146, 147, 148, 149] (by decide +kernel) (by decide +kernel)
set_option maxRecDepth 20000 in
theorem gX4_tips_X4_bestTipped : GoodIn wsX4_tips (wsV RX4 211 RX4 yX4_bestTipped wsX4_bestTipped) := goodIn_app (goodIn_of _ (by decide +kernel)) ggX4_tips_X4_bestTipped
set_option maxRecDepth 20000 in
theorem ggX4_tips_X4_finding : GoodIn wsX4_tips wsX4_finding := goodIn_r _ [19, 20, 21, 129, 130, 131, 132, 133, 134, 135, 136] (by decide +kernel) (by decide +kernel)
set_option maxRecDepth 20000 in
theorem gX4_tips_X4_finding : GoodIn wsX4_tips (wsV RX4 58 RX4 yX4_finding wsX4_finding) := goodIn_app (goodIn_of _ (by decide +kernel)) ggX4_tips_X4_finding
set_option maxRecDepth 20000 in
theorem ggX4_spring_X4_askOfReader : GoodIn wsX4_spring wsX4_askOfReader := goodIn_r _ [5, 6, 7, 8, 4, 9, 10, 11, 12, 13, 14, 15, 16, 17, 18, 19, 20, 21, 22, 23, 24, 25, 26, 27, 129, 130, 131, 132, 133, 134, 135, 136, 137, 138, 139, 140, 141, 142, 143, 144, 145] (by decide +kernel) (by decide +kernel)
set_option maxRecDepth 20000 in
theorem gX4_spring_X4_askOfReader : GoodIn wsX4_spring (wsV RX4 179 RX4 yX4_askOfReader wsX4_askOfReader) := goodIn_app (goodIn_of _ (by decide +kernel)) ggX4_spring_X4_askOfReader
set_option maxRecDepth 20000 in
theorem ggX4_spring_X4_bestSpring : GoodIn wsX4_spring wsX4_bestSpring := goodIn_r _ [31, 6, 32, 22, 23, 24, 25, 26, 27, 33, 34, 35, 36, 37, 38, 39, 40, 41, 42, 43, 44, 45, 46, 47, 48, 49, 50, 51, 52, 53, 54, 55, 56, 57, 58, 59, 60, 61, 62, 63, 64, 65, 66, 67, 68, 69, 70, 71, 72, 73, 74, 75, 76, 77, 78, 79, 80, 81, 82, 83, 84, 85, 86, 87, 88, 89, 90, 91, 92, 93, 94, 95, 96, 97, 98, 99, 100, 101, 102, 103, 104, 105, 106, 107, 108, 109, 110, 111, 112, 113, 114, 115, 116, 117, 118, 119, 120, 121, 122, 123, 124, 125, 126, 127, 128, 129, 130, 131, 132, 133, 134, 135, 136, 146, 147, 148, 149, 137, 138, 139, 140, 141, 142, 143, 144, 145] (by decide +kernel) (by decide +kernel)
set_option maxRecDepth 20000 in
theorem gX4_spring_X4_bestSpring : GoodIn wsX4_spring (wsV RX4 214 RX4 yX4_bestSpring wsX4_bestSpring) := goodIn_app (goodIn_of _ (by decide +kernel)) ggX4_spring_X4_bestSpring
set_option maxRecDepth 20000 in
theorem ggX4_spring_X4_finding : GoodIn wsX4_spring wsX4_finding := goodIn_r _ [19, 20, 21, 129, 130, 131, 132, 133, 134, 135, 136] (by decide +kernel) (by decide +kernel)
set_option maxRecDepth 20000 in
theorem gX4_spring_X4_finding : GoodIn wsX4_spring (wsV RX4 58 RX4 yX4_finding wsX4_finding) := goodIn_app (goodIn_of _ (by decide +kernel)) ggX4_spring_X4_finding
set_option maxRecDepth 20000 in
theorem ggX4_kind_X0_has : GoodIn wsX4_kind wsX0_has := goodIn_r _ [6, 7, 8, 9, 10, 86, 87, 88, 89, 90, 91, 92, 93, 94] (by decide +kernel) (by decide +kernel)
set_option maxRecDepth 20000 in
theorem gX4_kind_X0_has : GoodIn wsX4_kind (wsV RX4 101 RX0 yX0_has wsX0_has) := goodIn_app (goodIn_of _ (by decide +kernel)) ggX4_kind_X0_has
set_option maxRecDepth 20000 in
theorem ggX4_kind_X4_isCell : GoodIn wsX4_kind wsX4_isCell := goodIn_r _ [13, 14, 8, 9, 10] (by decide +kernel) (by decide +kernel)
set_option maxRecDepth 20000 in
theorem gX4_kind_X4_isCell : GoodIn wsX4_kind (va_wsS RX4 51 yX4_isCell wsX4_isCell) := goodIn_app (goodIn_of _ (by decide +kernel)) ggX4_kind_X4_isCell
set_option maxRecDepth 20000 in
theorem ggX4_kind_X4_finding : GoodIn wsX4_kind wsX4_finding := goodIn_r _ [18, 19, 20, 78, 79, 80, 81, 82, 83, 84, 85] (by decide +kernel) (by decide +kernel)
set_option maxRecDepth 20000 in
theorem gX4_kind_X4_finding : GoodIn wsX4_kind (wsV RX4 58 RX4 yX4_finding wsX4_finding) := goodIn_app (goodIn_of _ (by decide +kernel)) ggX4_kind_X4_finding
set_option maxRecDepth 20000 in
theorem ggX4_kind_X4_bestKind : GoodIn wsX4_kind wsX4_bestKind := goodIn_r _ [24, 25, 1, 26, 27, 28, 5, 29, 30, 31, 32, 7, 33, 34, 35, 36, 37, 38, 39, 40, 41, 42, 43, 44, 45, 46, 47, 48, 49, 50, 51, 52, 53, 54, 55, 56, 57, 58, 59, 60, 61, 62, 63, 64, 65, 66, 67, 68, 69, 70, 71, 72, 73, 74, 75, 76, 77, 78, 79, 80, 81, 82, 83, 84, 85, 86, 87, 88, 89, 90, 91, 92, 93, 94] (by decide +kernel) (by decide +kernel)
set_option maxRecDepth 20000 in
theorem gX4_kind_X4_bestKind : GoodIn wsX4_kind (wsV RX4 217 RX4 yX4_bestKind wsX4_bestKind) := goodIn_app (goodIn_of _ (by decide +kernel)) ggX4_kind_X4_bestKind
set_option maxRecDepth 20000 in
theorem ggX4_feed_X4_finding : GoodIn wsX4_feed wsX4_finding := goodIn_r _ [6, 7, 8, 16, 17, 18, 19, 20, 21, 22, 23] (by decide +kernel) (by decide +kernel)
set_option maxRecDepth 20000 in
theorem gX4_feed_X4_finding : GoodIn wsX4_feed (wsV RX4 58 RX4 yX4_finding wsX4_finding) := goodIn_app (goodIn_of _ (by decide +kernel)) ggX4_feed_X4_finding
set_option maxRecDepth 20000 in
theorem ggX4_feed_X3_takes : GoodIn wsX4_feed wsX3_takes := goodIn_r _ [13, 14, 15, 24, 25, 26, 27, 28, 29, 30] (by decide +kernel) (by decide +kernel)
set_option maxRecDepth 20000 in
theorem gX4_feed_X3_takes : GoodIn wsX4_feed (wsV RX4 223 RX3 yX3_takes wsX3_takes) := goodIn_app (goodIn_of _ (by decide +kernel)) ggX4_feed_X3_takes
set_option maxRecDepth 20000 in
theorem ggX4_island_X0_becomes : GoodIn wsX4_island wsX0_becomes := goodIn_r _ [8, 9, 10, 11, 12, 13, 14, 15, 16, 17, 155, 156, 157, 158, 159, 160, 161, 162, 163] (by decide +kernel) (by decide +kernel)
set_option maxRecDepth 20000 in
theorem gX4_island_X0_becomes : GoodIn wsX4_island (wsV RX4 163 RX0 yX0_becomes wsX0_becomes) := goodIn_app (goodIn_of _ (by decide +kernel)) ggX4_island_X0_becomes
set_option maxRecDepth 20000 in
theorem ggX4_island_X3_tellsTo : GoodIn wsX4_island wsX3_tellsTo := goodIn_r _ [22, 23, 24, 25, 26, 27, 28, 21, 29, 30, 31, 32, 33, 34, 35, 36, 37, 38, 39, 40, 41, 42, 43, 44, 45, 46, 47, 48, 49, 50, 51, 52, 53, 54, 55, 56, 57, 58, 59, 60, 61, 62, 63, 64, 65, 66, 67, 68, 69, 70, 71, 72, 73, 74, 75, 76, 77, 78, 79, 80, 81, 82, 83, 84, 85, 86, 87, 88, 89, 90, 91, 92, 93, 94, 95, 96, 97, 98, 99, 100, 101, 102, 103, 104, 105, 106, 107, 108, 109, 110, 111, 112, 113, 114, 7, 115, 12, 116, 117, 118, 119, 120, 121, 122, 123, 14, 15, 16, 17, 124, 125, 126, 127, 128, 129, 130, 131, 9, 132, 133, 134, 135, 136, 137, 138, 139, 148, 149, 150, 151, 152, 153, 154, 155, 156, 157, 158, 159, 160, 161, 162, 163] (by decide +kernel) (by decide +kernel)
set_option maxRecDepth 20000 in
theorem gX4_island_X3_tellsTo : GoodIn wsX4_island (wsV RX4 227 RX3 yX3_tellsTo wsX3_tellsTo) := goodIn_app (goodIn_of _ (by decide +kernel)) ggX4_island_X3_tellsTo
set_option maxRecDepth 20000 in
theorem ggX4_sheet_X4_isBelow : GoodIn wsX4_sheet wsX4_isBelow := goodIn_r _ [5] (by decide +kernel) (by decide +kernel)
set_option maxRecDepth 20000 in
theorem gX4_sheet_X4_isBelow : GoodIn wsX4_sheet (va_wsS RX4 69 yX4_isBelow wsX4_isBelow) := goodIn_app (goodIn_of _ (by decide +kernel)) ggX4_sheet_X4_isBelow
set_option maxRecDepth 20000 in
theorem ggX4_sheet_X4_finding : GoodIn wsX4_sheet wsX4_finding := goodIn_r _ [9, 10, 11, 20, 21, 22, 23, 24, 25, 26, 27] (by decide +kernel) (by decide +kernel)
set_option maxRecDepth 20000 in
theorem gX4_sheet_X4_finding : GoodIn wsX4_sheet (wsV RX4 58 RX4 yX4_finding wsX4_finding) := goodIn_app (goodIn_of _ (by decide +kernel)) ggX4_sheet_X4_finding
set_option maxRecDepth 20000 in
theorem ggX4_sheet_X2_becomesBlank : GoodIn wsX4_sheet wsX2_becomesBlank := goodIn_r _ [16, 17, 18, 19, 28, 29, 30] (by decide +kernel) (by decide +kernel)
set_option maxRecDepth 20000 in
theorem gX4_sheet_X2_becomesBlank : GoodIn wsX4_sheet (wsV RX4 231 RX2 yX2_becomesBlank wsX2_becomesBlank) := goodIn_app (goodIn_of _ (by decide +kernel)) ggX4_sheet_X2_becomesBlank
set_option maxRecDepth 20000 in
theorem ggX4_write_X4_askOfSheet : GoodIn wsX4_write wsX4_askOfSheet := goodIn_r _ [6, 1, 7, 8, 5, 9, 10, 11, 12, 13, 14, 15, 16, 17, 18, 19, 20, 21, 26, 27, 28, 29, 30, 31, 32, 33, 34, 35, 36] (by decide +kernel) (by decide +kernel)
set_option maxRecDepth 20000 in
theorem gX4_write_X4_askOfSheet : GoodIn wsX4_write (wsV RX4 235 RX4 yX4_askOfSheet wsX4_askOfSheet) := goodIn_app (goodIn_of _ (by decide +kernel)) ggX4_write_X4_askOfSheet
set_option maxRecDepth 20000 in
theorem ggX4_write_X4_isBelow : GoodIn wsX4_write wsX4_isBelow := goodIn_r _ [9] (by decide +kernel) (by decide +kernel)
set_option maxRecDepth 20000 in
theorem gX4_write_X4_isBelow : GoodIn wsX4_write (va_wsS RX4 69 yX4_isBelow wsX4_isBelow) := goodIn_app (goodIn_of _ (by decide +kernel)) ggX4_write_X4_isBelow
set_option maxRecDepth 20000 in
theorem ggX4_write_X4_finding : GoodIn wsX4_write wsX4_finding := goodIn_r _ [13, 14, 15, 26, 27, 28, 29, 30, 31, 32, 33] (by decide +kernel) (by decide +kernel)
set_option maxRecDepth 20000 in
theorem gX4_write_X4_finding : GoodIn wsX4_write (wsV RX4 58 RX4 yX4_finding wsX4_finding) := goodIn_app (goodIn_of _ (by decide +kernel)) ggX4_write_X4_finding
set_option maxRecDepth 20000 in
theorem ggX4_write_X2_lowestBits : GoodIn wsX4_write wsX2_lowestBits := goodIn_r _ [25, 21, 34, 35, 36] (by decide +kernel) (by decide +kernel)
set_option maxRecDepth 20000 in
theorem gX4_write_X2_lowestBits : GoodIn wsX4_write (wsV RX4 242 RX2 yX2_lowestBits wsX2_lowestBits) := goodIn_app (goodIn_of _ (by decide +kernel)) ggX4_write_X2_lowestBits
set_option maxRecDepth 20000 in
theorem ggX4_copy_X4_isBelow : GoodIn wsX4_copy wsX4_isBelow := goodIn_r _ [9] (by decide +kernel) (by decide +kernel)
set_option maxRecDepth 20000 in
theorem gX4_copy_X4_isBelow : GoodIn wsX4_copy (va_wsS RX4 69 yX4_isBelow wsX4_isBelow) := goodIn_app (goodIn_of _ (by decide +kernel)) ggX4_copy_X4_isBelow
set_option maxRecDepth 20000 in
theorem ggX4_copy_X4_finding : GoodIn wsX4_copy wsX4_finding := goodIn_r _ [13, 14, 15, 27, 28, 29, 30, 31, 32, 33, 34] (by decide +kernel) (by decide +kernel)
set_option maxRecDepth 20000 in
theorem gX4_copy_X4_finding : GoodIn wsX4_copy (wsV RX4 58 RX4 yX4_finding wsX4_finding) := goodIn_app (goodIn_of _ (by decide +kernel)) ggX4_copy_X4_finding
set_option maxRecDepth 20000 in
theorem ggX4_copy_X2_isMissing : GoodIn wsX4_copy wsX2_isMissing := goodIn_r _ [20, 21, 35, 36, 37] (by decide +kernel) (by decide +kernel)
set_option maxRecDepth 20000 in
theorem gX4_copy_X2_isMissing : GoodIn wsX4_copy (wsV RX4 246 RX2 yX2_isMissing wsX2_isMissing) := goodIn_app (goodIn_of _ (by decide +kernel)) ggX4_copy_X2_isMissing
set_option maxRecDepth 20000 in
theorem ggX4_copy_X2_hasFrom : GoodIn wsX4_copy wsX2_hasFrom := goodIn_r _ [25, 26, 35, 36, 37] (by decide +kernel) (by decide +kernel)
set_option maxRecDepth 20000 in
theorem gX4_copy_X2_hasFrom : GoodIn wsX4_copy (wsV RX4 252 RX2 yX2_hasFrom wsX2_hasFrom) := goodIn_app (goodIn_of _ (by decide +kernel)) ggX4_copy_X2_hasFrom
