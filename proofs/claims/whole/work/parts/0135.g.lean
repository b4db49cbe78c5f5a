set_option maxRecDepth 20000 in
theorem ggX4_lays_X4_askOfSheet : GoodIn wsX4_lays wsX4_askOfSheet := goodIn_r _ [6, 1, 7, 8, 5, 9, 10, 11, 12, 13, 14, 15, 16, 17, 18, 19, 20, 21, 28, 29, 30, 31, 32, 33, 34, 35, 36, 37, 38] (by decide +kernel) (by decide +kernel)
set_option maxRecDepth 20000 in
theorem gX4_lays_X4_askOfSheet : GoodIn wsX4_lays (wsV RX4 235 RX4 yX4_askOfSheet wsX4_askOfSheet) := goodIn_app (goodIn_of _ (by decide +kernel)) ggX4_lays_X4_askOfSheet
set_option maxRecDepth 20000 in
theorem ggX4_lays_X4_laysBooks : GoodIn wsX4_lays wsX4_laysBooks := goodIn_r _ [25, 26, 27, 36, 37, 38, 28, 29, 30, 31, 32, 33, 34, 35, 39, 40, 41, 42, 43, 44, 45, 46, 47] (by decide +kernel) (by decide +kernel)
set_option maxRecDepth 20000 in
theorem gX4_lays_X4_laysBooks : GoodIn wsX4_lays (wsV RX4 261 RX4 yX4_laysBooks wsX4_laysBooks) := goodIn_app (goodIn_of _ (by decide +kernel)) ggX4_lays_X4_laysBooks
set_option maxRecDepth 20000 in
theorem ggX4_book_X4_askOfSheet : GoodIn wsX4_book wsX4_askOfSheet := goodIn_r _ [8, 1, 9, 10, 7, 11, 12, 13, 14, 15, 16, 17, 18, 19, 20, 21, 22, 23, 78, 79, 80, 81, 82, 83, 84, 85, 86, 87, 88] (by decide +kernel) (by decide +kernel)
set_option maxRecDepth 20000 in
theorem gX4_book_X4_askOfSheet : GoodIn wsX4_book (wsV RX4 235 RX4 yX4_askOfSheet wsX4_askOfSheet) := goodIn_app (goodIn_of _ (by decide +kernel)) ggX4_book_X4_askOfSheet
set_option maxRecDepth 20000 in
theorem ggX4_book_X0_has : GoodIn wsX4_book wsX0_has := goodIn_r _ [28, 29, 10, 7, 11, 89, 90, 91, 92, 93, 94, 95, 96, 97] (by decide +kernel) (by decide +kernel)
set_option maxRecDepth 20000 in
theorem gX4_book_X0_has : GoodIn wsX4_book (wsV RX4 101 RX0 yX0_has wsX0_has) := goodIn_app (goodIn_of _ (by decide +kernel)) ggX4_book_X0_has
set_option maxRecDepth 20000 in
theorem ggX4_book_X4_finding : GoodIn wsX4_book wsX4_finding := goodIn_r _ [15, 16, 17, 78, 79, 80, 81, 82, 83, 84, 85] (by decide +kernel) (by decide +kernel)
set_option maxRecDepth 20000 in
theorem gX4_book_X4_finding : GoodIn wsX4_book (wsV RX4 58 RX4 yX4_finding wsX4_finding) := goodIn_app (goodIn_of _ (by decide +kernel)) ggX4_book_X4_finding
set_option maxRecDepth 20000 in
theorem ggX4_book_X0_becomes : GoodIn wsX4_book wsX0_becomes := goodIn_r _ [33, 34, 35, 36, 29, 37, 38, 39, 40, 41, 89, 90, 91, 92, 93, 94, 95, 96, 97] (by decide +kernel) (by decide +kernel)
set_option maxRecDepth 20000 in
theorem gX4_book_X0_becomes : GoodIn wsX4_book (wsV RX4 163 RX0 yX0_becomes wsX0_becomes) := goodIn_app (goodIn_of _ (by decide +kernel)) ggX4_book_X0_becomes
set_option maxRecDepth 20000 in
theorem ggX4_book_X0_goAlone : GoodIn wsX4_book wsX0_goAlone := goodIn_r _ [45, 36, 46, 47, 48, 27, 49, 41, 39, 50, 51, 52, 53, 38, 37, 54, 55, 56, 57, 58, 59, 60, 61, 62, 63, 64, 65, 35, 66, 67, 68, 69, 70, 71, 72, 73, 74, 75, 76, 77, 34, 89, 90, 91, 92, 93, 94, 95, 96, 97] (by decide +kernel) (by decide +kernel)
set_option maxRecDepth 20000 in
theorem gX4_book_X0_goAlone : GoodIn wsX4_book (wsV RX4 265 RX0 yX0_goAlone wsX0_goAlone) := goodIn_app (goodIn_of _ (by decide +kernel)) ggX4_book_X0_goAlone
set_option maxRecDepth 20000 in
theorem ggX4_read_X4_askOfSheet : GoodIn wsX4_read wsX4_askOfSheet := goodIn_r _ [8, 3, 9, 10, 7, 11, 12, 13, 14, 15, 16, 17, 18, 19, 20, 21, 22, 23, 82, 83, 84, 85, 86, 87, 88, 89, 99, 100, 101] (by decide +kernel) (by decide +kernel)
set_option maxRecDepth 20000 in
theorem gX4_read_X4_askOfSheet : GoodIn wsX4_read (wsV RX4 235 RX4 yX4_askOfSheet wsX4_askOfSheet) := goodIn_app (goodIn_of _ (by decide +kernel)) ggX4_read_X4_askOfSheet
set_option maxRecDepth 20000 in
theorem ggX4_read_X0_has : GoodIn wsX4_read wsX0_has := goodIn_r _ [28, 29, 10, 7, 11, 90, 91, 92, 93, 94, 95, 96, 97, 98] (by decide +kernel) (by decide +kernel)
set_option maxRecDepth 20000 in
theorem gX4_read_X0_has : GoodIn wsX4_read (wsV RX4 101 RX0 yX0_has wsX0_has) := goodIn_app (goodIn_of _ (by decide +kernel)) ggX4_read_X0_has
set_option maxRecDepth 20000 in
theorem ggX4_read_X4_finding : GoodIn wsX4_read wsX4_finding := goodIn_r _ [15, 16, 17, 82, 83, 84, 85, 86, 87, 88, 89] (by decide +kernel) (by decide +kernel)
set_option maxRecDepth 20000 in
theorem gX4_read_X4_finding : GoodIn wsX4_read (wsV RX4 58 RX4 yX4_finding wsX4_finding) := goodIn_app (goodIn_of _ (by decide +kernel)) ggX4_read_X4_finding
set_option maxRecDepth 20000 in
theorem ggX4_read_X0_becomes : GoodIn wsX4_read wsX0_becomes := goodIn_r _ [33, 34, 35, 36, 29, 37, 38, 39, 40, 41, 90, 91, 92, 93, 94, 95, 96, 97, 98] (by decide +kernel) (by decide +kernel)
set_option maxRecDepth 20000 in
theorem gX4_read_X0_becomes : GoodIn wsX4_read (wsV RX4 163 RX0 yX0_becomes wsX0_becomes) := goodIn_app (goodIn_of _ (by decide +kernel)) ggX4_read_X0_becomes
set_option maxRecDepth 20000 in
theorem ggX4_read_X0_goesAsIn : GoodIn wsX4_read wsX0_goesAsIn := goodIn_r _ [45, 39, 46, 47, 48, 27, 49, 36, 50, 51, 52, 53, 41, 54, 55, 56, 57, 38, 37, 58, 59, 60, 61, 62, 63, 64, 65, 66, 67, 68, 69, 35, 70, 71, 72, 73, 74, 75, 76, 77, 78, 79, 80, 81, 34, 99, 100, 101, 90, 91, 92, 93, 94, 95, 96, 97, 98] (by decide +kernel) (by decide +kernel)
set_option maxRecDepth 20000 in
theorem gX4_read_X0_goesAsIn : GoodIn wsX4_read (wsV RX4 268 RX0 yX0_goesAsIn wsX0_goesAsIn) := goodIn_app (goodIn_of _ (by decide +kernel)) ggX4_read_X0_goesAsIn
set_option maxRecDepth 20000 in
theorem ggX4_image_X0_becomes : GoodIn wsX4_image wsX0_becomes := goodIn_r _ [8, 9, 10, 11, 12, 13, 14, 15, 16, 17, 26, 27, 28, 29, 30, 31, 32, 33, 34] (by decide +kernel) (by decide +kernel)
set_option maxRecDepth 20000 in
theorem gX4_image_X0_becomes : GoodIn wsX4_image (wsV RX4 163 RX0 yX0_becomes wsX0_becomes) := goodIn_app (goodIn_of _ (by decide +kernel)) ggX4_image_X0_becomes
set_option maxRecDepth 20000 in
theorem ggX4_undo_X4_finding : GoodIn wsX4_undo wsX4_finding := goodIn_r _ [8, 9, 10, 25, 26, 27, 28, 29, 30, 31, 32] (by decide +kernel) (by decide +kernel)
set_option maxRecDepth 20000 in
theorem gX4_undo_X4_finding : GoodIn wsX4_undo (wsV RX4 58 RX4 yX4_finding wsX4_finding) := goodIn_app (goodIn_of _ (by decide +kernel)) ggX4_undo_X4_finding
set_option maxRecDepth 20000 in
theorem ggX4_undo_X0_becomes : GoodIn wsX4_undo wsX0_becomes := goodIn_r _ [15, 16, 17, 18, 19, 20, 21, 22, 23, 24, 33, 34, 35, 36, 37, 38, 39, 40, 41] (by decide +kernel) (by decide +kernel)
set_option maxRecDepth 20000 in
theorem gX4_undo_X0_becomes : GoodIn wsX4_undo (wsV RX4 163 RX0 yX0_becomes wsX0_becomes) := goodIn_app (goodIn_of _ (by decide +kernel)) ggX4_undo_X0_becomes
set_option maxRecDepth 20000 in
theorem ggX4_count_J6_bitCount_0f7a4 : GoodIn wsX4_count wsJ6_bitCount_0f7a4 := goodIn_r _ [6, 7, 8, 9] (by decide +kernel) (by decide +kernel)
set_option maxRecDepth 20000 in
theorem gX4_count_J6_bitCount_0f7a4 : GoodIn wsX4_count (va_wsS RX4 202 yJ6_bitCount_0f7a4 wsJ6_bitCount_0f7a4) := goodIn_app (goodIn_of _ (by decide +kernel)) ggX4_count_J6_bitCount_0f7a4
set_option maxRecDepth 20000 in
theorem ggX4_count_X0_tippedOnes : GoodIn wsX4_count wsX0_tippedOnes := goodIn_r _ [14, 15, 16, 32, 33, 34, 35, 36, 37, 38, 39, 40] (by decide +kernel) (by decide +kernel)
set_option maxRecDepth 20000 in
theorem gX4_count_X0_tippedOnes : GoodIn wsX4_count (wsV RX4 275 RX0 yX0_tippedOnes wsX0_tippedOnes) := goodIn_app (goodIn_of _ (by decide +kernel)) ggX4_count_X0_tippedOnes
set_option maxRecDepth 20000 in
theorem ggX4_count_X4_finding : GoodIn wsX4_count wsX4_finding := goodIn_r _ [21, 22, 23, 24, 25, 26, 27, 28, 29, 30, 31] (by decide +kernel) (by decide +kernel)
set_option maxRecDepth 20000 in
theorem gX4_count_X4_finding : GoodIn wsX4_count (wsV RX4 58 RX4 yX4_finding wsX4_finding) := goodIn_app (goodIn_of _ (by decide +kernel)) ggX4_count_X4_finding
set_option maxRecDepth 20000 in
theorem ggX4_status_X4_isBelow : GoodIn wsX4_status wsX4_isBelow := goodIn_r _ [5] (by decide +kernel) (by decide +kernel)
set_option maxRecDepth 20000 in
theorem gX4_status_X4_isBelow : GoodIn wsX4_status (va_wsS RX4 69 yX4_isBelow wsX4_isBelow) := goodIn_app (goodIn_of _ (by decide +kernel)) ggX4_status_X4_isBelow
set_option maxRecDepth 20000 in
theorem ggX4_status_X4_finding : GoodIn wsX4_status wsX4_finding := goodIn_r _ [9, 1, 10, 11, 12, 13, 14, 15, 16, 17, 18] (by decide +kernel) (by decide +kernel)
set_option maxRecDepth 20000 in
theorem gX4_status_X4_finding : GoodIn wsX4_status (wsV RX4 58 RX4 yX4_finding wsX4_finding) := goodIn_app (goodIn_of _ (by decide +kernel)) ggX4_status_X4_finding
set_option maxRecDepth 20000 in
theorem ggX4_askOfReader_X4_isCell : GoodIn wsX4_askOfReader wsX4_isCell := goodIn_r _ [5, 6, 7, 4, 8] (by decide +kernel) (by decide +kernel)
set_option maxRecDepth 20000 in
theorem gX4_askOfReader_X4_isCell : GoodIn wsX4_askOfReader (va_wsS RX4 51 yX4_isCell wsX4_isCell) := goodIn_app (goodIn_of _ (by decide +kernel)) ggX4_askOfReader_X4_isCell
set_option maxRecDepth 20000 in
theorem ggX4_askOfReader_X4_isSubject : GoodIn wsX4_askOfReader wsX4_isSubject := goodIn_r _ [11, 6, 7, 4, 8] (by decide +kernel) (by decide +kernel)
set_option maxRecDepth 20000 in
theorem gX4_askOfReader_X4_isSubject : GoodIn wsX4_askOfReader (va_wsS RX4 129 yX4_isSubject wsX4_isSubject) := goodIn_app (goodIn_of _ (by decide +kernel)) ggX4_askOfReader_X4_isSubject
set_option maxRecDepth 20000 in
theorem ggX4_askOfReader_X4_finding : GoodIn wsX4_askOfReader wsX4_finding := goodIn_r _ [15, 16, 17, 24, 25, 26, 27, 28, 29, 30, 31] (by decide +kernel) (by decide +kernel)
set_option maxRecDepth 20000 in
theorem gX4_askOfReader_X4_finding : GoodIn wsX4_askOfReader (wsV RX4 58 RX4 yX4_finding wsX4_finding) := goodIn_app (goodIn_of _ (by decide +kernel)) ggX4_askOfReader_X4_finding
set_option maxRecDepth 20000 in
theorem ggX4_askOfReader_X0_isFenced : GoodIn wsX4_askOfReader wsX0_isFenced := goodIn_r _ [22, 23, 32, 33, 34, 35, 36, 37, 38, 39, 40] (by decide +kernel) (by decide +kernel)
set_option maxRecDepth 20000 in
theorem gX4_askOfReader_X0_isFenced : GoodIn wsX4_askOfReader (wsV RX4 62 RX0 yX0_isFenced wsX0_isFenced) := goodIn_app (goodIn_of _ (by decide +kernel)) ggX4_askOfReader_X0_isFenced
set_option maxRecDepth 20000 in
theorem ggX4_askOfSheet_X4_isBelow : GoodIn wsX4_askOfSheet wsX4_isBelow := goodIn_r _ [5] (by decide +kernel) (by decide +kernel)
set_option maxRecDepth 20000 in
theorem gX4_askOfSheet_X4_isBelow : GoodIn wsX4_askOfSheet (va_wsS RX4 69 yX4_isBelow wsX4_isBelow) := goodIn_app (goodIn_of _ (by decide +kernel)) ggX4_askOfSheet_X4_isBelow
set_option maxRecDepth 20000 in
theorem ggX4_askOfSheet_X4_finding : GoodIn wsX4_askOfSheet wsX4_finding := goodIn_r _ [9, 10, 11, 18, 19, 20, 21, 22, 23, 24, 25] (by decide +kernel) (by decide +kernel)
set_option maxRecDepth 20000 in
theorem gX4_askOfSheet_X4_finding : GoodIn wsX4_askOfSheet (wsV RX4 58 RX4 yX4_finding wsX4_finding) := goodIn_app (goodIn_of _ (by decide +kernel)) ggX4_askOfSheet_X4_finding
set_option maxRecDepth 20000 in
theorem ggX4_askOfSheet_X2_isMissing : GoodIn wsX4_askOfSheet wsX2_isMissing := goodIn_r _ [16, 17, 26, 27, 28] (by decide +kernel) (by decide +kernel)
set_option maxRecDepth 20000 in
theorem gX4_askOfSheet_X2_isMissing : GoodIn wsX4_askOfSheet (wsV RX4 246 RX2 yX2_isMissing wsX2_isMissing) := goodIn_app (goodIn_of _ (by decide +kernel)) ggX4_askOfSheet_X2_isMissing
set_option maxRecDepth 20000 in
theorem ggX4_hoursOrNone_X4_finding : GoodIn wsX4_hoursOrNone wsX4_finding := goodIn_r _ [5, 6, 7, 8, 9, 10, 11, 12, 13, 14, 15] (by decide +kernel) (by decide +kernel)
set_option maxRecDepth 20000 in
theorem gX4_hoursOrNone_X4_finding : GoodIn wsX4_hoursOrNone (wsV RX4 58 RX4 yX4_finding wsX4_finding) := goodIn_app (goodIn_of _ (by decide +kernel)) ggX4_hoursOrNone_X4_finding
set_option maxRecDepth 20000 in
theorem ggX4_placeOrNone_X4_finding : GoodIn wsX4_placeOrNone wsX4_finding := goodIn_r _ [6, 7, 8, 19, 20, 21, 22, 23, 24, 25, 26] (by decide +kernel) (by decide +kernel)
set_option maxRecDepth 20000 in
theorem gX4_placeOrNone_X4_finding : GoodIn wsX4_placeOrNone (wsV RX4 58 RX4 yX4_finding wsX4_finding) := goodIn_app (goodIn_of _ (by decide +kernel)) ggX4_placeOrNone_X4_finding
set_option maxRecDepth 20000 in
theorem ggX4_placeOrNone_X4_least : GoodIn wsX4_placeOrNone wsX4_least := goodIn_r _ [11, 12, 13, 14, 15, 16, 17, 18] (by decide +kernel) (by decide +kernel)
set_option maxRecDepth 20000 in
theorem gX4_placeOrNone_X4_least : GoodIn wsX4_placeOrNone (va_wsS RX4 282 yX4_least wsX4_least) := goodIn_app (goodIn_of _ (by decide +kernel)) ggX4_placeOrNone_X4_least
set_option maxRecDepth 20000 in
theorem ggX4_areTwo_X0_has : GoodIn wsX4_areTwo wsX0_has := goodIn_r _ [6, 7, 8, 9, 10, 19, 20, 21, 22, 23, 24, 25, 26, 27] (by decide +kernel) (by decide +kernel)
set_option maxRecDepth 20000 in
theorem gX4_areTwo_X0_has : GoodIn wsX4_areTwo (wsV RX4 101 RX0 yX0_has wsX0_has) := goodIn_app (goodIn_of _ (by decide +kernel)) ggX4_areTwo_X0_has
set_option maxRecDepth 20000 in
theorem ggX4_bestTipped_X1_goesFrom : GoodIn wsX4_bestTipped wsX1_goesFrom := goodIn_r _ [7, 8, 9, 10, 11, 12, 13, 14, 15, 16, 17, 18, 19, 20, 21, 22, 23, 24, 121, 122, 123, 124, 112, 113, 114, 115, 116, 117, 118, 119, 120] (by decide +kernel) (by decide +kernel)
set_option maxRecDepth 20000 in
theorem gX4_bestTipped_X1_goesFrom : GoodIn wsX4_bestTipped (wsV RX4 183 RX1 yX1_goesFrom wsX1_goesFrom) := goodIn_app (goodIn_of _ (by decide +kernel)) ggX4_bestTipped_X1_goesFrom
set_option maxRecDepth 20000 in
theorem ggX4_bestTipped_X1_seek : GoodIn wsX4_bestTipped wsX1_seek := goodIn_r _ [28, 9, 29, 8, 30, 31, 32, 6, 33, 34, 35, 36, 14, 37, 19, 23, 38, 39, 40, 41, 22, 42, 43, 44, 45, 18, 46, 47, 48, 49, 24, 50, 51, 52, 53, 21, 20, 54, 55, 56, 57, 58, 59, 60, 61, 62, 63, 64, 65, 17, 66, 67, 68, 69, 70, 71, 72, 73, 74, 75, 76, 77, 16, 78, 79, 80, 81, 82, 83, 84, 85, 86, 87, 88, 89, 90, 91, 92, 93, 94, 95, 96, 97, 98, 99, 100, 10, 101, 102, 103, 121, 122, 123, 124, 112, 113, 114, 115, 116, 117, 118, 119, 120] (by decide +kernel) (by decide +kernel)
set_option maxRecDepth 20000 in
theorem gX4_bestTipped_X1_seek : GoodIn wsX4_bestTipped (wsV RX4 187 RX1 yX1_seek wsX1_seek) := goodIn_app (goodIn_of _ (by decide +kernel)) ggX4_bestTipped_X1_seek
set_option maxRecDepth 20000 in
theorem ggX4_bestSpring_X0_isFenced : GoodIn wsX4_bestSpring wsX0_isFenced := goodIn_r _ [7, 8, 117, 118, 119, 120, 121, 122, 123, 124, 125] (by decide +kernel) (by decide +kernel)
set_option maxRecDepth 20000 in
theorem gX4_bestSpring_X0_isFenced : GoodIn wsX4_bestSpring (wsV RX4 62 RX0 yX0_isFenced wsX0_isFenced) := goodIn_app (goodIn_of _ (by decide +kernel)) ggX4_bestSpring_X0_isFenced
set_option maxRecDepth 20000 in
theorem ggX4_bestSpring_X1_goesFrom : GoodIn wsX4_bestSpring wsX1_goesFrom := goodIn_r _ [13, 14, 15, 16, 17, 18, 19, 6, 20, 8, 21, 22, 23, 24, 25, 26, 27, 28, 113, 114, 115, 116, 117, 118, 119, 120, 121, 122, 123, 124, 125] (by decide +kernel) (by decide +kernel)
set_option maxRecDepth 20000 in
theorem gX4_bestSpring_X1_goesFrom : GoodIn wsX4_bestSpring (wsV RX4 183 RX1 yX1_goesFrom wsX1_goesFrom) := goodIn_app (goodIn_of _ (by decide +kernel)) ggX4_bestSpring_X1_goesFrom
set_option maxRecDepth 20000 in
theorem ggX4_bestSpring_X1_seek : GoodIn wsX4_bestSpring wsX1_seek := goodIn_r _ [32, 15, 33, 14, 34, 35, 36, 12, 37, 38, 39, 40, 6, 41, 23, 27, 42, 43, 44, 45, 26, 46, 47, 48, 49, 22, 50, 51, 52, 53, 28, 54, 55, 56, 57, 25, 24, 58, 59, 60, 61, 62, 63, 64, 65, 66, 67, 68, 69, 21, 70, 71, 72, 73, 74, 75, 76, 77, 78, 4, 5, 7, 8, 79, 80, 81, 82, 83, 84, 85, 86, 87, 88, 89, 90, 91, 92, 93, 94, 95, 96, 97, 98, 99, 100, 101, 16, 102, 103, 104, 113, 114, 115, 116, 117, 118, 119, 120, 121, 122, 123, 124, 125] (by decide +kernel) (by decide +kernel)
set_option maxRecDepth 20000 in
theorem gX4_bestSpring_X1_seek : GoodIn wsX4_bestSpring (wsV RX4 187 RX1 yX1_seek wsX1_seek) := goodIn_app (goodIn_of _ (by decide +kernel)) ggX4_bestSpring_X1_seek
set_option maxRecDepth 20000 in
theorem ggX4_bestKind_X0_becomes : GoodIn wsX4_bestKind wsX0_becomes := goodIn_r _ [7, 8, 9, 10, 11, 12, 13, 14, 15, 16, 65, 66, 67, 68, 69, 70, 71, 72, 73] (by decide +kernel) (by decide +kernel)
set_option maxRecDepth 20000 in
theorem gX4_bestKind_X0_becomes : GoodIn wsX4_bestKind (wsV RX4 163 RX0 yX0_becomes wsX0_becomes) := goodIn_app (goodIn_of _ (by decide +kernel)) ggX4_bestKind_X0_becomes
set_option maxRecDepth 20000 in
theorem ggX4_bestKind_X0_hoursTill : GoodIn wsX4_bestKind wsX0_hoursTill := goodIn_r _ [20, 14, 21, 22, 23, 6, 24, 10, 25, 26, 27, 28, 16, 29, 30, 31, 32, 13, 12, 33, 34, 35, 36, 37, 38, 39, 40, 41, 42, 43, 44, 9, 45, 46, 47, 48, 49, 50, 51, 52, 53, 54, 55, 56, 8, 65, 66, 67, 68, 69, 70, 71, 72, 73] (by decide +kernel) (by decide +kernel)
set_option maxRecDepth 20000 in
theorem gX4_bestKind_X0_hoursTill : GoodIn wsX4_bestKind (wsV RX4 167 RX0 yX0_hoursTill wsX0_hoursTill) := goodIn_app (goodIn_of _ (by decide +kernel)) ggX4_bestKind_X0_hoursTill
set_option maxRecDepth 20000 in
theorem ggX4_isCell_X4_isBelow : GoodIn wsX4_isCell wsX4_isBelow := goodIn_r _ [4] (by decide +kernel) (by decide +kernel)
set_option maxRecDepth 20000 in
theorem gX4_isCell_X4_isBelow : GoodIn wsX4_isCell (va_wsS RX4 69 yX4_isBelow wsX4_isBelow) := goodIn_app (goodIn_of _ (by decide +kernel)) ggX4_isCell_X4_isBelow
set_option maxRecDepth 20000 in
theorem ggX4_isSubject_X4_isBelow : GoodIn wsX4_isSubject wsX4_isBelow := goodIn_r _ [4] (by decide +kernel) (by decide +kernel)
set_option maxRecDepth 20000 in
theorem gX4_isSubject_X4_isBelow : GoodIn wsX4_isSubject (va_wsS RX4 69 yX4_isBelow wsX4_isBelow) := goodIn_app (goodIn_of _ (by decide +kernel)) ggX4_isSubject_X4_isBelow
set_option maxRecDepth 20000 in
theorem ggX4_isKind_X4_isBelow : GoodIn wsX4_isKind wsX4_isBelow := goodIn_r _ [4] (by decide +kernel) (by decide +kernel)
set_option maxRecDepth 20000 in
theorem gX4_isKind_X4_isBelow : GoodIn wsX4_isKind (va_wsS RX4 69 yX4_isBelow wsX4_isBelow) := goodIn_app (goodIn_of _ (by decide +kernel)) ggX4_isKind_X4_isBelow
set_option maxRecDepth 20000 in
theorem ggX4_least_J6_bitCount_0f7a4 : GoodIn wsX4_least wsJ6_bitCount_0f7a4 := goodIn_r _ [4, 5, 6, 7] (by decide +kernel) (by decide +kernel)
set_option maxRecDepth 20000 in
theorem gX4_least_J6_bitCount_0f7a4 : GoodIn wsX4_least (va_wsS RX4 202 yJ6_bitCount_0f7a4 wsJ6_bitCount_0f7a4) := goodIn_app (goodIn_of _ (by decide +kernel)) ggX4_least_J6_bitCount_0f7a4
set_option maxRecDepth 20000 in
theorem ggX5_isCell_X5_in : GoodIn wsX5_isCell wsX5_in := goodIn_r _ [5] (by decide +kernel) (by decide +kernel)
set_option maxRecDepth 20000 in
theorem gX5_isCell_X5_in : GoodIn wsX5_isCell (va_wsS RX5 44 yX5_in wsX5_in) := goodIn_app (goodIn_of _ (by decide +kernel)) ggX5_isCell_X5_in
set_option maxRecDepth 20000 in
theorem ggX5_isKind_X5_in : GoodIn wsX5_isKind wsX5_in := goodIn_r _ [5] (by decide +kernel) (by decide +kernel)
set_option maxRecDepth 20000 in
theorem gX5_isKind_X5_in : GoodIn wsX5_isKind (va_wsS RX5 44 yX5_in wsX5_in) := goodIn_app (goodIn_of _ (by decide +kernel)) ggX5_isKind_X5_in
set_option maxRecDepth 20000 in
theorem ggX5_isSubject_X5_in : GoodIn wsX5_isSubject wsX5_in := goodIn_r _ [5] (by decide +kernel) (by decide +kernel)
set_option maxRecDepth 20000 in
theorem gX5_isSubject_X5_in : GoodIn wsX5_isSubject (va_wsS RX5 44 yX5_in wsX5_in) := goodIn_app (goodIn_of _ (by decide +kernel)) ggX5_isSubject_X5_in
set_option maxRecDepth 20000 in
theorem ggX5_isSet_X5_in : GoodIn wsX5_isSet wsX5_in := goodIn_r _ [5] (by decide +kernel) (by decide +kernel)
set_option maxRecDepth 20000 in
theorem gX5_isSet_X5_in : GoodIn wsX5_isSet (va_wsS RX5 44 yX5_in wsX5_in) := goodIn_app (goodIn_of _ (by decide +kernel)) ggX5_isSet_X5_in
set_option maxRecDepth 20000 in
theorem ggX5_isOne_X5_in : GoodIn wsX5_isOne wsX5_in := goodIn_r _ [5] (by decide +kernel) (by decide +kernel)
set_option maxRecDepth 20000 in
theorem gX5_isOne_X5_in : GoodIn wsX5_isOne (va_wsS RX5 44 yX5_in wsX5_in) := goodIn_app (goodIn_of _ (by decide +kernel)) ggX5_isOne_X5_in
set_option maxRecDepth 20000 in
theorem ggX5_areTwo_X5_isOne : GoodIn wsX5_areTwo wsX5_isOne := goodIn_r _ [5, 6, 7, 8, 4, 9, 10, 11, 12, 13, 14, 15, 16, 17, 18, 19, 20, 21, 22, 23, 24, 25, 26] (by decide +kernel) (by decide +kernel)
set_option maxRecDepth 20000 in
theorem gX5_areTwo_X5_isOne : GoodIn wsX5_areTwo (wsV RX5 54 RX5 yX5_isOne wsX5_isOne) := goodIn_app (goodIn_of _ (by decide +kernel)) ggX5_areTwo_X5_isOne
set_option maxRecDepth 20000 in
theorem ggX5_its_X5_spotOf : GoodIn wsX5_its wsX5_spotOf := goodIn_r _ [5] (by decide +kernel) (by decide +kernel)
set_option maxRecDepth 20000 in
theorem gX5_its_X5_spotOf : GoodIn wsX5_its (va_wsS RX5 58 yX5_spotOf wsX5_spotOf) := goodIn_app (goodIn_of _ (by decide +kernel)) ggX5_its_X5_spotOf
set_option maxRecDepth 20000 in
theorem ggX5_fence_X5_isCell : GoodIn wsX5_fence wsX5_isCell := goodIn_r _ [5, 6, 7, 8, 4, 9] (by decide +kernel) (by decide +kernel)
set_option maxRecDepth 20000 in
theorem gX5_fence_X5_isCell : GoodIn wsX5_fence (va_wsS RX5 62 yX5_isCell wsX5_isCell) := goodIn_app (goodIn_of _ (by decide +kernel)) ggX5_fence_X5_isCell
set_option maxRecDepth 20000 in
theorem ggX5_fence_X5_in : GoodIn wsX5_fence wsX5_in := goodIn_r _ [9] (by decide +kernel) (by decide +kernel)
set_option maxRecDepth 20000 in
theorem gX5_fence_X5_in : GoodIn wsX5_fence (va_wsS RX5 44 yX5_in wsX5_in) := goodIn_app (goodIn_of _ (by decide +kernel)) ggX5_fence_X5_in
set_option maxRecDepth 20000 in
theorem ggX5_fence_X5_finds : GoodIn wsX5_fence wsX5_finds := goodIn_r _ [13, 14, 1, 24, 25, 26, 27, 28, 29, 30, 31, 32, 33, 34, 35, 36, 37, 38, 39, 40] (by decide +kernel) (by decide +kernel)
set_option maxRecDepth 20000 in
theorem gX5_fence_X5_finds : GoodIn wsX5_fence (wsV RX5 65 RX5 yX5_finds wsX5_finds) := goodIn_app (goodIn_of _ (by decide +kernel)) ggX5_fence_X5_finds
set_option maxRecDepth 20000 in
theorem ggX5_fence_X5_isFenced : GoodIn wsX5_fence wsX5_isFenced := goodIn_r _ [18, 19, 24, 25, 26, 27, 28, 29, 30, 31, 32, 33, 34, 35, 36, 37, 38, 39, 40] (by decide +kernel) (by decide +kernel)
set_option maxRecDepth 20000 in
theorem gX5_fence_X5_isFenced : GoodIn wsX5_fence (wsV RX5 69 RX5 yX5_isFenced wsX5_isFenced) := goodIn_app (goodIn_of _ (by decide +kernel)) ggX5_fence_X5_isFenced
set_option maxRecDepth 20000 in
theorem ggX5_fence_X5_fences : GoodIn wsX5_fence wsX5_fences := goodIn_r _ [23, 19, 24, 25, 26, 27, 28, 29, 30, 31, 32, 33, 34, 35, 36, 37, 38, 39, 40] (by decide +kernel) (by decide +kernel)
set_option maxRecDepth 20000 in
theorem gX5_fence_X5_fences : GoodIn wsX5_fence (wsV RX5 72 RX5 yX5_fences wsX5_fences) := goodIn_app (goodIn_of _ (by decide +kernel)) ggX5_fence_X5_fences
set_option maxRecDepth 20000 in
theorem ggX5_spot_X5_in : GoodIn wsX5_spot wsX5_in := goodIn_r _ [6] (by decide +kernel) (by decide +kernel)
set_option maxRecDepth 20000 in
theorem gX5_spot_X5_in : GoodIn wsX5_spot (va_wsS RX5 44 yX5_in wsX5_in) := goodIn_app (goodIn_of _ (by decide +kernel)) ggX5_spot_X5_in
set_option maxRecDepth 20000 in
theorem ggX5_spot_X5_isCell : GoodIn wsX5_spot wsX5_isCell := goodIn_r _ [9, 10, 3, 4, 5, 6] (by decide +kernel) (by decide +kernel)
set_option maxRecDepth 20000 in
theorem gX5_spot_X5_isCell : GoodIn wsX5_spot (va_wsS RX5 62 yX5_isCell wsX5_isCell) := goodIn_app (goodIn_of _ (by decide +kernel)) ggX5_spot_X5_isCell
set_option maxRecDepth 20000 in
theorem ggX5_spot_X5_becomes : GoodIn wsX5_spot wsX5_becomes := goodIn_r _ [14, 15, 21, 22, 23, 24, 25, 26, 27, 28, 29, 30, 31, 32, 33, 34, 35, 36, 37] (by decide +kernel) (by decide +kernel)
set_option maxRecDepth 20000 in
theorem gX5_spot_X5_becomes : GoodIn wsX5_spot (wsV RX5 78 RX5 yX5_becomes wsX5_becomes) := goodIn_app (goodIn_of _ (by decide +kernel)) ggX5_spot_X5_becomes
set_option maxRecDepth 20000 in
theorem ggX5_spot_X5_finds : GoodIn wsX5_spot wsX5_finds := goodIn_r _ [19, 20, 2, 21, 22, 23, 24, 25, 26, 27, 28, 29, 30, 31, 32, 33, 34, 35, 36, 37] (by decide +kernel) (by decide +kernel)
set_option maxRecDepth 20000 in
theorem gX5_spot_X5_finds : GoodIn wsX5_spot (wsV RX5 65 RX5 yX5_finds wsX5_finds) := goodIn_app (goodIn_of _ (by decide +kernel)) ggX5_spot_X5_finds
set_option maxRecDepth 20000 in
theorem ggX5_rain_X5_in : GoodIn wsX5_rain wsX5_in := goodIn_r _ [6] (by decide +kernel) (by decide +kernel)
set_option maxRecDepth 20000 in
theorem gX5_rain_X5_in : GoodIn wsX5_rain (va_wsS RX5 44 yX5_in wsX5_in) := goodIn_app (goodIn_of _ (by decide +kernel)) ggX5_rain_X5_in
set_option maxRecDepth 20000 in
theorem ggX5_rain_X5_becomes : GoodIn wsX5_rain wsX5_becomes := goodIn_r _ [10, 11, 17, 18, 19, 20, 21, 22, 23, 24, 25, 26, 27, 28, 29, 30, 31, 32, 33] (by decide +kernel) (by decide +kernel)
set_option maxRecDepth 20000 in
theorem gX5_rain_X5_becomes : GoodIn wsX5_rain (wsV RX5 78 RX5 yX5_becomes wsX5_becomes) := goodIn_app (goodIn_of _ (by decide +kernel)) ggX5_rain_X5_becomes
set_option maxRecDepth 20000 in
theorem ggX5_rain_X5_finds : GoodIn wsX5_rain wsX5_finds := goodIn_r _ [15, 16, 2, 17, 18, 19, 20, 21, 22, 23, 24, 25, 26, 27, 28, 29, 30, 31, 32, 33] (by decide +kernel) (by decide +kernel)
set_option maxRecDepth 20000 in
theorem gX5_rain_X5_finds : GoodIn wsX5_rain (wsV RX5 65 RX5 yX5_finds wsX5_finds) := goodIn_app (goodIn_of _ (by decide +kernel)) ggX5_rain_X5_finds
set_option maxRecDepth 20000 in
theorem ggX5_those_X5_its : GoodIn wsX5_those wsX5_its := goodIn_r _ [6, 1, 7, 8, 5, 9, 10, 11, 12, 13, 14, 15, 16, 17, 18, 19, 20, 21, 22, 23, 24, 25, 26] (by decide +kernel) (by decide +kernel)
set_option maxRecDepth 20000 in
theorem gX5_those_X5_its : GoodIn wsX5_those (wsV RX5 83 RX5 yX5_its wsX5_its) := goodIn_app (goodIn_of _ (by decide +kernel)) ggX5_those_X5_its
set_option maxRecDepth 20000 in
theorem ggX5_booksIn_X5_its : GoodIn wsX5_booksIn wsX5_its := goodIn_r _ [6, 1, 7, 8, 5, 9, 10, 11, 12, 13, 14, 15, 16, 17, 18, 19, 20, 21, 22, 23, 24, 25, 26] (by decide +kernel) (by decide +kernel)
set_option maxRecDepth 20000 in
theorem gX5_booksIn_X5_its : GoodIn wsX5_booksIn (wsV RX5 83 RX5 yX5_its wsX5_its) := goodIn_app (goodIn_of _ (by decide +kernel)) ggX5_booksIn_X5_its
set_option maxRecDepth 20000 in
theorem ggX5_cell_X5_isCell : GoodIn wsX5_cell wsX5_isCell := goodIn_r _ [6, 7, 8, 9, 5, 10] (by decide +kernel) (by decide +kernel)
set_option maxRecDepth 20000 in
theorem gX5_cell_X5_isCell : GoodIn wsX5_cell (va_wsS RX5 62 yX5_isCell wsX5_isCell) := goodIn_app (goodIn_of _ (by decide +kernel)) ggX5_cell_X5_isCell
set_option maxRecDepth 20000 in
theorem ggX5_cell_X5_in : GoodIn wsX5_cell wsX5_in := goodIn_r _ [10] (by decide +kernel) (by decide +kernel)
set_option maxRecDepth 20000 in
theorem gX5_cell_X5_in : GoodIn wsX5_cell (va_wsS RX5 44 yX5_in wsX5_in) := goodIn_app (goodIn_of _ (by decide +kernel)) ggX5_cell_X5_in
set_option maxRecDepth 20000 in
theorem ggX5_cell_X5_finds : GoodIn wsX5_cell wsX5_finds := goodIn_r _ [14, 15, 2, 36, 37, 38, 39, 40, 41, 42, 43, 44, 45, 46, 47, 48, 49, 50, 51, 52] (by decide +kernel) (by decide +kernel)
set_option maxRecDepth 20000 in
theorem gX5_cell_X5_finds : GoodIn wsX5_cell (wsV RX5 65 RX5 yX5_finds wsX5_finds) := goodIn_app (goodIn_of _ (by decide +kernel)) ggX5_cell_X5_finds
set_option maxRecDepth 20000 in
theorem ggX5_cell_X5_isFenced : GoodIn wsX5_cell wsX5_isFenced := goodIn_r _ [19, 20, 36, 37, 38, 39, 40, 41, 42, 43, 44, 45, 46, 47, 48, 49, 50, 51, 52] (by decide +kernel) (by decide +kernel)
set_option maxRecDepth 20000 in
theorem gX5_cell_X5_isFenced : GoodIn wsX5_cell (wsV RX5 69 RX5 yX5_isFenced wsX5_isFenced) := goodIn_app (goodIn_of _ (by decide +kernel)) ggX5_cell_X5_isFenced
set_option maxRecDepth 20000 in
theorem ggX5_cell_X5_those : GoodIn wsX5_cell wsX5_those := goodIn_r _ [24, 20, 25, 26, 27, 5, 28, 29, 30, 31, 36, 37, 38, 39, 40, 41, 42, 43, 44, 45, 46, 47, 48, 49, 50, 51, 52] (by decide +kernel) (by decide +kernel)
set_option maxRecDepth 20000 in
theorem gX5_cell_X5_those : GoodIn wsX5_cell (wsV RX5 86 RX5 yX5_those wsX5_those) := goodIn_app (goodIn_of _ (by decide +kernel)) ggX5_cell_X5_those
set_option maxRecDepth 20000 in
theorem ggX5_cell_X5_booksIn : GoodIn wsX5_cell wsX5_booksIn := goodIn_r _ [35, 20, 25, 26, 27, 5, 28, 29, 30, 31, 36, 37, 38, 39, 40, 41, 42, 43, 44, 45, 46, 47, 48, 49, 50, 51, 52] (by decide +kernel) (by decide +kernel)
set_option maxRecDepth 20000 in
theorem gX5_cell_X5_booksIn : GoodIn wsX5_cell (wsV RX5 89 RX5 yX5_booksIn wsX5_booksIn) := goodIn_app (goodIn_of _ (by decide +kernel)) ggX5_cell_X5_booksIn
set_option maxRecDepth 20000 in
theorem ggX5_rains_X5_clock : GoodIn wsX5_rains wsX5_clock := goodIn_r _ [6, 1, 7, 8, 9, 10, 11, 12, 13, 14, 15, 16, 17, 18, 19, 20, 21, 22, 23] (by decide +kernel) (by decide +kernel)
set_option maxRecDepth 20000 in
theorem gX5_rains_X5_clock : GoodIn wsX5_rains (wsV RX5 92 RX5 yX5_clock wsX5_clock) := goodIn_app (goodIn_of _ (by decide +kernel)) ggX5_rains_X5_clock
set_option maxRecDepth 20000 in
theorem ggX5_lawful_X5_clock : GoodIn wsX5_lawful wsX5_clock := goodIn_r _ [8, 3, 12, 13, 14, 15, 16, 17, 18, 19, 20, 21, 22, 23, 24, 25, 26, 27, 28] (by decide +kernel) (by decide +kernel)
set_option maxRecDepth 20000 in
theorem gX5_lawful_X5_clock : GoodIn wsX5_lawful (wsV RX5 92 RX5 yX5_clock wsX5_clock) := goodIn_app (goodIn_of _ (by decide +kernel)) ggX5_lawful_X5_clock
set_option maxRecDepth 20000 in
theorem ggX5_lawful_X5_in : GoodIn wsX5_lawful wsX5_in := goodIn_r _ [11] (by decide +kernel) (by decide +kernel)
set_option maxRecDepth 20000 in
theorem gX5_lawful_X5_in : GoodIn wsX5_lawful (va_wsS RX5 44 yX5_in wsX5_in) := goodIn_app (goodIn_of _ (by decide +kernel)) ggX5_lawful_X5_in
set_option maxRecDepth 20000 in
theorem ggX5_aimOf_X5_its : GoodIn wsX5_aimOf wsX5_its := goodIn_r _ [6, 1, 7, 8, 5, 9, 27, 28, 29, 30, 31, 32, 33, 34, 35, 36, 37, 38, 39, 40, 41, 42, 43] (by decide +kernel) (by decide +kernel)
set_option maxRecDepth 20000 in
theorem gX5_aimOf_X5_its : GoodIn wsX5_aimOf (wsV RX5 83 RX5 yX5_its wsX5_its) := goodIn_app (goodIn_of _ (by decide +kernel)) ggX5_aimOf_X5_its
set_option maxRecDepth 20000 in
theorem ggX5_aimOf_X5_lawful : GoodIn wsX5_aimOf wsX5_lawful := goodIn_r _ [13, 14, 15, 1, 16, 17, 18, 5, 19, 20, 21, 22, 27, 28, 29, 30, 31, 32, 33, 34, 35, 36, 37, 38, 39, 40, 41, 42, 43] (by decide +kernel) (by decide +kernel)
set_option maxRecDepth 20000 in
theorem gX5_aimOf_X5_lawful : GoodIn wsX5_aimOf (wsV RX5 100 RX5 yX5_lawful wsX5_lawful) := goodIn_app (goodIn_of _ (by decide +kernel)) ggX5_aimOf_X5_lawful
set_option maxRecDepth 20000 in
theorem ggX5_aimOf_X5_rains : GoodIn wsX5_aimOf wsX5_rains := goodIn_r _ [26, 1, 16, 17, 18, 5, 19, 27, 28, 29, 30, 31, 32, 33, 34, 35, 36, 37, 38, 39, 40, 41, 42, 43] (by decide +kernel) (by decide +kernel)
set_option maxRecDepth 20000 in
theorem gX5_aimOf_X5_rains : GoodIn wsX5_aimOf (wsV RX5 103 RX5 yX5_rains wsX5_rains) := goodIn_app (goodIn_of _ (by decide +kernel)) ggX5_aimOf_X5_rains
set_option maxRecDepth 20000 in
theorem ggX5_aimOf_X5_clock : GoodIn wsX5_aimOf wsX5_clock := goodIn_r _ [19, 1, 27, 28, 29, 30, 31, 32, 33, 34, 35, 36, 37, 38, 39, 40, 41, 42, 43] (by decide +kernel) (by decide +kernel)
set_option maxRecDepth 20000 in
theorem gX5_aimOf_X5_clock : GoodIn wsX5_aimOf (wsV RX5 92 RX5 yX5_clock wsX5_clock) := goodIn_app (goodIn_of _ (by decide +kernel)) ggX5_aimOf_X5_clock
set_option maxRecDepth 20000 in
theorem ggX5_paceOf_X5_its : GoodIn wsX5_paceOf wsX5_its := goodIn_r _ [5, 6, 7, 8, 4, 9, 14, 15, 16, 17, 18, 19, 20, 21, 22, 23, 24, 25, 26, 27, 28, 29, 30] (by decide +kernel) (by decide +kernel)
set_option maxRecDepth 20000 in
theorem gX5_paceOf_X5_its : GoodIn wsX5_paceOf (wsV RX5 83 RX5 yX5_its wsX5_its) := goodIn_app (goodIn_of _ (by decide +kernel)) ggX5_paceOf_X5_its
set_option maxRecDepth 20000 in
theorem ggX5_paceOf_X5_clock : GoodIn wsX5_paceOf wsX5_clock := goodIn_r _ [13, 6, 14, 15, 16, 17, 18, 19, 20, 21, 22, 23, 24, 25, 26, 27, 28, 29, 30] (by decide +kernel) (by decide +kernel)
set_option maxRecDepth 20000 in
theorem gX5_paceOf_X5_clock : GoodIn wsX5_paceOf (wsV RX5 92 RX5 yX5_clock wsX5_clock) := goodIn_app (goodIn_of _ (by decide +kernel)) ggX5_paceOf_X5_clock
set_option maxRecDepth 20000 in
theorem ggX5_adds_X5_spotOf : GoodIn wsX5_adds wsX5_spotOf := goodIn_r _ [5] (by decide +kernel) (by decide +kernel)
set_option maxRecDepth 20000 in
theorem gX5_adds_X5_spotOf : GoodIn wsX5_adds (va_wsS RX5 58 yX5_spotOf wsX5_spotOf) := goodIn_app (goodIn_of _ (by decide +kernel)) ggX5_adds_X5_spotOf
set_option maxRecDepth 20000 in
theorem ggX5_tortoise_X5_isKind : GoodIn wsX5_tortoise wsX5_isKind := goodIn_r _ [7, 8, 9, 10, 6, 11] (by decide +kernel) (by decide +kernel)
set_option maxRecDepth 20000 in
theorem gX5_tortoise_X5_isKind : GoodIn wsX5_tortoise (va_wsS RX5 107 yX5_isKind wsX5_isKind) := goodIn_app (goodIn_of _ (by decide +kernel)) ggX5_tortoise_X5_isKind
set_option maxRecDepth 20000 in
theorem ggX5_tortoise_X5_isCell : GoodIn wsX5_tortoise wsX5_isCell := goodIn_r _ [14, 15, 9, 10, 6, 11] (by decide +kernel) (by decide +kernel)
set_option maxRecDepth 20000 in
theorem gX5_tortoise_X5_isCell : GoodIn wsX5_tortoise (va_wsS RX5 62 yX5_isCell wsX5_isCell) := goodIn_app (goodIn_of _ (by decide +kernel)) ggX5_tortoise_X5_isCell
set_option maxRecDepth 20000 in
theorem ggX5_tortoise_X5_isSet : GoodIn wsX5_tortoise wsX5_isSet := goodIn_r _ [18, 19, 9, 10, 6, 11] (by decide +kernel) (by decide +kernel)
set_option maxRecDepth 20000 in
theorem gX5_tortoise_X5_isSet : GoodIn wsX5_tortoise (va_wsS RX5 110 yX5_isSet wsX5_isSet) := goodIn_app (goodIn_of _ (by decide +kernel)) ggX5_tortoise_X5_isSet
set_option maxRecDepth 20000 in
theorem ggX5_tortoise_X5_finds : GoodIn wsX5_tortoise wsX5_finds := goodIn_r _ [23, 24, 1, 32, 33, 34, 35, 36, 37, 38, 39, 40, 41, 42, 43, 44, 45, 46, 47, 48] (by decide +kernel) (by decide +kernel)
set_option maxRecDepth 20000 in
theorem gX5_tortoise_X5_finds : GoodIn wsX5_tortoise (wsV RX5 65 RX5 yX5_finds wsX5_finds) := goodIn_app (goodIn_of _ (by decide +kernel)) ggX5_tortoise_X5_finds
set_option maxRecDepth 20000 in
theorem ggX5_tortoise_X5_adds : GoodIn wsX5_tortoise wsX5_adds := goodIn_r _ [28, 2, 29, 30, 6, 31, 32, 33, 34, 35, 36, 37, 38, 39, 40, 41, 42, 43, 44, 45, 46, 47, 48] (by decide +kernel) (by decide +kernel)
set_option maxRecDepth 20000 in
theorem gX5_tortoise_X5_adds : GoodIn wsX5_tortoise (wsV RX5 115 RX5 yX5_adds wsX5_adds) := goodIn_app (goodIn_of _ (by decide +kernel)) ggX5_tortoise_X5_adds
set_option maxRecDepth 20000 in
theorem ggX5_of_X5_isOne : GoodIn wsX5_of wsX5_isOne := goodIn_r _ [7, 8, 9, 10, 6, 11, 46, 47, 48, 49, 50, 51, 52, 53, 54, 55, 56, 57, 58, 59, 60, 61, 62] (by decide +kernel) (by decide +kernel)
set_option maxRecDepth 20000 in
theorem gX5_of_X5_isOne : GoodIn wsX5_of (wsV RX5 54 RX5 yX5_isOne wsX5_isOne) := goodIn_app (goodIn_of _ (by decide +kernel)) ggX5_of_X5_isOne
set_option maxRecDepth 20000 in
theorem ggX5_of_X5_in : GoodIn wsX5_of wsX5_in := goodIn_r _ [11] (by decide +kernel) (by decide +kernel)
set_option maxRecDepth 20000 in
theorem gX5_of_X5_in : GoodIn wsX5_of (va_wsS RX5 44 yX5_in wsX5_in) := goodIn_app (goodIn_of _ (by decide +kernel)) ggX5_of_X5_in
set_option maxRecDepth 20000 in
theorem ggX5_of_X5_finds : GoodIn wsX5_of wsX5_finds := goodIn_r _ [15, 16, 2, 46, 47, 48, 49, 50, 51, 52, 53, 54, 55, 56, 57, 58, 59, 60, 61, 62] (by decide +kernel) (by decide +kernel)
set_option maxRecDepth 20000 in
theorem gX5_of_X5_finds : GoodIn wsX5_of (wsV RX5 65 RX5 yX5_finds wsX5_finds) := goodIn_app (goodIn_of _ (by decide +kernel)) ggX5_of_X5_finds
set_option maxRecDepth 20000 in
theorem ggX5_of_X5_its : GoodIn wsX5_of wsX5_its := goodIn_r _ [20, 8, 21, 22, 6, 23, 46, 47, 48, 49, 50, 51, 52, 53, 54, 55, 56, 57, 58, 59, 60, 61, 62] (by decide +kernel) (by decide +kernel)
set_option maxRecDepth 20000 in
theorem gX5_of_X5_its : GoodIn wsX5_of (wsV RX5 83 RX5 yX5_its wsX5_its) := goodIn_app (goodIn_of _ (by decide +kernel)) ggX5_of_X5_its
set_option maxRecDepth 20000 in
theorem ggX5_of_X5_aimOf : GoodIn wsX5_of wsX5_aimOf := goodIn_r _ [27, 8, 17, 18, 19, 6, 20, 21, 22, 23, 28, 29, 30, 31, 32, 33, 34, 35, 36, 37, 9, 10, 11, 38, 39, 40, 41, 46, 47, 48, 49, 50, 51, 52, 53, 54, 55, 56, 57, 58, 59, 60, 61, 62] (by decide +kernel) (by decide +kernel)
set_option maxRecDepth 20000 in
theorem gX5_of_X5_aimOf : GoodIn wsX5_of (wsV RX5 119 RX5 yX5_aimOf wsX5_aimOf) := goodIn_app (goodIn_of _ (by decide +kernel)) ggX5_of_X5_aimOf
set_option maxRecDepth 20000 in
theorem ggX5_of_X5_paceOf : GoodIn wsX5_of wsX5_paceOf := goodIn_r _ [45, 17, 18, 19, 6, 20, 8, 21, 22, 23, 34, 35, 36, 37, 46, 47, 48, 49, 50, 51, 52, 53, 54, 55, 56, 57, 58, 59, 60, 61, 62] (by decide +kernel) (by decide +kernel)
set_option maxRecDepth 20000 in
theorem gX5_of_X5_paceOf : GoodIn wsX5_of (wsV RX5 122 RX5 yX5_paceOf wsX5_paceOf) := goodIn_app (goodIn_of _ (by decide +kernel)) ggX5_of_X5_paceOf
set_option maxRecDepth 20000 in
theorem ggX5_set_X5_isCell : GoodIn wsX5_set wsX5_isCell := goodIn_r _ [5, 6, 7, 8, 4, 9] (by decide +kernel) (by decide +kernel)
set_option maxRecDepth 20000 in
theorem gX5_set_X5_isCell : GoodIn wsX5_set (va_wsS RX5 62 yX5_isCell wsX5_isCell) := goodIn_app (goodIn_of _ (by decide +kernel)) ggX5_set_X5_isCell
set_option maxRecDepth 20000 in
theorem ggX5_set_X5_isSet : GoodIn wsX5_set wsX5_isSet := goodIn_r _ [12, 13, 7, 8, 4, 9] (by decide +kernel) (by decide +kernel)
set_option maxRecDepth 20000 in
theorem gX5_set_X5_isSet : GoodIn wsX5_set (va_wsS RX5 110 yX5_isSet wsX5_isSet) := goodIn_app (goodIn_of _ (by decide +kernel)) ggX5_set_X5_isSet
set_option maxRecDepth 20000 in
theorem ggX5_set_X5_in : GoodIn wsX5_set wsX5_in := goodIn_r _ [9] (by decide +kernel) (by decide +kernel)
set_option maxRecDepth 20000 in
theorem gX5_set_X5_in : GoodIn wsX5_set (va_wsS RX5 44 yX5_in wsX5_in) := goodIn_app (goodIn_of _ (by decide +kernel)) ggX5_set_X5_in
set_option maxRecDepth 20000 in
theorem ggX5_set_X5_isOne : GoodIn wsX5_set wsX5_isOne := goodIn_r _ [17, 18, 7, 8, 4, 9, 31, 32, 33, 34, 35, 36, 37, 38, 39, 40, 41, 42, 43, 44, 45, 46, 47] (by decide +kernel) (by decide +kernel)
set_option maxRecDepth 20000 in
theorem gX5_set_X5_isOne : GoodIn wsX5_set (wsV RX5 54 RX5 yX5_isOne wsX5_isOne) := goodIn_app (goodIn_of _ (by decide +kernel)) ggX5_set_X5_isOne
set_option maxRecDepth 20000 in
theorem ggX5_set_X5_spotOf : GoodIn wsX5_set wsX5_spotOf := goodIn_r _ [21] (by decide +kernel) (by decide +kernel)
set_option maxRecDepth 20000 in
theorem gX5_set_X5_spotOf : GoodIn wsX5_set (va_wsS RX5 58 yX5_spotOf wsX5_spotOf) := goodIn_app (goodIn_of _ (by decide +kernel)) ggX5_set_X5_spotOf
set_option maxRecDepth 20000 in
theorem ggX5_set_X5_becomes : GoodIn wsX5_set wsX5_becomes := goodIn_r _ [25, 18, 31, 32, 33, 34, 35, 36, 37, 38, 39, 40, 41, 42, 43, 44, 45, 46, 47] (by decide +kernel) (by decide +kernel)
set_option maxRecDepth 20000 in
theorem gX5_set_X5_becomes : GoodIn wsX5_set (wsV RX5 78 RX5 yX5_becomes wsX5_becomes) := goodIn_app (goodIn_of _ (by decide +kernel)) ggX5_set_X5_becomes
set_option maxRecDepth 20000 in
theorem ggX5_set_X5_finds : GoodIn wsX5_set wsX5_finds := goodIn_r _ [29, 30, 1, 31, 32, 33, 34, 35, 36, 37, 38, 39, 40, 41, 42, 43, 44, 45, 46, 47] (by decide +kernel) (by decide +kernel)
set_option maxRecDepth 20000 in
theorem gX5_set_X5_finds : GoodIn wsX5_set (wsV RX5 65 RX5 yX5_finds wsX5_finds) := goodIn_app (goodIn_of _ (by decide +kernel)) ggX5_set_X5_finds
set_option maxRecDepth 20000 in
theorem ggX5_turn_X5_isOne : GoodIn wsX5_turn wsX5_isOne := goodIn_r _ [6, 7, 8, 9, 5, 10, 27, 28, 29, 30, 31, 32, 33, 34, 35, 36, 37, 38, 39, 40, 41, 42, 43] (by decide +kernel) (by decide +kernel)
set_option maxRecDepth 20000 in
theorem gX5_turn_X5_isOne : GoodIn wsX5_turn (wsV RX5 54 RX5 yX5_isOne wsX5_isOne) := goodIn_app (goodIn_of _ (by decide +kernel)) ggX5_turn_X5_isOne
set_option maxRecDepth 20000 in
theorem ggX5_turn_X5_isKind : GoodIn wsX5_turn wsX5_isKind := goodIn_r _ [13, 14, 8, 9, 5, 10] (by decide +kernel) (by decide +kernel)
set_option maxRecDepth 20000 in
theorem gX5_turn_X5_isKind : GoodIn wsX5_turn (va_wsS RX5 107 yX5_isKind wsX5_isKind) := goodIn_app (goodIn_of _ (by decide +kernel)) ggX5_turn_X5_isKind
set_option maxRecDepth 20000 in
theorem ggX5_turn_X5_spotOf : GoodIn wsX5_turn wsX5_spotOf := goodIn_r _ [17] (by decide +kernel) (by decide +kernel)
set_option maxRecDepth 20000 in
theorem gX5_turn_X5_spotOf : GoodIn wsX5_turn (va_wsS RX5 58 yX5_spotOf wsX5_spotOf) := goodIn_app (goodIn_of _ (by decide +kernel)) ggX5_turn_X5_spotOf
