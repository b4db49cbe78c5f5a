set_option maxRecDepth 20000 in
theorem ggX0_has_X4_isBelow : GoodIn wsX0_has wsX4_isBelow := goodIn_r _ [4] (by decide +kernel) (by decide +kernel)
set_option maxRecDepth 20000 in
theorem gX0_has_X4_isBelow_n41 : GoodIn wsX0_has (wsX4_isBelow) := ggX0_has_X4_isBelow
set_option maxRecDepth 20000 in
theorem ggX0_booksOfAll_J6_bitCount_0f7a4 : GoodIn wsX0_booksOfAll wsJ6_bitCount_0f7a4 := goodIn_r _ [6, 7, 8, 9] (by decide +kernel) (by decide +kernel)
set_option maxRecDepth 20000 in
theorem gX0_booksOfAll_J6_bitCount_0f7a4 : GoodIn wsX0_booksOfAll (va_wsS RX0 45 yJ6_bitCount_0f7a4 wsJ6_bitCount_0f7a4) := goodIn_app (goodIn_of _ (by decide +kernel)) ggX0_booksOfAll_J6_bitCount_0f7a4
set_option maxRecDepth 20000 in
theorem ggX0_aimOf_X0_clock : GoodIn wsX0_aimOf wsX0_clock := goodIn_r _ [8, 9, 19, 20, 21, 22, 23, 24, 25, 26, 27] (by decide +kernel) (by decide +kernel)
set_option maxRecDepth 20000 in
theorem gX0_aimOf_X0_clock : GoodIn wsX0_aimOf (wsV RX0 51 RX0 yX0_clock wsX0_clock) := goodIn_app (goodIn_of _ (by decide +kernel)) ggX0_aimOf_X0_clock
set_option maxRecDepth 20000 in
theorem ggX0_aimOf_X0_aimOfLaw : GoodIn wsX0_aimOf wsX0_aimOfLaw := goodIn_r _ [13, 2, 19, 20, 21, 22, 23, 24, 25, 26, 27] (by decide +kernel) (by decide +kernel)
set_option maxRecDepth 20000 in
theorem gX0_aimOf_X0_aimOfLaw : GoodIn wsX0_aimOf (wsV RX0 55 RX0 yX0_aimOfLaw wsX0_aimOfLaw) := goodIn_app (goodIn_of _ (by decide +kernel)) ggX0_aimOf_X0_aimOfLaw
set_option maxRecDepth 20000 in
theorem ggX0_aimOf_X0_rainsAt : GoodIn wsX0_aimOf wsX0_rainsAt := goodIn_r _ [17, 18, 19, 20, 21, 22, 23, 24, 25, 26, 27] (by decide +kernel) (by decide +kernel)
set_option maxRecDepth 20000 in
theorem gX0_aimOf_X0_rainsAt : GoodIn wsX0_aimOf (wsV RX0 58 RX0 yX0_rainsAt wsX0_rainsAt) := goodIn_app (goodIn_of _ (by decide +kernel)) ggX0_aimOf_X0_rainsAt
set_option maxRecDepth 20000 in
theorem ggX0_paceOf_X0_clock : GoodIn wsX0_paceOf wsX0_clock := goodIn_r _ [6, 7, 8, 9, 10, 11, 12, 13, 14, 15, 16] (by decide +kernel) (by decide +kernel)
set_option maxRecDepth 20000 in
theorem gX0_paceOf_X0_clock : GoodIn wsX0_paceOf (wsV RX0 51 RX0 yX0_clock wsX0_clock) := goodIn_app (goodIn_of _ (by decide +kernel)) ggX0_paceOf_X0_clock
set_option maxRecDepth 20000 in
theorem ggX0_goHours_X0_goAnHour : GoodIn wsX0_goHours wsX0_goAnHour := goodIn_r _ [5, 6, 7, 8, 9, 10, 4, 11, 12, 13, 14, 15, 16, 17, 18, 19, 20, 21, 22, 23, 24, 25, 26, 27, 28, 29, 30, 31, 32, 33, 34, 35, 36, 37, 38, 39, 40, 41, 42, 43, 44, 45, 46, 47, 48, 49, 50, 51, 52, 53, 54, 55, 56, 57, 58, 59, 60, 61, 62, 63, 64, 65, 66, 67, 68, 69, 70, 71, 72, 73, 74] (by decide +kernel) (by decide +kernel)
set_option maxRecDepth 20000 in
theorem gX0_goHours_X0_goAnHour : GoodIn wsX0_goHours (wsV RX0 62 RX0 yX0_goAnHour wsX0_goAnHour) := goodIn_app (goodIn_of _ (by decide +kernel)) ggX0_goHours_X0_goAnHour
set_option maxRecDepth 20000 in
theorem ggX0_goAnHour_X0_walk : GoodIn wsX0_goAnHour wsX0_walk := goodIn_r _ [7, 8, 9, 10, 11, 12, 6, 13, 14, 15, 16, 17, 18, 19, 2, 20, 21, 22, 23, 24, 25, 26, 27, 28, 29, 30, 31, 32, 33, 34, 35, 36, 37, 38, 39, 40, 41, 62, 63, 64, 65, 66, 67, 68, 69, 70] (by decide +kernel) (by decide +kernel)
set_option maxRecDepth 20000 in
theorem gX0_goAnHour_X0_walk : GoodIn wsX0_goAnHour (wsV RX0 65 RX0 yX0_walk wsX0_walk) := goodIn_app (goodIn_of _ (by decide +kernel)) ggX0_goAnHour_X0_walk
set_option maxRecDepth 20000 in
theorem ggX0_goAnHour_X0_meetAll : GoodIn wsX0_goAnHour wsX0_meetAll := goodIn_r _ [45, 1, 9, 46, 47, 48, 6, 49, 50, 51, 52, 53, 54, 55, 56, 57, 58, 59, 60, 61, 62, 63, 64, 65, 66, 67, 68, 69, 70] (by decide +kernel) (by decide +kernel)
set_option maxRecDepth 20000 in
theorem gX0_goAnHour_X0_meetAll : GoodIn wsX0_goAnHour (wsV RX0 69 RX0 yX0_meetAll wsX0_meetAll) := goodIn_app (goodIn_of _ (by decide +kernel)) ggX0_goAnHour_X0_meetAll
set_option maxRecDepth 20000 in
theorem ggX0_goAlone_X0_walk : GoodIn wsX0_goAlone wsX0_walk := goodIn_r _ [6, 7, 8, 9, 10, 11, 5, 12, 13, 14, 15, 16, 17, 18, 1, 19, 20, 21, 22, 23, 24, 25, 26, 27, 28, 29, 30, 31, 32, 33, 34, 35, 36, 37, 38, 39, 40, 41, 42, 43, 44, 45, 46, 47, 48, 49] (by decide +kernel) (by decide +kernel)
set_option maxRecDepth 20000 in
theorem gX0_goAlone_X0_walk : GoodIn wsX0_goAlone (wsV RX0 65 RX0 yX0_walk wsX0_walk) := goodIn_app (goodIn_of _ (by decide +kernel)) ggX0_goAlone_X0_walk
set_option maxRecDepth 20000 in
theorem ggX0_walk_X0_aimOf : GoodIn wsX0_walk wsX0_aimOf := goodIn_r _ [7, 8, 9, 2, 10, 11, 12, 6, 13, 14, 15, 16, 17, 18, 19, 20, 21, 22, 23, 37, 38, 39, 40, 41, 42, 43, 44, 45] (by decide +kernel) (by decide +kernel)
set_option maxRecDepth 20000 in
theorem gX0_walk_X0_aimOf : GoodIn wsX0_walk (wsV RX0 72 RX0 yX0_aimOf wsX0_aimOf) := goodIn_app (goodIn_of _ (by decide +kernel)) ggX0_walk_X0_aimOf
set_option maxRecDepth 20000 in
theorem ggX0_walk_X0_paceOf : GoodIn wsX0_walk wsX0_paceOf := goodIn_r _ [27, 8, 10, 11, 12, 6, 13, 14, 37, 38, 39, 40, 41, 42, 43, 44, 45] (by decide +kernel) (by decide +kernel)
set_option maxRecDepth 20000 in
theorem gX0_walk_X0_paceOf : GoodIn wsX0_walk (wsV RX0 75 RX0 yX0_paceOf wsX0_paceOf) := goodIn_app (goodIn_of _ (by decide +kernel)) ggX0_walk_X0_paceOf
set_option maxRecDepth 20000 in
theorem ggX0_walk_X0_stepFrom : GoodIn wsX0_walk wsX0_stepFrom := goodIn_r _ [31, 32, 33, 34, 6, 35, 36, 37, 38, 39, 40, 41, 42, 43, 44, 45] (by decide +kernel) (by decide +kernel)
set_option maxRecDepth 20000 in
theorem gX0_walk_X0_stepFrom : GoodIn wsX0_walk (wsV RX0 78 RX0 yX0_stepFrom wsX0_stepFrom) := goodIn_app (goodIn_of _ (by decide +kernel)) ggX0_walk_X0_stepFrom
set_option maxRecDepth 20000 in
theorem ggX0_stepFrom_X0_isFenced : GoodIn wsX0_stepFrom wsX0_isFenced := goodIn_r _ [5, 6, 7, 8, 9, 10, 11, 12, 13, 14, 15] (by decide +kernel) (by decide +kernel)
set_option maxRecDepth 20000 in
theorem gX0_stepFrom_X0_isFenced : GoodIn wsX0_stepFrom (wsV RX0 82 RX0 yX0_isFenced wsX0_isFenced) := goodIn_app (goodIn_of _ (by decide +kernel)) ggX0_stepFrom_X0_isFenced
set_option maxRecDepth 20000 in
theorem ggX0_meetAll_X0_meetTwo : GoodIn wsX0_meetAll wsX0_meetTwo := goodIn_r _ [7, 8, 9, 10, 11, 12, 13, 14, 15, 16, 17, 18, 6, 19, 20, 21, 22, 23, 24, 25, 26, 27, 28] (by decide +kernel) (by decide +kernel)
set_option maxRecDepth 20000 in
theorem gX0_meetAll_X0_meetTwo : GoodIn wsX0_meetAll (wsV RX0 85 RX0 yX0_meetTwo wsX0_meetTwo) := goodIn_app (goodIn_of _ (by decide +kernel)) ggX0_meetAll_X0_meetTwo
set_option maxRecDepth 20000 in
theorem ggX0_meetTwo_J6_bitCount_0f7a4 : GoodIn wsX0_meetTwo wsJ6_bitCount_0f7a4 := goodIn_r _ [5, 6, 7, 8] (by decide +kernel) (by decide +kernel)
set_option maxRecDepth 20000 in
theorem gX0_meetTwo_J6_bitCount_0f7a4 : GoodIn wsX0_meetTwo (va_wsS RX0 45 yJ6_bitCount_0f7a4 wsJ6_bitCount_0f7a4) := goodIn_app (goodIn_of _ (by decide +kernel)) ggX0_meetTwo_J6_bitCount_0f7a4
set_option maxRecDepth 20000 in
theorem ggX0_meetTwo_X0_handsOver : GoodIn wsX0_meetTwo wsX0_handsOver := goodIn_r _ [13, 1, 14, 15, 16, 17, 18, 19, 20, 21, 22] (by decide +kernel) (by decide +kernel)
set_option maxRecDepth 20000 in
theorem gX0_meetTwo_X0_handsOver : GoodIn wsX0_meetTwo (wsV RX0 89 RX0 yX0_handsOver wsX0_handsOver) := goodIn_app (goodIn_of _ (by decide +kernel)) ggX0_meetTwo_X0_handsOver
set_option maxRecDepth 20000 in
theorem ggX0_hoursTill_X0_goAlone : GoodIn wsX0_hoursTill wsX0_goAlone := goodIn_r _ [6, 7, 8, 9, 10, 5, 11, 12, 1, 13, 14, 15, 16, 17, 18, 19, 20, 21, 22, 23, 24, 25, 26, 27, 28, 29, 30, 31, 32, 33, 34, 35, 36, 37, 38, 39, 40, 41, 42, 43, 44, 45, 46, 47, 48, 49, 50, 51, 52, 53] (by decide +kernel) (by decide +kernel)
set_option maxRecDepth 20000 in
theorem gX0_hoursTill_X0_goAlone : GoodIn wsX0_hoursTill (wsV RX0 93 RX0 yX0_goAlone wsX0_goAlone) := goodIn_app (goodIn_of _ (by decide +kernel)) ggX0_hoursTill_X0_goAlone
set_option maxRecDepth 20000 in
theorem ggX0_hoursTillTogether_X0_goAnHour : GoodIn wsX0_hoursTillTogether wsX0_goAnHour := goodIn_r _ [6, 7, 8, 9, 10, 11, 5, 12, 13, 1, 14, 15, 16, 17, 18, 19, 20, 21, 22, 23, 24, 25, 26, 27, 28, 29, 30, 31, 32, 33, 34, 35, 36, 37, 38, 39, 40, 41, 42, 43, 44, 45, 46, 47, 48, 49, 50, 51, 52, 53, 54, 55, 56, 57, 58, 59, 60, 61, 62, 63, 64, 65, 66, 67, 68, 69, 70, 71, 72, 73, 74] (by decide +kernel) (by decide +kernel)
set_option maxRecDepth 20000 in
theorem gX0_hoursTillTogether_X0_goAnHour : GoodIn wsX0_hoursTillTogether (wsV RX0 62 RX0 yX0_goAnHour wsX0_goAnHour) := goodIn_app (goodIn_of _ (by decide +kernel)) ggX0_hoursTillTogether_X0_goAnHour
set_option maxRecDepth 20000 in
theorem ggX0_goesAsIn_X0_goAlone : GoodIn wsX0_goesAsIn wsX0_goAlone := goodIn_r _ [6, 7, 8, 9, 10, 5, 11, 12, 1, 13, 14, 15, 16, 17, 18, 19, 20, 21, 22, 23, 24, 25, 26, 27, 28, 29, 30, 31, 32, 33, 34, 35, 36, 37, 38, 39, 40, 41, 42, 43, 44, 48, 49, 50, 51, 52, 53, 54, 55, 56] (by decide +kernel) (by decide +kernel)
set_option maxRecDepth 20000 in
theorem gX0_goesAsIn_X0_goAlone : GoodIn wsX0_goesAsIn (wsV RX0 93 RX0 yX0_goAlone wsX0_goAlone) := goodIn_app (goodIn_of _ (by decide +kernel)) ggX0_goesAsIn_X0_goAlone
set_option maxRecDepth 20000 in
theorem ggX1_init_X0_init : GoodIn wsX1_init wsX0_init := goodIn_r _ [9, 10, 2, 3, 11, 12, 13, 14, 15, 16, 17, 18, 19, 20, 21, 22, 23, 24, 25, 26] (by decide +kernel) (by decide +kernel)
set_option maxRecDepth 20000 in
theorem gX1_init_X0_init_n11 : GoodIn wsX1_init (wsX0_init) := ggX1_init_X0_init
set_option maxRecDepth 20000 in
theorem ggX1_goesFrom_X0_becomes : GoodIn wsX1_goesFrom wsX0_becomes := goodIn_r _ [8, 9, 10, 11, 12, 13, 14, 15, 16, 17, 22, 23, 24, 25, 26, 27, 28, 29, 30] (by decide +kernel) (by decide +kernel)
set_option maxRecDepth 20000 in
theorem gX1_goesFrom_X0_becomes : GoodIn wsX1_goesFrom (wsV RX1 18 RX0 yX0_becomes wsX0_becomes) := goodIn_app (goodIn_of _ (by decide +kernel)) ggX1_goesFrom_X0_becomes
set_option maxRecDepth 20000 in
theorem ggX1_staysInOneOf_X0_becomes : GoodIn wsX1_staysInOneOf wsX0_becomes := goodIn_r _ [8, 9, 10, 11, 12, 13, 14, 15, 16, 17, 22, 23, 24, 25, 26, 27, 28, 29, 30] (by decide +kernel) (by decide +kernel)
set_option maxRecDepth 20000 in
theorem gX1_staysInOneOf_X0_becomes : GoodIn wsX1_staysInOneOf (wsV RX1 18 RX0 yX0_becomes wsX0_becomes) := goodIn_app (goodIn_of _ (by decide +kernel)) ggX1_staysInOneOf_X0_becomes
set_option maxRecDepth 20000 in
theorem ggX1_seek_X1_cellsWith : GoodIn wsX1_seek wsX1_cellsWith := goodIn_r _ [8, 3, 9, 10, 11, 12, 13, 14, 15, 16, 17, 18, 19, 20, 90, 91, 92, 93, 94, 95, 96, 97, 98, 99, 100, 101, 102] (by decide +kernel) (by decide +kernel)
set_option maxRecDepth 20000 in
theorem gX1_seek_X1_cellsWith : GoodIn wsX1_seek (wsV RX1 30 RX1 yX1_cellsWith wsX1_cellsWith) := goodIn_app (goodIn_of _ (by decide +kernel)) ggX1_seek_X1_cellsWith
set_option maxRecDepth 20000 in
theorem ggX1_seek_X0_goAnHour : GoodIn wsX1_seek wsX0_goAnHour := goodIn_r _ [24, 14, 25, 26, 27, 28, 12, 29, 30, 20, 31, 32, 33, 34, 35, 36, 37, 38, 39, 40, 41, 42, 43, 44, 45, 46, 47, 48, 49, 50, 51, 52, 53, 54, 55, 56, 57, 58, 59, 60, 61, 62, 63, 64, 65, 66, 67, 68, 69, 70, 15, 71, 72, 73, 74, 75, 76, 77, 78, 79, 80, 81, 94, 95, 96, 97, 98, 99, 100, 101, 102] (by decide +kernel) (by decide +kernel)
set_option maxRecDepth 20000 in
theorem gX1_seek_X0_goAnHour : GoodIn wsX1_seek (wsV RX1 37 RX0 yX0_goAnHour wsX0_goAnHour) := goodIn_app (goodIn_of _ (by decide +kernel)) ggX1_seek_X0_goAnHour
set_option maxRecDepth 20000 in
theorem ggX1_seek_X1_onwards : GoodIn wsX1_seek wsX1_onwards := goodIn_r _ [85, 86, 87, 88, 89, 3, 90, 91, 92, 93, 94, 95, 96, 97, 98, 99, 100, 101, 102] (by decide +kernel) (by decide +kernel)
set_option maxRecDepth 20000 in
theorem gX1_seek_X1_onwards : GoodIn wsX1_seek (wsV RX1 40 RX1 yX1_onwards wsX1_onwards) := goodIn_app (goodIn_of _ (by decide +kernel)) ggX1_seek_X1_onwards
set_option maxRecDepth 20000 in
theorem ggX1_seekTwo_X1_cellsWith : GoodIn wsX1_seekTwo wsX1_cellsWith := goodIn_r _ [7, 2, 8, 9, 10, 11, 12, 13, 14, 15, 16, 17, 18, 19, 89, 90, 91, 92, 93, 94, 95, 96, 97, 98, 99, 100, 101] (by decide +kernel) (by decide +kernel)
set_option maxRecDepth 20000 in
theorem gX1_seekTwo_X1_cellsWith : GoodIn wsX1_seekTwo (wsV RX1 30 RX1 yX1_cellsWith wsX1_cellsWith) := goodIn_app (goodIn_of _ (by decide +kernel)) ggX1_seekTwo_X1_cellsWith
set_option maxRecDepth 20000 in
theorem ggX1_seekTwo_X1_onwards : GoodIn wsX1_seekTwo wsX1_onwards := goodIn_r _ [23, 24, 25, 26, 27, 2, 89, 90, 91, 92, 93, 94, 95, 96, 97, 98, 99, 100, 101] (by decide +kernel) (by decide +kernel)
set_option maxRecDepth 20000 in
theorem gX1_seekTwo_X1_onwards : GoodIn wsX1_seekTwo (wsV RX1 40 RX1 yX1_onwards wsX1_onwards) := goodIn_app (goodIn_of _ (by decide +kernel)) ggX1_seekTwo_X1_onwards
set_option maxRecDepth 20000 in
theorem ggX1_seekTwo_X0_goAnHour : GoodIn wsX1_seekTwo wsX0_goAnHour := goodIn_r _ [31, 13, 32, 33, 34, 35, 11, 36, 37, 19, 38, 39, 40, 41, 42, 43, 44, 45, 46, 47, 48, 49, 50, 51, 52, 53, 54, 55, 56, 57, 58, 59, 60, 61, 62, 63, 64, 65, 66, 67, 68, 69, 70, 71, 72, 73, 74, 75, 76, 77, 14, 78, 79, 80, 81, 82, 83, 84, 85, 86, 87, 88, 93, 94, 95, 96, 97, 98, 99, 100, 101] (by decide +kernel) (by decide +kernel)
set_option maxRecDepth 20000 in
theorem gX1_seekTwo_X0_goAnHour : GoodIn wsX1_seekTwo (wsV RX1 37 RX0 yX0_goAnHour wsX0_goAnHour) := goodIn_app (goodIn_of _ (by decide +kernel)) ggX1_seekTwo_X0_goAnHour
set_option maxRecDepth 20000 in
theorem ggX1_subjectsWithin_X0_subjectsIn : GoodIn wsX1_subjectsWithin wsX0_subjectsIn := goodIn_r _ [7, 8, 9, 10, 85, 86, 87, 88, 89, 90, 91, 92, 93] (by decide +kernel) (by decide +kernel)
set_option maxRecDepth 20000 in
theorem gX1_subjectsWithin_X0_subjectsIn : GoodIn wsX1_subjectsWithin (wsV RX1 43 RX0 yX0_subjectsIn wsX0_subjectsIn) := goodIn_app (goodIn_of _ (by decide +kernel)) ggX1_subjectsWithin_X0_subjectsIn
set_option maxRecDepth 20000 in
theorem ggX1_subjectsWithin_X0_goAnHour : GoodIn wsX1_subjectsWithin wsX0_goAnHour := goodIn_r _ [14, 8, 15, 16, 17, 18, 6, 19, 20, 9, 21, 22, 23, 24, 25, 26, 27, 28, 29, 30, 31, 32, 33, 34, 35, 36, 37, 38, 39, 40, 41, 42, 43, 44, 45, 46, 47, 48, 49, 50, 51, 52, 53, 54, 55, 56, 57, 58, 59, 60, 10, 61, 62, 63, 64, 65, 66, 67, 68, 69, 70, 71, 85, 86, 87, 88, 89, 90, 91, 92, 93] (by decide +kernel) (by decide +kernel)
set_option maxRecDepth 20000 in
theorem gX1_subjectsWithin_X0_goAnHour : GoodIn wsX1_subjectsWithin (wsV RX1 37 RX0 yX0_goAnHour wsX0_goAnHour) := goodIn_app (goodIn_of _ (by decide +kernel)) ggX1_subjectsWithin_X0_goAnHour
set_option maxRecDepth 20000 in
theorem ggX1_subjectsWithin_X1_onwards : GoodIn wsX1_subjectsWithin wsX1_onwards := goodIn_r _ [76, 77, 78, 79, 80, 1, 81, 82, 83, 84, 85, 86, 87, 88, 89, 90, 91, 92, 93] (by decide +kernel) (by decide +kernel)
set_option maxRecDepth 20000 in
theorem gX1_subjectsWithin_X1_onwards : GoodIn wsX1_subjectsWithin (wsV RX1 40 RX1 yX1_onwards wsX1_onwards) := goodIn_app (goodIn_of _ (by decide +kernel)) ggX1_subjectsWithin_X1_onwards
set_option maxRecDepth 20000 in
theorem ggX1_cellsWith_X0_tortoisesWith : GoodIn wsX1_cellsWith wsX0_tortoisesWith := goodIn_r _ [6, 7, 8, 18, 19, 20, 21, 22, 23, 24, 25, 26] (by decide +kernel) (by decide +kernel)
set_option maxRecDepth 20000 in
theorem gX1_cellsWith_X0_tortoisesWith : GoodIn wsX1_cellsWith (wsV RX1 46 RX0 yX0_tortoisesWith wsX0_tortoisesWith) := goodIn_app (goodIn_of _ (by decide +kernel)) ggX1_cellsWith_X0_tortoisesWith
set_option maxRecDepth 20000 in
theorem ggX1_cellsWith_X0_cellsOf : GoodIn wsX1_cellsWith wsX0_cellsOf := goodIn_r _ [12, 7, 13, 18, 19, 20, 21, 22, 23, 24, 25, 26] (by decide +kernel) (by decide +kernel)
set_option maxRecDepth 20000 in
theorem gX1_cellsWith_X0_cellsOf : GoodIn wsX1_cellsWith (wsV RX1 49 RX0 yX0_cellsOf wsX0_cellsOf) := goodIn_app (goodIn_of _ (by decide +kernel)) ggX1_cellsWith_X0_cellsOf
set_option maxRecDepth 20000 in
theorem ggX3_tellsTo_X3_nextToken : GoodIn wsX3_tellsTo wsX3_nextToken := goodIn_r _ [8, 1, 9, 10, 3, 2, 11, 12, 13, 14, 15, 16, 17, 7, 18, 19, 20, 21, 126, 127, 128, 129, 130, 131, 132] (by decide +kernel) (by decide +kernel)
set_option maxRecDepth 20000 in
theorem gX3_tellsTo_X3_nextToken : GoodIn wsX3_tellsTo (wsV RX3 22 RX3 yX3_nextToken wsX3_nextToken) := goodIn_app (goodIn_of _ (by decide +kernel)) ggX3_tellsTo_X3_nextToken
set_option maxRecDepth 20000 in
theorem ggX3_tellsTo_X3_tellsItem : GoodIn wsX3_tellsTo wsX3_tellsItem := goodIn_r _ [25, 2, 26, 27, 28, 7, 29, 30, 31, 32, 33, 34, 35, 36, 1, 3, 10, 37, 38, 39, 40, 41, 42, 43, 44, 45, 46, 47, 48, 49, 50, 51, 52, 53, 54, 55, 56, 57, 58, 59, 60, 61, 62, 63, 64, 65, 66, 67, 68, 69, 70, 71, 72, 73, 74, 75, 76, 77, 78, 79, 80, 81, 82, 83, 84, 85, 86, 87, 88, 89, 90, 91, 92, 93, 94, 95, 96, 4, 5, 6, 8, 9, 11, 12, 13, 14, 15, 16, 17, 18, 19, 20, 21, 97, 98, 99, 100, 101, 102, 103, 104, 105, 106, 107, 108, 109, 110, 111, 112, 113, 114, 115, 116, 117, 118, 119, 120, 121, 122, 123, 124, 125, 126, 127, 128, 129, 130, 131, 132, 133, 134, 135, 136, 137, 138, 139, 140, 141] (by decide +kernel) (by decide +kernel)
set_option maxRecDepth 20000 in
theorem gX3_tellsTo_X3_tellsItem : GoodIn wsX3_tellsTo (wsV RX3 25 RX3 yX3_tellsItem wsX3_tellsItem) := goodIn_app (goodIn_of _ (by decide +kernel)) ggX3_tellsTo_X3_tellsItem
set_option maxRecDepth 20000 in
theorem ggX3_tellsItem_X3_kindTold : GoodIn wsX3_tellsItem wsX3_kindTold := goodIn_r _ [6, 7, 8, 5, 9, 10, 11, 12, 13, 1, 14, 15, 16, 17, 18, 19, 20, 21, 22, 23, 24, 25, 26, 27, 28, 29, 30, 31, 32, 33, 34, 35, 36, 37, 38, 39, 40, 41, 42, 43, 44, 45, 46, 47, 48, 49, 50, 51, 52, 53, 54, 55, 56, 57, 58, 59, 60, 61, 62, 63, 64, 65, 122, 123, 124, 125, 126, 127, 128] (by decide +kernel) (by decide +kernel)
set_option maxRecDepth 20000 in
theorem gX3_tellsItem_X3_kindTold : GoodIn wsX3_tellsItem (wsV RX3 35 RX3 yX3_kindTold wsX3_kindTold) := goodIn_app (goodIn_of _ (by decide +kernel)) ggX3_tellsItem_X3_kindTold
set_option maxRecDepth 20000 in
theorem ggX3_tellsItem_X3_tellsTortoise : GoodIn wsX3_tellsItem wsX3_tellsTortoise := goodIn_r _ [69, 70, 1, 71, 72, 73, 74, 75, 76, 77, 78, 79, 5, 80, 14, 81, 16, 15, 82, 83, 84, 85, 86, 87, 88, 89, 90, 91, 92, 10, 11, 12, 13, 17, 18, 19, 20, 21, 22, 23, 24, 25, 26, 27, 28, 29, 30, 31, 32, 33, 34, 35, 36, 37, 38, 39, 40, 41, 42, 43, 44, 45, 46, 47, 48, 49, 50, 51, 52, 53, 54, 55, 56, 57, 58, 59, 60, 61, 62, 63, 64, 65, 93, 94, 95, 96, 97, 98, 99, 100, 101, 102, 103, 104, 122, 123, 124, 125, 126, 127, 128, 129, 130, 131, 132, 133, 134, 135, 136, 137] (by decide +kernel) (by decide +kernel)
set_option maxRecDepth 20000 in
theorem gX3_tellsItem_X3_tellsTortoise : GoodIn wsX3_tellsItem (wsV RX3 39 RX3 yX3_tellsTortoise wsX3_tellsTortoise) := goodIn_app (goodIn_of _ (by decide +kernel)) ggX3_tellsItem_X3_tellsTortoise
set_option maxRecDepth 20000 in
theorem ggX3_tellsItem_X3_isWord : GoodIn wsX3_tellsItem wsX3_isWord := goodIn_r _ [13, 1, 14, 15, 16, 17, 18, 19, 20, 21, 22, 23, 24, 25, 26, 27, 28, 29, 30, 31, 32, 33, 34, 35, 36, 37, 38, 39, 40, 41, 42, 43, 44, 45, 46, 47, 48, 49, 50, 51, 52, 53, 54, 55, 56, 57, 58, 59, 60, 61, 62, 63, 64, 65, 122, 123, 124, 125, 126, 127, 128] (by decide +kernel) (by decide +kernel)
set_option maxRecDepth 20000 in
theorem gX3_tellsItem_X3_isWord : GoodIn wsX3_tellsItem (wsV RX3 45 RX3 yX3_isWord wsX3_isWord) := goodIn_app (goodIn_of _ (by decide +kernel)) ggX3_tellsItem_X3_isWord
set_option maxRecDepth 20000 in
theorem ggX3_tellsItem_X3_tellsFence : GoodIn wsX3_tellsItem wsX3_tellsFence := goodIn_r _ [108, 70, 77, 78, 79, 5, 80, 14, 81, 16, 15, 1, 82, 83, 84, 85, 86, 87, 88, 89, 90, 91, 92, 93, 94, 95, 96, 109, 110, 111, 74, 112, 113, 122, 123, 124, 125, 126, 127, 128, 129, 130, 131, 132, 133, 134, 135, 136, 137] (by decide +kernel) (by decide +kernel)
set_option maxRecDepth 20000 in
theorem gX3_tellsItem_X3_tellsFence : GoodIn wsX3_tellsItem (wsV RX3 49 RX3 yX3_tellsFence wsX3_tellsFence) := goodIn_app (goodIn_of _ (by decide +kernel)) ggX3_tellsItem_X3_tellsFence
set_option maxRecDepth 20000 in
theorem ggX3_tellsItem_X3_tellsRain : GoodIn wsX3_tellsItem wsX3_tellsRain := goodIn_r _ [117, 70, 77, 78, 79, 5, 80, 14, 81, 16, 15, 1, 82, 83, 84, 85, 86, 87, 88, 89, 90, 91, 92, 93, 94, 95, 96, 10, 11, 12, 13, 17, 18, 19, 20, 21, 22, 23, 24, 25, 26, 27, 28, 29, 30, 31, 32, 33, 34, 35, 36, 37, 38, 39, 40, 41, 42, 43, 44, 45, 46, 47, 48, 49, 50, 51, 52, 53, 54, 55, 56, 57, 58, 59, 60, 61, 62, 63, 64, 65, 122, 123, 124, 125, 126, 127, 128, 129, 130, 131, 132, 133, 134, 135, 136, 137] (by decide +kernel) (by decide +kernel)
set_option maxRecDepth 20000 in
theorem gX3_tellsItem_X3_tellsRain : GoodIn wsX3_tellsItem (wsV RX3 57 RX3 yX3_tellsRain wsX3_tellsRain) := goodIn_app (goodIn_of _ (by decide +kernel)) ggX3_tellsItem_X3_tellsRain
set_option maxRecDepth 20000 in
theorem ggX3_tellsItem_X3_tellsSpot : GoodIn wsX3_tellsItem wsX3_tellsSpot := goodIn_r _ [121, 70, 77, 78, 79, 5, 80, 14, 81, 16, 15, 1, 82, 83, 84, 85, 86, 87, 88, 89, 90, 91, 92, 93, 94, 95, 96, 129, 130, 131, 132, 133, 134, 135, 136, 137, 122, 123, 124, 125, 126, 127, 128] (by decide +kernel) (by decide +kernel)
set_option maxRecDepth 20000 in
theorem gX3_tellsItem_X3_tellsSpot : GoodIn wsX3_tellsItem (wsV RX3 62 RX3 yX3_tellsSpot wsX3_tellsSpot) := goodIn_app (goodIn_of _ (by decide +kernel)) ggX3_tellsItem_X3_tellsSpot
set_option maxRecDepth 20000 in
theorem ggX3_kindTold_X3_nameOf : GoodIn wsX3_kindTold wsX3_nameOf := goodIn_r _ [4] (by decide +kernel) (by decide +kernel)
set_option maxRecDepth 20000 in
theorem gX3_kindTold_X3_nameOf : GoodIn wsX3_kindTold (va_wsS RX3 69 yX3_nameOf wsX3_nameOf) := goodIn_app (goodIn_of _ (by decide +kernel)) ggX3_kindTold_X3_nameOf
set_option maxRecDepth 20000 in
theorem ggX3_kindTold_X3_isWord : GoodIn wsX3_kindTold wsX3_isWord := goodIn_r _ [8, 9, 10, 11, 12, 13, 14, 15, 16, 17, 18, 19, 20, 21, 22, 23, 24, 25, 26, 27, 28, 29, 30, 31, 32, 33, 34, 35, 36, 37, 38, 39, 40, 41, 42, 43, 44, 45, 46, 47, 48, 49, 50, 51, 52, 53, 54, 55, 56, 57, 58, 59, 60, 61, 62, 63, 64, 65, 66, 67, 68] (by decide +kernel) (by decide +kernel)
set_option maxRecDepth 20000 in
theorem gX3_kindTold_X3_isWord : GoodIn wsX3_kindTold (wsV RX3 45 RX3 yX3_isWord wsX3_isWord) := goodIn_app (goodIn_of _ (by decide +kernel)) ggX3_kindTold_X3_isWord
set_option maxRecDepth 20000 in
theorem ggX3_tellsTortoise_X0_isFull : GoodIn wsX3_tellsTortoise wsX0_isFull := goodIn_r _ [7, 8, 101, 102, 103, 104, 105, 106, 107, 108, 109] (by decide +kernel) (by decide +kernel)
set_option maxRecDepth 20000 in
theorem gX3_tellsTortoise_X0_isFull : GoodIn wsX3_tellsTortoise (wsV RX3 85 RX0 yX0_isFull wsX0_isFull) := goodIn_app (goodIn_of _ (by decide +kernel)) ggX3_tellsTortoise_X0_isFull
set_option maxRecDepth 20000 in
theorem ggX3_tellsTortoise_X3_nextToken : GoodIn wsX3_tellsTortoise wsX3_nextToken := goodIn_r _ [13, 14, 15, 16, 17, 2, 18, 19, 20, 21, 22, 23, 24, 12, 25, 26, 27, 28, 94, 95, 96, 97, 98, 99, 100] (by decide +kernel) (by decide +kernel)
set_option maxRecDepth 20000 in
theorem gX3_tellsTortoise_X3_nextToken : GoodIn wsX3_tellsTortoise (wsV RX3 22 RX3 yX3_nextToken wsX3_nextToken) := goodIn_app (goodIn_of _ (by decide +kernel)) ggX3_tellsTortoise_X3_nextToken
set_option maxRecDepth 20000 in
theorem ggX3_tellsTortoise_X3_isWord : GoodIn wsX3_tellsTortoise wsX3_isWord := goodIn_r _ [32, 2, 14, 17, 16, 33, 34, 35, 36, 37, 38, 39, 40, 41, 42, 43, 44, 45, 46, 47, 48, 49, 50, 51, 52, 53, 54, 55, 56, 57, 58, 59, 60, 61, 62, 63, 64, 65, 66, 67, 68, 69, 70, 71, 72, 73, 74, 75, 76, 77, 78, 79, 80, 81, 94, 95, 96, 97, 98, 99, 100] (by decide +kernel) (by decide +kernel)
set_option maxRecDepth 20000 in
theorem gX3_tellsTortoise_X3_isWord : GoodIn wsX3_tellsTortoise (wsV RX3 45 RX3 yX3_isWord wsX3_isWord) := goodIn_app (goodIn_of _ (by decide +kernel)) ggX3_tellsTortoise_X3_isWord
set_option maxRecDepth 20000 in
theorem ggX3_tellsTortoise_X3_takesNumber : GoodIn wsX3_tellsTortoise wsX3_takesNumber := goodIn_r _ [85, 2, 18, 1, 9, 10, 11, 12, 13, 14, 15, 16, 17, 19, 20, 21, 22, 23, 24, 25, 26, 27, 28, 94, 95, 96, 97, 98, 99, 100] (by decide +kernel) (by decide +kernel)
set_option maxRecDepth 20000 in
theorem gX3_tellsTortoise_X3_takesNumber : GoodIn wsX3_tellsTortoise (wsV RX3 93 RX3 yX3_takesNumber wsX3_takesNumber) := goodIn_app (goodIn_of _ (by decide +kernel)) ggX3_tellsTortoise_X3_takesNumber
set_option maxRecDepth 20000 in
theorem ggX3_tellsTortoise_X0_comes : GoodIn wsX3_tellsTortoise wsX0_comes := goodIn_r _ [89, 8, 90, 91, 92, 93, 101, 102, 103, 104, 105, 106, 107, 108, 109] (by decide +kernel) (by decide +kernel)
set_option maxRecDepth 20000 in
theorem gX3_tellsTortoise_X0_comes : GoodIn wsX3_tellsTortoise (wsV RX3 100 RX0 yX0_comes wsX0_comes) := goodIn_app (goodIn_of _ (by decide +kernel)) ggX3_tellsTortoise_X0_comes
set_option maxRecDepth 20000 in
theorem ggX3_tellsFence_X3_nextToken : GoodIn wsX3_tellsFence wsX3_nextToken := goodIn_r _ [6, 7, 8, 9, 10, 11, 12, 13, 14, 15, 16, 17, 18, 5, 19, 20, 21, 22, 33, 34, 35, 36, 37, 38, 39] (by decide +kernel) (by decide +kernel)
set_option maxRecDepth 20000 in
theorem gX3_tellsFence_X3_nextToken : GoodIn wsX3_tellsFence (wsV RX3 22 RX3 yX3_nextToken wsX3_nextToken) := goodIn_app (goodIn_of _ (by decide +kernel)) ggX3_tellsFence_X3_nextToken
set_option maxRecDepth 20000 in
theorem ggX3_tellsFence_X3_takesNumber : GoodIn wsX3_tellsFence wsX3_takesNumber := goodIn_r _ [26, 11, 12, 1, 2, 3, 4, 5, 6, 7, 8, 9, 10, 13, 14, 15, 16, 17, 18, 19, 20, 21, 22, 33, 34, 35, 36, 37, 38, 39] (by decide +kernel) (by decide +kernel)
set_option maxRecDepth 20000 in
theorem gX3_tellsFence_X3_takesNumber : GoodIn wsX3_tellsFence (wsV RX3 93 RX3 yX3_takesNumber wsX3_takesNumber) := goodIn_app (goodIn_of _ (by decide +kernel)) ggX3_tellsFence_X3_takesNumber
set_option maxRecDepth 20000 in
theorem ggX3_tellsFence_X0_fences : GoodIn wsX3_tellsFence wsX0_fences := goodIn_r _ [31, 32, 40, 41, 42, 43, 44, 45, 46, 47, 48] (by decide +kernel) (by decide +kernel)
set_option maxRecDepth 20000 in
theorem gX3_tellsFence_X0_fences : GoodIn wsX3_tellsFence (wsV RX3 104 RX0 yX0_fences wsX0_fences) := goodIn_app (goodIn_of _ (by decide +kernel)) ggX3_tellsFence_X0_fences
set_option maxRecDepth 20000 in
theorem ggX3_tellsRain_X3_nextToken : GoodIn wsX3_tellsRain wsX3_nextToken := goodIn_r _ [6, 7, 8, 9, 10, 11, 12, 13, 14, 15, 16, 17, 18, 5, 19, 20, 21, 22, 80, 81, 82, 83, 84, 85, 86] (by decide +kernel) (by decide +kernel)
set_option maxRecDepth 20000 in
theorem gX3_tellsRain_X3_nextToken : GoodIn wsX3_tellsRain (wsV RX3 22 RX3 yX3_nextToken wsX3_nextToken) := goodIn_app (goodIn_of _ (by decide +kernel)) ggX3_tellsRain_X3_nextToken
set_option maxRecDepth 20000 in
theorem ggX3_tellsRain_X3_takesNumber : GoodIn wsX3_tellsRain wsX3_takesNumber := goodIn_r _ [26, 11, 12, 1, 2, 3, 4, 5, 6, 7, 8, 9, 10, 13, 14, 15, 16, 17, 18, 19, 20, 21, 22, 80, 81, 82, 83, 84, 85, 86] (by decide +kernel) (by decide +kernel)
set_option maxRecDepth 20000 in
theorem gX3_tellsRain_X3_takesNumber : GoodIn wsX3_tellsRain (wsV RX3 93 RX3 yX3_takesNumber wsX3_takesNumber) := goodIn_app (goodIn_of _ (by decide +kernel)) ggX3_tellsRain_X3_takesNumber
set_option maxRecDepth 20000 in
theorem ggX3_tellsRain_X3_isWord : GoodIn wsX3_tellsRain wsX3_isWord := goodIn_r _ [30, 11, 7, 10, 9, 31, 32, 33, 34, 35, 36, 37, 38, 39, 40, 41, 42, 43, 44, 45, 46, 47, 48, 49, 50, 51, 52, 53, 54, 55, 56, 57, 58, 59, 60, 61, 62, 63, 64, 65, 66, 67, 68, 69, 70, 71, 72, 73, 74, 75, 76, 77, 78, 79, 80, 81, 82, 83, 84, 85, 86] (by decide +kernel) (by decide +kernel)
set_option maxRecDepth 20000 in
theorem gX3_tellsRain_X3_isWord : GoodIn wsX3_tellsRain (wsV RX3 45 RX3 yX3_isWord wsX3_isWord) := goodIn_app (goodIn_of _ (by decide +kernel)) ggX3_tellsRain_X3_isWord
set_option maxRecDepth 20000 in
theorem ggX3_tellsSpot_X3_nextToken : GoodIn wsX3_tellsSpot wsX3_nextToken := goodIn_r _ [6, 7, 8, 9, 10, 11, 12, 13, 14, 15, 16, 17, 18, 5, 19, 20, 21, 22, 36, 37, 38, 39, 40, 41, 42] (by decide +kernel) (by decide +kernel)
set_option maxRecDepth 20000 in
theorem gX3_tellsSpot_X3_nextToken : GoodIn wsX3_tellsSpot (wsV RX3 22 RX3 yX3_nextToken wsX3_nextToken) := goodIn_app (goodIn_of _ (by decide +kernel)) ggX3_tellsSpot_X3_nextToken
set_option maxRecDepth 20000 in
theorem ggX3_tellsSpot_X3_takesNumber : GoodIn wsX3_tellsSpot wsX3_takesNumber := goodIn_r _ [26, 11, 12, 1, 2, 3, 4, 5, 6, 7, 8, 9, 10, 13, 14, 15, 16, 17, 18, 19, 20, 21, 22, 36, 37, 38, 39, 40, 41, 42] (by decide +kernel) (by decide +kernel)
set_option maxRecDepth 20000 in
theorem gX3_tellsSpot_X3_takesNumber : GoodIn wsX3_tellsSpot (wsV RX3 93 RX3 yX3_takesNumber wsX3_takesNumber) := goodIn_app (goodIn_of _ (by decide +kernel)) ggX3_tellsSpot_X3_takesNumber
set_option maxRecDepth 20000 in
theorem ggX3_takesNumber_X3_nextToken : GoodIn wsX3_takesNumber wsX3_nextToken := goodIn_r _ [8, 9, 10, 11, 12, 1, 2, 13, 14, 15, 16, 17, 18, 7, 19, 20, 21, 22, 23, 24, 25, 26, 27, 28, 29] (by decide +kernel) (by decide +kernel)
set_option maxRecDepth 20000 in
theorem gX3_takesNumber_X3_nextToken : GoodIn wsX3_takesNumber (wsV RX3 22 RX3 yX3_nextToken wsX3_nextToken) := goodIn_app (goodIn_of _ (by decide +kernel)) ggX3_takesNumber_X3_nextToken
set_option maxRecDepth 20000 in
theorem ggX3_isWord_J0_length_8abf5 : GoodIn wsX3_isWord wsJ0_length_8abf5 := goodIn_r _ [9, 10, 11, 12, 13, 8, 14, 15, 16] (by decide +kernel) (by decide +kernel)
set_option maxRecDepth 20000 in
theorem gX3_isWord_J0_length_8abf5 : GoodIn wsX3_isWord (wsV RX3 119 RJ0 yJ0_length_8abf5 wsJ0_length_8abf5) := goodIn_app (goodIn_of _ (by decide +kernel)) ggX3_isWord_J0_length_8abf5
set_option maxRecDepth 20000 in
theorem ggX3_isWord_J0_charAt_5068e : GoodIn wsX3_isWord wsJ0_charAt_5068e := goodIn_r _ [20, 10, 21, 22, 23, 8, 24, 15, 16, 25, 26, 27, 28, 29, 30, 31, 32, 33, 34, 35, 36, 37, 38, 39, 40, 41, 42, 43, 44, 45, 46, 47, 48, 49, 50, 51, 52, 53] (by decide +kernel) (by decide +kernel)
set_option maxRecDepth 20000 in
theorem gX3_isWord_J0_charAt_5068e : GoodIn wsX3_isWord (wsV RX3 123 RJ0 yJ0_charAt_5068e wsJ0_charAt_5068e) := goodIn_app (goodIn_of _ (by decide +kernel)) ggX3_isWord_J0_charAt_5068e
set_option maxRecDepth 20000 in
theorem ggX3_nextToken_X3_isLetter : GoodIn wsX3_nextToken wsX3_isLetter := goodIn_r _ [14] (by decide +kernel) (by decide +kernel)
set_option maxRecDepth 20000 in
theorem gX3_nextToken_X3_isLetter : GoodIn wsX3_nextToken (va_wsS RX3 127 yX3_isLetter wsX3_isLetter) := goodIn_app (goodIn_of _ (by decide +kernel)) ggX3_nextToken_X3_isLetter
set_option maxRecDepth 20000 in
theorem ggX3_nextToken_X3_isDigit : GoodIn wsX3_nextToken wsX3_isDigit := goodIn_r _ [17] (by decide +kernel) (by decide +kernel)
set_option maxRecDepth 20000 in
theorem gX3_nextToken_X3_isDigit : GoodIn wsX3_nextToken (va_wsS RX3 131 yX3_isDigit wsX3_isDigit) := goodIn_app (goodIn_of _ (by decide +kernel)) ggX3_nextToken_X3_isDigit
set_option maxRecDepth 20000 in
theorem ggX4_init_X0_init : GoodIn wsX4_init wsX0_init := goodIn_r _ [26, 27, 2, 3, 22, 28, 29, 30, 31, 32, 33, 48, 49, 50, 51, 52, 53, 54, 55, 56] (by decide +kernel) (by decide +kernel)
set_option maxRecDepth 20000 in
theorem gX4_init_X0_init_n11 : GoodIn wsX4_init (wsX0_init) := ggX4_init_X0_init
set_option maxRecDepth 20000 in
theorem ggX4_init_X1_init : GoodIn wsX4_init wsX1_init := goodIn_r _ [35, 36, 2, 3, 37, 5, 6, 38, 25, 26, 27, 22, 28, 29, 30, 31, 32, 33, 48, 49, 50, 51, 52, 53, 54, 55, 56, 65, 66, 67, 68] (by decide +kernel) (by decide +kernel)
set_option maxRecDepth 20000 in
theorem gX4_init_X1_init_n24 : GoodIn wsX4_init (wsX1_init) := ggX4_init_X1_init
set_option maxRecDepth 20000 in
theorem ggX4_init_X3_init : GoodIn wsX4_init wsX3_init := goodIn_r _ [40, 41, 2, 3, 22, 42, 69, 70, 71, 72, 73, 74, 75] (by decide +kernel) (by decide +kernel)
set_option maxRecDepth 20000 in
theorem gX4_init_X3_init_n31 : GoodIn wsX4_init (wsX3_init) := ggX4_init_X3_init
set_option maxRecDepth 20000 in
theorem ggX4_init_X2_init : GoodIn wsX4_init wsX2_init := goodIn_r _ [44, 45, 2, 3, 46, 47, 76, 77, 78] (by decide +kernel) (by decide +kernel)
set_option maxRecDepth 20000 in
theorem gX4_init_X2_init_n42 : GoodIn wsX4_init (wsX2_init) := ggX4_init_X2_init
set_option maxRecDepth 20000 in
theorem ggX4_fence_X4_isCell : GoodIn wsX4_fence wsX4_isCell := goodIn_r _ [5, 6, 7, 4, 8] (by decide +kernel) (by decide +kernel)
set_option maxRecDepth 20000 in
theorem gX4_fence_X4_isCell : GoodIn wsX4_fence (va_wsS RX4 51 yX4_isCell wsX4_isCell) := goodIn_app (goodIn_of _ (by decide +kernel)) ggX4_fence_X4_isCell
set_option maxRecDepth 20000 in
theorem ggX4_fence_X4_isFlag : GoodIn wsX4_fence wsX4_isFlag := goodIn_r _ [11] (by decide +kernel) (by decide +kernel)
set_option maxRecDepth 20000 in
theorem gX4_fence_X4_isFlag : GoodIn wsX4_fence (va_wsS RX4 55 yX4_isFlag wsX4_isFlag) := goodIn_app (goodIn_of _ (by decide +kernel)) ggX4_fence_X4_isFlag
set_option maxRecDepth 20000 in
theorem ggX4_fence_X4_finding : GoodIn wsX4_fence wsX4_finding := goodIn_r _ [15, 16, 17, 28, 29, 30, 31, 32, 33, 34, 35] (by decide +kernel) (by decide +kernel)
set_option maxRecDepth 20000 in
theorem gX4_fence_X4_finding : GoodIn wsX4_fence (wsV RX4 58 RX4 yX4_finding wsX4_finding) := goodIn_app (goodIn_of _ (by decide +kernel)) ggX4_fence_X4_finding
set_option maxRecDepth 20000 in
theorem ggX4_fence_X0_isFenced : GoodIn wsX4_fence wsX0_isFenced := goodIn_r _ [22, 23, 36, 37, 38, 39, 40, 41, 42, 43, 44] (by decide +kernel) (by decide +kernel)
set_option maxRecDepth 20000 in
theorem gX4_fence_X0_isFenced : GoodIn wsX4_fence (wsV RX4 62 RX0 yX0_isFenced wsX0_isFenced) := goodIn_app (goodIn_of _ (by decide +kernel)) ggX4_fence_X0_isFenced
set_option maxRecDepth 20000 in
theorem ggX4_fence_X0_fences : GoodIn wsX4_fence wsX0_fences := goodIn_r _ [27, 23, 36, 37, 38, 39, 40, 41, 42, 43, 44] (by decide +kernel) (by decide +kernel)
set_option maxRecDepth 20000 in
theorem gX4_fence_X0_fences : GoodIn wsX4_fence (wsV RX4 65 RX0 yX0_fences wsX0_fences) := goodIn_app (goodIn_of _ (by decide +kernel)) ggX4_fence_X0_fences
set_option maxRecDepth 20000 in
theorem ggX4_spot_X4_isBelow : GoodIn wsX4_spot wsX4_isBelow := goodIn_r _ [5] (by decide +kernel) (by decide +kernel)
set_option maxRecDepth 20000 in
theorem gX4_spot_X4_isBelow : GoodIn wsX4_spot (va_wsS RX4 69 yX4_isBelow wsX4_isBelow) := goodIn_app (goodIn_of _ (by decide +kernel)) ggX4_spot_X4_isBelow
set_option maxRecDepth 20000 in
theorem ggX4_spot_X4_isCell : GoodIn wsX4_spot wsX4_isCell := goodIn_r _ [8, 2, 3, 4, 5] (by decide +kernel) (by decide +kernel)
set_option maxRecDepth 20000 in
theorem gX4_spot_X4_isCell : GoodIn wsX4_spot (va_wsS RX4 51 yX4_isCell wsX4_isCell) := goodIn_app (goodIn_of _ (by decide +kernel)) ggX4_spot_X4_isCell
set_option maxRecDepth 20000 in
theorem ggX4_spot_X4_finding : GoodIn wsX4_spot wsX4_finding := goodIn_r _ [12, 13, 14, 15, 16, 17, 18, 19, 20, 21, 22] (by decide +kernel) (by decide +kernel)
set_option maxRecDepth 20000 in
theorem gX4_spot_X4_finding : GoodIn wsX4_spot (wsV RX4 58 RX4 yX4_finding wsX4_finding) := goodIn_app (goodIn_of _ (by decide +kernel)) ggX4_spot_X4_finding
set_option maxRecDepth 20000 in
theorem ggX4_rain_X4_isSetOf : GoodIn wsX4_rain wsX4_isSetOf := goodIn_r _ [6] (by decide +kernel) (by decide +kernel)
set_option maxRecDepth 20000 in
theorem gX4_rain_X4_isSetOf : GoodIn wsX4_rain (va_wsS RX4 77 yX4_isSetOf wsX4_isSetOf) := goodIn_app (goodIn_of _ (by decide +kernel)) ggX4_rain_X4_isSetOf
set_option maxRecDepth 20000 in
theorem ggX4_rain_X4_finding : GoodIn wsX4_rain wsX4_finding := goodIn_r _ [10, 11, 12, 13, 14, 15, 16, 17, 18, 19, 20] (by decide +kernel) (by decide +kernel)
set_option maxRecDepth 20000 in
theorem gX4_rain_X4_finding : GoodIn wsX4_rain (wsV RX4 58 RX4 yX4_finding wsX4_finding) := goodIn_app (goodIn_of _ (by decide +kernel)) ggX4_rain_X4_finding
set_option maxRecDepth 20000 in
theorem ggX4_cell_X4_isCell : GoodIn wsX4_cell wsX4_isCell := goodIn_r _ [5, 6, 7, 4, 8] (by decide +kernel) (by decide +kernel)
set_option maxRecDepth 20000 in
theorem gX4_cell_X4_isCell : GoodIn wsX4_cell (va_wsS RX4 51 yX4_isCell wsX4_isCell) := goodIn_app (goodIn_of _ (by decide +kernel)) ggX4_cell_X4_isCell
set_option maxRecDepth 20000 in
theorem ggX4_cell_X4_finding : GoodIn wsX4_cell wsX4_finding := goodIn_r _ [12, 13, 14, 32, 33, 34, 35, 36, 37, 38, 39] (by decide +kernel) (by decide +kernel)
set_option maxRecDepth 20000 in
theorem gX4_cell_X4_finding : GoodIn wsX4_cell (wsV RX4 58 RX4 yX4_finding wsX4_finding) := goodIn_app (goodIn_of _ (by decide +kernel)) ggX4_cell_X4_finding
set_option maxRecDepth 20000 in
theorem ggX4_cell_X0_isFenced : GoodIn wsX4_cell wsX0_isFenced := goodIn_r _ [19, 20, 40, 41, 42, 43, 44, 45, 46, 47, 48] (by decide +kernel) (by decide +kernel)
set_option maxRecDepth 20000 in
theorem gX4_cell_X0_isFenced : GoodIn wsX4_cell (wsV RX4 62 RX0 yX0_isFenced wsX0_isFenced) := goodIn_app (goodIn_of _ (by decide +kernel)) ggX4_cell_X0_isFenced
set_option maxRecDepth 20000 in
theorem ggX4_cell_X0_tortoisesIn : GoodIn wsX4_cell wsX0_tortoisesIn := goodIn_r _ [24, 25, 26, 40, 41, 42, 43, 44, 45, 46, 47, 48] (by decide +kernel) (by decide +kernel)
set_option maxRecDepth 20000 in
theorem gX4_cell_X0_tortoisesIn : GoodIn wsX4_cell (wsV RX4 84 RX0 yX0_tortoisesIn wsX0_tortoisesIn) := goodIn_app (goodIn_of _ (by decide +kernel)) ggX4_cell_X0_tortoisesIn
set_option maxRecDepth 20000 in
theorem ggX4_cell_X0_subjectsIn : GoodIn wsX4_cell wsX0_subjectsIn := goodIn_r _ [30, 25, 26, 31, 40, 41, 42, 43, 44, 45, 46, 47, 48] (by decide +kernel) (by decide +kernel)
set_option maxRecDepth 20000 in
theorem gX4_cell_X0_subjectsIn : GoodIn wsX4_cell (wsV RX4 87 RX0 yX0_subjectsIn wsX0_subjectsIn) := goodIn_app (goodIn_of _ (by decide +kernel)) ggX4_cell_X0_subjectsIn
set_option maxRecDepth 20000 in
theorem ggX4_tortoise_X4_isKind : GoodIn wsX4_tortoise wsX4_isKind := goodIn_r _ [5, 6, 7, 4, 8] (by decide +kernel) (by decide +kernel)
set_option maxRecDepth 20000 in
theorem gX4_tortoise_X4_isKind : GoodIn wsX4_tortoise (va_wsS RX4 90 yX4_isKind wsX4_isKind) := goodIn_app (goodIn_of _ (by decide +kernel)) ggX4_tortoise_X4_isKind
set_option maxRecDepth 20000 in
theorem ggX4_tortoise_X4_isCell : GoodIn wsX4_tortoise wsX4_isCell := goodIn_r _ [11, 6, 7, 4, 8] (by decide +kernel) (by decide +kernel)
set_option maxRecDepth 20000 in
theorem gX4_tortoise_X4_isCell : GoodIn wsX4_tortoise (va_wsS RX4 51 yX4_isCell wsX4_isCell) := goodIn_app (goodIn_of _ (by decide +kernel)) ggX4_tortoise_X4_isCell
set_option maxRecDepth 20000 in
theorem ggX4_tortoise_X4_isSetOf : GoodIn wsX4_tortoise wsX4_isSetOf := goodIn_r _ [14] (by decide +kernel) (by decide +kernel)
set_option maxRecDepth 20000 in
theorem gX4_tortoise_X4_isSetOf : GoodIn wsX4_tortoise (va_wsS RX4 77 yX4_isSetOf wsX4_isSetOf) := goodIn_app (goodIn_of _ (by decide +kernel)) ggX4_tortoise_X4_isSetOf
set_option maxRecDepth 20000 in
theorem ggX4_tortoise_X4_finding : GoodIn wsX4_tortoise wsX4_finding := goodIn_r _ [18, 19, 20, 35, 36, 37, 38, 39, 40, 41, 42] (by decide +kernel) (by decide +kernel)
set_option maxRecDepth 20000 in
theorem gX4_tortoise_X4_finding : GoodIn wsX4_tortoise (wsV RX4 58 RX4 yX4_finding wsX4_finding) := goodIn_app (goodIn_of _ (by decide +kernel)) ggX4_tortoise_X4_finding
set_option maxRecDepth 20000 in
theorem ggX4_tortoise_X0_isFull : GoodIn wsX4_tortoise wsX0_isFull := goodIn_r _ [25, 26, 43, 44, 45, 46, 47, 48, 49, 50, 51] (by decide +kernel) (by decide +kernel)
set_option maxRecDepth 20000 in
theorem gX4_tortoise_X0_isFull : GoodIn wsX4_tortoise (wsV RX4 93 RX0 yX0_isFull wsX0_isFull) := goodIn_app (goodIn_of _ (by decide +kernel)) ggX4_tortoise_X0_isFull
set_option maxRecDepth 20000 in
theorem ggX4_tortoise_X0_comes : GoodIn wsX4_tortoise wsX0_comes := goodIn_r _ [30, 26, 31, 32, 33, 34, 43, 44, 45, 46, 47, 48, 49, 50, 51] (by decide +kernel) (by decide +kernel)
set_option maxRecDepth 20000 in
theorem gX4_tortoise_X0_comes : GoodIn wsX4_tortoise (wsV RX4 97 RX0 yX0_comes wsX0_comes) := goodIn_app (goodIn_of _ (by decide +kernel)) ggX4_tortoise_X0_comes
set_option maxRecDepth 20000 in
theorem ggX4_of_X0_has : GoodIn wsX4_of wsX0_has := goodIn_r _ [6, 7, 8, 9, 10, 50, 51, 52, 53, 54, 55, 56, 57, 58] (by decide +kernel) (by decide +kernel)
set_option maxRecDepth 20000 in
theorem gX4_of_X0_has : GoodIn wsX4_of (wsV RX4 101 RX0 yX0_has wsX0_has) := goodIn_app (goodIn_of _ (by decide +kernel)) ggX4_of_X0_has
set_option maxRecDepth 20000 in
theorem ggX4_of_X4_finding : GoodIn wsX4_of wsX4_finding := goodIn_r _ [14, 15, 16, 42, 43, 44, 45, 46, 47, 48, 49] (by decide +kernel) (by decide +kernel)
set_option maxRecDepth 20000 in
theorem gX4_of_X4_finding : GoodIn wsX4_of (wsV RX4 58 RX4 yX4_finding wsX4_finding) := goodIn_app (goodIn_of _ (by decide +kernel)) ggX4_of_X4_finding
set_option maxRecDepth 20000 in
theorem ggX4_of_X0_aimOf : GoodIn wsX4_of wsX0_aimOf := goodIn_r _ [20, 21, 22, 23, 24, 25, 26, 5, 27, 28, 29, 30, 31, 32, 33, 34, 35, 36, 37, 50, 51, 52, 53, 54, 55, 56, 57, 58] (by decide +kernel) (by decide +kernel)
set_option maxRecDepth 20000 in
theorem gX4_of_X0_aimOf : GoodIn wsX4_of (wsV RX4 117 RX0 yX0_aimOf wsX0_aimOf) := goodIn_app (goodIn_of _ (by decide +kernel)) ggX4_of_X0_aimOf
set_option maxRecDepth 20000 in
theorem ggX4_of_X0_paceOf : GoodIn wsX4_of wsX0_paceOf := goodIn_r _ [41, 21, 24, 25, 26, 5, 27, 28, 50, 51, 52, 53, 54, 55, 56, 57, 58] (by decide +kernel) (by decide +kernel)
set_option maxRecDepth 20000 in
theorem gX4_of_X0_paceOf : GoodIn wsX4_of (wsV RX4 120 RX0 yX0_paceOf wsX0_paceOf) := goodIn_app (goodIn_of _ (by decide +kernel)) ggX4_of_X0_paceOf
set_option maxRecDepth 20000 in
theorem ggX4_set_X0_has : GoodIn wsX4_set wsX0_has := goodIn_r _ [6, 7, 8, 9, 10, 35, 36, 37, 38, 39, 40, 41, 42, 43] (by decide +kernel) (by decide +kernel)
set_option maxRecDepth 20000 in
theorem gX4_set_X0_has : GoodIn wsX4_set (wsV RX4 101 RX0 yX0_has wsX0_has) := goodIn_app (goodIn_of _ (by decide +kernel)) ggX4_set_X0_has
set_option maxRecDepth 20000 in
theorem ggX4_set_X4_finding : GoodIn wsX4_set wsX4_finding := goodIn_r _ [14, 15, 16, 27, 28, 29, 30, 31, 32, 33, 34] (by decide +kernel) (by decide +kernel)
set_option maxRecDepth 20000 in
theorem gX4_set_X4_finding : GoodIn wsX4_set (wsV RX4 58 RX4 yX4_finding wsX4_finding) := goodIn_app (goodIn_of _ (by decide +kernel)) ggX4_set_X4_finding
set_option maxRecDepth 20000 in
theorem ggX4_set_X4_isCell : GoodIn wsX4_set wsX4_isCell := goodIn_r _ [19, 20, 8, 9, 10] (by decide +kernel) (by decide +kernel)
set_option maxRecDepth 20000 in
theorem gX4_set_X4_isCell : GoodIn wsX4_set (va_wsS RX4 51 yX4_isCell wsX4_isCell) := goodIn_app (goodIn_of _ (by decide +kernel)) ggX4_set_X4_isCell
set_option maxRecDepth 20000 in
theorem ggX4_set_X4_isSetOf : GoodIn wsX4_set wsX4_isSetOf := goodIn_r _ [23] (by decide +kernel) (by decide +kernel)
set_option maxRecDepth 20000 in
theorem gX4_set_X4_isSetOf : GoodIn wsX4_set (va_wsS RX4 77 yX4_isSetOf wsX4_isSetOf) := goodIn_app (goodIn_of _ (by decide +kernel)) ggX4_set_X4_isSetOf
set_option maxRecDepth 20000 in
theorem ggX4_set_X4_isFlag : GoodIn wsX4_set wsX4_isFlag := goodIn_r _ [26] (by decide +kernel) (by decide +kernel)
set_option maxRecDepth 20000 in
theorem gX4_set_X4_isFlag : GoodIn wsX4_set (va_wsS RX4 55 yX4_isFlag wsX4_isFlag) := goodIn_app (goodIn_of _ (by decide +kernel)) ggX4_set_X4_isFlag
set_option maxRecDepth 20000 in
theorem ggX4_turn_X0_has : GoodIn wsX4_turn wsX0_has := goodIn_r _ [6, 7, 8, 9, 10, 29, 30, 31, 32, 33, 34, 35, 36, 37] (by decide +kernel) (by decide +kernel)
set_option maxRecDepth 20000 in
theorem gX4_turn_X0_has : GoodIn wsX4_turn (wsV RX4 101 RX0 yX0_has wsX0_has) := goodIn_app (goodIn_of _ (by decide +kernel)) ggX4_turn_X0_has
set_option maxRecDepth 20000 in
theorem ggX4_turn_X4_isKind : GoodIn wsX4_turn wsX4_isKind := goodIn_r _ [13, 14, 8, 9, 10] (by decide +kernel) (by decide +kernel)
set_option maxRecDepth 20000 in
theorem gX4_turn_X4_isKind : GoodIn wsX4_turn (va_wsS RX4 90 yX4_isKind wsX4_isKind) := goodIn_app (goodIn_of _ (by decide +kernel)) ggX4_turn_X4_isKind
set_option maxRecDepth 20000 in
theorem ggX4_turn_X4_finding : GoodIn wsX4_turn wsX4_finding := goodIn_r _ [18, 19, 20, 21, 22, 23, 24, 25, 26, 27, 28] (by decide +kernel) (by decide +kernel)
set_option maxRecDepth 20000 in
theorem gX4_turn_X4_finding : GoodIn wsX4_turn (wsV RX4 58 RX4 yX4_finding wsX4_finding) := goodIn_app (goodIn_of _ (by decide +kernel)) ggX4_turn_X4_finding
set_option maxRecDepth 20000 in
theorem ggX4_as_X0_has : GoodIn wsX4_as wsX0_has := goodIn_r _ [6, 7, 8, 9, 10, 33, 34, 35, 36, 37, 38, 39, 40, 41] (by decide +kernel) (by decide +kernel)
set_option maxRecDepth 20000 in
theorem gX4_as_X0_has : GoodIn wsX4_as (wsV RX4 101 RX0 yX0_has wsX0_has) := goodIn_app (goodIn_of _ (by decide +kernel)) ggX4_as_X0_has
