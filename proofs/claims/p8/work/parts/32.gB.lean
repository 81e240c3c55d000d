set_option maxRecDepth 20000 in
theorem ggX11_init_X8_init : GoodIn wsX11_init wsX8_init := goodIn_r _ [27, 28, 2, 3, 29, 30, 31, 82, 83] (by decide +kernel) (by decide +kernel)
set_option maxRecDepth 20000 in
theorem gX11_init_X8_init_n11 : GoodIn wsX11_init (wsX8_init) := ggX11_init_X8_init
set_option maxRecDepth 20000 in
theorem ggX11_init_X9_init : GoodIn wsX11_init wsX9_init := goodIn_r _ [33, 34, 2, 3, 35, 36, 37, 38, 39, 40, 41, 42, 91, 92, 93, 94, 95] (by decide +kernel) (by decide +kernel)
set_option maxRecDepth 20000 in
theorem gX11_init_X9_init_n18 : GoodIn wsX11_init (wsX9_init) := ggX11_init_X9_init
set_option maxRecDepth 20000 in
theorem ggX11_init_X6_init : GoodIn wsX11_init wsX6_init := goodIn_r _ [44, 45, 2, 3, 46, 47, 48, 49, 29, 50, 51, 52, 53, 54, 55, 56, 57, 58, 59, 60, 108, 109, 110, 96, 97, 98, 99] (by decide +kernel) (by decide +kernel)
set_option maxRecDepth 20000 in
theorem gX11_init_X6_init_n25 : GoodIn wsX11_init (wsX6_init) := ggX11_init_X6_init
set_option maxRecDepth 20000 in
theorem ggX11_init_X10_init : GoodIn wsX11_init wsX10_init := goodIn_r _ [63, 64, 2, 3, 65, 66, 67, 68, 69, 70, 71, 100, 101] (by decide +kernel) (by decide +kernel)
set_option maxRecDepth 20000 in
theorem gX11_init_X10_init : GoodIn wsX11_init (wsX10_init) := ggX11_init_X10_init
set_option maxRecDepth 20000 in
theorem ggX11_init_X1_init : GoodIn wsX11_init wsX1_init := goodIn_r _ [73, 74, 2, 3, 65, 75, 76, 77, 78, 79, 80, 81, 102, 103, 104, 105, 106, 107] (by decide +kernel) (by decide +kernel)
set_option maxRecDepth 20000 in
theorem gX11_init_X1_init_n39 : GoodIn wsX11_init (wsX1_init) := ggX11_init_X1_init
set_option maxRecDepth 20000 in
theorem ggX11_feed_X8_hasRoomFor : GoodIn wsX11_feed wsX8_hasRoomFor := goodIn_r _ [7, 8, 25, 26] (by decide +kernel) (by decide +kernel)
set_option maxRecDepth 20000 in
theorem gX11_feed_X8_hasRoomFor : GoodIn wsX11_feed (wsV RX11 52 RX8 yX8_hasRoomFor wsX8_hasRoomFor) := goodIn_app (goodIn_of _ (by decide +kernel)) ggX11_feed_X8_hasRoomFor
set_option maxRecDepth 20000 in
theorem ggX11_feed_X8_addNumber : GoodIn wsX11_feed wsX8_addNumber := goodIn_r _ [12, 13, 14, 15, 6, 16, 8, 17, 25, 26] (by decide +kernel) (by decide +kernel)
set_option maxRecDepth 20000 in
theorem gX11_feed_X8_addNumber : GoodIn wsX11_feed (wsV RX11 56 RX8 yX8_addNumber wsX8_addNumber) := goodIn_app (goodIn_of _ (by decide +kernel)) ggX11_feed_X8_addNumber
set_option maxRecDepth 20000 in
theorem ggX11_end_X11_within : GoodIn wsX11_end wsX11_within := goodIn_r _ [6] (by decide +kernel) (by decide +kernel)
set_option maxRecDepth 20000 in
theorem gX11_end_X11_within : GoodIn wsX11_end (va_wsS RX11 63 yX11_within wsX11_within) := goodIn_app (goodIn_of _ (by decide +kernel)) ggX11_end_X11_within
set_option maxRecDepth 20000 in
theorem ggX11_form_X11_isKind : GoodIn wsX11_form wsX11_isKind := goodIn_r _ [11, 12, 13, 10, 14] (by decide +kernel) (by decide +kernel)
set_option maxRecDepth 20000 in
theorem gX11_form_X11_isKind : GoodIn wsX11_form (va_wsS RX11 70 yX11_isKind wsX11_isKind) := goodIn_app (goodIn_of _ (by decide +kernel)) ggX11_form_X11_isKind
set_option maxRecDepth 20000 in
theorem ggX11_form_X11_isStem : GoodIn wsX11_form wsX11_isStem := goodIn_r _ [17, 12, 13, 10, 14] (by decide +kernel) (by decide +kernel)
set_option maxRecDepth 20000 in
theorem gX11_form_X11_isStem : GoodIn wsX11_form (va_wsS RX11 73 yX11_isStem wsX11_isStem) := goodIn_app (goodIn_of _ (by decide +kernel)) ggX11_form_X11_isStem
set_option maxRecDepth 20000 in
theorem ggX11_form_X11_isCost : GoodIn wsX11_form wsX11_isCost := goodIn_r _ [20, 12, 13, 10, 14] (by decide +kernel) (by decide +kernel)
set_option maxRecDepth 20000 in
theorem gX11_form_X11_isCost : GoodIn wsX11_form (va_wsS RX11 76 yX11_isCost wsX11_isCost) := goodIn_app (goodIn_of _ (by decide +kernel)) ggX11_form_X11_isCost
set_option maxRecDepth 20000 in
theorem ggX11_form_X11_within : GoodIn wsX11_form wsX11_within := goodIn_r _ [14] (by decide +kernel) (by decide +kernel)
set_option maxRecDepth 20000 in
theorem gX11_form_X11_within : GoodIn wsX11_form (va_wsS RX11 63 yX11_within wsX11_within) := goodIn_app (goodIn_of _ (by decide +kernel)) ggX11_form_X11_within
set_option maxRecDepth 20000 in
theorem ggX11_form_X8_hasOnlyLetters : GoodIn wsX11_form wsX8_hasOnlyLetters := goodIn_r _ [25, 26, 27, 110, 111] (by decide +kernel) (by decide +kernel)
set_option maxRecDepth 20000 in
theorem gX11_form_X8_hasOnlyLetters : GoodIn wsX11_form (wsV RX11 79 RX8 yX8_hasOnlyLetters wsX8_hasOnlyLetters) := goodIn_app (goodIn_of _ (by decide +kernel)) ggX11_form_X8_hasOnlyLetters
set_option maxRecDepth 20000 in
theorem ggX11_form_X2_init : GoodIn wsX11_form wsX2_init := goodIn_r _ [30, 31, 32, 33, 34, 35, 36, 37, 38, 39, 40, 41, 42, 43, 44, 45, 46, 47, 48, 49, 50, 51, 52, 53, 54, 55, 56, 57, 58, 59, 60, 61, 62, 112, 113, 114, 115, 116, 117, 118, 119, 110, 111] (by decide +kernel) (by decide +kernel)
set_option maxRecDepth 20000 in
theorem gX11_form_X2_init : GoodIn wsX11_form (wsX2_init) := ggX11_form_X2_init
set_option maxRecDepth 20000 in
theorem ggX11_form_X9_addForm : GoodIn wsX11_form wsX9_addForm := goodIn_r _ [67, 68, 69, 70, 71, 72, 73, 74, 75, 66, 76, 77, 78, 79, 80, 81, 82, 83, 84, 85, 86, 87, 88, 89, 90, 91, 92, 93, 94, 95, 96, 97, 105, 106, 107, 108, 109, 112, 113, 114, 115, 116, 117, 118, 119, 120, 121, 122, 123, 124, 125, 126, 127, 128] (by decide +kernel) (by decide +kernel)
set_option maxRecDepth 20000 in
theorem gX11_form_X9_addForm : GoodIn wsX11_form (wsV RX11 88 RX9 yX9_addForm wsX9_addForm) := goodIn_app (goodIn_of _ (by decide +kernel)) ggX11_form_X9_addForm
set_option maxRecDepth 20000 in
theorem ggX11_rule_X11_within : GoodIn wsX11_rule wsX11_within := goodIn_r _ [11] (by decide +kernel) (by decide +kernel)
set_option maxRecDepth 20000 in
theorem gX11_rule_X11_within : GoodIn wsX11_rule (va_wsS RX11 63 yX11_within wsX11_within) := goodIn_app (goodIn_of _ (by decide +kernel)) ggX11_rule_X11_within
set_option maxRecDepth 20000 in
theorem ggX11_rule_X8_hasOnlyLetters : GoodIn wsX11_rule wsX8_hasOnlyLetters := goodIn_r _ [16, 17, 18, 103, 104] (by decide +kernel) (by decide +kernel)
set_option maxRecDepth 20000 in
theorem gX11_rule_X8_hasOnlyLetters : GoodIn wsX11_rule (wsV RX11 79 RX8 yX8_hasOnlyLetters wsX8_hasOnlyLetters) := goodIn_app (goodIn_of _ (by decide +kernel)) ggX11_rule_X8_hasOnlyLetters
set_option maxRecDepth 20000 in
theorem ggX11_rule_X11_isCost : GoodIn wsX11_rule wsX11_isCost := goodIn_r _ [21, 8, 9, 10, 11] (by decide +kernel) (by decide +kernel)
set_option maxRecDepth 20000 in
theorem gX11_rule_X11_isCost : GoodIn wsX11_rule (va_wsS RX11 76 yX11_isCost wsX11_isCost) := goodIn_app (goodIn_of _ (by decide +kernel)) ggX11_rule_X11_isCost
set_option maxRecDepth 20000 in
theorem ggX11_rule_X11_isDay : GoodIn wsX11_rule wsX11_isDay := goodIn_r _ [24, 8, 9, 10, 11] (by decide +kernel) (by decide +kernel)
set_option maxRecDepth 20000 in
theorem gX11_rule_X11_isDay : GoodIn wsX11_rule (va_wsS RX11 95 yX11_isDay wsX11_isDay) := goodIn_app (goodIn_of _ (by decide +kernel)) ggX11_rule_X11_isDay
set_option maxRecDepth 20000 in
theorem ggX11_rule_X7_init : GoodIn wsX11_rule wsX7_init := goodIn_r _ [27, 28, 29, 30, 31, 32, 33, 34, 35, 36, 37, 38, 39, 40, 41, 42, 43, 44, 45, 46, 47, 48, 49, 50, 51, 52, 53, 54, 55, 56, 57, 58, 59, 60, 105, 106, 107, 108, 109, 110, 111, 112, 113, 103, 104] (by decide +kernel) (by decide +kernel)
set_option maxRecDepth 20000 in
theorem gX11_rule_X7_init : GoodIn wsX11_rule (wsX7_init) := ggX11_rule_X7_init
set_option maxRecDepth 20000 in
theorem ggX11_rule_X9_addRule : GoodIn wsX11_rule wsX9_addRule := goodIn_r _ [65, 66, 67, 68, 69, 70, 71, 72, 73, 64, 74, 75, 76, 77, 78, 79, 80, 7, 81, 82, 35, 83, 84, 85, 86, 34, 87, 88, 89, 90, 36, 98, 99, 100, 101, 102, 105, 106, 107, 108, 109, 110, 111, 112, 113, 114, 115, 116, 117, 118, 119, 120, 121] (by decide +kernel) (by decide +kernel)
set_option maxRecDepth 20000 in
theorem gX11_rule_X9_addRule : GoodIn wsX11_rule (wsV RX11 103 RX9 yX9_addRule wsX9_addRule) := goodIn_app (goodIn_of _ (by decide +kernel)) ggX11_rule_X9_addRule
set_option maxRecDepth 20000 in
theorem ggX11_cost_X9_formAt : GoodIn wsX11_cost wsX9_formAt := goodIn_r _ [7, 8, 9, 32, 33, 34, 35, 36] (by decide +kernel) (by decide +kernel)
set_option maxRecDepth 20000 in
theorem gX11_cost_X9_formAt : GoodIn wsX11_cost (wsV RX11 107 RX9 yX9_formAt wsX9_formAt) := goodIn_app (goodIn_of _ (by decide +kernel)) ggX11_cost_X9_formAt
set_option maxRecDepth 20000 in
theorem ggX11_cost_X11_isCost : GoodIn wsX11_cost wsX11_isCost := goodIn_r _ [13, 14, 15, 12, 16] (by decide +kernel) (by decide +kernel)
set_option maxRecDepth 20000 in
theorem gX11_cost_X11_isCost : GoodIn wsX11_cost (va_wsS RX11 76 yX11_isCost wsX11_isCost) := goodIn_app (goodIn_of _ (by decide +kernel)) ggX11_cost_X11_isCost
set_option maxRecDepth 20000 in
theorem ggX11_meets_X11_isKind : GoodIn wsX11_meets wsX11_isKind := goodIn_r _ [5, 6, 7, 4, 8] (by decide +kernel) (by decide +kernel)
set_option maxRecDepth 20000 in
theorem gX11_meets_X11_isKind : GoodIn wsX11_meets (va_wsS RX11 70 yX11_isKind wsX11_isKind) := goodIn_app (goodIn_of _ (by decide +kernel)) ggX11_meets_X11_isKind
set_option maxRecDepth 20000 in
theorem ggX11_meets_X9_setMeeting : GoodIn wsX11_meets wsX9_setMeeting := goodIn_r _ [13, 14, 22, 23, 24, 25, 26] (by decide +kernel) (by decide +kernel)
set_option maxRecDepth 20000 in
theorem gX11_meets_X9_setMeeting : GoodIn wsX11_meets (wsV RX11 114 RX9 yX9_setMeeting wsX9_setMeeting) := goodIn_app (goodIn_of _ (by decide +kernel)) ggX11_meets_X9_setMeeting
set_option maxRecDepth 20000 in
theorem ggX11_becomes_X11_isKind : GoodIn wsX11_becomes wsX11_isKind := goodIn_r _ [5, 6, 7, 4, 8] (by decide +kernel) (by decide +kernel)
set_option maxRecDepth 20000 in
theorem gX11_becomes_X11_isKind : GoodIn wsX11_becomes (va_wsS RX11 70 yX11_isKind wsX11_isKind) := goodIn_app (goodIn_of _ (by decide +kernel)) ggX11_becomes_X11_isKind
set_option maxRecDepth 20000 in
theorem ggX11_becomes_X10_setKind : GoodIn wsX11_becomes wsX10_setKind := goodIn_r _ [13, 14, 22, 23] (by decide +kernel) (by decide +kernel)
set_option maxRecDepth 20000 in
theorem gX11_becomes_X10_setKind : GoodIn wsX11_becomes (wsV RX11 118 RX10 yX10_setKind wsX10_setKind) := goodIn_app (goodIn_of _ (by decide +kernel)) ggX11_becomes_X10_setKind
set_option maxRecDepth 20000 in
theorem ggX11_fits_X11_rulesBetween : GoodIn wsX11_fits wsX11_rulesBetween := goodIn_r _ [5, 6, 7, 8, 9, 10, 11, 12, 13, 14, 15, 16, 17, 4, 18, 19, 20, 21, 22, 23, 24, 25, 26, 27, 28, 29, 37, 38, 39, 40, 41, 42, 43, 44, 45, 46, 47, 48, 49, 50, 51, 52, 53, 54, 55, 56, 57, 58, 59, 60, 61, 62, 63, 64, 65] (by decide +kernel) (by decide +kernel)
set_option maxRecDepth 20000 in
theorem gX11_fits_X11_rulesBetween : GoodIn wsX11_fits (wsV RX11 122 RX11 yX11_rulesBetween wsX11_rulesBetween) := goodIn_app (goodIn_of _ (by decide +kernel)) ggX11_fits_X11_rulesBetween
set_option maxRecDepth 20000 in
theorem ggX11_fits_J6_bitCount_0f7a4 : GoodIn wsX11_fits wsJ6_bitCount_0f7a4 := goodIn_r _ [33, 34, 35, 36] (by decide +kernel) (by decide +kernel)
set_option maxRecDepth 20000 in
theorem gX11_fits_J6_bitCount_0f7a4 : GoodIn wsX11_fits (va_wsS RX11 125 yJ6_bitCount_0f7a4 wsJ6_bitCount_0f7a4) := goodIn_app (goodIn_of _ (by decide +kernel)) ggX11_fits_J6_bitCount_0f7a4
set_option maxRecDepth 20000 in
theorem ggX11_fitting_X11_rulesBetween : GoodIn wsX11_fitting wsX11_rulesBetween := goodIn_r _ [5, 6, 7, 8, 9, 10, 11, 12, 13, 14, 15, 16, 17, 4, 18, 19, 20, 21, 22, 23, 24, 25, 26, 27, 28, 29, 33, 34, 35, 36, 37, 38, 39, 40, 41, 42, 43, 44, 45, 46, 47, 48, 49, 50, 51, 52, 53, 54, 55, 56, 57, 58, 59, 60, 61] (by decide +kernel) (by decide +kernel)
set_option maxRecDepth 20000 in
theorem gX11_fitting_X11_rulesBetween : GoodIn wsX11_fitting (wsV RX11 122 RX11 yX11_rulesBetween wsX11_rulesBetween) := goodIn_app (goodIn_of _ (by decide +kernel)) ggX11_fitting_X11_rulesBetween
set_option maxRecDepth 20000 in
theorem ggX11_fitting_X11_hasRule : GoodIn wsX11_fitting wsX11_hasRule := goodIn_r _ [32] (by decide +kernel) (by decide +kernel)
set_option maxRecDepth 20000 in
theorem gX11_fitting_X11_hasRule : GoodIn wsX11_fitting (va_wsS RX11 131 yX11_hasRule wsX11_hasRule) := goodIn_app (goodIn_of _ (by decide +kernel)) ggX11_fitting_X11_hasRule
set_option maxRecDepth 20000 in
theorem ggX11_row_X11_isDay : GoodIn wsX11_row wsX11_isDay := goodIn_r _ [8, 9, 10, 7, 11] (by decide +kernel) (by decide +kernel)
set_option maxRecDepth 20000 in
theorem gX11_row_X11_isDay : GoodIn wsX11_row (va_wsS RX11 95 yX11_isDay wsX11_isDay) := goodIn_app (goodIn_of _ (by decide +kernel)) ggX11_row_X11_isDay
set_option maxRecDepth 20000 in
theorem ggX11_joins_X9_formAt : GoodIn wsX11_joins wsX9_formAt := goodIn_r _ [9, 10, 11, 81, 82, 83, 84, 85] (by decide +kernel) (by decide +kernel)
set_option maxRecDepth 20000 in
theorem gX11_joins_X9_formAt : GoodIn wsX11_joins (wsV RX11 107 RX9 yX9_formAt wsX9_formAt) := goodIn_app (goodIn_of _ (by decide +kernel)) ggX11_joins_X9_formAt
set_option maxRecDepth 20000 in
theorem ggX11_joins_X0_last : GoodIn wsX11_joins wsX0_last := goodIn_r _ [16, 17, 18, 19, 20, 15, 21, 22, 78, 79, 80] (by decide +kernel) (by decide +kernel)
set_option maxRecDepth 20000 in
theorem gX11_joins_X0_last : GoodIn wsX11_joins (wsV RX11 145 RX0 yX0_last wsX0_last) := goodIn_app (goodIn_of _ (by decide +kernel)) ggX11_joins_X0_last
set_option maxRecDepth 20000 in
theorem ggX11_joins_X0_append : GoodIn wsX11_joins wsX0_append := goodIn_r _ [26, 17, 22, 27, 78, 79, 80] (by decide +kernel) (by decide +kernel)
set_option maxRecDepth 20000 in
theorem gX11_joins_X0_append : GoodIn wsX11_joins (wsV RX11 149 RX0 yX0_append wsX0_append) := goodIn_app (goodIn_of _ (by decide +kernel)) ggX11_joins_X0_append
set_option maxRecDepth 20000 in
theorem ggX11_joins_X11_canFollow : GoodIn wsX11_joins wsX11_canFollow := goodIn_r _ [32, 33, 34, 1, 2, 35, 36, 3, 37, 38, 39, 40, 41, 8, 42, 43, 44, 45, 46, 47, 48, 49, 50, 51, 52, 31, 53, 54, 55, 56, 15, 57, 17, 58, 59, 60, 61, 62, 63, 64, 65, 66, 27, 86, 87, 88, 89, 90, 91, 92, 93, 67, 68, 69, 70, 71, 72, 73, 74, 75, 76, 77, 94, 95, 96, 97, 98, 99, 100, 101, 102, 81, 82, 83, 84, 85, 78, 79, 80] (by decide +kernel) (by decide +kernel)
set_option maxRecDepth 20000 in
theorem gX11_joins_X11_canFollow : GoodIn wsX11_joins (wsV RX11 153 RX11 yX11_canFollow wsX11_canFollow) := goodIn_app (goodIn_of _ (by decide +kernel)) ggX11_joins_X11_canFollow
set_option maxRecDepth 20000 in
theorem ggX11_joins_X9_ruleAt : GoodIn wsX11_joins wsX9_ruleAt := goodIn_r _ [50, 43, 44, 81, 82, 83, 84, 85] (by decide +kernel) (by decide +kernel)
set_option maxRecDepth 20000 in
theorem gX11_joins_X9_ruleAt : GoodIn wsX11_joins (wsV RX11 157 RX9 yX9_ruleAt wsX9_ruleAt) := goodIn_app (goodIn_of _ (by decide +kernel)) ggX11_joins_X9_ruleAt
set_option maxRecDepth 20000 in
theorem ggX11_joined_X6_join : GoodIn wsX11_joined wsX6_join := goodIn_r _ [7, 8, 9, 10, 11, 12, 13, 14, 15, 16, 17, 18, 6, 19, 20, 21, 22, 23, 24, 25, 26, 27, 28, 29, 30, 31, 32, 33, 34, 35, 36, 37, 45, 46, 47, 48, 49, 50, 51, 52, 53, 54, 55, 56, 57, 58, 59, 60, 61, 62, 63, 64, 65, 66, 67, 68] (by decide +kernel) (by decide +kernel)
set_option maxRecDepth 20000 in
theorem gX11_joined_X6_join : GoodIn wsX11_joined (wsV RX11 161 RX6 yX6_join wsX6_join) := goodIn_app (goodIn_of _ (by decide +kernel)) ggX11_joined_X6_join
set_option maxRecDepth 20000 in
theorem ggX11_back_X8_hasRoomFor : GoodIn wsX11_back wsX8_hasRoomFor := goodIn_r _ [10, 11, 28, 29] (by decide +kernel) (by decide +kernel)
set_option maxRecDepth 20000 in
theorem gX11_back_X8_hasRoomFor : GoodIn wsX11_back (wsV RX11 52 RX8 yX8_hasRoomFor wsX8_hasRoomFor) := goodIn_app (goodIn_of _ (by decide +kernel)) ggX11_back_X8_hasRoomFor
set_option maxRecDepth 20000 in
theorem ggX11_back_X8_addByte : GoodIn wsX11_back wsX8_addByte := goodIn_r _ [15, 11, 16, 28, 29] (by decide +kernel) (by decide +kernel)
set_option maxRecDepth 20000 in
theorem gX11_back_X8_addByte : GoodIn wsX11_back (wsV RX11 171 RX8 yX8_addByte wsX8_addByte) := goodIn_app (goodIn_of _ (by decide +kernel)) ggX11_back_X8_addByte
set_option maxRecDepth 20000 in
theorem ggX11_part_X11_within : GoodIn wsX11_part wsX11_within := goodIn_r _ [14] (by decide +kernel) (by decide +kernel)
set_option maxRecDepth 20000 in
theorem gX11_part_X11_within : GoodIn wsX11_part (va_wsS RX11 63 yX11_within wsX11_within) := goodIn_app (goodIn_of _ (by decide +kernel)) ggX11_part_X11_within
set_option maxRecDepth 20000 in
theorem ggX11_part_X8_hasOnlyLetters : GoodIn wsX11_part wsX8_hasOnlyLetters := goodIn_r _ [19, 20, 21, 321, 322] (by decide +kernel) (by decide +kernel)
set_option maxRecDepth 20000 in
theorem gX11_part_X8_hasOnlyLetters : GoodIn wsX11_part (wsV RX11 79 RX8 yX8_hasOnlyLetters wsX8_hasOnlyLetters) := goodIn_app (goodIn_of _ (by decide +kernel)) ggX11_part_X8_hasOnlyLetters
set_option maxRecDepth 20000 in
theorem ggX11_part_X11_isDay : GoodIn wsX11_part wsX11_isDay := goodIn_r _ [24, 11, 12, 13, 14] (by decide +kernel) (by decide +kernel)
set_option maxRecDepth 20000 in
theorem gX11_part_X11_isDay : GoodIn wsX11_part (va_wsS RX11 95 yX11_isDay wsX11_isDay) := goodIn_app (goodIn_of _ (by decide +kernel)) ggX11_part_X11_isDay
set_option maxRecDepth 20000 in
theorem ggX11_part_X4_init : GoodIn wsX11_part wsX4_init := goodIn_r _ [27, 28, 29, 30, 31, 32, 33, 34, 35, 36, 37, 38, 39, 40, 41, 42, 43, 44, 45, 46, 47, 48, 49, 50, 51, 52, 53, 54, 55, 56, 57, 58, 59, 60, 61, 62, 63, 64, 65, 66, 67, 68, 69, 70, 71, 72, 73, 74, 75, 76, 77, 78, 79, 80, 81, 82, 83, 84, 85, 86, 87, 323, 324, 325, 326, 327, 328, 329, 330, 331, 332, 333, 334, 335, 336, 337, 338, 339, 340, 341, 342, 343, 344, 345, 346, 347, 348, 349, 350, 351, 352] (by decide +kernel) (by decide +kernel)
set_option maxRecDepth 20000 in
theorem gX11_part_X4_init : GoodIn wsX11_part (wsX4_init) := ggX11_part_X4_init
set_option maxRecDepth 20000 in
theorem ggX11_part_X4_countLine : GoodIn wsX11_part wsX4_countLine := goodIn_r _ [91, 45, 31, 32, 33, 41, 92, 93, 94, 44, 95, 96, 97, 98, 99, 54, 56, 67, 64, 100, 101, 102, 103, 104, 105, 106, 107, 108, 109, 110, 111, 112, 66, 113, 60, 61, 114, 62, 63, 115, 116, 58, 117, 118, 119, 120, 121, 122, 123, 124, 125, 126, 127, 128, 53, 129, 130, 131, 132, 133, 134, 135, 136, 137, 138, 139, 140, 141, 142, 143, 13, 144, 145, 146, 147, 148, 149, 150, 151, 152, 153, 154, 155, 156, 157, 158, 159, 160, 161, 162, 163, 164, 165, 166, 167, 168, 169, 170, 171, 172, 173, 174, 175, 176, 177, 178, 179, 180, 181, 182, 183, 184, 185, 186, 187, 188, 189, 190, 191, 192, 193, 194, 195, 196, 197, 198, 199, 323, 324, 325, 326, 327, 328, 329, 330, 331, 332, 333, 334, 335, 336, 337, 338, 339, 340, 341, 342, 343, 353, 354, 355, 356, 357, 358, 359, 360, 361, 362, 363, 364, 365, 366, 367, 368, 369, 370, 371, 372, 373, 374] (by decide +kernel) (by decide +kernel)
set_option maxRecDepth 20000 in
theorem gX11_part_X4_countLine : GoodIn wsX11_part (wsV RX11 184 RX4 yX4_countLine wsX4_countLine) := goodIn_app (goodIn_of _ (by decide +kernel)) ggX11_part_X4_countLine
set_option maxRecDepth 20000 in
theorem ggX11_part_X4_tell : GoodIn wsX11_part wsX4_tell := goodIn_r _ [203, 45, 204, 205, 206, 207, 7, 208, 40, 41, 209, 210, 36, 35, 211, 212, 39, 213, 214, 215, 216, 217, 218, 219, 220, 221, 222, 223, 224, 225, 226, 227, 228, 103, 229, 230, 231, 232, 233, 234, 73, 235, 87, 84, 86, 236, 237, 238, 239, 240, 241, 242, 243, 244, 245, 246, 247, 37, 248, 249, 250, 251, 252, 253, 254, 255, 256, 257, 258, 259, 260, 261, 262, 263, 264, 265, 266, 267, 268, 269, 270, 271, 272, 273, 274, 275, 276, 130, 131, 44, 132, 133, 54, 96, 97, 98, 99, 56, 277, 182, 183, 184, 153, 185, 64, 66, 156, 278, 279, 280, 281, 282, 283, 284, 158, 13, 159, 285, 161, 162, 163, 164, 165, 166, 167, 168, 169, 170, 171, 172, 286, 287, 288, 289, 290, 291, 292, 293, 294, 295, 296, 297, 298, 299, 300, 301, 302, 303, 304, 305, 306, 307, 308, 309, 310, 311, 312, 313, 105, 106, 323, 324, 325, 326, 327, 328, 329, 330, 331, 332, 333, 334, 335, 336, 337, 338, 339, 340, 341, 342, 343, 353, 354, 355, 356, 357, 344, 345, 346, 347, 348, 349, 350, 351, 352, 367, 368, 369, 370, 371, 372, 373, 374, 358, 359, 360, 361, 362, 363, 364, 365, 366] (by decide +kernel) (by decide +kernel)
set_option maxRecDepth 20000 in
theorem gX11_part_X4_tell : GoodIn wsX11_part (wsV RX11 188 RX4 yX4_tell wsX4_tell) := goodIn_app (goodIn_of _ (by decide +kernel)) ggX11_part_X4_tell
set_option maxRecDepth 20000 in
theorem ggX11_parting_X11_toldPath : GoodIn wsX11_parting wsX11_toldPath := goodIn_r _ [8, 9, 10, 11, 21, 22, 23, 24, 25, 26, 27, 28, 29, 30, 31, 32, 33, 34, 35, 36, 37] (by decide +kernel) (by decide +kernel)
set_option maxRecDepth 20000 in
theorem gX11_parting_X11_toldPath : GoodIn wsX11_parting (wsV RX11 205 RX11 yX11_toldPath wsX11_toldPath) := goodIn_app (goodIn_of _ (by decide +kernel)) ggX11_parting_X11_toldPath
set_option maxRecDepth 20000 in
theorem ggX11_formOf_X11_toldPath : GoodIn wsX11_formOf wsX11_toldPath := goodIn_r _ [7, 8, 9, 10, 32, 33, 34, 35, 36, 37, 38, 39, 40, 41, 42, 43, 44, 45, 46, 47, 48] (by decide +kernel) (by decide +kernel)
set_option maxRecDepth 20000 in
theorem gX11_formOf_X11_toldPath : GoodIn wsX11_formOf (wsV RX11 205 RX11 yX11_toldPath wsX11_toldPath) := goodIn_app (goodIn_of _ (by decide +kernel)) ggX11_formOf_X11_toldPath
set_option maxRecDepth 20000 in
theorem ggX11_formOf_X0_formAt : GoodIn wsX11_formOf wsX0_formAt := goodIn_r _ [15, 16, 17, 49, 50, 51] (by decide +kernel) (by decide +kernel)
set_option maxRecDepth 20000 in
theorem gX11_formOf_X0_formAt : GoodIn wsX11_formOf (wsV RX11 213 RX0 yX0_formAt wsX0_formAt) := goodIn_app (goodIn_of _ (by decide +kernel)) ggX11_formOf_X0_formAt
set_option maxRecDepth 20000 in
theorem ggX11_ruleOf_X11_toldPath : GoodIn wsX11_ruleOf wsX11_toldPath := goodIn_r _ [7, 8, 9, 10, 33, 34, 35, 36, 37, 38, 39, 40, 41, 42, 43, 44, 45, 46, 47, 48, 49] (by decide +kernel) (by decide +kernel)
set_option maxRecDepth 20000 in
theorem gX11_ruleOf_X11_toldPath : GoodIn wsX11_ruleOf (wsV RX11 205 RX11 yX11_toldPath wsX11_toldPath) := goodIn_app (goodIn_of _ (by decide +kernel)) ggX11_ruleOf_X11_toldPath
set_option maxRecDepth 20000 in
theorem ggX11_ruleOf_X0_ruleAheadOf : GoodIn wsX11_ruleOf wsX0_ruleAheadOf := goodIn_r _ [15, 16, 17, 50, 51, 52] (by decide +kernel) (by decide +kernel)
set_option maxRecDepth 20000 in
theorem gX11_ruleOf_X0_ruleAheadOf : GoodIn wsX11_ruleOf (wsV RX11 217 RX0 yX0_ruleAheadOf wsX0_ruleAheadOf) := goodIn_app (goodIn_of _ (by decide +kernel)) ggX11_ruleOf_X0_ruleAheadOf
set_option maxRecDepth 20000 in
theorem ggX11_trees_X11_toldPath : GoodIn wsX11_trees wsX11_toldPath := goodIn_r _ [8, 9, 10, 11, 53, 54, 55, 56, 57, 58, 59, 66, 67, 68, 69, 70, 71, 72, 73, 74, 75] (by decide +kernel) (by decide +kernel)
set_option maxRecDepth 20000 in
theorem gX11_trees_X11_toldPath : GoodIn wsX11_trees (wsV RX11 205 RX11 yX11_toldPath wsX11_toldPath) := goodIn_app (goodIn_of _ (by decide +kernel)) ggX11_trees_X11_toldPath
set_option maxRecDepth 20000 in
theorem ggX11_trees_X11_isKind : GoodIn wsX11_trees wsX11_isKind := goodIn_r _ [14, 15, 16, 7, 17] (by decide +kernel) (by decide +kernel)
set_option maxRecDepth 20000 in
theorem gX11_trees_X11_isKind : GoodIn wsX11_trees (va_wsS RX11 70 yX11_isKind wsX11_isKind) := goodIn_app (goodIn_of _ (by decide +kernel)) ggX11_trees_X11_isKind
set_option maxRecDepth 20000 in
theorem ggX11_trees_X10_waysTo : GoodIn wsX11_trees wsX10_waysTo := goodIn_r _ [22, 23, 24, 25, 26, 27, 28, 29, 30, 31, 32, 33, 34, 35, 21, 36, 37, 38, 39, 40, 41, 42, 43, 44, 45, 46, 7, 47, 48, 49, 50, 51, 52, 76, 77, 78, 79, 80, 81, 82, 83, 84, 85, 86, 87, 88] (by decide +kernel) (by decide +kernel)
set_option maxRecDepth 20000 in
theorem gX11_trees_X10_waysTo : GoodIn wsX11_trees (wsV RX11 221 RX10 yX10_waysTo wsX10_waysTo) := goodIn_app (goodIn_of _ (by decide +kernel)) ggX11_trees_X10_waysTo
set_option maxRecDepth 20000 in
theorem ggX11_choose_X11_toldPath : GoodIn wsX11_choose wsX11_toldPath := goodIn_r _ [10, 11, 12, 13, 44, 45, 46, 47, 48, 49, 50, 63, 64, 65, 66, 67, 68, 69, 70, 71, 72] (by decide +kernel) (by decide +kernel)
set_option maxRecDepth 20000 in
theorem gX11_choose_X11_toldPath : GoodIn wsX11_choose (wsV RX11 205 RX11 yX11_toldPath wsX11_toldPath) := goodIn_app (goodIn_of _ (by decide +kernel)) ggX11_choose_X11_toldPath
set_option maxRecDepth 20000 in
theorem ggX11_choose_X1_remember : GoodIn wsX11_choose wsX1_remember := goodIn_r _ [18, 19, 20, 21, 22, 23, 24, 25, 26, 27, 28, 29, 30, 31, 57, 58, 59, 60, 61, 62, 73, 74, 75, 76, 77, 78, 79, 80, 81, 82, 83, 84, 85] (by decide +kernel) (by decide +kernel)
set_option maxRecDepth 20000 in
theorem gX11_choose_X1_remember : GoodIn wsX11_choose (wsV RX11 225 RX1 yX1_remember wsX1_remember) := goodIn_app (goodIn_of _ (by decide +kernel)) ggX11_choose_X1_remember
set_option maxRecDepth 20000 in
theorem ggX11_choose_X1_learn : GoodIn wsX11_choose wsX1_learn := goodIn_r _ [35, 36, 37, 26, 38, 39, 24, 40, 41, 42, 43, 86, 87, 88, 57, 58, 59, 60, 61, 62, 78, 79, 80, 81, 82, 83, 84, 85] (by decide +kernel) (by decide +kernel)
set_option maxRecDepth 20000 in
theorem gX11_choose_X1_learn : GoodIn wsX11_choose (wsV RX11 228 RX1 yX1_learn wsX1_learn) := goodIn_app (goodIn_of _ (by decide +kernel)) ggX11_choose_X1_learn
set_option maxRecDepth 20000 in
theorem ggX11_undo_X1_restore : GoodIn wsX11_undo wsX1_restore := goodIn_r _ [7, 8, 9, 10, 11, 12, 13, 14, 15, 16, 17, 18, 19, 20, 28, 29, 30, 31, 32, 33, 34, 35, 36, 37, 38, 39, 40, 41, 42, 43, 44, 45, 46] (by decide +kernel) (by decide +kernel)
set_option maxRecDepth 20000 in
theorem gX11_undo_X1_restore : GoodIn wsX11_undo (wsV RX11 233 RX1 yX1_restore wsX1_restore) := goodIn_app (goodIn_of _ (by decide +kernel)) ggX11_undo_X1_restore
set_option maxRecDepth 20000 in
theorem ggX11_step_X11_within : GoodIn wsX11_step wsX11_within := goodIn_r _ [5] (by decide +kernel) (by decide +kernel)
set_option maxRecDepth 20000 in
theorem gX11_step_X11_within : GoodIn wsX11_step (va_wsS RX11 63 yX11_within wsX11_within) := goodIn_app (goodIn_of _ (by decide +kernel)) ggX11_step_X11_within
set_option maxRecDepth 20000 in
theorem ggX11_uses_X11_isStem : GoodIn wsX11_uses wsX11_isStem := goodIn_r _ [6, 7, 8, 5, 9] (by decide +kernel) (by decide +kernel)
set_option maxRecDepth 20000 in
theorem gX11_uses_X11_isStem : GoodIn wsX11_uses (va_wsS RX11 73 yX11_isStem wsX11_isStem) := goodIn_app (goodIn_of _ (by decide +kernel)) ggX11_uses_X11_isStem
set_option maxRecDepth 20000 in
theorem ggX11_about_X9_formAt : GoodIn wsX11_about wsX9_formAt := goodIn_r _ [11, 12, 13, 29, 30, 31, 32, 33] (by decide +kernel) (by decide +kernel)
set_option maxRecDepth 20000 in
theorem gX11_about_X9_formAt : GoodIn wsX11_about (wsV RX11 107 RX9 yX9_formAt wsX9_formAt) := goodIn_app (goodIn_of _ (by decide +kernel)) ggX11_about_X9_formAt
set_option maxRecDepth 20000 in
theorem ggX11_count_X0_price : GoodIn wsX11_count wsX0_price := goodIn_r _ [17, 18, 19, 20, 21, 22, 41, 42, 43, 50, 51, 52, 53, 54, 55, 56, 57, 58, 59, 60, 61, 62, 63, 64, 65, 66] (by decide +kernel) (by decide +kernel)
set_option maxRecDepth 20000 in
theorem gX11_count_X0_price : GoodIn wsX11_count (wsV RX11 253 RX0 yX0_price wsX0_price) := goodIn_app (goodIn_of _ (by decide +kernel)) ggX11_count_X0_price
set_option maxRecDepth 20000 in
theorem ggX11_isKind_X11_within : GoodIn wsX11_isKind wsX11_within := goodIn_r _ [4] (by decide +kernel) (by decide +kernel)
set_option maxRecDepth 20000 in
theorem gX11_isKind_X11_within : GoodIn wsX11_isKind (va_wsS RX11 63 yX11_within wsX11_within) := goodIn_app (goodIn_of _ (by decide +kernel)) ggX11_isKind_X11_within
set_option maxRecDepth 20000 in
theorem ggX11_isStem_X11_within : GoodIn wsX11_isStem wsX11_within := goodIn_r _ [4] (by decide +kernel) (by decide +kernel)
set_option maxRecDepth 20000 in
theorem gX11_isStem_X11_within : GoodIn wsX11_isStem (va_wsS RX11 63 yX11_within wsX11_within) := goodIn_app (goodIn_of _ (by decide +kernel)) ggX11_isStem_X11_within
set_option maxRecDepth 20000 in
theorem ggX11_isCost_X11_within : GoodIn wsX11_isCost wsX11_within := goodIn_r _ [4] (by decide +kernel) (by decide +kernel)
set_option maxRecDepth 20000 in
theorem gX11_isCost_X11_within : GoodIn wsX11_isCost (va_wsS RX11 63 yX11_within wsX11_within) := goodIn_app (goodIn_of _ (by decide +kernel)) ggX11_isCost_X11_within
set_option maxRecDepth 20000 in
theorem ggX11_isDay_X11_within : GoodIn wsX11_isDay wsX11_within := goodIn_r _ [4] (by decide +kernel) (by decide +kernel)
set_option maxRecDepth 20000 in
theorem gX11_isDay_X11_within : GoodIn wsX11_isDay (va_wsS RX11 63 yX11_within wsX11_within) := goodIn_app (goodIn_of _ (by decide +kernel)) ggX11_isDay_X11_within
set_option maxRecDepth 20000 in
theorem ggX11_rulesBetween_X9_formAt : GoodIn wsX11_rulesBetween wsX9_formAt := goodIn_r _ [8, 9, 10, 41, 42, 43, 44, 45] (by decide +kernel) (by decide +kernel)
set_option maxRecDepth 20000 in
theorem gX11_rulesBetween_X9_formAt : GoodIn wsX11_rulesBetween (wsV RX11 107 RX9 yX9_formAt wsX9_formAt) := goodIn_app (goodIn_of _ (by decide +kernel)) ggX11_rulesBetween_X9_formAt
set_option maxRecDepth 20000 in
theorem ggX11_rulesBetween_X11_isDay : GoodIn wsX11_rulesBetween wsX11_isDay := goodIn_r _ [14, 15, 16, 13, 17] (by decide +kernel) (by decide +kernel)
set_option maxRecDepth 20000 in
theorem gX11_rulesBetween_X11_isDay : GoodIn wsX11_rulesBetween (va_wsS RX11 95 yX11_isDay wsX11_isDay) := goodIn_app (goodIn_of _ (by decide +kernel)) ggX11_rulesBetween_X11_isDay
set_option maxRecDepth 20000 in
theorem ggX11_rulesBetween_X9_rulesInForce : GoodIn wsX11_rulesBetween wsX9_rulesInForce := goodIn_r _ [21, 22, 23, 24, 25, 41, 42, 43, 44, 45, 46, 47, 48, 49, 50, 51, 52, 53, 54] (by decide +kernel) (by decide +kernel)
set_option maxRecDepth 20000 in
theorem gX11_rulesBetween_X9_rulesInForce : GoodIn wsX11_rulesBetween (wsV RX11 271 RX9 yX9_rulesInForce wsX9_rulesInForce) := goodIn_app (goodIn_of _ (by decide +kernel)) ggX11_rulesBetween_X9_rulesInForce
set_option maxRecDepth 20000 in
theorem ggX11_canFollow_X9_rulesInForce : GoodIn wsX11_canFollow wsX9_rulesInForce := goodIn_r _ [14, 15, 16, 17, 18, 71, 72, 73, 74, 75, 62, 63, 64, 65, 66, 67, 68, 69, 70] (by decide +kernel) (by decide +kernel)
set_option maxRecDepth 20000 in
theorem gX11_canFollow_X9_rulesInForce : GoodIn wsX11_canFollow (wsV RX11 271 RX9 yX9_rulesInForce wsX9_rulesInForce) := goodIn_app (goodIn_of _ (by decide +kernel)) ggX11_canFollow_X9_rulesInForce
set_option maxRecDepth 20000 in
theorem ggX11_canFollow_X9_ruleAt : GoodIn wsX11_canFollow wsX9_ruleAt := goodIn_r _ [22, 15, 16, 71, 72, 73, 74, 75] (by decide +kernel) (by decide +kernel)
set_option maxRecDepth 20000 in
theorem gX11_canFollow_X9_ruleAt : GoodIn wsX11_canFollow (wsV RX11 157 RX9 yX9_ruleAt wsX9_ruleAt) := goodIn_app (goodIn_of _ (by decide +kernel)) ggX11_canFollow_X9_ruleAt
set_option maxRecDepth 20000 in
theorem ggX11_canFollow_X11_hasRule : GoodIn wsX11_canFollow wsX11_hasRule := goodIn_r _ [26] (by decide +kernel) (by decide +kernel)
set_option maxRecDepth 20000 in
theorem gX11_canFollow_X11_hasRule : GoodIn wsX11_canFollow (va_wsS RX11 131 yX11_hasRule wsX11_hasRule) := goodIn_app (goodIn_of _ (by decide +kernel)) ggX11_canFollow_X11_hasRule
set_option maxRecDepth 20000 in
theorem ggX11_canFollow_X0_lastCut : GoodIn wsX11_canFollow wsX0_lastCut := goodIn_r _ [31, 32, 33, 34, 35, 30, 36, 37, 38, 39, 40, 41, 42, 76, 77, 78, 62, 63, 64, 65, 66, 67, 68, 69, 70] (by decide +kernel) (by decide +kernel)
set_option maxRecDepth 20000 in
theorem gX11_canFollow_X0_lastCut : GoodIn wsX11_canFollow (wsV RX11 274 RX0 yX0_lastCut wsX0_lastCut) := goodIn_app (goodIn_of _ (by decide +kernel)) ggX11_canFollow_X0_lastCut
