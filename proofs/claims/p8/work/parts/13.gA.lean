set_option maxRecDepth 20000 in
theorem ggX12_feed_X12_four : GoodIn wsX12_feed wsX12_four := goodIn_r _ [6, 7, 1, 8, 9, 10, 11, 12, 13, 14, 15, 16, 17, 18, 19, 20, 21, 22, 23, 24, 25, 26, 27, 28, 29, 30, 31, 32, 33, 34, 35, 36, 37, 38, 39, 40, 41, 42, 43, 44, 45, 46, 47, 48, 49, 50, 51, 52, 53, 54, 55, 56] (by decide +kernel) (by decide +kernel)
set_option maxRecDepth 20000 in
theorem gX12_feed_X12_four : GoodIn wsX12_feed (wsV RX12 123 RX12 yX12_four wsX12_four) := goodIn_app (goodIn_of _ (by decide +kernel)) ggX12_feed_X12_four
set_option maxRecDepth 20000 in
theorem ggX12_form_X12_isText : GoodIn wsX12_form wsX12_isText := goodIn_r _ [14, 1, 4, 18, 19, 20, 21, 22, 23, 24, 25, 26, 27, 28, 29, 30, 31, 32, 33, 34, 35, 36, 37, 38, 39, 40, 41, 42, 43, 44, 45, 46, 47, 48, 49, 50, 51, 52, 53, 54, 55, 56, 57, 58, 59, 60, 61, 62, 63, 64, 65, 66] (by decide +kernel) (by decide +kernel)
set_option maxRecDepth 20000 in
theorem gX12_form_X12_isText : GoodIn wsX12_form (wsV RX12 127 RX12 yX12_isText wsX12_isText) := goodIn_app (goodIn_of _ (by decide +kernel)) ggX12_form_X12_isText
set_option maxRecDepth 20000 in
theorem ggX12_form_X12_in : GoodIn wsX12_form wsX12_in := goodIn_r _ [17] (by decide +kernel) (by decide +kernel)
set_option maxRecDepth 20000 in
theorem gX12_form_X12_in : GoodIn wsX12_form (va_wsS RX12 134 yX12_in wsX12_in) := goodIn_app (goodIn_of _ (by decide +kernel)) ggX12_form_X12_in
set_option maxRecDepth 20000 in
theorem ggX12_rule_X12_isText : GoodIn wsX12_rule wsX12_isText := goodIn_r _ [15, 1, 4, 19, 20, 21, 22, 23, 24, 25, 26, 27, 28, 29, 30, 31, 32, 33, 34, 35, 36, 37, 38, 39, 40, 41, 42, 43, 44, 45, 46, 47, 48, 49, 50, 51, 52, 53, 54, 55, 56, 57, 58, 59, 60, 61, 62, 63, 64, 65, 66, 67] (by decide +kernel) (by decide +kernel)
set_option maxRecDepth 20000 in
theorem gX12_rule_X12_isText : GoodIn wsX12_rule (wsV RX12 127 RX12 yX12_isText wsX12_isText) := goodIn_app (goodIn_of _ (by decide +kernel)) ggX12_rule_X12_isText
set_option maxRecDepth 20000 in
theorem ggX12_rule_X12_in : GoodIn wsX12_rule wsX12_in := goodIn_r _ [18] (by decide +kernel) (by decide +kernel)
set_option maxRecDepth 20000 in
theorem gX12_rule_X12_in : GoodIn wsX12_rule (va_wsS RX12 134 yX12_in wsX12_in) := goodIn_app (goodIn_of _ (by decide +kernel)) ggX12_rule_X12_in
set_option maxRecDepth 20000 in
theorem ggX12_isForm_X12_in : GoodIn wsX12_isForm wsX12_in := goodIn_r _ [5] (by decide +kernel) (by decide +kernel)
set_option maxRecDepth 20000 in
theorem gX12_isForm_X12_in : GoodIn wsX12_isForm (va_wsS RX12 134 yX12_in wsX12_in) := goodIn_app (goodIn_of _ (by decide +kernel)) ggX12_isForm_X12_in
set_option maxRecDepth 20000 in
theorem ggX12_cost_X12_isForm : GoodIn wsX12_cost wsX12_isForm := goodIn_r _ [6, 7, 8, 9, 5, 10, 11, 12, 13, 14, 15, 16, 17, 18, 19, 20, 21, 22, 23, 24, 25, 26, 27, 28, 29, 30, 31, 32, 33, 34, 35, 36, 37, 38, 39, 40, 41, 42, 43, 44, 45, 46, 47, 48, 49, 50, 51, 52, 53, 54, 55, 56, 57, 58, 59] (by decide +kernel) (by decide +kernel)
set_option maxRecDepth 20000 in
theorem gX12_cost_X12_isForm : GoodIn wsX12_cost (wsV RX12 141 RX12 yX12_isForm wsX12_isForm) := goodIn_app (goodIn_of _ (by decide +kernel)) ggX12_cost_X12_isForm
set_option maxRecDepth 20000 in
theorem ggX12_cost_X12_in : GoodIn wsX12_cost wsX12_in := goodIn_r _ [10] (by decide +kernel) (by decide +kernel)
set_option maxRecDepth 20000 in
theorem gX12_cost_X12_in : GoodIn wsX12_cost (va_wsS RX12 134 yX12_in wsX12_in) := goodIn_app (goodIn_of _ (by decide +kernel)) ggX12_cost_X12_in
set_option maxRecDepth 20000 in
theorem ggX12_isKind_X12_in : GoodIn wsX12_isKind wsX12_in := goodIn_r _ [4] (by decide +kernel) (by decide +kernel)
set_option maxRecDepth 20000 in
theorem gX12_isKind_X12_in : GoodIn wsX12_isKind (va_wsS RX12 134 yX12_in wsX12_in) := goodIn_app (goodIn_of _ (by decide +kernel)) ggX12_isKind_X12_in
set_option maxRecDepth 20000 in
theorem ggX12_meets_X12_isKind : GoodIn wsX12_meets wsX12_isKind := goodIn_r _ [5, 6, 7, 4, 8] (by decide +kernel) (by decide +kernel)
set_option maxRecDepth 20000 in
theorem gX12_meets_X12_isKind : GoodIn wsX12_meets (va_wsS RX12 145 yX12_isKind wsX12_isKind) := goodIn_app (goodIn_of _ (by decide +kernel)) ggX12_meets_X12_isKind
set_option maxRecDepth 20000 in
theorem ggX12_becomes_X12_isKind : GoodIn wsX12_becomes wsX12_isKind := goodIn_r _ [5, 6, 7, 4, 8] (by decide +kernel) (by decide +kernel)
set_option maxRecDepth 20000 in
theorem gX12_becomes_X12_isKind : GoodIn wsX12_becomes (va_wsS RX12 145 yX12_isKind wsX12_isKind) := goodIn_app (goodIn_of _ (by decide +kernel)) ggX12_becomes_X12_isKind
set_option maxRecDepth 20000 in
theorem ggX12_becomes_X12_in : GoodIn wsX12_becomes wsX12_in := goodIn_r _ [8] (by decide +kernel) (by decide +kernel)
set_option maxRecDepth 20000 in
theorem gX12_becomes_X12_in : GoodIn wsX12_becomes (va_wsS RX12 134 yX12_in wsX12_in) := goodIn_app (goodIn_of _ (by decide +kernel)) ggX12_becomes_X12_in
set_option maxRecDepth 20000 in
theorem ggX12_isDay_X12_in : GoodIn wsX12_isDay wsX12_in := goodIn_r _ [4] (by decide +kernel) (by decide +kernel)
set_option maxRecDepth 20000 in
theorem gX12_isDay_X12_in : GoodIn wsX12_isDay (va_wsS RX12 134 yX12_in wsX12_in) := goodIn_app (goodIn_of _ (by decide +kernel)) ggX12_isDay_X12_in
set_option maxRecDepth 20000 in
theorem ggX12_fits_X12_isForm : GoodIn wsX12_fits wsX12_isForm := goodIn_r _ [6, 7, 8, 9, 5, 10, 26, 27, 28, 29, 30, 31, 32, 33, 34, 35, 36, 37, 38, 39, 40, 41, 42, 43, 44, 45, 46, 47, 48, 49, 50, 51, 52, 53, 54, 55, 56, 57, 58, 59, 60, 61, 62, 63, 64, 65, 66, 67, 68, 69, 70, 71, 72, 73, 74] (by decide +kernel) (by decide +kernel)
set_option maxRecDepth 20000 in
theorem gX12_fits_X12_isForm : GoodIn wsX12_fits (wsV RX12 141 RX12 yX12_isForm wsX12_isForm) := goodIn_app (goodIn_of _ (by decide +kernel)) ggX12_fits_X12_isForm
set_option maxRecDepth 20000 in
theorem ggX12_fits_X12_isDay : GoodIn wsX12_fits wsX12_isDay := goodIn_r _ [13, 8, 9, 5, 10] (by decide +kernel) (by decide +kernel)
set_option maxRecDepth 20000 in
theorem gX12_fits_X12_isDay : GoodIn wsX12_fits (va_wsS RX12 148 yX12_isDay wsX12_isDay) := goodIn_app (goodIn_of _ (by decide +kernel)) ggX12_fits_X12_isDay
set_option maxRecDepth 20000 in
theorem ggX12_fits_X12_fitsTwo : GoodIn wsX12_fits wsX12_fitsTwo := goodIn_r _ [17, 18, 19, 20, 21, 22, 23, 24, 25, 26, 27, 28, 29, 30, 31, 32, 33, 34, 35, 36, 37, 38, 39, 40, 41, 42, 43, 44, 45, 46, 47, 48, 49, 50, 51, 52, 53, 54, 55, 56, 57, 58, 59, 60, 61, 62, 63, 64, 65, 66, 67, 68, 69, 70, 71, 72, 73, 74] (by decide +kernel) (by decide +kernel)
set_option maxRecDepth 20000 in
theorem gX12_fits_X12_fitsTwo : GoodIn wsX12_fits (wsV RX12 151 RX12 yX12_fitsTwo wsX12_fitsTwo) := goodIn_app (goodIn_of _ (by decide +kernel)) ggX12_fits_X12_fitsTwo
set_option maxRecDepth 20000 in
theorem ggX12_fitting_X12_isForm : GoodIn wsX12_fitting wsX12_isForm := goodIn_r _ [6, 7, 8, 9, 5, 10, 26, 27, 28, 29, 30, 31, 32, 33, 34, 35, 36, 37, 38, 39, 40, 41, 42, 43, 44, 45, 46, 47, 48, 49, 50, 51, 52, 53, 54, 55, 56, 57, 58, 59, 60, 61, 62, 63, 64, 65, 66, 67, 68, 69, 70, 71, 72, 73, 74] (by decide +kernel) (by decide +kernel)
set_option maxRecDepth 20000 in
theorem gX12_fitting_X12_isForm : GoodIn wsX12_fitting (wsV RX12 141 RX12 yX12_isForm wsX12_isForm) := goodIn_app (goodIn_of _ (by decide +kernel)) ggX12_fitting_X12_isForm
set_option maxRecDepth 20000 in
theorem ggX12_fitting_X12_isDay : GoodIn wsX12_fitting wsX12_isDay := goodIn_r _ [13, 8, 9, 5, 10] (by decide +kernel) (by decide +kernel)
set_option maxRecDepth 20000 in
theorem gX12_fitting_X12_isDay : GoodIn wsX12_fitting (va_wsS RX12 148 yX12_isDay wsX12_isDay) := goodIn_app (goodIn_of _ (by decide +kernel)) ggX12_fitting_X12_isDay
set_option maxRecDepth 20000 in
theorem ggX12_fitting_X12_fitsTwo : GoodIn wsX12_fitting wsX12_fitsTwo := goodIn_r _ [17, 18, 19, 20, 21, 22, 23, 24, 25, 26, 27, 28, 29, 30, 31, 32, 33, 34, 35, 36, 37, 38, 39, 40, 41, 42, 43, 44, 45, 46, 47, 48, 49, 50, 51, 52, 53, 54, 55, 56, 57, 58, 59, 60, 61, 62, 63, 64, 65, 66, 67, 68, 69, 70, 71, 72, 73, 74] (by decide +kernel) (by decide +kernel)
set_option maxRecDepth 20000 in
theorem gX12_fitting_X12_fitsTwo : GoodIn wsX12_fitting (wsV RX12 151 RX12 yX12_fitsTwo wsX12_fitsTwo) := goodIn_app (goodIn_of _ (by decide +kernel)) ggX12_fitting_X12_fitsTwo
set_option maxRecDepth 20000 in
theorem ggX12_row_X12_isDay : GoodIn wsX12_row wsX12_isDay := goodIn_r _ [6, 7, 8, 5, 9] (by decide +kernel) (by decide +kernel)
set_option maxRecDepth 20000 in
theorem gX12_row_X12_isDay : GoodIn wsX12_row (va_wsS RX12 148 yX12_isDay wsX12_isDay) := goodIn_app (goodIn_of _ (by decide +kernel)) ggX12_row_X12_isDay
set_option maxRecDepth 20000 in
theorem ggX12_joins_X12_isForm : GoodIn wsX12_joins wsX12_isForm := goodIn_r _ [13, 14, 15, 16, 12, 17, 38, 39, 40, 41, 42, 43, 44, 45, 46, 47, 48, 49, 50, 51, 52, 53, 54, 55, 56, 57, 58, 59, 60, 61, 62, 63, 64, 65, 66, 67, 68, 69, 70, 71, 72, 73, 74, 75, 76, 77, 78, 79, 80, 81, 82, 83, 84, 85, 86] (by decide +kernel) (by decide +kernel)
set_option maxRecDepth 20000 in
theorem gX12_joins_X12_isForm : GoodIn wsX12_joins (wsV RX12 141 RX12 yX12_isForm wsX12_isForm) := goodIn_app (goodIn_of _ (by decide +kernel)) ggX12_joins_X12_isForm
set_option maxRecDepth 20000 in
theorem ggX12_joins_X12_fits : GoodIn wsX12_joins wsX12_fits := goodIn_r _ [21, 4, 9, 10, 11, 12, 13, 14, 15, 16, 17, 22, 23, 24, 25, 26, 27, 28, 29, 30, 31, 5, 6, 7, 32, 33, 38, 39, 40, 41, 42, 43, 44, 45, 46, 47, 48, 49, 50, 51, 52, 53, 54, 55, 56, 57, 58, 59, 60, 61, 62, 63, 64, 65, 66, 67, 68, 69, 70, 71, 72, 73, 74, 75, 76, 77, 78, 79, 80, 81, 82, 83, 84, 85, 86] (by decide +kernel) (by decide +kernel)
set_option maxRecDepth 20000 in
theorem gX12_joins_X12_fits : GoodIn wsX12_joins (wsV RX12 161 RX12 yX12_fits wsX12_fits) := goodIn_app (goodIn_of _ (by decide +kernel)) ggX12_joins_X12_fits
set_option maxRecDepth 20000 in
theorem ggX12_joins_X12_in : GoodIn wsX12_joins wsX12_in := goodIn_r _ [17] (by decide +kernel) (by decide +kernel)
set_option maxRecDepth 20000 in
theorem gX12_joins_X12_in : GoodIn wsX12_joins (va_wsS RX12 134 yX12_in wsX12_in) := goodIn_app (goodIn_of _ (by decide +kernel)) ggX12_joins_X12_in
set_option maxRecDepth 20000 in
theorem ggX12_joins_X12_fitsTwo : GoodIn wsX12_joins wsX12_fitsTwo := goodIn_r _ [28, 29, 30, 31, 5, 6, 7, 32, 33, 38, 39, 40, 41, 42, 43, 44, 45, 46, 47, 48, 49, 50, 51, 52, 53, 54, 55, 56, 57, 58, 59, 60, 61, 62, 63, 64, 65, 66, 67, 68, 69, 70, 71, 72, 73, 74, 75, 76, 77, 78, 79, 80, 81, 82, 83, 84, 85, 86] (by decide +kernel) (by decide +kernel)
set_option maxRecDepth 20000 in
theorem gX12_joins_X12_fitsTwo : GoodIn wsX12_joins (wsV RX12 151 RX12 yX12_fitsTwo wsX12_fitsTwo) := goodIn_app (goodIn_of _ (by decide +kernel)) ggX12_joins_X12_fitsTwo
set_option maxRecDepth 20000 in
theorem ggX12_joins_X12_cutOf : GoodIn wsX12_joins wsX12_cutOf := goodIn_r _ [37, 8, 7, 38, 39, 40, 41, 42, 43, 44, 45, 46, 47, 48, 49, 50, 51, 52, 53, 54, 55, 56, 57, 58, 59, 60, 61, 62, 63, 64, 65, 66, 67, 68, 69, 70, 71, 72, 73, 74, 75, 76, 77, 78, 79, 80, 81, 82, 83, 84, 85, 86] (by decide +kernel) (by decide +kernel)
set_option maxRecDepth 20000 in
theorem gX12_joins_X12_cutOf : GoodIn wsX12_joins (wsV RX12 165 RX12 yX12_cutOf wsX12_cutOf) := goodIn_app (goodIn_of _ (by decide +kernel)) ggX12_joins_X12_cutOf
set_option maxRecDepth 20000 in
theorem ggX12_joined_X12_puts : GoodIn wsX12_joined wsX12_puts := goodIn_r _ [15, 16, 1, 21, 22, 23, 24, 25, 26, 27, 28, 29, 30, 31, 32, 33, 34, 35, 36, 37, 38, 39, 40, 41, 42, 43, 44, 45, 46, 47, 48, 49, 50, 51, 52, 53, 54, 55, 56, 57, 58, 59, 60, 61, 62, 63, 64, 65, 66, 67, 68, 69] (by decide +kernel) (by decide +kernel)
set_option maxRecDepth 20000 in
theorem gX12_joined_X12_puts : GoodIn wsX12_joined (wsV RX12 172 RX12 yX12_puts wsX12_puts) := goodIn_app (goodIn_of _ (by decide +kernel)) ggX12_joined_X12_puts
set_option maxRecDepth 20000 in
theorem ggX12_joined_X12_cutOf : GoodIn wsX12_joined wsX12_cutOf := goodIn_r _ [20, 4, 8, 21, 22, 23, 24, 25, 26, 27, 28, 29, 30, 31, 32, 33, 34, 35, 36, 37, 38, 39, 40, 41, 42, 43, 44, 45, 46, 47, 48, 49, 50, 51, 52, 53, 54, 55, 56, 57, 58, 59, 60, 61, 62, 63, 64, 65, 66, 67, 68, 69] (by decide +kernel) (by decide +kernel)
set_option maxRecDepth 20000 in
theorem gX12_joined_X12_cutOf : GoodIn wsX12_joined (wsV RX12 165 RX12 yX12_cutOf wsX12_cutOf) := goodIn_app (goodIn_of _ (by decide +kernel)) ggX12_joined_X12_cutOf
set_option maxRecDepth 20000 in
theorem ggX12_letter_X12_in : GoodIn wsX12_letter wsX12_in := goodIn_r _ [6] (by decide +kernel) (by decide +kernel)
set_option maxRecDepth 20000 in
theorem gX12_letter_X12_in : GoodIn wsX12_letter (va_wsS RX12 134 yX12_in wsX12_in) := goodIn_app (goodIn_of _ (by decide +kernel)) ggX12_letter_X12_in
set_option maxRecDepth 20000 in
theorem ggX12_passes_X12_behind : GoodIn wsX12_passes wsX12_behind := goodIn_r _ [12, 4, 13, 7, 14, 15, 16, 17, 18, 19, 20, 21, 22, 23, 24, 25, 26, 27, 28, 29, 30, 31, 32, 33, 34, 35, 36, 37, 38, 39, 40, 41, 42, 43, 44, 45, 46, 47, 48, 49, 50, 51, 52, 53, 54, 55, 56, 57, 58, 59, 60, 61, 62] (by decide +kernel) (by decide +kernel)
set_option maxRecDepth 20000 in
theorem gX12_passes_X12_behind : GoodIn wsX12_passes (wsV RX12 178 RX12 yX12_behind wsX12_behind) := goodIn_app (goodIn_of _ (by decide +kernel)) ggX12_passes_X12_behind
set_option maxRecDepth 20000 in
theorem ggX12_reaches_X12_placeOf : GoodIn wsX12_reaches wsX12_placeOf := goodIn_r _ [7] (by decide +kernel) (by decide +kernel)
set_option maxRecDepth 20000 in
theorem gX12_reaches_X12_placeOf : GoodIn wsX12_reaches (va_wsS RX12 186 yX12_placeOf wsX12_placeOf) := goodIn_app (goodIn_of _ (by decide +kernel)) ggX12_reaches_X12_placeOf
set_option maxRecDepth 20000 in
theorem ggX12_reaches_X12_goesOn : GoodIn wsX12_reaches wsX12_goesOn := goodIn_r _ [11, 2, 12, 1, 13, 14, 15, 16, 6, 17, 18, 19, 20, 21, 22, 23, 24, 25, 26, 27, 28, 3, 29, 30, 31, 32, 33, 34, 35, 4, 5, 7, 36, 37, 38, 39, 40, 41, 42, 43, 44, 45, 46, 47, 48, 49, 50, 51, 52, 53, 54, 55, 56, 57, 58, 59, 60, 61, 62, 63, 64, 65, 66, 67, 68, 69, 70, 71, 72, 73, 74, 75, 76, 77, 78, 79, 80, 81, 82, 83, 84] (by decide +kernel) (by decide +kernel)
set_option maxRecDepth 20000 in
theorem gX12_reaches_X12_goesOn : GoodIn wsX12_reaches (wsV RX12 189 RX12 yX12_goesOn wsX12_goesOn) := goodIn_app (goodIn_of _ (by decide +kernel)) ggX12_reaches_X12_goesOn
set_option maxRecDepth 20000 in
theorem ggX12_goesOn_X12_isBetween : GoodIn wsX12_goesOn wsX12_isBetween := goodIn_r _ [9, 10, 11, 12, 13, 4, 14, 32, 33, 34, 35, 36, 37, 38, 39, 40, 41, 42, 43, 44, 45, 46, 47, 48, 49, 50, 51, 52, 53, 54, 55, 56, 57, 58, 59, 60, 61, 62, 63, 64, 65, 66, 67, 68, 69, 70, 71, 72, 73, 74, 75, 76, 77, 78, 79, 80] (by decide +kernel) (by decide +kernel)
set_option maxRecDepth 20000 in
theorem gX12_goesOn_X12_isBetween : GoodIn wsX12_goesOn (wsV RX12 193 RX12 yX12_isBetween wsX12_isBetween) := goodIn_app (goodIn_of _ (by decide +kernel)) ggX12_goesOn_X12_isBetween
set_option maxRecDepth 20000 in
theorem ggX12_goesOn_X12_passes : GoodIn wsX12_goesOn wsX12_passes := goodIn_r _ [18, 14, 19, 20, 21, 22, 4, 23, 24, 25, 26, 8, 27, 28, 32, 33, 34, 35, 36, 37, 38, 39, 40, 41, 42, 43, 44, 45, 46, 47, 48, 49, 50, 51, 52, 53, 54, 55, 56, 57, 58, 59, 60, 61, 62, 63, 64, 65, 66, 67, 68, 69, 70, 71, 72, 73, 74, 75, 76, 77, 78, 79, 80] (by decide +kernel) (by decide +kernel)
set_option maxRecDepth 20000 in
theorem gX12_goesOn_X12_passes : GoodIn wsX12_goesOn (wsV RX12 196 RX12 yX12_passes wsX12_passes) := goodIn_app (goodIn_of _ (by decide +kernel)) ggX12_goesOn_X12_passes
set_option maxRecDepth 20000 in
theorem ggX12_goesOn_X12_placeOf : GoodIn wsX12_goesOn wsX12_placeOf := goodIn_r _ [31] (by decide +kernel) (by decide +kernel)
set_option maxRecDepth 20000 in
theorem gX12_goesOn_X12_placeOf : GoodIn wsX12_goesOn (va_wsS RX12 186 yX12_placeOf wsX12_placeOf) := goodIn_app (goodIn_of _ (by decide +kernel)) ggX12_goesOn_X12_placeOf
set_option maxRecDepth 20000 in
theorem ggX12_counts_X12_placeOf : GoodIn wsX12_counts wsX12_placeOf := goodIn_r _ [14] (by decide +kernel) (by decide +kernel)
set_option maxRecDepth 20000 in
theorem gX12_counts_X12_placeOf : GoodIn wsX12_counts (va_wsS RX12 186 yX12_placeOf wsX12_placeOf) := goodIn_app (goodIn_of _ (by decide +kernel)) ggX12_counts_X12_placeOf
set_option maxRecDepth 20000 in
theorem ggX12_counts_X12_behind : GoodIn wsX12_counts wsX12_behind := goodIn_r _ [18, 4, 19, 20, 47, 48, 49, 50, 51, 52, 53, 54, 55, 56, 57, 58, 59, 60, 61, 62, 63, 64, 65, 66, 67, 68, 69, 70, 71, 72, 73, 74, 75, 76, 77, 78, 79, 80, 81, 82, 83, 84, 85, 86, 87, 88, 89, 90, 91, 92, 93, 94, 95] (by decide +kernel) (by decide +kernel)
set_option maxRecDepth 20000 in
theorem gX12_counts_X12_behind : GoodIn wsX12_counts (wsV RX12 178 RX12 yX12_behind wsX12_behind) := goodIn_app (goodIn_of _ (by decide +kernel)) ggX12_counts_X12_behind
set_option maxRecDepth 20000 in
theorem ggX12_counts_X12_keeps : GoodIn wsX12_counts wsX12_keeps := goodIn_r _ [24, 2, 10, 47, 48, 49, 50, 51, 52, 53, 54, 55, 56, 57, 58, 59, 60, 61, 62, 63, 64, 65, 66, 67, 68, 69, 70, 71, 72, 73, 74, 75, 76, 77, 78, 79, 80, 81, 82, 83, 84, 85, 86, 87, 88, 89, 90, 91, 92, 93, 94, 95] (by decide +kernel) (by decide +kernel)
set_option maxRecDepth 20000 in
theorem gX12_counts_X12_keeps : GoodIn wsX12_counts (wsV RX12 201 RX12 yX12_keeps wsX12_keeps) := goodIn_app (goodIn_of _ (by decide +kernel)) ggX12_counts_X12_keeps
set_option maxRecDepth 20000 in
theorem ggX12_counts_X12_isBetween : GoodIn wsX12_counts wsX12_isBetween := goodIn_r _ [28, 29, 30, 31, 32, 8, 3, 47, 48, 49, 50, 51, 52, 53, 54, 55, 56, 57, 58, 59, 60, 61, 62, 63, 64, 65, 66, 67, 68, 69, 70, 71, 72, 73, 74, 75, 76, 77, 78, 79, 80, 81, 82, 83, 84, 85, 86, 87, 88, 89, 90, 91, 92, 93, 94, 95] (by decide +kernel) (by decide +kernel)
set_option maxRecDepth 20000 in
theorem gX12_counts_X12_isBetween : GoodIn wsX12_counts (wsV RX12 193 RX12 yX12_isBetween wsX12_isBetween) := goodIn_app (goodIn_of _ (by decide +kernel)) ggX12_counts_X12_isBetween
set_option maxRecDepth 20000 in
theorem ggX12_counts_X12_passes : GoodIn wsX12_counts wsX12_passes := goodIn_r _ [36, 3, 37, 38, 4, 39, 8, 20, 15, 16, 17, 13, 18, 19, 47, 48, 49, 50, 51, 52, 53, 54, 55, 56, 57, 58, 59, 60, 61, 62, 63, 64, 65, 66, 67, 68, 69, 70, 71, 72, 73, 74, 75, 76, 77, 78, 79, 80, 81, 82, 83, 84, 85, 86, 87, 88, 89, 90, 91, 92, 93, 94, 95] (by decide +kernel) (by decide +kernel)
set_option maxRecDepth 20000 in
theorem gX12_counts_X12_passes : GoodIn wsX12_counts (wsV RX12 196 RX12 yX12_passes wsX12_passes) := goodIn_app (goodIn_of _ (by decide +kernel)) ggX12_counts_X12_passes
set_option maxRecDepth 20000 in
theorem ggX12_counts_X12_plus : GoodIn wsX12_counts wsX12_plus := goodIn_r _ [42, 43] (by decide +kernel) (by decide +kernel)
set_option maxRecDepth 20000 in
theorem gX12_counts_X12_plus : GoodIn wsX12_counts (va_wsS RX12 205 yX12_plus wsX12_plus) := goodIn_app (goodIn_of _ (by decide +kernel)) ggX12_counts_X12_plus
set_option maxRecDepth 20000 in
theorem ggX12_counts_X12_costOf : GoodIn wsX12_counts wsX12_costOf := goodIn_r _ [46] (by decide +kernel) (by decide +kernel)
set_option maxRecDepth 20000 in
theorem gX12_counts_X12_costOf : GoodIn wsX12_counts (va_wsS RX12 209 yX12_costOf wsX12_costOf) := goodIn_app (goodIn_of _ (by decide +kernel)) ggX12_counts_X12_costOf
set_option maxRecDepth 20000 in
theorem ggX12_partings_X12_reaches : GoodIn wsX12_partings wsX12_reaches := goodIn_r _ [9, 3, 2, 1, 10, 11, 8, 12, 13, 14, 15, 16, 17, 18, 19, 20, 21, 22, 23, 24, 25, 26, 27, 28, 29, 30, 31, 32, 33, 34, 35, 36, 37, 38, 39, 40, 60, 61, 62, 63, 64, 65, 66, 67, 68, 69, 70, 71, 72, 73, 74, 75, 76, 77, 78, 79, 80, 81, 82, 83, 84, 85, 86, 87, 88, 89, 90, 91, 92, 93, 94, 95, 96, 97, 98, 99, 100, 101, 102, 103, 104, 105, 106, 107, 108] (by decide +kernel) (by decide +kernel)
set_option maxRecDepth 20000 in
theorem gX12_partings_X12_reaches : GoodIn wsX12_partings (wsV RX12 212 RX12 yX12_reaches wsX12_reaches) := goodIn_app (goodIn_of _ (by decide +kernel)) ggX12_partings_X12_reaches
set_option maxRecDepth 20000 in
theorem ggX12_partings_X12_placeOf : GoodIn wsX12_partings wsX12_placeOf := goodIn_r _ [12] (by decide +kernel) (by decide +kernel)
set_option maxRecDepth 20000 in
theorem gX12_partings_X12_placeOf : GoodIn wsX12_partings (va_wsS RX12 186 yX12_placeOf wsX12_placeOf) := goodIn_app (goodIn_of _ (by decide +kernel)) ggX12_partings_X12_placeOf
set_option maxRecDepth 20000 in
theorem ggX12_partings_X12_counts : GoodIn wsX12_partings wsX12_counts := goodIn_r _ [44, 4, 45, 27, 1, 46, 2, 17, 18, 47, 48, 10, 11, 8, 12, 36, 37, 38, 39, 40, 35, 49, 50, 51, 52, 19, 20, 21, 22, 23, 24, 25, 26, 28, 29, 30, 31, 32, 33, 34, 53, 54, 55, 56, 57, 58, 59, 60, 61, 62, 63, 64, 65, 66, 67, 68, 69, 70, 71, 72, 73, 74, 75, 76, 77, 78, 79, 80, 81, 82, 83, 84, 85, 86, 87, 88, 89, 90, 91, 92, 93, 94, 95, 96, 97, 98, 99, 100, 101, 102, 103, 104, 105, 106, 107, 108] (by decide +kernel) (by decide +kernel)
set_option maxRecDepth 20000 in
theorem gX12_partings_X12_counts : GoodIn wsX12_partings (wsV RX12 215 RX12 yX12_counts wsX12_counts) := goodIn_app (goodIn_of _ (by decide +kernel)) ggX12_partings_X12_counts
set_option maxRecDepth 20000 in
theorem ggX12_partings_X12_plus : GoodIn wsX12_partings wsX12_plus := goodIn_r _ [55, 56] (by decide +kernel) (by decide +kernel)
set_option maxRecDepth 20000 in
theorem gX12_partings_X12_plus : GoodIn wsX12_partings (va_wsS RX12 205 yX12_plus wsX12_plus) := goodIn_app (goodIn_of _ (by decide +kernel)) ggX12_partings_X12_plus
set_option maxRecDepth 20000 in
theorem ggX12_tells_X12_placeOf : GoodIn wsX12_tells wsX12_placeOf := goodIn_r _ [11] (by decide +kernel) (by decide +kernel)
set_option maxRecDepth 20000 in
theorem gX12_tells_X12_placeOf : GoodIn wsX12_tells (va_wsS RX12 186 yX12_placeOf wsX12_placeOf) := goodIn_app (goodIn_of _ (by decide +kernel)) ggX12_tells_X12_placeOf
set_option maxRecDepth 20000 in
theorem ggX12_tells_X12_costOf : GoodIn wsX12_tells wsX12_costOf := goodIn_r _ [14] (by decide +kernel) (by decide +kernel)
set_option maxRecDepth 20000 in
theorem gX12_tells_X12_costOf : GoodIn wsX12_tells (va_wsS RX12 209 yX12_costOf wsX12_costOf) := goodIn_app (goodIn_of _ (by decide +kernel)) ggX12_tells_X12_costOf
set_option maxRecDepth 20000 in
theorem ggX12_tells_X12_passes : GoodIn wsX12_tells wsX12_passes := goodIn_r _ [18, 19, 20, 21, 22, 23, 6, 24, 25, 26, 27, 10, 28, 29, 30, 31, 32, 33, 34, 35, 36, 37, 38, 39, 40, 41, 42, 43, 44, 45, 46, 47, 48, 49, 50, 51, 52, 53, 54, 55, 56, 57, 58, 59, 60, 61, 62, 63, 64, 65, 66, 67, 68, 69, 70, 71, 72, 73, 74, 75, 76, 77, 78] (by decide +kernel) (by decide +kernel)
set_option maxRecDepth 20000 in
theorem gX12_tells_X12_passes : GoodIn wsX12_tells (wsV RX12 196 RX12 yX12_passes wsX12_passes) := goodIn_app (goodIn_of _ (by decide +kernel)) ggX12_tells_X12_passes
set_option maxRecDepth 20000 in
theorem ggX12_part_X12_isText : GoodIn wsX12_part wsX12_isText := goodIn_r _ [23, 1, 5, 99, 100, 101, 102, 103, 104, 105, 106, 107, 108, 109, 110, 111, 112, 113, 114, 115, 116, 117, 118, 119, 120, 121, 122, 123, 124, 125, 126, 127, 128, 129, 130, 131, 132, 133, 134, 135, 136, 137, 138, 139, 140, 141, 142, 143, 144, 145, 146, 147] (by decide +kernel) (by decide +kernel)
set_option maxRecDepth 20000 in
theorem gX12_part_X12_isText : GoodIn wsX12_part (wsV RX12 127 RX12 yX12_isText wsX12_isText) := goodIn_app (goodIn_of _ (by decide +kernel)) ggX12_part_X12_isText
set_option maxRecDepth 20000 in
theorem ggX12_part_X12_in : GoodIn wsX12_part wsX12_in := goodIn_r _ [26] (by decide +kernel) (by decide +kernel)
set_option maxRecDepth 20000 in
theorem gX12_part_X12_in : GoodIn wsX12_part (va_wsS RX12 134 yX12_in wsX12_in) := goodIn_app (goodIn_of _ (by decide +kernel)) ggX12_part_X12_in
set_option maxRecDepth 20000 in
theorem ggX12_part_X12_isDay : GoodIn wsX12_part wsX12_isDay := goodIn_r _ [29, 24, 25, 22, 26] (by decide +kernel) (by decide +kernel)
set_option maxRecDepth 20000 in
theorem gX12_part_X12_isDay : GoodIn wsX12_part (va_wsS RX12 148 yX12_isDay wsX12_isDay) := goodIn_app (goodIn_of _ (by decide +kernel)) ggX12_part_X12_isDay
set_option maxRecDepth 20000 in
theorem ggX12_part_X12_fitsTwo : GoodIn wsX12_part wsX12_fitsTwo := goodIn_r _ [33, 34, 35, 36, 37, 38, 39, 40, 41, 99, 100, 101, 102, 103, 104, 105, 106, 107, 108, 109, 110, 111, 112, 113, 114, 115, 116, 117, 118, 119, 120, 121, 122, 123, 124, 125, 126, 127, 128, 129, 130, 131, 132, 133, 134, 135, 136, 137, 138, 139, 140, 141, 142, 143, 144, 145, 146, 147] (by decide +kernel) (by decide +kernel)
set_option maxRecDepth 20000 in
theorem gX12_part_X12_fitsTwo : GoodIn wsX12_part (wsV RX12 151 RX12 yX12_fitsTwo wsX12_fitsTwo) := goodIn_app (goodIn_of _ (by decide +kernel)) ggX12_part_X12_fitsTwo
set_option maxRecDepth 20000 in
theorem ggX12_part_X12_partings : GoodIn wsX12_part wsX12_partings := goodIn_r _ [45, 3, 6, 46, 47, 48, 49, 50, 22, 51, 52, 53, 54, 55, 56, 57, 58, 8, 39, 59, 60, 61, 62, 10, 63, 64, 7, 38, 65, 66, 67, 68, 37, 69, 41, 4, 70, 71, 72, 73, 40, 74, 75, 76, 77, 17, 78, 79, 18, 80, 81, 82, 83, 84, 85, 86, 87, 88, 89, 90, 99, 100, 101, 102, 103, 104, 105, 106, 107, 108, 109, 110, 111, 112, 113, 114, 115, 116, 117, 118, 119, 120, 121, 122, 123, 124, 125, 126, 127, 128, 129, 130, 131, 132, 133, 134, 135, 136, 137, 138, 139, 140, 141, 142, 143, 144, 145, 146, 147] (by decide +kernel) (by decide +kernel)
set_option maxRecDepth 20000 in
theorem gX12_part_X12_partings : GoodIn wsX12_part (wsV RX12 226 RX12 yX12_partings wsX12_partings) := goodIn_app (goodIn_of _ (by decide +kernel)) ggX12_part_X12_partings
set_option maxRecDepth 20000 in
theorem ggX12_part_X12_placeOf : GoodIn wsX12_part wsX12_placeOf := goodIn_r _ [54] (by decide +kernel) (by decide +kernel)
set_option maxRecDepth 20000 in
theorem gX12_part_X12_placeOf : GoodIn wsX12_part (va_wsS RX12 186 yX12_placeOf wsX12_placeOf) := goodIn_app (goodIn_of _ (by decide +kernel)) ggX12_part_X12_placeOf
set_option maxRecDepth 20000 in
theorem ggX12_part_X12_costOf : GoodIn wsX12_part wsX12_costOf := goodIn_r _ [90] (by decide +kernel) (by decide +kernel)
set_option maxRecDepth 20000 in
theorem gX12_part_X12_costOf : GoodIn wsX12_part (va_wsS RX12 209 yX12_costOf wsX12_costOf) := goodIn_app (goodIn_of _ (by decide +kernel)) ggX12_part_X12_costOf
set_option maxRecDepth 20000 in
theorem ggX12_part_X12_tells : GoodIn wsX12_part wsX12_tells := goodIn_r _ [94, 95, 14, 18, 96, 97, 39, 98, 52, 53, 22, 54, 88, 89, 90, 65, 66, 67, 68, 38, 37, 69, 3, 41, 4, 70, 71, 72, 73, 40, 99, 100, 101, 102, 103, 104, 105, 106, 107, 108, 109, 110, 111, 112, 113, 114, 115, 116, 117, 118, 119, 120, 121, 122, 123, 124, 125, 126, 127, 128, 129, 130, 131, 132, 133, 134, 135, 136, 137, 138, 139, 140, 141, 142, 143, 144, 145, 146, 147] (by decide +kernel) (by decide +kernel)
set_option maxRecDepth 20000 in
theorem gX12_part_X12_tells : GoodIn wsX12_part (wsV RX12 241 RX12 yX12_tells wsX12_tells) := goodIn_app (goodIn_of _ (by decide +kernel)) ggX12_part_X12_tells
set_option maxRecDepth 20000 in
theorem ggX12_isTold_X12_in : GoodIn wsX12_isTold wsX12_in := goodIn_r _ [6] (by decide +kernel) (by decide +kernel)
set_option maxRecDepth 20000 in
theorem gX12_isTold_X12_in : GoodIn wsX12_isTold (va_wsS RX12 134 yX12_in wsX12_in) := goodIn_app (goodIn_of _ (by decide +kernel)) ggX12_isTold_X12_in
set_option maxRecDepth 20000 in
theorem ggX12_parting_X12_isTold : GoodIn wsX12_parting wsX12_isTold := goodIn_r _ [7, 8, 9, 10, 11, 6, 12, 13, 14, 15, 16, 17, 18, 19, 20, 21, 22, 23, 24, 25, 26, 27, 28, 29, 30, 31, 32, 33, 34, 35, 36, 37, 38, 39, 40, 41, 42, 43, 44, 45, 46, 47, 48, 49, 50, 51, 52, 53, 54, 55, 56, 57, 58, 59, 60, 61] (by decide +kernel) (by decide +kernel)
set_option maxRecDepth 20000 in
theorem gX12_parting_X12_isTold : GoodIn wsX12_parting (wsV RX12 244 RX12 yX12_isTold wsX12_isTold) := goodIn_app (goodIn_of _ (by decide +kernel)) ggX12_parting_X12_isTold
set_option maxRecDepth 20000 in
theorem ggX12_formOf_X12_isTold : GoodIn wsX12_formOf wsX12_isTold := goodIn_r _ [7, 8, 9, 10, 11, 6, 12, 13, 14, 15, 16, 17, 18, 19, 20, 21, 22, 23, 24, 25, 26, 27, 28, 29, 30, 31, 32, 33, 34, 35, 36, 37, 38, 39, 40, 41, 42, 43, 44, 45, 46, 47, 48, 49, 50, 51, 52, 53, 54, 55, 56, 57, 58, 59, 60, 61] (by decide +kernel) (by decide +kernel)
set_option maxRecDepth 20000 in
theorem gX12_formOf_X12_isTold : GoodIn wsX12_formOf (wsV RX12 244 RX12 yX12_isTold wsX12_isTold) := goodIn_app (goodIn_of _ (by decide +kernel)) ggX12_formOf_X12_isTold
set_option maxRecDepth 20000 in
theorem ggX12_formOf_X12_in : GoodIn wsX12_formOf wsX12_in := goodIn_r _ [12] (by decide +kernel) (by decide +kernel)
set_option maxRecDepth 20000 in
theorem gX12_formOf_X12_in : GoodIn wsX12_formOf (va_wsS RX12 134 yX12_in wsX12_in) := goodIn_app (goodIn_of _ (by decide +kernel)) ggX12_formOf_X12_in
set_option maxRecDepth 20000 in
theorem ggX12_ruleOf_X12_isTold : GoodIn wsX12_ruleOf wsX12_isTold := goodIn_r _ [7, 8, 9, 10, 11, 6, 12, 13, 14, 15, 16, 17, 18, 19, 20, 21, 22, 23, 24, 25, 26, 27, 28, 29, 30, 31, 32, 33, 34, 35, 36, 37, 38, 39, 40, 41, 42, 43, 44, 45, 46, 47, 48, 49, 50, 51, 52, 53, 54, 55, 56, 57, 58, 59, 60, 61] (by decide +kernel) (by decide +kernel)
set_option maxRecDepth 20000 in
theorem gX12_ruleOf_X12_isTold : GoodIn wsX12_ruleOf (wsV RX12 244 RX12 yX12_isTold wsX12_isTold) := goodIn_app (goodIn_of _ (by decide +kernel)) ggX12_ruleOf_X12_isTold
set_option maxRecDepth 20000 in
theorem ggX12_ruleOf_X12_in : GoodIn wsX12_ruleOf wsX12_in := goodIn_r _ [12] (by decide +kernel) (by decide +kernel)
set_option maxRecDepth 20000 in
theorem gX12_ruleOf_X12_in : GoodIn wsX12_ruleOf (va_wsS RX12 134 yX12_in wsX12_in) := goodIn_app (goodIn_of _ (by decide +kernel)) ggX12_ruleOf_X12_in
set_option maxRecDepth 20000 in
theorem ggX12_trees_X12_isTold : GoodIn wsX12_trees wsX12_isTold := goodIn_r _ [11, 12, 13, 14, 15, 10, 16, 27, 28, 29, 30, 31, 32, 33, 34, 35, 36, 37, 38, 39, 40, 41, 42, 43, 44, 45, 46, 47, 48, 49, 50, 51, 52, 53, 54, 55, 56, 57, 58, 59, 60, 61, 62, 63, 64, 65, 66, 67, 68, 69, 70, 71, 72, 73, 74, 75] (by decide +kernel) (by decide +kernel)
set_option maxRecDepth 20000 in
theorem gX12_trees_X12_isTold : GoodIn wsX12_trees (wsV RX12 244 RX12 yX12_isTold wsX12_isTold) := goodIn_app (goodIn_of _ (by decide +kernel)) ggX12_trees_X12_isTold
set_option maxRecDepth 20000 in
theorem ggX12_trees_X12_isKind : GoodIn wsX12_trees wsX12_isKind := goodIn_r _ [19, 14, 15, 10, 16] (by decide +kernel) (by decide +kernel)
set_option maxRecDepth 20000 in
theorem gX12_trees_X12_isKind : GoodIn wsX12_trees (va_wsS RX12 145 yX12_isKind wsX12_isKind) := goodIn_app (goodIn_of _ (by decide +kernel)) ggX12_trees_X12_isKind
set_option maxRecDepth 20000 in
theorem ggX12_trees_X12_times : GoodIn wsX12_trees wsX12_times := goodIn_r _ [22, 23] (by decide +kernel) (by decide +kernel)
set_option maxRecDepth 20000 in
theorem gX12_trees_X12_times : GoodIn wsX12_trees (va_wsS RX12 247 yX12_times wsX12_times) := goodIn_app (goodIn_of _ (by decide +kernel)) ggX12_trees_X12_times
set_option maxRecDepth 20000 in
theorem ggX12_trees_X12_plus : GoodIn wsX12_trees wsX12_plus := goodIn_r _ [26, 23] (by decide +kernel) (by decide +kernel)
set_option maxRecDepth 20000 in
theorem gX12_trees_X12_plus : GoodIn wsX12_trees (va_wsS RX12 205 yX12_plus wsX12_plus) := goodIn_app (goodIn_of _ (by decide +kernel)) ggX12_trees_X12_plus
set_option maxRecDepth 20000 in
theorem ggX12_choose_X12_isTold : GoodIn wsX12_choose wsX12_isTold := goodIn_r _ [15, 16, 17, 18, 19, 14, 20, 21, 22, 23, 24, 25, 26, 27, 28, 29, 30, 31, 32, 33, 34, 35, 36, 37, 38, 39, 40, 41, 42, 43, 44, 45, 46, 47, 48, 49, 50, 51, 52, 53, 54, 55, 56, 57, 58, 59, 60, 61, 62, 63, 64, 65, 66, 67, 68, 69] (by decide +kernel) (by decide +kernel)
set_option maxRecDepth 20000 in
theorem gX12_choose_X12_isTold : GoodIn wsX12_choose (wsV RX12 244 RX12 yX12_isTold wsX12_isTold) := goodIn_app (goodIn_of _ (by decide +kernel)) ggX12_choose_X12_isTold
set_option maxRecDepth 20000 in
theorem ggX12_step_X12_in : GoodIn wsX12_step wsX12_in := goodIn_r _ [5] (by decide +kernel) (by decide +kernel)
set_option maxRecDepth 20000 in
theorem gX12_step_X12_in : GoodIn wsX12_step (va_wsS RX12 134 yX12_in wsX12_in) := goodIn_app (goodIn_of _ (by decide +kernel)) ggX12_step_X12_in
set_option maxRecDepth 20000 in
theorem ggX12_uses_X12_in : GoodIn wsX12_uses wsX12_in := goodIn_r _ [5] (by decide +kernel) (by decide +kernel)
set_option maxRecDepth 20000 in
theorem gX12_uses_X12_in : GoodIn wsX12_uses (va_wsS RX12 134 yX12_in wsX12_in) := goodIn_app (goodIn_of _ (by decide +kernel)) ggX12_uses_X12_in
set_option maxRecDepth 20000 in
theorem ggX12_about_X12_isForm : GoodIn wsX12_about wsX12_isForm := goodIn_r _ [10, 11, 12, 13, 9, 14, 15, 16, 17, 18, 19, 20, 21, 22, 23, 24, 25, 26, 27, 28, 29, 30, 31, 32, 33, 34, 35, 36, 37, 38, 39, 40, 41, 42, 43, 44, 45, 46, 47, 48, 49, 50, 51, 52, 53, 54, 55, 56, 57, 58, 59, 60, 61, 62, 63] (by decide +kernel) (by decide +kernel)
set_option maxRecDepth 20000 in
theorem gX12_about_X12_isForm : GoodIn wsX12_about (wsV RX12 141 RX12 yX12_isForm wsX12_isForm) := goodIn_app (goodIn_of _ (by decide +kernel)) ggX12_about_X12_isForm
