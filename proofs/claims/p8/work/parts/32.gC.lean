set_option maxRecDepth 20000 in
theorem ggX0_last_X0_formAt : GoodIn wsX0_last wsX0_formAt := goodIn_r _ [6, 1, 7, 8, 9, 10] (by decide +kernel) (by decide +kernel)
set_option maxRecDepth 20000 in
theorem gX0_last_X0_formAt : GoodIn wsX0_last (wsV RX0 27 RX0 yX0_formAt wsX0_formAt) := goodIn_app (goodIn_of _ (by decide +kernel)) ggX0_last_X0_formAt
set_option maxRecDepth 20000 in
theorem ggX0_lastCut_X0_cutAtBeginning : GoodIn wsX0_lastCut wsX0_cutAtBeginning := goodIn_r _ [6, 7, 8, 9, 10, 5, 11, 1, 12, 16, 17, 18, 19, 20, 21, 22, 23, 24, 13, 14, 15] (by decide +kernel) (by decide +kernel)
set_option maxRecDepth 20000 in
theorem gX0_lastCut_X0_cutAtBeginning : GoodIn wsX0_lastCut (wsV RX0 31 RX0 yX0_cutAtBeginning wsX0_cutAtBeginning) := goodIn_app (goodIn_of _ (by decide +kernel)) ggX0_lastCut_X0_cutAtBeginning
set_option maxRecDepth 20000 in
theorem ggX0_cutAtBeginning_X0_ruleAheadOf : GoodIn wsX0_cutAtBeginning wsX0_ruleAheadOf := goodIn_r _ [6, 7, 8, 18, 19, 20] (by decide +kernel) (by decide +kernel)
set_option maxRecDepth 20000 in
theorem gX0_cutAtBeginning_X0_ruleAheadOf : GoodIn wsX0_cutAtBeginning (wsV RX0 35 RX0 yX0_ruleAheadOf wsX0_ruleAheadOf) := goodIn_app (goodIn_of _ (by decide +kernel)) ggX0_cutAtBeginning_X0_ruleAheadOf
set_option maxRecDepth 20000 in
theorem ggX0_cutAtEnd_X0_ruleAheadOf : GoodIn wsX0_cutAtEnd wsX0_ruleAheadOf := goodIn_r _ [6, 7, 8, 18, 19, 20] (by decide +kernel) (by decide +kernel)
set_option maxRecDepth 20000 in
theorem gX0_cutAtEnd_X0_ruleAheadOf : GoodIn wsX0_cutAtEnd (wsV RX0 35 RX0 yX0_ruleAheadOf wsX0_ruleAheadOf) := goodIn_app (goodIn_of _ (by decide +kernel)) ggX0_cutAtEnd_X0_ruleAheadOf
set_option maxRecDepth 20000 in
theorem ggX2_init_J7_copyOf_9075b : GoodIn wsX2_init wsJ7_copyOf_9075b := goodIn_r _ [17, 18, 19, 20, 21, 22, 23, 24, 25, 26, 27, 28, 29, 30, 31, 32] (by decide +kernel) (by decide +kernel)
set_option maxRecDepth 20000 in
theorem gX2_init_J7_copyOf_9075b : GoodIn wsX2_init (va_wsS RX2 30 yJ7_copyOf_9075b wsJ7_copyOf_9075b) := goodIn_app (goodIn_of _ (by decide +kernel)) ggX2_init_J7_copyOf_9075b
set_option maxRecDepth 20000 in
theorem ggX3_setLine_X9_rulesInForce : GoodIn wsX3_setLine wsX9_rulesInForce := goodIn_r _ [13, 14, 15, 16, 17, 29, 30, 31, 32, 33, 34, 35, 36, 37, 38, 39, 40, 41, 42] (by decide +kernel) (by decide +kernel)
set_option maxRecDepth 20000 in
theorem gX3_setLine_X9_rulesInForce : GoodIn wsX3_setLine (wsV RX3 59 RX9 yX9_rulesInForce wsX9_rulesInForce) := goodIn_app (goodIn_of _ (by decide +kernel)) ggX3_setLine_X9_rulesInForce
set_option maxRecDepth 20000 in
theorem ggX3_fill_J7_fill_d0a16 : GoodIn wsX3_fill wsJ7_fill_d0a16 := goodIn_r _ [16] (by decide +kernel) (by decide +kernel)
set_option maxRecDepth 20000 in
theorem gX3_fill_J7_fill_d0a16 : GoodIn wsX3_fill (va_wsS RX3 68 yJ7_fill_d0a16 wsJ7_fill_d0a16) := goodIn_app (goodIn_of _ (by decide +kernel)) ggX3_fill_J7_fill_d0a16
set_option maxRecDepth 20000 in
theorem ggX3_fill_J7_fill_53178 : GoodIn wsX3_fill wsJ7_fill_53178 := goodIn_r _ [19] (by decide +kernel) (by decide +kernel)
set_option maxRecDepth 20000 in
theorem gX3_fill_J7_fill_53178 : GoodIn wsX3_fill (va_wsS RX3 75 yJ7_fill_53178 wsJ7_fill_53178) := goodIn_app (goodIn_of _ (by decide +kernel)) ggX3_fill_J7_fill_53178
set_option maxRecDepth 20000 in
theorem ggX3_fill_X3_setForm : GoodIn wsX3_fill wsX3_setForm := goodIn_r _ [24, 25, 12, 26, 7, 27, 28, 29, 23, 30, 31, 4, 32, 33, 34, 35, 36, 37, 38, 39, 40, 5, 6, 41, 42, 43, 44, 45, 46, 47, 48, 49, 50, 51, 52, 53, 54, 55, 56, 57, 58, 2, 59, 60, 61, 8, 9, 62, 63, 64, 65, 66, 67, 68, 69, 70, 71, 72, 73, 74, 75, 76, 77, 116, 117, 118, 119, 120, 121, 122, 123, 100, 101, 102, 103, 104, 105, 106, 107, 108, 109, 110, 111, 112, 113, 114, 115, 124, 125, 126, 127, 128, 129, 130, 131, 132] (by decide +kernel) (by decide +kernel)
set_option maxRecDepth 20000 in
theorem gX3_fill_X3_setForm : GoodIn wsX3_fill (wsV RX3 85 RX3 yX3_setForm wsX3_setForm) := goodIn_app (goodIn_of _ (by decide +kernel)) ggX3_fill_X3_setForm
set_option maxRecDepth 20000 in
theorem ggX3_fill_X3_gatherForm : GoodIn wsX3_fill wsX3_gatherForm := goodIn_r _ [81, 12, 25, 82, 83, 84, 23, 85, 2, 10, 11, 5, 6, 26, 32, 33, 34, 35, 86, 87, 88, 89, 57, 90, 58, 1, 61, 46, 47, 48, 49, 50, 51, 52, 91, 92, 93, 94, 59, 60, 95, 63, 64, 96, 97, 98, 99, 8, 9, 100, 101, 102, 103, 104, 105, 106, 107, 108, 109, 110, 116, 117, 118, 119, 120, 121, 122, 123, 111, 112, 113, 114, 115, 124, 125, 126, 127, 128, 129, 130, 131, 132] (by decide +kernel) (by decide +kernel)
set_option maxRecDepth 20000 in
theorem gX3_fill_X3_gatherForm : GoodIn wsX3_fill (wsV RX3 89 RX3 yX3_gatherForm wsX3_gatherForm) := goodIn_app (goodIn_of _ (by decide +kernel)) ggX3_fill_X3_gatherForm
set_option maxRecDepth 20000 in
theorem ggX3_fill_X11_capped : GoodIn wsX3_fill wsX11_capped := goodIn_r _ [48, 49, 50, 51, 34, 52] (by decide +kernel) (by decide +kernel)
set_option maxRecDepth 20000 in
theorem gX3_fill_X11_capped_n92 : GoodIn wsX3_fill (wsX11_capped) := ggX3_fill_X11_capped
set_option maxRecDepth 20000 in
theorem ggX3_setForm_X3_sharedLetters : GoodIn wsX3_setForm wsX3_sharedLetters := goodIn_r _ [9, 10, 11, 12, 13, 14, 15, 16, 63, 64, 65, 66, 67, 68, 69, 70, 71, 72, 73, 74, 75, 76, 77, 78, 79, 80, 81] (by decide +kernel) (by decide +kernel)
set_option maxRecDepth 20000 in
theorem gX3_setForm_X3_sharedLetters : GoodIn wsX3_setForm (wsV RX3 101 RX3 yX3_sharedLetters wsX3_sharedLetters) := goodIn_app (goodIn_of _ (by decide +kernel)) ggX3_setForm_X3_sharedLetters
set_option maxRecDepth 20000 in
theorem ggX3_setForm_X3_addPlainEnd : GoodIn wsX3_setForm wsX3_addPlainEnd := goodIn_r _ [20, 10, 11, 21, 1, 22, 23, 24, 25, 8, 26, 2, 3, 27, 12, 13, 14, 15, 28, 29, 30, 31, 32, 33, 34, 63, 64, 65, 66, 67, 68, 69, 70, 71, 72, 73, 74, 75, 76, 77, 78, 79, 80, 81] (by decide +kernel) (by decide +kernel)
set_option maxRecDepth 20000 in
theorem gX3_setForm_X3_addPlainEnd : GoodIn wsX3_setForm (wsV RX3 105 RX3 yX3_addPlainEnd wsX3_addPlainEnd) := goodIn_app (goodIn_of _ (by decide +kernel)) ggX3_setForm_X3_addPlainEnd
set_option maxRecDepth 20000 in
theorem ggX3_setForm_X3_addRuledEnds : GoodIn wsX3_setForm wsX3_addRuledEnds := goodIn_r _ [38, 39, 40, 41, 42, 43, 10, 44, 45, 46, 47, 48, 29, 49, 50, 51, 52, 8, 53, 54, 55, 56, 16, 11, 57, 58, 59, 60, 61, 62, 23, 24, 25, 26, 1, 2, 3, 27, 12, 13, 14, 15, 28, 30, 31, 32, 33, 34, 63, 64, 65, 66, 67, 68, 69, 70, 71, 72, 73, 74, 75, 76, 77, 78, 79, 80, 81, 82, 83, 84, 85, 86, 87, 88, 89, 90, 91, 92, 93, 94, 95] (by decide +kernel) (by decide +kernel)
set_option maxRecDepth 20000 in
theorem gX3_setForm_X3_addRuledEnds : GoodIn wsX3_setForm (wsV RX3 109 RX3 yX3_addRuledEnds wsX3_addRuledEnds) := goodIn_app (goodIn_of _ (by decide +kernel)) ggX3_setForm_X3_addRuledEnds
set_option maxRecDepth 20000 in
theorem ggX3_addPlainEnd_X3_addToState : GoodIn wsX3_addPlainEnd wsX3_addToState := goodIn_r _ [10, 4, 11, 12, 13, 14, 15, 16, 17, 18, 19, 20, 21, 22, 23, 24, 25, 26, 27, 28, 29, 30, 31, 32, 33, 34, 35, 36, 37, 38, 39, 40, 41, 42, 43] (by decide +kernel) (by decide +kernel)
set_option maxRecDepth 20000 in
theorem gX3_addPlainEnd_X3_addToState : GoodIn wsX3_addPlainEnd (wsV RX3 115 RX3 yX3_addToState wsX3_addToState) := goodIn_app (goodIn_of _ (by decide +kernel)) ggX3_addPlainEnd_X3_addToState
set_option maxRecDepth 20000 in
theorem ggX3_addRuledEnds_X11_hasRule : GoodIn wsX3_addRuledEnds wsX11_hasRule := goodIn_r _ [13] (by decide +kernel) (by decide +kernel)
set_option maxRecDepth 20000 in
theorem gX3_addRuledEnds_X11_hasRule_n125 : GoodIn wsX3_addRuledEnds (wsX11_hasRule) := ggX3_addRuledEnds_X11_hasRule
set_option maxRecDepth 20000 in
theorem ggX3_addRuledEnds_X3_placeBehind : GoodIn wsX3_addRuledEnds wsX3_placeBehind := goodIn_r _ [18, 19, 20, 21, 22, 23, 24, 25, 26, 27, 28, 29, 72, 73, 74, 75, 76, 77, 78, 79, 80, 56, 57, 58, 59, 60, 61, 62, 63, 64, 65, 66] (by decide +kernel) (by decide +kernel)
set_option maxRecDepth 20000 in
theorem gX3_addRuledEnds_X3_placeBehind : GoodIn wsX3_addRuledEnds (wsV RX3 133 RX3 yX3_placeBehind wsX3_placeBehind) := goodIn_app (goodIn_of _ (by decide +kernel)) ggX3_addRuledEnds_X3_placeBehind
set_option maxRecDepth 20000 in
theorem ggX3_addRuledEnds_X3_addToState : GoodIn wsX3_addRuledEnds wsX3_addToState := goodIn_r _ [33, 34, 35, 36, 37, 38, 39, 40, 41, 42, 12, 43, 44, 45, 46, 47, 48, 49, 50, 51, 52, 53, 54, 55, 56, 57, 58, 59, 60, 61, 62, 63, 64, 65, 66] (by decide +kernel) (by decide +kernel)
set_option maxRecDepth 20000 in
theorem gX3_addRuledEnds_X3_addToState : GoodIn wsX3_addRuledEnds (wsV RX3 115 RX3 yX3_addToState wsX3_addToState) := goodIn_app (goodIn_of _ (by decide +kernel)) ggX3_addRuledEnds_X3_addToState
set_option maxRecDepth 20000 in
theorem ggX3_addToState_X11_capped : GoodIn wsX3_addToState wsX11_capped := goodIn_r _ [11, 12, 13, 14, 7, 15] (by decide +kernel) (by decide +kernel)
set_option maxRecDepth 20000 in
theorem gX3_addToState_X11_capped_n92 : GoodIn wsX3_addToState (wsX11_capped) := ggX3_addToState_X11_capped
set_option maxRecDepth 20000 in
theorem ggX3_gatherForm_X3_gatherPlain : GoodIn wsX3_gatherForm wsX3_gatherPlain := goodIn_r _ [7, 2, 8, 9, 10, 11, 1, 12, 13, 14, 15, 16, 17, 18, 19, 20, 6, 21, 22, 23, 24, 25, 26, 27, 28, 29, 30, 31, 32, 33, 60, 61, 62, 63, 64, 65, 66, 67, 49, 50, 51, 52, 53, 54, 55, 56, 57, 58, 59, 68, 69, 70, 71, 72] (by decide +kernel) (by decide +kernel)
set_option maxRecDepth 20000 in
theorem gX3_gatherForm_X3_gatherPlain : GoodIn wsX3_gatherForm (wsV RX3 146 RX3 yX3_gatherPlain wsX3_gatherPlain) := goodIn_app (goodIn_of _ (by decide +kernel)) ggX3_gatherForm_X3_gatherPlain
set_option maxRecDepth 20000 in
theorem ggX3_gatherForm_X3_gatherRuled : GoodIn wsX3_gatherForm wsX3_gatherRuled := goodIn_r _ [37, 23, 24, 8, 38, 39, 40, 41, 28, 42, 43, 44, 45, 6, 46, 2, 25, 26, 47, 1, 48, 13, 14, 15, 16, 17, 27, 29, 30, 31, 32, 33, 60, 61, 62, 63, 64, 65, 66, 67, 49, 50, 51, 52, 53, 54, 55, 56, 57, 58, 59, 68, 69, 70, 71, 72, 73, 74, 75, 76, 77, 78, 79, 80, 81] (by decide +kernel) (by decide +kernel)
set_option maxRecDepth 20000 in
theorem gX3_gatherForm_X3_gatherRuled : GoodIn wsX3_gatherForm (wsV RX3 149 RX3 yX3_gatherRuled wsX3_gatherRuled) := goodIn_app (goodIn_of _ (by decide +kernel)) ggX3_gatherForm_X3_gatherRuled
set_option maxRecDepth 20000 in
theorem ggX3_gatherPlain_X3_canMeetPlain : GoodIn wsX3_gatherPlain wsX3_canMeetPlain := goodIn_r _ [17, 18, 19, 20, 21, 22, 30, 31, 32, 33, 34, 35, 36, 37, 38, 39, 40, 41, 42, 43, 44, 45, 46, 47, 48] (by decide +kernel) (by decide +kernel)
set_option maxRecDepth 20000 in
theorem gX3_gatherPlain_X3_canMeetPlain : GoodIn wsX3_gatherPlain (wsV RX3 153 RX3 yX3_canMeetPlain wsX3_canMeetPlain) := goodIn_app (goodIn_of _ (by decide +kernel)) ggX3_gatherPlain_X3_canMeetPlain
set_option maxRecDepth 20000 in
theorem ggX3_gatherPlain_X11_capped : GoodIn wsX3_gatherPlain wsX11_capped := goodIn_r _ [25, 26, 27, 28, 11, 29] (by decide +kernel) (by decide +kernel)
set_option maxRecDepth 20000 in
theorem gX3_gatherPlain_X11_capped_n92 : GoodIn wsX3_gatherPlain (wsX11_capped) := ggX3_gatherPlain_X11_capped
set_option maxRecDepth 20000 in
theorem ggX3_gatherRuled_X11_hasRule : GoodIn wsX3_gatherRuled wsX11_hasRule := goodIn_r _ [9] (by decide +kernel) (by decide +kernel)
set_option maxRecDepth 20000 in
theorem gX3_gatherRuled_X11_hasRule_n125 : GoodIn wsX3_gatherRuled (wsX11_hasRule) := ggX3_gatherRuled_X11_hasRule
set_option maxRecDepth 20000 in
theorem ggX3_gatherRuled_X3_gatherBehindRule : GoodIn wsX3_gatherRuled wsX3_gatherBehindRule := goodIn_r _ [14, 15, 3, 5, 6, 16, 17, 18, 19, 20, 21, 22, 23, 24, 25, 26, 8, 27, 28, 29, 30, 31, 32, 33, 34, 35, 36, 37, 38, 39, 40, 41, 42, 43, 44, 45, 46, 47, 48, 49, 50, 51, 52, 53, 54, 55, 56, 57, 58, 59, 60, 61, 62, 63, 64] (by decide +kernel) (by decide +kernel)
set_option maxRecDepth 20000 in
theorem gX3_gatherRuled_X3_gatherBehindRule : GoodIn wsX3_gatherRuled (wsV RX3 163 RX3 yX3_gatherBehindRule wsX3_gatherBehindRule) := goodIn_app (goodIn_of _ (by decide +kernel)) ggX3_gatherRuled_X3_gatherBehindRule
set_option maxRecDepth 20000 in
theorem ggX3_gatherBehindRule_X11_capped : GoodIn wsX3_gatherBehindRule wsX11_capped := goodIn_r _ [17, 18, 19, 20, 13, 21] (by decide +kernel) (by decide +kernel)
set_option maxRecDepth 20000 in
theorem gX3_gatherBehindRule_X11_capped_n92 : GoodIn wsX3_gatherBehindRule (wsX11_capped) := ggX3_gatherBehindRule_X11_capped
set_option maxRecDepth 20000 in
theorem ggX3_canMeetBy_X11_hasRule : GoodIn wsX3_canMeetBy wsX11_hasRule := goodIn_r _ [8] (by decide +kernel) (by decide +kernel)
set_option maxRecDepth 20000 in
theorem gX3_canMeetBy_X11_hasRule_n125 : GoodIn wsX3_canMeetBy (wsX11_hasRule) := ggX3_canMeetBy_X11_hasRule
set_option maxRecDepth 20000 in
theorem ggX3_placeBehind_X7_stands : GoodIn wsX3_placeBehind wsX7_stands := goodIn_r _ [10, 11, 12, 13, 14, 15, 16, 17, 18, 19, 20] (by decide +kernel) (by decide +kernel)
set_option maxRecDepth 20000 in
theorem gX3_placeBehind_X7_stands : GoodIn wsX3_placeBehind (wsV RX3 175 RX7 yX7_stands wsX7_stands) := goodIn_app (goodIn_of _ (by decide +kernel)) ggX3_placeBehind_X7_stands
set_option maxRecDepth 20000 in
theorem ggX4_init_X3_init : GoodIn wsX4_init wsX3_init := goodIn_r _ [23, 24, 2, 3, 25, 11, 26, 27, 28, 29, 30, 31, 32, 33, 34, 35, 36, 37, 38, 39, 40, 71, 72, 73, 74, 75, 76, 77, 78, 79, 80, 81] (by decide +kernel) (by decide +kernel)
set_option maxRecDepth 20000 in
theorem gX4_init_X3_init : GoodIn wsX4_init (wsX3_init) := ggX4_init_X3_init
set_option maxRecDepth 20000 in
theorem ggX4_init_X5_init : GoodIn wsX4_init wsX5_init := goodIn_r _ [42, 43, 2, 3, 44, 45, 46, 47, 48, 49, 50, 51, 52, 53, 54, 55, 56, 57, 58, 59, 60, 88, 89, 90, 82, 83, 84, 85, 86, 87] (by decide +kernel) (by decide +kernel)
set_option maxRecDepth 20000 in
theorem gX4_init_X5_init_n55 : GoodIn wsX4_init (wsX5_init) := ggX4_init_X5_init
set_option maxRecDepth 20000 in
theorem ggX4_countLine_X3_setLine : GoodIn wsX4_countLine wsX3_setLine := goodIn_r _ [10, 11, 12, 13, 14, 15, 16, 17, 18, 19, 20, 21, 22, 23, 24, 25, 26, 27, 137, 138, 139, 140, 141, 142, 143, 144, 145, 146, 147, 148, 149, 150, 151, 152, 153, 154, 155, 156, 157, 158, 159, 160, 161] (by decide +kernel) (by decide +kernel)
set_option maxRecDepth 20000 in
theorem gX4_countLine_X3_setLine : GoodIn wsX4_countLine (wsV RX4 56 RX3 yX3_setLine wsX3_setLine) := goodIn_app (goodIn_of _ (by decide +kernel)) ggX4_countLine_X3_setLine
set_option maxRecDepth 20000 in
theorem ggX4_countLine_X3_fill : GoodIn wsX4_countLine wsX3_fill := goodIn_r _ [31, 32, 17, 33, 15, 34, 35, 36, 37, 38, 39, 40, 41, 42, 43, 44, 45, 46, 47, 48, 49, 50, 51, 9, 52, 53, 54, 55, 56, 57, 58, 59, 11, 12, 13, 14, 16, 60, 61, 62, 63, 64, 65, 66, 67, 68, 69, 70, 71, 72, 73, 74, 75, 76, 77, 78, 79, 80, 18, 81, 82, 83, 84, 85, 86, 87, 88, 89, 90, 91, 92, 93, 94, 95, 96, 97, 98, 99, 100, 101, 102, 103, 104, 105, 106, 107, 108, 109, 110, 111, 112, 113, 114, 115, 116, 117, 118, 119, 120, 121, 137, 138, 139, 140, 141, 142, 143, 144, 145, 146, 147, 148, 149, 150, 151, 152, 162, 163, 164, 165, 166, 167, 168, 169, 153, 154, 155, 156, 157, 158, 159, 160, 161] (by decide +kernel) (by decide +kernel)
set_option maxRecDepth 20000 in
theorem gX4_countLine_X3_fill : GoodIn wsX4_countLine (wsV RX4 60 RX3 yX3_fill wsX3_fill) := goodIn_app (goodIn_of _ (by decide +kernel)) ggX4_countLine_X3_fill
set_option maxRecDepth 20000 in
theorem ggX4_countLine_X9_allMayMeet : GoodIn wsX4_countLine wsX9_allMayMeet := goodIn_r _ [125, 126, 148, 149, 150, 151, 152] (by decide +kernel) (by decide +kernel)
set_option maxRecDepth 20000 in
theorem gX4_countLine_X9_allMayMeet : GoodIn wsX4_countLine (wsV RX4 64 RX9 yX9_allMayMeet wsX9_allMayMeet) := goodIn_app (goodIn_of _ (by decide +kernel)) ggX4_countLine_X9_allMayMeet
set_option maxRecDepth 20000 in
theorem ggX4_tell_X4_startPaths : GoodIn wsX4_tell wsX4_startPaths := goodIn_r _ [7, 8, 9, 10, 1, 11, 12, 13, 14, 15, 16, 17, 18, 19, 20, 21, 22, 23, 24, 6, 25, 26, 27, 28, 29, 30, 31, 32, 33, 34, 35, 36, 37, 38, 39, 40, 41, 42, 43, 44, 45, 46, 47, 48, 160, 161, 162, 163, 164, 165, 166, 167, 168, 169, 181, 182, 183, 184, 185, 170, 171, 172, 173, 174, 175, 176, 177, 178, 179, 180, 186, 187, 188, 189, 190, 191, 192, 193, 194] (by decide +kernel) (by decide +kernel)
set_option maxRecDepth 20000 in
theorem gX4_tell_X4_startPaths : GoodIn wsX4_tell (wsV RX4 70 RX4 yX4_startPaths wsX4_startPaths) := goodIn_app (goodIn_of _ (by decide +kernel)) ggX4_tell_X4_startPaths
set_option maxRecDepth 20000 in
theorem ggX4_tell_X4_allEnded : GoodIn wsX4_tell wsX4_allEnded := goodIn_r _ [52, 12, 13, 20, 160, 161, 162, 163, 164, 165, 166, 167, 168, 169, 186, 187, 188, 189, 190, 191] (by decide +kernel) (by decide +kernel)
set_option maxRecDepth 20000 in
theorem gX4_tell_X4_allEnded : GoodIn wsX4_tell (wsV RX4 76 RX4 yX4_allEnded wsX4_allEnded) := goodIn_app (goodIn_of _ (by decide +kernel)) ggX4_tell_X4_allEnded
set_option maxRecDepth 20000 in
theorem ggX4_tell_X4_growPaths : GoodIn wsX4_tell wsX4_growPaths := goodIn_r _ [56, 8, 12, 13, 20, 17, 21, 57, 16, 22, 23, 24, 6, 25, 26, 58, 59, 60, 61, 14, 1, 19, 18, 62, 63, 2, 9, 10, 64, 11, 65, 66, 67, 40, 68, 42, 69, 70, 71, 72, 43, 73, 74, 75, 76, 77, 78, 79, 80, 81, 82, 83, 84, 85, 44, 86, 87, 88, 89, 90, 91, 92, 93, 94, 95, 96, 97, 98, 99, 100, 101, 102, 103, 104, 105, 106, 107, 108, 109, 110, 111, 112, 113, 114, 115, 116, 117, 118, 119, 120, 121, 122, 123, 124, 125, 126, 127, 128, 129, 130, 131, 132, 133, 134, 135, 136, 137, 138, 139, 140, 141, 142, 143, 144, 145, 146, 147, 148, 149, 27, 28, 29, 30, 31, 32, 33, 34, 35, 36, 150, 151, 152, 153, 45, 46, 47, 48, 154, 155, 156, 157, 158, 159, 37, 38, 39, 41, 160, 161, 162, 163, 164, 165, 166, 167, 168, 169, 186, 187, 188, 189, 190, 191, 195, 196, 197, 198, 199, 200, 201, 202, 170, 171, 172, 173, 174, 175, 176, 177, 178, 179, 180, 181, 182, 183, 184, 185, 192, 193, 194, 203, 204, 205, 206, 207, 208, 209, 210, 211] (by decide +kernel) (by decide +kernel)
set_option maxRecDepth 20000 in
theorem gX4_tell_X4_growPaths : GoodIn wsX4_tell (wsV RX4 79 RX4 yX4_growPaths wsX4_growPaths) := goodIn_app (goodIn_of _ (by decide +kernel)) ggX4_tell_X4_growPaths
set_option maxRecDepth 20000 in
theorem ggX4_startPaths_X4_offer : GoodIn wsX4_startPaths wsX4_offer := goodIn_r _ [20, 21, 1, 10, 44, 45, 46, 47, 48, 49, 50, 51, 52, 53] (by decide +kernel) (by decide +kernel)
set_option maxRecDepth 20000 in
theorem gX4_startPaths_X4_offer : GoodIn wsX4_startPaths (wsV RX4 92 RX4 yX4_offer wsX4_offer) := goodIn_app (goodIn_of _ (by decide +kernel)) ggX4_startPaths_X4_offer
set_option maxRecDepth 20000 in
theorem ggX4_startPaths_X4_keyForm : GoodIn wsX4_startPaths wsX4_keyForm := goodIn_r _ [24] (by decide +kernel) (by decide +kernel)
set_option maxRecDepth 20000 in
theorem gX4_startPaths_X4_keyForm : GoodIn wsX4_startPaths (va_wsS RX4 103 yX4_keyForm wsX4_keyForm) := goodIn_app (goodIn_of _ (by decide +kernel)) ggX4_startPaths_X4_keyForm
set_option maxRecDepth 20000 in
theorem ggX4_startPaths_X9_formAt : GoodIn wsX4_startPaths wsX9_formAt := goodIn_r _ [29, 30, 31, 54, 55, 56, 57, 58] (by decide +kernel) (by decide +kernel)
set_option maxRecDepth 20000 in
theorem gX4_startPaths_X9_formAt : GoodIn wsX4_startPaths (wsV RX4 107 RX9 yX9_formAt wsX9_formAt) := goodIn_app (goodIn_of _ (by decide +kernel)) ggX4_startPaths_X9_formAt
set_option maxRecDepth 20000 in
theorem ggX4_startPaths_X0_append : GoodIn wsX4_startPaths wsX0_append := goodIn_r _ [36, 37, 38, 39, 76, 77, 78] (by decide +kernel) (by decide +kernel)
set_option maxRecDepth 20000 in
theorem gX4_startPaths_X0_append : GoodIn wsX4_startPaths (wsV RX4 111 RX0 yX0_append wsX0_append) := goodIn_app (goodIn_of _ (by decide +kernel)) ggX4_startPaths_X0_append
set_option maxRecDepth 20000 in
theorem ggX4_startPaths_X4_rankOf : GoodIn wsX4_startPaths wsX4_rankOf := goodIn_r _ [43, 1, 10, 44, 45, 46, 47, 48, 49, 50, 51, 52, 53] (by decide +kernel) (by decide +kernel)
set_option maxRecDepth 20000 in
theorem gX4_startPaths_X4_rankOf : GoodIn wsX4_startPaths (wsV RX4 124 RX4 yX4_rankOf wsX4_rankOf) := goodIn_app (goodIn_of _ (by decide +kernel)) ggX4_startPaths_X4_rankOf
set_option maxRecDepth 20000 in
theorem ggX4_growPaths_X4_offer : GoodIn wsX4_growPaths wsX4_offer := goodIn_r _ [13, 14, 1, 8, 147, 148, 149, 150, 151, 152, 153, 154, 155, 156] (by decide +kernel) (by decide +kernel)
set_option maxRecDepth 20000 in
theorem gX4_growPaths_X4_offer : GoodIn wsX4_growPaths (wsV RX4 92 RX4 yX4_offer wsX4_offer) := goodIn_app (goodIn_of _ (by decide +kernel)) ggX4_growPaths_X4_offer
set_option maxRecDepth 20000 in
theorem ggX4_growPaths_X4_offerPlainSteps : GoodIn wsX4_growPaths wsX4_offerPlainSteps := goodIn_r _ [18, 19, 20, 21, 22, 23, 24, 25, 6, 26, 27, 28, 29, 30, 31, 32, 33, 34, 35, 36, 37, 38, 39, 40, 41, 42, 43, 44, 45, 46, 47, 48, 49, 50, 51, 52, 53, 54, 55, 56, 57, 58, 59, 60, 61, 62, 63, 64, 65, 66, 9, 10, 11, 12, 13, 14, 1, 8, 67, 68, 69, 70, 71, 72, 73, 74, 75, 157, 158, 159, 160, 161, 162, 147, 148, 149, 150, 151, 152, 153, 154, 155, 156, 163, 164, 165, 166, 167, 168, 169, 170, 171, 172, 173, 174, 175, 176, 177, 178, 179, 180, 181, 182, 183, 184, 185, 186, 187, 188, 189, 190, 191, 192, 193, 194, 195, 196, 197, 198] (by decide +kernel) (by decide +kernel)
set_option maxRecDepth 20000 in
theorem gX4_growPaths_X4_offerPlainSteps : GoodIn wsX4_growPaths (wsV RX4 130 RX4 yX4_offerPlainSteps wsX4_offerPlainSteps) := goodIn_app (goodIn_of _ (by decide +kernel)) ggX4_growPaths_X4_offerPlainSteps
set_option maxRecDepth 20000 in
theorem ggX4_growPaths_X4_offerRuledSteps : GoodIn wsX4_growPaths wsX4_offerRuledSteps := goodIn_r _ [79, 19, 20, 21, 26, 80, 81, 24, 82, 30, 31, 32, 33, 34, 35, 36, 37, 38, 39, 40, 41, 42, 43, 44, 45, 46, 47, 48, 49, 50, 51, 52, 53, 54, 55, 56, 57, 58, 59, 60, 61, 62, 63, 64, 65, 66, 83, 84, 85, 86, 87, 88, 89, 90, 91, 92, 93, 94, 95, 96, 97, 98, 99, 100, 101, 12, 102, 22, 23, 103, 27, 28, 29, 104, 6, 105, 106, 107, 108, 71, 72, 73, 74, 75, 9, 10, 11, 13, 14, 1, 8, 157, 158, 159, 160, 161, 162, 147, 148, 149, 150, 151, 152, 153, 154, 155, 156, 182, 183, 184, 185, 186, 163, 164, 165, 166, 167, 168, 169, 170, 187, 188, 189, 190, 191, 192, 193, 194, 195, 196, 197, 198, 171, 172, 173, 174, 175, 176, 177, 178, 179, 180, 181] (by decide +kernel) (by decide +kernel)
set_option maxRecDepth 20000 in
theorem gX4_growPaths_X4_offerRuledSteps : GoodIn wsX4_growPaths (wsV RX4 134 RX4 yX4_offerRuledSteps wsX4_offerRuledSteps) := goodIn_app (goodIn_of _ (by decide +kernel)) ggX4_growPaths_X4_offerRuledSteps
set_option maxRecDepth 20000 in
theorem ggX4_growPaths_X4_grow : GoodIn wsX4_growPaths wsX4_grow := goodIn_r _ [112, 19, 26, 5, 6, 22, 21, 4, 23, 24, 103, 113, 114, 115, 116, 117, 12, 118, 2, 3, 30, 31, 32, 33, 34, 35, 36, 37, 38, 39, 40, 119, 120, 121, 122, 123, 124, 125, 126, 127, 128, 129, 130, 131, 132, 54, 133, 134, 135, 136, 1, 8, 137, 138, 139, 140, 141, 142, 41, 42, 43, 44, 45, 46, 47, 48, 49, 50, 51, 52, 53, 143, 144, 145, 146, 157, 158, 159, 160, 161, 162, 147, 148, 149, 150, 151, 152, 153, 154, 155, 156, 163, 164, 165, 166, 167, 168, 169, 170, 190, 191, 192, 193, 194, 195, 196, 197, 198, 187, 188, 189, 182, 183, 184, 185, 186] (by decide +kernel) (by decide +kernel)
set_option maxRecDepth 20000 in
theorem gX4_growPaths_X4_grow : GoodIn wsX4_growPaths (wsV RX4 137 RX4 yX4_grow wsX4_grow) := goodIn_app (goodIn_of _ (by decide +kernel)) ggX4_growPaths_X4_grow
set_option maxRecDepth 20000 in
theorem ggX4_offerPlainSteps_X0_last : GoodIn wsX4_offerPlainSteps wsX0_last := goodIn_r _ [17, 18, 19, 20, 21, 16, 22, 23, 107, 108, 109] (by decide +kernel) (by decide +kernel)
set_option maxRecDepth 20000 in
theorem gX4_offerPlainSteps_X0_last : GoodIn wsX4_offerPlainSteps (wsV RX4 141 RX0 yX0_last wsX0_last) := goodIn_app (goodIn_of _ (by decide +kernel)) ggX4_offerPlainSteps_X0_last
set_option maxRecDepth 20000 in
theorem ggX4_offerPlainSteps_X0_lastCut : GoodIn wsX4_offerPlainSteps wsX0_lastCut := goodIn_r _ [27, 18, 28, 29, 30, 16, 31, 32, 33, 34, 35, 36, 37, 107, 108, 109, 110, 111, 112, 113, 114, 115, 116, 117, 118] (by decide +kernel) (by decide +kernel)
set_option maxRecDepth 20000 in
theorem gX4_offerPlainSteps_X0_lastCut : GoodIn wsX4_offerPlainSteps (wsV RX4 145 RX0 yX0_lastCut wsX0_lastCut) := goodIn_app (goodIn_of _ (by decide +kernel)) ggX4_offerPlainSteps_X0_lastCut
set_option maxRecDepth 20000 in
theorem ggX4_offerPlainSteps_X3_sharedLetters : GoodIn wsX4_offerPlainSteps wsX3_sharedLetters := goodIn_r _ [42, 43, 44, 45, 46, 47, 48, 49, 83, 84, 85, 86, 87, 88, 89, 90, 91, 92, 93, 94, 95, 96, 97, 98, 99, 100, 101] (by decide +kernel) (by decide +kernel)
set_option maxRecDepth 20000 in
theorem gX4_offerPlainSteps_X3_sharedLetters : GoodIn wsX4_offerPlainSteps (wsV RX4 149 RX3 yX3_sharedLetters wsX3_sharedLetters) := goodIn_app (goodIn_of _ (by decide +kernel)) ggX4_offerPlainSteps_X3_sharedLetters
set_option maxRecDepth 20000 in
theorem ggX4_offerPlainSteps_X4_offer : GoodIn wsX4_offerPlainSteps wsX4_offer := goodIn_r _ [54, 55, 56, 57, 73, 74, 75, 76, 77, 78, 79, 80, 81, 82] (by decide +kernel) (by decide +kernel)
set_option maxRecDepth 20000 in
theorem gX4_offerPlainSteps_X4_offer : GoodIn wsX4_offerPlainSteps (wsV RX4 92 RX4 yX4_offer wsX4_offer) := goodIn_app (goodIn_of _ (by decide +kernel)) ggX4_offerPlainSteps_X4_offer
set_option maxRecDepth 20000 in
theorem ggX4_offerPlainSteps_X3_canMeetPlain : GoodIn wsX4_offerPlainSteps wsX3_canMeetPlain := goodIn_r _ [61, 62, 63, 64, 65, 66, 83, 84, 85, 86, 87, 88, 89, 90, 91, 92, 93, 94, 95, 96, 97, 98, 99, 100, 101] (by decide +kernel) (by decide +kernel)
set_option maxRecDepth 20000 in
theorem gX4_offerPlainSteps_X3_canMeetPlain : GoodIn wsX4_offerPlainSteps (wsV RX4 164 RX3 yX3_canMeetPlain wsX3_canMeetPlain) := goodIn_app (goodIn_of _ (by decide +kernel)) ggX4_offerPlainSteps_X3_canMeetPlain
set_option maxRecDepth 20000 in
theorem ggX4_offerRuledSteps_X0_last : GoodIn wsX4_offerRuledSteps wsX0_last := goodIn_r _ [13, 14, 15, 16, 17, 12, 18, 19, 120, 121, 122] (by decide +kernel) (by decide +kernel)
set_option maxRecDepth 20000 in
theorem gX4_offerRuledSteps_X0_last : GoodIn wsX4_offerRuledSteps (wsV RX4 141 RX0 yX0_last wsX0_last) := goodIn_app (goodIn_of _ (by decide +kernel)) ggX4_offerRuledSteps_X0_last
set_option maxRecDepth 20000 in
theorem ggX4_offerRuledSteps_X0_lastCut : GoodIn wsX4_offerRuledSteps wsX0_lastCut := goodIn_r _ [23, 14, 24, 25, 26, 12, 27, 28, 29, 30, 31, 32, 33, 120, 121, 122, 123, 124, 125, 126, 127, 128, 129, 130, 131] (by decide +kernel) (by decide +kernel)
set_option maxRecDepth 20000 in
theorem gX4_offerRuledSteps_X0_lastCut : GoodIn wsX4_offerRuledSteps (wsV RX4 145 RX0 yX0_lastCut wsX0_lastCut) := goodIn_app (goodIn_of _ (by decide +kernel)) ggX4_offerRuledSteps_X0_lastCut
set_option maxRecDepth 20000 in
theorem ggX4_offerRuledSteps_X3_sharedLetters : GoodIn wsX4_offerRuledSteps wsX3_sharedLetters := goodIn_r _ [38, 39, 40, 41, 42, 43, 44, 45, 112, 113, 114, 115, 116, 117, 118, 119, 132, 133, 134, 135, 136, 137, 138, 139, 140, 141, 142] (by decide +kernel) (by decide +kernel)
set_option maxRecDepth 20000 in
theorem gX4_offerRuledSteps_X3_sharedLetters : GoodIn wsX4_offerRuledSteps (wsV RX4 149 RX3 yX3_sharedLetters wsX3_sharedLetters) := goodIn_app (goodIn_of _ (by decide +kernel)) ggX4_offerRuledSteps_X3_sharedLetters
set_option maxRecDepth 20000 in
theorem ggX4_offerRuledSteps_X11_hasRule : GoodIn wsX4_offerRuledSteps wsX11_hasRule := goodIn_r _ [48] (by decide +kernel) (by decide +kernel)
set_option maxRecDepth 20000 in
theorem gX4_offerRuledSteps_X11_hasRule_n174 : GoodIn wsX4_offerRuledSteps (wsX11_hasRule) := ggX4_offerRuledSteps_X11_hasRule
set_option maxRecDepth 20000 in
theorem ggX4_offerRuledSteps_X3_placeBehind : GoodIn wsX4_offerRuledSteps wsX3_placeBehind := goodIn_r _ [52, 53, 54, 55, 45, 40, 56, 57, 58, 59, 60, 61, 123, 124, 125, 126, 127, 128, 129, 130, 131, 132, 133, 134, 135, 136, 137, 138, 139, 140, 141, 142] (by decide +kernel) (by decide +kernel)
set_option maxRecDepth 20000 in
theorem gX4_offerRuledSteps_X3_placeBehind : GoodIn wsX4_offerRuledSteps (wsV RX4 182 RX3 yX3_placeBehind wsX3_placeBehind) := goodIn_app (goodIn_of _ (by decide +kernel)) ggX4_offerRuledSteps_X3_placeBehind
set_option maxRecDepth 20000 in
theorem ggX4_offerRuledSteps_X4_offerStepsBehind : GoodIn wsX4_offerRuledSteps wsX4_offerStepsBehind := goodIn_r _ [66, 4, 8, 67, 68, 69, 70, 2, 71, 72, 73, 74, 75, 76, 77, 37, 78, 79, 80, 81, 82, 83, 46, 47, 48, 84, 85, 86, 65, 87, 88, 89, 90, 97, 98, 99, 100, 101, 102, 103, 104, 105, 106, 107, 108, 109, 110, 111, 91, 92, 93, 94, 95, 96, 112, 113, 114, 115, 116, 117, 118, 119, 123, 124, 125, 126, 127, 128, 129, 130, 131, 132, 133, 134, 135, 136, 137, 138, 139, 140, 141, 142] (by decide +kernel) (by decide +kernel)
set_option maxRecDepth 20000 in
theorem gX4_offerRuledSteps_X4_offerStepsBehind : GoodIn wsX4_offerRuledSteps (wsV RX4 186 RX4 yX4_offerStepsBehind wsX4_offerStepsBehind) := goodIn_app (goodIn_of _ (by decide +kernel)) ggX4_offerRuledSteps_X4_offerStepsBehind
set_option maxRecDepth 20000 in
theorem ggX4_offerStepsBehind_X3_canMeetBy : GoodIn wsX4_offerStepsBehind wsX3_canMeetBy := goodIn_r _ [16, 17, 18, 19, 20, 21, 22, 23, 24, 54, 55, 56, 57, 58, 59, 60, 61, 71, 72, 73, 74, 75, 76, 77, 78, 79, 80, 81] (by decide +kernel) (by decide +kernel)
set_option maxRecDepth 20000 in
theorem gX4_offerStepsBehind_X3_canMeetBy : GoodIn wsX4_offerStepsBehind (wsV RX4 193 RX3 yX3_canMeetBy wsX3_canMeetBy) := goodIn_app (goodIn_of _ (by decide +kernel)) ggX4_offerStepsBehind_X3_canMeetBy
set_option maxRecDepth 20000 in
theorem ggX4_offerStepsBehind_X4_offer : GoodIn wsX4_offerStepsBehind wsX4_offer := goodIn_r _ [29, 30, 31, 32, 33, 34, 35, 36, 37, 38, 39, 40, 41, 42] (by decide +kernel) (by decide +kernel)
set_option maxRecDepth 20000 in
theorem gX4_offerStepsBehind_X4_offer : GoodIn wsX4_offerStepsBehind (wsV RX4 92 RX4 yX4_offer wsX4_offer) := goodIn_app (goodIn_of _ (by decide +kernel)) ggX4_offerStepsBehind_X4_offer
set_option maxRecDepth 20000 in
theorem ggX4_grow_X4_pathOfRank : GoodIn wsX4_grow wsX4_pathOfRank := goodIn_r _ [17, 18, 19, 4, 81, 82, 83, 84, 85, 86, 87, 88, 89, 90, 75, 76, 77, 78, 79, 80] (by decide +kernel) (by decide +kernel)
set_option maxRecDepth 20000 in
theorem gX4_grow_X4_pathOfRank : GoodIn wsX4_grow (wsV RX4 201 RX4 yX4_pathOfRank wsX4_pathOfRank) := goodIn_app (goodIn_of _ (by decide +kernel)) ggX4_grow_X4_pathOfRank
set_option maxRecDepth 20000 in
theorem ggX4_grow_X0_last : GoodIn wsX4_grow wsX0_last := goodIn_r _ [24, 25, 26, 27, 28, 23, 29, 30, 108, 109, 110] (by decide +kernel) (by decide +kernel)
set_option maxRecDepth 20000 in
theorem gX4_grow_X0_last : GoodIn wsX4_grow (wsV RX4 141 RX0 yX0_last wsX0_last) := goodIn_app (goodIn_of _ (by decide +kernel)) ggX4_grow_X0_last
set_option maxRecDepth 20000 in
theorem ggX4_grow_X4_keyForm : GoodIn wsX4_grow wsX4_keyForm := goodIn_r _ [33] (by decide +kernel) (by decide +kernel)
set_option maxRecDepth 20000 in
theorem gX4_grow_X4_keyForm : GoodIn wsX4_grow (va_wsS RX4 103 yX4_keyForm wsX4_keyForm) := goodIn_app (goodIn_of _ (by decide +kernel)) ggX4_grow_X4_keyForm
set_option maxRecDepth 20000 in
theorem ggX4_grow_X9_formAt : GoodIn wsX4_grow wsX9_formAt := goodIn_r _ [38, 39, 40, 111, 112, 113, 114, 115] (by decide +kernel) (by decide +kernel)
set_option maxRecDepth 20000 in
theorem gX4_grow_X9_formAt : GoodIn wsX4_grow (wsV RX4 107 RX9 yX9_formAt wsX9_formAt) := goodIn_app (goodIn_of _ (by decide +kernel)) ggX4_grow_X9_formAt
set_option maxRecDepth 20000 in
theorem ggX4_grow_X0_copyFrom : GoodIn wsX4_grow wsX0_copyFrom := goodIn_r _ [44, 25, 30, 45, 108, 109, 110] (by decide +kernel) (by decide +kernel)
set_option maxRecDepth 20000 in
theorem gX4_grow_X0_copyFrom : GoodIn wsX4_grow (wsV RX4 205 RX0 yX0_copyFrom wsX0_copyFrom) := goodIn_app (goodIn_of _ (by decide +kernel)) ggX4_grow_X0_copyFrom
set_option maxRecDepth 20000 in
theorem ggX4_grow_X4_rankOf : GoodIn wsX4_grow wsX4_rankOf := goodIn_r _ [49, 50, 51, 81, 82, 83, 84, 85, 86, 87, 88, 89, 90] (by decide +kernel) (by decide +kernel)
set_option maxRecDepth 20000 in
theorem gX4_grow_X4_rankOf : GoodIn wsX4_grow (wsV RX4 124 RX4 yX4_rankOf wsX4_rankOf) := goodIn_app (goodIn_of _ (by decide +kernel)) ggX4_grow_X4_rankOf
set_option maxRecDepth 20000 in
theorem ggX4_grow_X9_ruleAt : GoodIn wsX4_grow wsX9_ruleAt := goodIn_r _ [55, 56, 57, 111, 112, 113, 114, 115] (by decide +kernel) (by decide +kernel)
set_option maxRecDepth 20000 in
theorem gX4_grow_X9_ruleAt : GoodIn wsX4_grow (wsV RX4 209 RX9 yX9_ruleAt wsX9_ruleAt) := goodIn_app (goodIn_of _ (by decide +kernel)) ggX4_grow_X9_ruleAt
set_option maxRecDepth 20000 in
theorem ggX4_grow_X0_lastCut : GoodIn wsX4_grow wsX0_lastCut := goodIn_r _ [61, 25, 62, 63, 64, 23, 65, 66, 67, 68, 69, 70, 45, 108, 109, 110, 99, 100, 101, 102, 103, 104, 105, 106, 107] (by decide +kernel) (by decide +kernel)
set_option maxRecDepth 20000 in
theorem gX4_grow_X0_lastCut : GoodIn wsX4_grow (wsV RX4 145 RX0 yX0_lastCut wsX0_lastCut) := goodIn_app (goodIn_of _ (by decide +kernel)) ggX4_grow_X0_lastCut
set_option maxRecDepth 20000 in
theorem ggX4_grow_X0_append : GoodIn wsX4_grow wsX0_append := goodIn_r _ [74, 25, 30, 45, 108, 109, 110] (by decide +kernel) (by decide +kernel)
set_option maxRecDepth 20000 in
theorem gX4_grow_X0_append : GoodIn wsX4_grow (wsV RX4 111 RX0 yX0_append wsX0_append) := goodIn_app (goodIn_of _ (by decide +kernel)) ggX4_grow_X0_append
set_option maxRecDepth 20000 in
theorem ggX5_init_X0_init : GoodIn wsX5_init wsX0_init := goodIn_r _ [14, 15, 2, 3, 16, 17, 18, 19, 20, 21, 22, 23] (by decide +kernel) (by decide +kernel)
set_option maxRecDepth 20000 in
theorem gX5_init_X0_init_n9 : GoodIn wsX5_init (wsX0_init) := ggX5_init_X0_init
set_option maxRecDepth 20000 in
theorem ggX6_init_X0_init : GoodIn wsX6_init wsX0_init := goodIn_r _ [13, 14, 2, 3, 15, 16, 17, 18, 19, 20, 21, 22] (by decide +kernel) (by decide +kernel)
set_option maxRecDepth 20000 in
theorem gX6_init_X0_init_n11 : GoodIn wsX6_init (wsX0_init) := ggX6_init_X0_init
set_option maxRecDepth 20000 in
theorem ggX6_join_X6_write : GoodIn wsX6_join wsX6_write := goodIn_r _ [13, 1, 14, 32, 33, 34, 35] (by decide +kernel) (by decide +kernel)
set_option maxRecDepth 20000 in
theorem gX6_join_X6_write : GoodIn wsX6_join (wsV RX6 44 RX6 yX6_write wsX6_write) := goodIn_app (goodIn_of _ (by decide +kernel)) ggX6_join_X6_write
set_option maxRecDepth 20000 in
theorem ggX6_join_X0_cutAtBeginning : GoodIn wsX6_join wsX0_cutAtBeginning := goodIn_r _ [19, 20, 21, 22, 23, 18, 24, 25, 26, 39, 40, 41, 42, 43, 44, 45, 46, 47, 36, 37, 38] (by decide +kernel) (by decide +kernel)
set_option maxRecDepth 20000 in
theorem gX6_join_X0_cutAtBeginning : GoodIn wsX6_join (wsV RX6 55 RX0 yX0_cutAtBeginning wsX0_cutAtBeginning) := goodIn_app (goodIn_of _ (by decide +kernel)) ggX6_join_X0_cutAtBeginning
set_option maxRecDepth 20000 in
theorem ggX6_join_X0_cutAtEnd : GoodIn wsX6_join wsX0_cutAtEnd := goodIn_r _ [30, 31, 21, 22, 23, 18, 24, 25, 26, 39, 40, 41, 42, 43, 44, 45, 46, 47, 36, 37, 38] (by decide +kernel) (by decide +kernel)
set_option maxRecDepth 20000 in
theorem gX6_join_X0_cutAtEnd : GoodIn wsX6_join (wsV RX6 59 RX0 yX0_cutAtEnd wsX0_cutAtEnd) := goodIn_app (goodIn_of _ (by decide +kernel)) ggX6_join_X0_cutAtEnd
set_option maxRecDepth 20000 in
theorem ggX7_init_J7_copyOf_9075b : GoodIn wsX7_init wsJ7_copyOf_9075b := goodIn_r _ [18, 19, 20, 21, 22, 23, 24, 25, 26, 27, 28, 29, 30, 31, 32, 33] (by decide +kernel) (by decide +kernel)
set_option maxRecDepth 20000 in
theorem gX7_init_J7_copyOf_9075b : GoodIn wsX7_init (va_wsS RX7 24 yJ7_copyOf_9075b wsJ7_copyOf_9075b) := goodIn_app (goodIn_of _ (by decide +kernel)) ggX7_init_J7_copyOf_9075b
set_option maxRecDepth 20000 in
theorem ggX7_isEndOf_X7_stands : GoodIn wsX7_isEndOf wsX7_stands := goodIn_r _ [7, 8, 17, 18, 19, 20, 21, 22, 23, 24, 25] (by decide +kernel) (by decide +kernel)
set_option maxRecDepth 20000 in
theorem gX7_isEndOf_X7_stands : GoodIn wsX7_isEndOf (wsV RX7 57 RX7 yX7_stands wsX7_stands) := goodIn_app (goodIn_of _ (by decide +kernel)) ggX7_isEndOf_X7_stands
set_option maxRecDepth 20000 in
theorem ggX7_isBeginningOf_X7_stands : GoodIn wsX7_isBeginningOf wsX7_stands := goodIn_r _ [8, 9, 10, 11, 12, 13, 14, 15, 16, 17, 18] (by decide +kernel) (by decide +kernel)
set_option maxRecDepth 20000 in
theorem gX7_isBeginningOf_X7_stands : GoodIn wsX7_isBeginningOf (wsV RX7 57 RX7 yX7_stands wsX7_stands) := goodIn_app (goodIn_of _ (by decide +kernel)) ggX7_isBeginningOf_X7_stands
set_option maxRecDepth 20000 in
theorem ggX8_addNumber_X8_addByte : GoodIn wsX8_addNumber wsX8_addByte := goodIn_r _ [5, 6, 7, 8, 9] (by decide +kernel) (by decide +kernel)
set_option maxRecDepth 20000 in
theorem gX8_addNumber_X8_addByte : GoodIn wsX8_addNumber (wsV RX8 19 RX8 yX8_addByte wsX8_addByte) := goodIn_app (goodIn_of _ (by decide +kernel)) ggX8_addNumber_X8_addByte
set_option maxRecDepth 20000 in
theorem ggX9_addForm_X9_markFit : GoodIn wsX9_addForm wsX9_markFit := goodIn_r _ [10, 11, 12, 13, 14, 15, 16, 17, 18, 19, 20, 21, 22, 23, 24, 25, 26, 27, 28, 29, 30, 31, 37, 38, 39, 40, 41, 42, 43, 44, 45, 46, 47, 48, 49, 50, 51, 52, 53] (by decide +kernel) (by decide +kernel)
set_option maxRecDepth 20000 in
theorem gX9_addForm_X9_markFit : GoodIn wsX9_addForm (wsV RX9 37 RX9 yX9_markFit wsX9_markFit) := goodIn_app (goodIn_of _ (by decide +kernel)) ggX9_addForm_X9_markFit
set_option maxRecDepth 20000 in
theorem ggX9_addRule_X9_markFit : GoodIn wsX9_addRule wsX9_markFit := goodIn_r _ [10, 11, 12, 2, 13, 14, 15, 16, 17, 18, 19, 20, 21, 22, 23, 24, 25, 26, 27, 28, 29, 30, 45, 46, 47, 48, 49, 50, 51, 52, 36, 37, 38, 39, 40, 41, 42, 43, 44] (by decide +kernel) (by decide +kernel)
set_option maxRecDepth 20000 in
theorem gX9_addRule_X9_markFit : GoodIn wsX9_addRule (wsV RX9 37 RX9 yX9_markFit wsX9_markFit) := goodIn_app (goodIn_of _ (by decide +kernel)) ggX9_addRule_X9_markFit
set_option maxRecDepth 20000 in
theorem ggX9_markFit_X7_isEndOf : GoodIn wsX9_markFit wsX7_isEndOf := goodIn_r _ [9, 10, 11, 12, 13, 14, 8, 15, 16, 22, 23, 24, 25, 26, 27, 28, 29, 30, 31, 32, 33, 34, 35, 36, 37, 38] (by decide +kernel) (by decide +kernel)
set_option maxRecDepth 20000 in
theorem gX9_markFit_X7_isEndOf : GoodIn wsX9_markFit (wsV RX9 46 RX7 yX7_isEndOf wsX7_isEndOf) := goodIn_app (goodIn_of _ (by decide +kernel)) ggX9_markFit_X7_isEndOf
set_option maxRecDepth 20000 in
theorem ggX9_markFit_X7_isBeginningOf : GoodIn wsX9_markFit wsX7_isBeginningOf := goodIn_r _ [20, 11, 21, 10, 12, 13, 14, 8, 15, 16, 30, 31, 32, 33, 34, 35, 36, 37, 38, 22, 23, 24, 25, 26, 27, 28, 29] (by decide +kernel) (by decide +kernel)
set_option maxRecDepth 20000 in
theorem gX9_markFit_X7_isBeginningOf : GoodIn wsX9_markFit (wsV RX9 53 RX7 yX7_isBeginningOf wsX7_isBeginningOf) := goodIn_app (goodIn_of _ (by decide +kernel)) ggX9_markFit_X7_isBeginningOf
set_option maxRecDepth 20000 in
theorem ggX10_init_J7_fill_53178 : GoodIn wsX10_init wsJ7_fill_53178 := goodIn_r _ [10] (by decide +kernel) (by decide +kernel)
set_option maxRecDepth 20000 in
theorem gX10_init_J7_fill_53178 : GoodIn wsX10_init (va_wsS RX10 19 yJ7_fill_53178 wsJ7_fill_53178) := goodIn_app (goodIn_of _ (by decide +kernel)) ggX10_init_J7_fill_53178
set_option maxRecDepth 20000 in
theorem ggX10_waysTo_J7_fill_d0a16 : GoodIn wsX10_waysTo wsJ7_fill_d0a16 := goodIn_r _ [10] (by decide +kernel) (by decide +kernel)
set_option maxRecDepth 20000 in
theorem gX10_waysTo_J7_fill_d0a16 : GoodIn wsX10_waysTo (va_wsS RX10 32 yJ7_fill_d0a16 wsJ7_fill_d0a16) := goodIn_app (goodIn_of _ (by decide +kernel)) ggX10_waysTo_J7_fill_d0a16
set_option maxRecDepth 20000 in
theorem ggX10_waysTo_X10_addSplits : GoodIn wsX10_waysTo wsX10_addSplits := goodIn_r _ [15, 1, 16, 17, 18, 14, 19, 20, 21, 22, 23, 24, 25, 26, 27, 28, 29, 30, 31, 32, 33, 34] (by decide +kernel) (by decide +kernel)
set_option maxRecDepth 20000 in
theorem gX10_waysTo_X10_addSplits : GoodIn wsX10_waysTo (wsV RX10 44 RX10 yX10_addSplits wsX10_addSplits) := goodIn_app (goodIn_of _ (by decide +kernel)) ggX10_waysTo_X10_addSplits
set_option maxRecDepth 20000 in
theorem ggX10_addSplits_X10_addSeconds : GoodIn wsX10_addSplits wsX10_addSeconds := goodIn_r _ [6, 7, 1, 8, 9, 5, 10, 11, 12, 13, 14, 15, 16, 17, 18, 19, 20, 21] (by decide +kernel) (by decide +kernel)
set_option maxRecDepth 20000 in
theorem gX10_addSplits_X10_addSeconds : GoodIn wsX10_addSplits (wsV RX10 48 RX10 yX10_addSeconds wsX10_addSeconds) := goodIn_app (goodIn_of _ (by decide +kernel)) ggX10_addSplits_X10_addSeconds
set_option maxRecDepth 20000 in
theorem ggX10_addSeconds_X10_cappedProduct : GoodIn wsX10_addSeconds wsX10_cappedProduct := goodIn_r _ [6, 7, 8, 9, 10, 11, 12, 13, 14, 15] (by decide +kernel) (by decide +kernel)
set_option maxRecDepth 20000 in
theorem gX10_addSeconds_X10_cappedProduct : GoodIn wsX10_addSeconds (va_wsS RX10 52 yX10_cappedProduct wsX10_cappedProduct) := goodIn_app (goodIn_of _ (by decide +kernel)) ggX10_addSeconds_X10_cappedProduct
set_option maxRecDepth 20000 in
theorem ggX10_addSeconds_X11_capped : GoodIn wsX10_addSeconds wsX11_capped := goodIn_r _ [10, 11, 12, 13, 14, 15] (by decide +kernel) (by decide +kernel)
set_option maxRecDepth 20000 in
theorem gX10_addSeconds_X11_capped_n56 : GoodIn wsX10_addSeconds (wsX11_capped) := ggX10_addSeconds_X11_capped
set_option maxRecDepth 20000 in
theorem ggX10_cappedProduct_X11_capped : GoodIn wsX10_cappedProduct wsX11_capped := goodIn_r _ [4, 5, 6, 7, 8, 9] (by decide +kernel) (by decide +kernel)
set_option maxRecDepth 20000 in
theorem gX10_cappedProduct_X11_capped_n56 : GoodIn wsX10_cappedProduct (wsX11_capped) := ggX10_cappedProduct_X11_capped
