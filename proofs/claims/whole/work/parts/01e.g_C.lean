set_option maxRecDepth 20000 in
theorem ggX0_init_X5_init : GoodIn wsX0_init wsX5_init := goodIn_r _ [4, 5, 6, 7, 8, 9, 10, 11, 12, 13, 14, 15, 16, 17, 18, 19] (by decide +kernel) (by decide +kernel)
set_option maxRecDepth 20000 in
theorem gX0_init_X5_init : GoodIn wsX0_init (wsX5_init) := ggX0_init_X5_init
set_option maxRecDepth 20000 in
theorem ggX0_dares_X5_dares : GoodIn wsX0_dares wsX5_dares := goodIn_r _ [6, 7, 8, 9, 10, 11, 12, 13, 14, 15, 16] (by decide +kernel) (by decide +kernel)
set_option maxRecDepth 20000 in
theorem gX0_dares_X5_dares_s9 : GoodIn wsX0_dares (va_wsSU RX0 9 yX5_dares wsX5_dares) := goodIn_app (goodIn_of _ (by decide +kernel)) ggX0_dares_X5_dares
set_option maxRecDepth 20000 in
theorem ggX0_told_X8_leave : GoodIn wsX0_told wsX8_leave := goodIn_r _ [5, 6, 23] (by decide +kernel) (by decide +kernel)
set_option maxRecDepth 20000 in
theorem gX0_told_X8_leave : GoodIn wsX0_told (wsV RX0 13 RX8 yX8_leave wsX8_leave) := goodIn_app (goodIn_of _ (by decide +kernel)) ggX0_told_X8_leave
set_option maxRecDepth 20000 in
theorem ggX0_told_X5_told : GoodIn wsX0_told wsX5_told := goodIn_r _ [12, 13, 14, 15, 16, 11, 17, 18, 19, 2, 3, 4, 5, 6, 20, 21, 22, 24, 25, 26, 27, 28, 29, 30, 31, 32, 23] (by decide +kernel) (by decide +kernel)
set_option maxRecDepth 20000 in
theorem gX0_told_X5_told_s19 : GoodIn wsX0_told (va_wsSU RX0 19 yX5_told wsX5_told) := goodIn_app (goodIn_of _ (by decide +kernel)) ggX0_told_X5_told
set_option maxRecDepth 20000 in
theorem ggX1_pass_X7_daysOfWords : GoodIn wsX1_pass wsX7_daysOfWords := goodIn_r _ [6, 7, 8, 64, 65, 66, 67, 68, 69, 70] (by decide +kernel) (by decide +kernel)
set_option maxRecDepth 20000 in
theorem gX1_pass_X7_daysOfWords : GoodIn wsX1_pass (wsV RX1 18 RX7 yX7_daysOfWords wsX7_daysOfWords) := goodIn_app (goodIn_of _ (by decide +kernel)) ggX1_pass_X7_daysOfWords
set_option maxRecDepth 20000 in
theorem ggX1_pass_X1_reach : GoodIn wsX1_pass wsX1_reach := goodIn_r _ [13, 14, 15, 16, 17, 18, 19, 20, 21, 22, 23, 24, 25, 26, 27, 28, 5, 29, 7, 8, 30, 31, 32, 33, 62, 63, 71, 72, 73, 74, 64, 65, 66, 67, 68, 69, 70] (by decide +kernel) (by decide +kernel)
set_option maxRecDepth 20000 in
theorem gX1_pass_X1_reach : GoodIn wsX1_pass (wsV RX1 24 RX1 yX1_reach wsX1_reach) := goodIn_app (goodIn_of _ (by decide +kernel)) ggX1_pass_X1_reach
set_option maxRecDepth 20000 in
theorem ggX1_pass_X1_speaking : GoodIn wsX1_pass wsX1_speaking := goodIn_r _ [37, 14, 38, 39, 40, 18, 41, 20, 42, 43, 44, 5, 45, 46, 15, 16, 17, 19, 21, 22, 23, 24, 25, 47, 48, 49, 50, 51, 52, 53, 54, 55, 56, 57, 58, 59, 60, 61, 62, 63, 71, 72, 73, 74, 64, 65, 66, 67, 68, 69, 70] (by decide +kernel) (by decide +kernel)
set_option maxRecDepth 20000 in
theorem gX1_pass_X1_speaking : GoodIn wsX1_pass (wsV RX1 28 RX1 yX1_speaking wsX1_speaking) := goodIn_app (goodIn_of _ (by decide +kernel)) ggX1_pass_X1_speaking
set_option maxRecDepth 20000 in
theorem ggX1_reach_X4_size : GoodIn wsX1_reach wsX4_size := goodIn_r _ [6, 7, 26, 27, 28, 29] (by decide +kernel) (by decide +kernel)
set_option maxRecDepth 20000 in
theorem gX1_reach_X4_size : GoodIn wsX1_reach (wsV RX1 32 RX4 yX4_size wsX4_size) := goodIn_app (goodIn_of _ (by decide +kernel)) ggX1_reach_X4_size
set_option maxRecDepth 20000 in
theorem ggX1_reach_X4_inEar : GoodIn wsX1_reach wsX4_inEar := goodIn_r _ [11, 7, 12, 26, 27, 28, 29] (by decide +kernel) (by decide +kernel)
set_option maxRecDepth 20000 in
theorem gX1_reach_X4_inEar : GoodIn wsX1_reach (wsV RX1 38 RX4 yX4_inEar wsX4_inEar) := goodIn_app (goodIn_of _ (by decide +kernel)) ggX1_reach_X4_inEar
set_option maxRecDepth 20000 in
theorem ggX1_reach_X7_reaching : GoodIn wsX1_reach wsX7_reaching := goodIn_r _ [17, 18, 19, 20, 21, 22, 23, 30, 31, 32, 33, 34, 35, 36] (by decide +kernel) (by decide +kernel)
set_option maxRecDepth 20000 in
theorem gX1_reach_X7_reaching : GoodIn wsX1_reach (wsV RX1 42 RX7 yX7_reaching wsX7_reaching) := goodIn_app (goodIn_of _ (by decide +kernel)) ggX1_reach_X7_reaching
set_option maxRecDepth 20000 in
theorem ggX1_speaking_X4_everyone : GoodIn wsX1_speaking wsX4_everyone := goodIn_r _ [6, 7, 40, 41, 42, 43] (by decide +kernel) (by decide +kernel)
set_option maxRecDepth 20000 in
theorem gX1_speaking_X4_everyone : GoodIn wsX1_speaking (wsV RX1 46 RX4 yX4_everyone wsX4_everyone) := goodIn_app (goodIn_of _ (by decide +kernel)) ggX1_speaking_X4_everyone
set_option maxRecDepth 20000 in
theorem ggX1_speaking_X7_bribedSet : GoodIn wsX1_speaking wsX7_bribedSet := goodIn_r _ [12, 13, 44, 45, 46, 47, 48, 49, 50] (by decide +kernel) (by decide +kernel)
set_option maxRecDepth 20000 in
theorem gX1_speaking_X7_bribedSet : GoodIn wsX1_speaking (wsV RX1 49 RX7 yX7_bribedSet wsX7_bribedSet) := goodIn_app (goodIn_of _ (by decide +kernel)) ggX1_speaking_X7_bribedSet
set_option maxRecDepth 20000 in
theorem ggX1_speaking_X4_size : GoodIn wsX1_speaking wsX4_size := goodIn_r _ [17, 7, 40, 41, 42, 43] (by decide +kernel) (by decide +kernel)
set_option maxRecDepth 20000 in
theorem gX1_speaking_X4_size : GoodIn wsX1_speaking (wsV RX1 32 RX4 yX4_size wsX4_size) := goodIn_app (goodIn_of _ (by decide +kernel)) ggX1_speaking_X4_size
set_option maxRecDepth 20000 in
theorem ggX1_speaking_X4_inEar : GoodIn wsX1_speaking wsX4_inEar := goodIn_r _ [21, 7, 22, 40, 41, 42, 43] (by decide +kernel) (by decide +kernel)
set_option maxRecDepth 20000 in
theorem gX1_speaking_X4_inEar : GoodIn wsX1_speaking (wsV RX1 38 RX4 yX4_inEar wsX4_inEar) := goodIn_app (goodIn_of _ (by decide +kernel)) ggX1_speaking_X4_inEar
set_option maxRecDepth 20000 in
theorem ggX1_speaking_J6_bitCount_0f7a4 : GoodIn wsX1_speaking wsJ6_bitCount_0f7a4 := goodIn_r _ [26, 27, 28, 29] (by decide +kernel) (by decide +kernel)
set_option maxRecDepth 20000 in
theorem gX1_speaking_J6_bitCount_0f7a4 : GoodIn wsX1_speaking (va_wsS RX1 52 yJ6_bitCount_0f7a4 wsJ6_bitCount_0f7a4) := goodIn_app (goodIn_of _ (by decide +kernel)) ggX1_speaking_J6_bitCount_0f7a4
set_option maxRecDepth 20000 in
theorem ggX1_speaking_X10_isIn : GoodIn wsX1_speaking wsX10_isIn := goodIn_r _ [32] (by decide +kernel) (by decide +kernel)
set_option maxRecDepth 20000 in
theorem gX1_speaking_X10_isIn_n57 : GoodIn wsX1_speaking (wsX10_isIn) := ggX1_speaking_X10_isIn
set_option maxRecDepth 20000 in
theorem ggX1_speaking_X4_dares : GoodIn wsX1_speaking wsX4_dares := goodIn_r _ [36, 7, 37, 40, 41, 42, 43] (by decide +kernel) (by decide +kernel)
set_option maxRecDepth 20000 in
theorem gX1_speaking_X4_dares : GoodIn wsX1_speaking (wsV RX1 61 RX4 yX4_dares wsX4_dares) := goodIn_app (goodIn_of _ (by decide +kernel)) ggX1_speaking_X4_dares
set_option maxRecDepth 20000 in
theorem ggX1_saidBy_X10_isDay : GoodIn wsX1_saidBy wsX10_isDay := goodIn_r _ [4] (by decide +kernel) (by decide +kernel)
set_option maxRecDepth 20000 in
theorem gX1_saidBy_X10_isDay_n64 : GoodIn wsX1_saidBy (wsX10_isDay) := ggX1_saidBy_X10_isDay
set_option maxRecDepth 20000 in
theorem ggX1_firstWith_X10_isIn : GoodIn wsX1_firstWith wsX10_isIn := goodIn_r _ [4] (by decide +kernel) (by decide +kernel)
set_option maxRecDepth 20000 in
theorem gX1_firstWith_X10_isIn_n57 : GoodIn wsX1_firstWith (wsX10_isIn) := ggX1_firstWith_X10_isIn
set_option maxRecDepth 20000 in
theorem ggX1_firstWithHalfOf_J6_bitCount_0f7a4 : GoodIn wsX1_firstWithHalfOf wsJ6_bitCount_0f7a4 := goodIn_r _ [5, 6, 7, 8] (by decide +kernel) (by decide +kernel)
set_option maxRecDepth 20000 in
theorem gX1_firstWithHalfOf_J6_bitCount_0f7a4 : GoodIn wsX1_firstWithHalfOf (va_wsS RX1 52 yJ6_bitCount_0f7a4 wsJ6_bitCount_0f7a4) := goodIn_app (goodIn_of _ (by decide +kernel)) ggX1_firstWithHalfOf_J6_bitCount_0f7a4
set_option maxRecDepth 20000 in
theorem ggX2_areAllSo_X1_saidBy : GoodIn wsX2_areAllSo wsX1_saidBy := goodIn_r _ [9, 10, 11, 12, 13, 20, 21] (by decide +kernel) (by decide +kernel)
set_option maxRecDepth 20000 in
theorem gX2_areAllSo_X1_saidBy : GoodIn wsX2_areAllSo (wsV RX2 32 RX1 yX1_saidBy wsX1_saidBy) := goodIn_app (goodIn_of _ (by decide +kernel)) ggX2_areAllSo_X1_saidBy
set_option maxRecDepth 20000 in
theorem ggX2_areAllSo_X10_isIn : GoodIn wsX2_areAllSo wsX10_isIn := goodIn_r _ [15] (by decide +kernel) (by decide +kernel)
set_option maxRecDepth 20000 in
theorem gX2_areAllSo_X10_isIn_n38 : GoodIn wsX2_areAllSo (wsX10_isIn) := ggX2_areAllSo_X10_isIn
set_option maxRecDepth 20000 in
theorem ggX3_at_X3_hasCell : GoodIn wsX3_at wsX3_hasCell := goodIn_r _ [6, 7, 8, 9, 10, 11] (by decide +kernel) (by decide +kernel)
set_option maxRecDepth 20000 in
theorem gX3_at_X3_hasCell : GoodIn wsX3_at (wsV RX3 32 RX3 yX3_hasCell wsX3_hasCell) := goodIn_app (goodIn_of _ (by decide +kernel)) ggX3_at_X3_hasCell
set_option maxRecDepth 20000 in
theorem ggX3_set_X3_hasCell : GoodIn wsX3_set wsX3_hasCell := goodIn_r _ [6, 7, 13, 14, 15, 16] (by decide +kernel) (by decide +kernel)
set_option maxRecDepth 20000 in
theorem gX3_set_X3_hasCell : GoodIn wsX3_set (wsV RX3 32 RX3 yX3_hasCell wsX3_hasCell) := goodIn_app (goodIn_of _ (by decide +kernel)) ggX3_set_X3_hasCell
set_option maxRecDepth 20000 in
theorem ggX3_set_X3_cut : GoodIn wsX3_set wsX3_cut := goodIn_r _ [11, 12, 13, 14, 15, 16] (by decide +kernel) (by decide +kernel)
set_option maxRecDepth 20000 in
theorem gX3_set_X3_cut : GoodIn wsX3_set (wsV RX3 36 RX3 yX3_cut wsX3_cut) := goodIn_app (goodIn_of _ (by decide +kernel)) ggX3_set_X3_cut
set_option maxRecDepth 20000 in
theorem ggX3_takeCells_X3_hasCells : GoodIn wsX3_takeCells wsX3_hasCells := goodIn_r _ [10, 11, 12, 13, 14, 15] (by decide +kernel) (by decide +kernel)
set_option maxRecDepth 20000 in
theorem gX3_takeCells_X3_hasCells : GoodIn wsX3_takeCells (wsV RX3 40 RX3 yX3_hasCells wsX3_hasCells) := goodIn_app (goodIn_of _ (by decide +kernel)) ggX3_takeCells_X3_hasCells
set_option maxRecDepth 20000 in
theorem ggX3_faultOfTaking_X3_faultOfLane : GoodIn wsX3_faultOfTaking wsX3_faultOfLane := goodIn_r _ [5, 6, 7, 13, 14, 15, 16] (by decide +kernel) (by decide +kernel)
set_option maxRecDepth 20000 in
theorem gX3_faultOfTaking_X3_faultOfLane : GoodIn wsX3_faultOfTaking (wsV RX3 50 RX3 yX3_faultOfLane wsX3_faultOfLane) := goodIn_app (goodIn_of _ (by decide +kernel)) ggX3_faultOfTaking_X3_faultOfLane
set_option maxRecDepth 20000 in
theorem ggX3_faultOfTaking_X3_hasCells : GoodIn wsX3_faultOfTaking wsX3_hasCells := goodIn_r _ [11, 12, 13, 14, 15, 16] (by decide +kernel) (by decide +kernel)
set_option maxRecDepth 20000 in
theorem gX3_faultOfTaking_X3_hasCells : GoodIn wsX3_faultOfTaking (wsV RX3 40 RX3 yX3_hasCells wsX3_hasCells) := goodIn_app (goodIn_of _ (by decide +kernel)) ggX3_faultOfTaking_X3_hasCells
set_option maxRecDepth 20000 in
theorem ggX4_firstWrong_X3_at : GoodIn wsX4_firstWrong wsX3_at := goodIn_r _ [5, 6, 7, 8, 9, 4, 10, 11, 16, 17, 18, 19] (by decide +kernel) (by decide +kernel)
set_option maxRecDepth 20000 in
theorem gX4_firstWrong_X3_at : GoodIn wsX4_firstWrong (wsV RX4 24 RX3 yX3_at wsX3_at) := goodIn_app (goodIn_of _ (by decide +kernel)) ggX4_firstWrong_X3_at
set_option maxRecDepth 20000 in
theorem ggX4_firstWrong_X4_goesOn : GoodIn wsX4_firstWrong wsX4_goesOn := goodIn_r _ [15] (by decide +kernel) (by decide +kernel)
set_option maxRecDepth 20000 in
theorem gX4_firstWrong_X4_goesOn : GoodIn wsX4_firstWrong (va_wsS RX4 30 yX4_goesOn wsX4_goesOn) := goodIn_app (goodIn_of _ (by decide +kernel)) ggX4_firstWrong_X4_goesOn
set_option maxRecDepth 20000 in
theorem ggX4_settle_X3_at : GoodIn wsX4_settle wsX3_at := goodIn_r _ [14, 15, 16, 17, 18, 13, 19, 20, 89, 90, 91, 92] (by decide +kernel) (by decide +kernel)
set_option maxRecDepth 20000 in
theorem gX4_settle_X3_at : GoodIn wsX4_settle (wsV RX4 24 RX3 yX3_at wsX3_at) := goodIn_app (goodIn_of _ (by decide +kernel)) ggX4_settle_X3_at
set_option maxRecDepth 20000 in
theorem ggX4_settle_X4_born : GoodIn wsX4_settle wsX4_born := goodIn_r _ [24, 25, 26, 27, 28, 29, 30, 31, 32, 33, 34, 35, 36, 37, 38, 39, 40, 41, 42, 43, 44, 45, 46, 47, 48, 49, 50, 86, 87, 88, 80, 81, 82, 83, 84, 85] (by decide +kernel) (by decide +kernel)
set_option maxRecDepth 20000 in
theorem gX4_settle_X4_born : GoodIn wsX4_settle (va_wsS RX4 44 yX4_born wsX4_born) := goodIn_app (goodIn_of _ (by decide +kernel)) ggX4_settle_X4_born
set_option maxRecDepth 20000 in
theorem ggX4_settle_X4_placesWithin : GoodIn wsX4_settle wsX4_placesWithin := goodIn_r _ [54, 5, 55, 56, 3, 57, 76, 77, 78, 79] (by decide +kernel) (by decide +kernel)
set_option maxRecDepth 20000 in
theorem gX4_settle_X4_placesWithin : GoodIn wsX4_settle (wsV RX4 51 RX4 yX4_placesWithin wsX4_placesWithin) := goodIn_app (goodIn_of _ (by decide +kernel)) ggX4_settle_X4_placesWithin
set_option maxRecDepth 20000 in
theorem ggX4_settle_X0_dares : GoodIn wsX4_settle wsX0_dares := goodIn_r _ [63, 64, 59, 65, 66, 33, 67, 47, 80, 81, 82, 83, 84, 85, 86, 87, 88] (by decide +kernel) (by decide +kernel)
set_option maxRecDepth 20000 in
theorem gX4_settle_X0_dares_u54X0 : GoodIn wsX4_settle (va_wsO RX4 54 RX0 "SilkWord$Subject" ⟨"SilkWord$Subject", "dares", "()I"⟩ yX0_dares wsX0_dares) := goodIn_app (goodIn_of _ (by decide +kernel)) ggX4_settle_X0_dares
set_option maxRecDepth 20000 in
theorem ggX4_settle_X5_dares : GoodIn wsX4_settle wsX5_dares := goodIn_r _ [67, 47, 80, 81, 82, 83, 84, 85, 86, 87, 88] (by decide +kernel) (by decide +kernel)
set_option maxRecDepth 20000 in
theorem gX4_settle_X5_dares : GoodIn wsX4_settle (wsV RX4 54 RX5 yX5_dares wsX5_dares) := goodIn_app (goodIn_of _ (by decide +kernel)) ggX4_settle_X5_dares
set_option maxRecDepth 20000 in
theorem ggX4_settle_X6_dares : GoodIn wsX4_settle wsX6_dares := goodIn_r _ [72, 73, 74, 75, 62, 30, 63, 64, 59, 65, 66, 33, 67, 47, 80, 81, 82, 83, 84, 85, 86, 87, 88] (by decide +kernel) (by decide +kernel)
set_option maxRecDepth 20000 in
theorem gX4_settle_X6_dares_u54X6 : GoodIn wsX4_settle (va_wsO RX4 54 RX6 "SilkWord$Subject" ⟨"SilkWord$Subject", "dares", "()I"⟩ yX6_dares wsX6_dares) := goodIn_app (goodIn_of _ (by decide +kernel)) ggX4_settle_X6_dares
set_option maxRecDepth 20000 in
theorem ggX4_born_X6_init : GoodIn wsX4_born wsX6_init := goodIn_r _ [12, 13, 14, 6, 15, 16, 17, 9, 18, 19, 20, 21, 22, 23, 24, 30, 31, 32, 33, 34, 35, 27, 28, 29] (by decide +kernel) (by decide +kernel)
set_option maxRecDepth 20000 in
theorem gX4_born_X6_init : GoodIn wsX4_born (wsX6_init) := ggX4_born_X6_init
set_option maxRecDepth 20000 in
theorem ggX4_born_X0_init : GoodIn wsX4_born wsX0_init := goodIn_r _ [15, 16, 17, 9, 18, 19, 20, 21, 22, 23, 24, 30, 31, 32, 33, 34, 35, 27, 28, 29] (by decide +kernel) (by decide +kernel)
set_option maxRecDepth 20000 in
theorem gX4_born_X0_init : GoodIn wsX4_born (wsX0_init) := ggX4_born_X0_init
set_option maxRecDepth 20000 in
theorem ggX4_born_X5_init : GoodIn wsX4_born wsX5_init := goodIn_r _ [18, 19, 20, 21, 22, 23, 24, 30, 31, 32, 33, 34, 35, 27, 28, 29] (by decide +kernel) (by decide +kernel)
set_option maxRecDepth 20000 in
theorem gX4_born_X5_init : GoodIn wsX4_born (wsX5_init) := ggX4_born_X5_init
set_option maxRecDepth 20000 in
theorem ggX4_at_X4_has : GoodIn wsX4_at wsX4_has := goodIn_r _ [6, 7, 8, 9, 10, 11] (by decide +kernel) (by decide +kernel)
set_option maxRecDepth 20000 in
theorem gX4_at_X4_has : GoodIn wsX4_at (wsV RX4 70 RX4 yX4_has wsX4_has) := goodIn_app (goodIn_of _ (by decide +kernel)) ggX4_at_X4_has
set_option maxRecDepth 20000 in
theorem ggX5_told_X5_toldAsSubject : GoodIn wsX5_told wsX5_toldAsSubject := goodIn_r _ [6, 7, 8, 9, 10, 11, 12, 13, 17, 18, 19, 20, 21, 22, 23, 24, 25, 26] (by decide +kernel) (by decide +kernel)
set_option maxRecDepth 20000 in
theorem gX5_told_X5_toldAsSubject_u21X0 : GoodIn wsX5_told (va_wsU RX5 21 RX0 "SilkWord$Subject" ⟨"SilkWord$Subject", "toldAsSubject", "(LSilkWord$Trace;)I"⟩ yX5_toldAsSubject wsX5_toldAsSubject) := goodIn_app (goodIn_of _ (by decide +kernel)) ggX5_told_X5_toldAsSubject
set_option maxRecDepth 20000 in
theorem gX5_told_X5_toldAsSubject : GoodIn wsX5_told (wsV RX5 21 RX5 yX5_toldAsSubject wsX5_toldAsSubject) := goodIn_app (goodIn_of _ (by decide +kernel)) ggX5_told_X5_toldAsSubject
set_option maxRecDepth 20000 in
theorem gX5_told_X5_toldAsSubject_u21X6 : GoodIn wsX5_told (va_wsU RX5 21 RX6 "SilkWord$Subject" ⟨"SilkWord$Subject", "toldAsSubject", "(LSilkWord$Trace;)I"⟩ yX5_toldAsSubject wsX5_toldAsSubject) := goodIn_app (goodIn_of _ (by decide +kernel)) ggX5_told_X5_toldAsSubject
set_option maxRecDepth 20000 in
theorem ggX5_toldAsSubject_X8_leave : GoodIn wsX5_toldAsSubject wsX8_leave := goodIn_r _ [6, 7, 17] (by decide +kernel) (by decide +kernel)
set_option maxRecDepth 20000 in
theorem gX5_toldAsSubject_X8_leave : GoodIn wsX5_toldAsSubject (wsV RX5 25 RX8 yX8_leave wsX8_leave) := goodIn_app (goodIn_of _ (by decide +kernel)) ggX5_toldAsSubject_X8_leave
set_option maxRecDepth 20000 in
theorem ggX5_bowedTo_X8_leave : GoodIn wsX5_bowedTo wsX8_leave := goodIn_r _ [6, 7, 17] (by decide +kernel) (by decide +kernel)
set_option maxRecDepth 20000 in
theorem gX5_bowedTo_X8_leave : GoodIn wsX5_bowedTo (wsV RX5 25 RX8 yX8_leave wsX8_leave) := goodIn_app (goodIn_of _ (by decide +kernel)) ggX5_bowedTo_X8_leave
set_option maxRecDepth 20000 in
theorem ggX6_init_X0_init : GoodIn wsX6_init wsX0_init := goodIn_r _ [4, 5, 6, 7, 8, 9, 10, 11, 12, 13, 14, 15, 16, 17, 18, 19, 20, 21, 22, 23] (by decide +kernel) (by decide +kernel)
set_option maxRecDepth 20000 in
theorem gX6_init_X0_init : GoodIn wsX6_init (wsX0_init) := ggX6_init_X0_init
set_option maxRecDepth 20000 in
theorem ggX6_dares_X0_dares : GoodIn wsX6_dares wsX0_dares := goodIn_r _ [6, 7, 8, 9, 10, 11, 12, 13, 14, 15, 16, 17, 18, 19, 20, 21, 22] (by decide +kernel) (by decide +kernel)
set_option maxRecDepth 20000 in
theorem gX6_dares_X0_dares_s9 : GoodIn wsX6_dares (va_wsSU RX6 9 yX0_dares wsX0_dares) := goodIn_app (goodIn_of _ (by decide +kernel)) ggX6_dares_X0_dares
set_option maxRecDepth 20000 in
theorem ggX6_told_X8_leave : GoodIn wsX6_told wsX8_leave := goodIn_r _ [5, 6, 33] (by decide +kernel) (by decide +kernel)
set_option maxRecDepth 20000 in
theorem gX6_told_X8_leave : GoodIn wsX6_told (wsV RX6 13 RX8 yX8_leave wsX8_leave) := goodIn_app (goodIn_of _ (by decide +kernel)) ggX6_told_X8_leave
set_option maxRecDepth 20000 in
theorem ggX6_told_X0_told : GoodIn wsX6_told wsX0_told := goodIn_r _ [12, 13, 2, 3, 4, 5, 6, 14, 15, 16, 17, 18, 19, 20, 21, 22, 23, 24, 25, 26, 27, 28, 29, 33, 34, 35, 36, 37, 38, 39, 40, 41, 42] (by decide +kernel) (by decide +kernel)
set_option maxRecDepth 20000 in
theorem gX6_told_X0_told_s19 : GoodIn wsX6_told (va_wsSU RX6 19 yX0_told wsX0_told) := goodIn_app (goodIn_of _ (by decide +kernel)) ggX6_told_X0_told
set_option maxRecDepth 20000 in
theorem ggX6_told_X5_toldAsSubject : GoodIn wsX6_told wsX5_toldAsSubject := goodIn_r _ [24, 25, 26, 2, 3, 4, 5, 6, 34, 35, 36, 37, 38, 39, 40, 41, 42, 33] (by decide +kernel) (by decide +kernel)
set_option maxRecDepth 20000 in
theorem gX6_told_X5_toldAsSubject_u23X6 : GoodIn wsX6_told (va_wsU RX6 23 RX6 "SilkWord$Subject" ⟨"SilkWord$Tailor", "toldAsSubject", "(LSilkWord$Trace;)I"⟩ yX5_toldAsSubject wsX5_toldAsSubject) := goodIn_app (goodIn_of _ (by decide +kernel)) ggX6_told_X5_toldAsSubject
set_option maxRecDepth 20000 in
theorem ggX6_bowedTo_X8_leave : GoodIn wsX6_bowedTo wsX8_leave := goodIn_r _ [5, 6, 7] (by decide +kernel) (by decide +kernel)
set_option maxRecDepth 20000 in
theorem gX6_bowedTo_X8_leave : GoodIn wsX6_bowedTo (wsV RX6 13 RX8 yX8_leave wsX8_leave) := goodIn_app (goodIn_of _ (by decide +kernel)) ggX6_bowedTo_X8_leave
set_option maxRecDepth 20000 in
theorem ggX7_takeAll_X7_clear : GoodIn wsX7_takeAll wsX7_clear := goodIn_r _ [12, 1, 4, 7, 21, 22, 23, 24, 25, 26, 27] (by decide +kernel) (by decide +kernel)
set_option maxRecDepth 20000 in
theorem gX7_takeAll_X7_clear : GoodIn wsX7_takeAll (wsV RX7 34 RX7 yX7_clear wsX7_clear) := goodIn_app (goodIn_of _ (by decide +kernel)) ggX7_takeAll_X7_clear
set_option maxRecDepth 20000 in
theorem ggX7_takeAll_X7_addWord : GoodIn wsX7_takeAll wsX7_addWord := goodIn_r _ [16, 1, 2, 3, 21, 22, 23, 24, 25, 26, 27] (by decide +kernel) (by decide +kernel)
set_option maxRecDepth 20000 in
theorem gX7_takeAll_X7_addWord : GoodIn wsX7_takeAll (wsV RX7 37 RX7 yX7_addWord wsX7_addWord) := goodIn_app (goodIn_of _ (by decide +kernel)) ggX7_takeAll_X7_addWord
set_option maxRecDepth 20000 in
theorem ggX7_takeAll_X7_addWhisper : GoodIn wsX7_takeAll wsX7_addWhisper := goodIn_r _ [20, 4, 5, 6, 21, 22, 23, 24, 25, 26, 27] (by decide +kernel) (by decide +kernel)
set_option maxRecDepth 20000 in
theorem gX7_takeAll_X7_addWhisper : GoodIn wsX7_takeAll (wsV RX7 41 RX7 yX7_addWhisper wsX7_addWhisper) := goodIn_app (goodIn_of _ (by decide +kernel)) ggX7_takeAll_X7_addWhisper
set_option maxRecDepth 20000 in
theorem ggX7_dropWordAt_X7_dropWords : GoodIn wsX7_dropWordAt wsX7_dropWords := goodIn_r _ [8, 1, 9, 10, 11, 12, 13, 14, 15, 16, 17, 18, 19] (by decide +kernel) (by decide +kernel)
set_option maxRecDepth 20000 in
theorem gX7_dropWordAt_X7_dropWords : GoodIn wsX7_dropWordAt (wsV RX7 50 RX7 yX7_dropWords wsX7_dropWords) := goodIn_app (goodIn_of _ (by decide +kernel)) ggX7_dropWordAt_X7_dropWords
set_option maxRecDepth 20000 in
theorem ggX7_bribed_X10_isIn : GoodIn wsX7_bribed wsX10_isIn := goodIn_r _ [4] (by decide +kernel) (by decide +kernel)
set_option maxRecDepth 20000 in
theorem gX7_bribed_X10_isIn_n54 : GoodIn wsX7_bribed (wsX10_isIn) := ggX7_bribed_X10_isIn
set_option maxRecDepth 20000 in
theorem ggX9_init_X7_init : GoodIn wsX9_init wsX7_init := goodIn_r _ [16, 17, 2, 3, 18, 19, 20, 21, 22, 28, 29, 30, 31, 32, 33, 34] (by decide +kernel) (by decide +kernel)
set_option maxRecDepth 20000 in
theorem gX9_init_X7_init_n11 : GoodIn wsX9_init (wsX7_init) := ggX9_init_X7_init
set_option maxRecDepth 20000 in
theorem ggX9_init_X1_init : GoodIn wsX9_init wsX1_init := goodIn_r _ [24, 25, 2, 3, 18, 26, 27, 40, 41] (by decide +kernel) (by decide +kernel)
set_option maxRecDepth 20000 in
theorem gX9_init_X1_init_n20 : GoodIn wsX9_init (wsX1_init) := ggX9_init_X1_init
set_option maxRecDepth 20000 in
theorem ggX9_fewestWords_X4_everyone : GoodIn wsX9_fewestWords wsX4_everyone := goodIn_r _ [6, 7, 114, 115, 116, 117] (by decide +kernel) (by decide +kernel)
set_option maxRecDepth 20000 in
theorem gX9_fewestWords_X4_everyone : GoodIn wsX9_fewestWords (wsV RX9 36 RX4 yX4_everyone wsX4_everyone) := goodIn_app (goodIn_of _ (by decide +kernel)) ggX9_fewestWords_X4_everyone
set_option maxRecDepth 20000 in
theorem ggX9_fewestWords_X9_isFewer : GoodIn wsX9_fewestWords wsX9_isFewer := goodIn_r _ [11, 12, 13, 14, 15, 16, 17, 18] (by decide +kernel) (by decide +kernel)
set_option maxRecDepth 20000 in
theorem gX9_fewestWords_X9_isFewer : GoodIn wsX9_fewestWords (va_wsS RX9 42 yX9_isFewer wsX9_isFewer) := goodIn_app (goodIn_of _ (by decide +kernel)) ggX9_fewestWords_X9_isFewer
set_option maxRecDepth 20000 in
theorem ggX9_fewestWords_X9_allSayWithWordsAt : GoodIn wsX9_fewestWords wsX9_allSayWithWordsAt := goodIn_r _ [22, 23, 24, 1, 25, 26, 27, 28, 29, 30, 31, 32, 33, 34, 35, 36, 37, 38, 39, 40, 41, 42, 43, 44, 45, 46, 47, 48, 49, 50, 51, 5, 52, 7, 53, 54, 55, 56, 57, 58, 59, 10, 60, 61, 62, 63, 64, 65, 66, 67, 68, 69, 70, 71, 72, 73, 74, 75, 76, 77, 78, 79, 80, 81, 82, 83, 84, 85, 86, 87, 88, 89, 90, 91, 3, 4, 6, 92, 93, 94, 95, 96, 13, 14, 15, 16, 17, 18, 97, 98, 99, 100, 101, 102, 103, 104, 105, 106, 107, 108, 2, 109, 110, 111, 112, 113, 118, 119, 120, 121, 122, 123, 124, 114, 115, 116, 117, 125, 126] (by decide +kernel) (by decide +kernel)
set_option maxRecDepth 20000 in
theorem gX9_fewestWords_X9_allSayWithWordsAt : GoodIn wsX9_fewestWords (wsV RX9 46 RX9 yX9_allSayWithWordsAt wsX9_allSayWithWordsAt) := goodIn_app (goodIn_of _ (by decide +kernel)) ggX9_fewestWords_X9_allSayWithWordsAt
set_option maxRecDepth 20000 in
theorem ggX9_allSayWithWordsAt_X7_takeAll : GoodIn wsX9_allSayWithWordsAt wsX7_takeAll := goodIn_r _ [8, 9, 10, 11, 12, 13, 14, 15, 16, 17, 18, 7, 19, 20, 21, 22, 23, 24, 25, 26, 27, 106, 107, 108, 109, 110, 111, 112] (by decide +kernel) (by decide +kernel)
set_option maxRecDepth 20000 in
theorem gX9_allSayWithWordsAt_X7_takeAll : GoodIn wsX9_allSayWithWordsAt (wsV RX9 50 RX7 yX7_takeAll wsX7_takeAll) := goodIn_app (goodIn_of _ (by decide +kernel)) ggX9_allSayWithWordsAt_X7_takeAll
set_option maxRecDepth 20000 in
theorem ggX9_allSayWithWordsAt_X4_size : GoodIn wsX9_allSayWithWordsAt wsX4_size := goodIn_r _ [32, 33, 113, 114, 115, 116] (by decide +kernel) (by decide +kernel)
set_option maxRecDepth 20000 in
theorem gX9_allSayWithWordsAt_X4_size : GoodIn wsX9_allSayWithWordsAt (wsV RX9 54 RX4 yX4_size wsX4_size) := goodIn_app (goodIn_of _ (by decide +kernel)) ggX9_allSayWithWordsAt_X4_size
set_option maxRecDepth 20000 in
theorem ggX9_allSayWithWordsAt_X10_isIn : GoodIn wsX9_allSayWithWordsAt wsX10_isIn := goodIn_r _ [36] (by decide +kernel) (by decide +kernel)
set_option maxRecDepth 20000 in
theorem gX9_allSayWithWordsAt_X10_isIn_n57 : GoodIn wsX9_allSayWithWordsAt (wsX10_isIn) := ggX9_allSayWithWordsAt_X10_isIn
set_option maxRecDepth 20000 in
theorem ggX9_allSayWithWordsAt_X7_addWord : GoodIn wsX9_allSayWithWordsAt wsX7_addWord := goodIn_r _ [23, 9, 10, 11, 106, 107, 108, 109, 110, 111, 112] (by decide +kernel) (by decide +kernel)
set_option maxRecDepth 20000 in
theorem gX9_allSayWithWordsAt_X7_addWord : GoodIn wsX9_allSayWithWordsAt (wsV RX9 60 RX7 yX7_addWord wsX7_addWord) := goodIn_app (goodIn_of _ (by decide +kernel)) ggX9_allSayWithWordsAt_X7_addWord
set_option maxRecDepth 20000 in
theorem ggX9_allSayWithWordsAt_X9_sayAtLast : GoodIn wsX9_allSayWithWordsAt wsX9_sayAtLast := goodIn_r _ [42, 43, 3, 1, 44, 45, 46, 47, 48, 49, 50, 51, 52, 7, 53, 9, 11, 54, 55, 56, 57, 58, 59, 29, 30, 31, 32, 33, 60, 61, 62, 63, 64, 65, 66, 67, 68, 10, 12, 13, 14, 69, 70, 71, 72, 73, 74, 75, 76, 77, 78, 79, 80, 15, 81, 82, 83, 84, 85, 86, 87, 34, 35, 36, 88, 89, 90, 91, 92, 93, 94, 95, 96, 97, 98, 101, 102, 103, 104, 105, 117, 118, 106, 107, 108, 109, 110, 111, 112, 113, 114, 115, 116] (by decide +kernel) (by decide +kernel)
set_option maxRecDepth 20000 in
theorem gX9_allSayWithWordsAt_X9_sayAtLast : GoodIn wsX9_allSayWithWordsAt (wsV RX9 64 RX9 yX9_sayAtLast wsX9_sayAtLast) := goodIn_app (goodIn_of _ (by decide +kernel)) ggX9_allSayWithWordsAt_X9_sayAtLast
set_option maxRecDepth 20000 in
theorem ggX9_allSayWithWordsAt_X7_bribedSet : GoodIn wsX9_allSayWithWordsAt wsX7_bribedSet := goodIn_r _ [80, 15, 106, 107, 108, 109, 110, 111, 112] (by decide +kernel) (by decide +kernel)
set_option maxRecDepth 20000 in
theorem gX9_allSayWithWordsAt_X7_bribedSet : GoodIn wsX9_allSayWithWordsAt (wsV RX9 67 RX7 yX7_bribedSet wsX7_bribedSet) := goodIn_app (goodIn_of _ (by decide +kernel)) ggX9_allSayWithWordsAt_X7_bribedSet
set_option maxRecDepth 20000 in
theorem ggX9_allSayWithWordsAt_X4_everyone : GoodIn wsX9_allSayWithWordsAt wsX4_everyone := goodIn_r _ [76, 33, 113, 114, 115, 116] (by decide +kernel) (by decide +kernel)
set_option maxRecDepth 20000 in
theorem gX9_allSayWithWordsAt_X4_everyone : GoodIn wsX9_allSayWithWordsAt (wsV RX9 36 RX4 yX4_everyone wsX4_everyone) := goodIn_app (goodIn_of _ (by decide +kernel)) ggX9_allSayWithWordsAt_X4_everyone
set_option maxRecDepth 20000 in
theorem ggX9_fewestBribes_X4_everyone : GoodIn wsX9_fewestBribes wsX4_everyone := goodIn_r _ [8, 9, 112, 113, 114, 115] (by decide +kernel) (by decide +kernel)
set_option maxRecDepth 20000 in
theorem gX9_fewestBribes_X4_everyone : GoodIn wsX9_fewestBribes (wsV RX9 36 RX4 yX4_everyone wsX4_everyone) := goodIn_app (goodIn_of _ (by decide +kernel)) ggX9_fewestBribes_X4_everyone
set_option maxRecDepth 20000 in
theorem ggX9_fewestBribes_X10_isIn : GoodIn wsX9_fewestBribes wsX10_isIn := goodIn_r _ [12] (by decide +kernel) (by decide +kernel)
set_option maxRecDepth 20000 in
theorem gX9_fewestBribes_X10_isIn_n57 : GoodIn wsX9_fewestBribes (wsX10_isIn) := ggX9_fewestBribes_X10_isIn
set_option maxRecDepth 20000 in
theorem ggX9_fewestBribes_X9_isFewer : GoodIn wsX9_fewestBribes wsX9_isFewer := goodIn_r _ [16, 17, 18, 19, 20, 21, 22, 23] (by decide +kernel) (by decide +kernel)
set_option maxRecDepth 20000 in
theorem gX9_fewestBribes_X9_isFewer : GoodIn wsX9_fewestBribes (va_wsS RX9 42 yX9_isFewer wsX9_isFewer) := goodIn_app (goodIn_of _ (by decide +kernel)) ggX9_fewestBribes_X9_isFewer
set_option maxRecDepth 20000 in
theorem ggX9_fewestBribes_X7_takeAll : GoodIn wsX9_fewestBribes wsX7_takeAll := goodIn_r _ [28, 29, 30, 31, 32, 33, 34, 35, 36, 37, 38, 27, 39, 40, 41, 42, 43, 44, 45, 46, 47, 116, 117, 118, 119, 120, 121, 122] (by decide +kernel) (by decide +kernel)
set_option maxRecDepth 20000 in
theorem gX9_fewestBribes_X7_takeAll : GoodIn wsX9_fewestBribes (wsV RX9 50 RX7 yX7_takeAll wsX7_takeAll) := goodIn_app (goodIn_of _ (by decide +kernel)) ggX9_fewestBribes_X7_takeAll
set_option maxRecDepth 20000 in
theorem ggX9_fewestBribes_X7_bribedSet : GoodIn wsX9_fewestBribes wsX7_bribedSet := goodIn_r _ [51, 35, 116, 117, 118, 119, 120, 121, 122] (by decide +kernel) (by decide +kernel)
set_option maxRecDepth 20000 in
theorem gX9_fewestBribes_X7_bribedSet : GoodIn wsX9_fewestBribes (wsV RX9 67 RX7 yX7_bribedSet wsX7_bribedSet) := goodIn_app (goodIn_of _ (by decide +kernel)) ggX9_fewestBribes_X7_bribedSet
set_option maxRecDepth 20000 in
theorem ggX9_fewestBribes_X7_setBribed : GoodIn wsX9_fewestBribes wsX7_setBribed := goodIn_r _ [55, 35, 116, 117, 118, 119, 120, 121, 122] (by decide +kernel) (by decide +kernel)
set_option maxRecDepth 20000 in
theorem gX9_fewestBribes_X7_setBribed : GoodIn wsX9_fewestBribes (wsV RX9 70 RX7 yX7_setBribed wsX7_setBribed) := goodIn_app (goodIn_of _ (by decide +kernel)) ggX9_fewestBribes_X7_setBribed
set_option maxRecDepth 20000 in
theorem ggX9_fewestBribes_X9_sayAtLast : GoodIn wsX9_fewestBribes wsX9_sayAtLast := goodIn_r _ [59, 60, 1, 2, 61, 62, 63, 64, 65, 66, 67, 68, 69, 27, 70, 29, 31, 71, 72, 73, 74, 75, 76, 77, 78, 7, 79, 9, 80, 81, 82, 83, 84, 85, 86, 87, 88, 30, 32, 33, 34, 89, 90, 91, 92, 93, 5, 6, 8, 94, 49, 50, 51, 35, 95, 18, 19, 20, 21, 22, 23, 10, 11, 12, 96, 97, 98, 99, 100, 101, 102, 103, 104, 105, 106, 107, 108, 109, 110, 111, 123, 124, 116, 117, 118, 119, 120, 121, 122, 112, 113, 114, 115] (by decide +kernel) (by decide +kernel)
set_option maxRecDepth 20000 in
theorem gX9_fewestBribes_X9_sayAtLast : GoodIn wsX9_fewestBribes (wsV RX9 64 RX9 yX9_sayAtLast wsX9_sayAtLast) := goodIn_app (goodIn_of _ (by decide +kernel)) ggX9_fewestBribes_X9_sayAtLast
set_option maxRecDepth 20000 in
theorem ggX9_isFewer_J6_bitCount_0f7a4 : GoodIn wsX9_isFewer wsJ6_bitCount_0f7a4 := goodIn_r _ [4, 5, 6, 7] (by decide +kernel) (by decide +kernel)
set_option maxRecDepth 20000 in
theorem gX9_isFewer_J6_bitCount_0f7a4 : GoodIn wsX9_isFewer (va_wsS RX9 74 yJ6_bitCount_0f7a4 wsJ6_bitCount_0f7a4) := goodIn_app (goodIn_of _ (by decide +kernel)) ggX9_isFewer_J6_bitCount_0f7a4
set_option maxRecDepth 20000 in
theorem ggX9_bestWhisper_X9_countNow : GoodIn wsX9_bestWhisper wsX9_countNow := goodIn_r _ [6, 7, 8, 9, 10, 11, 12, 13, 14, 15, 16, 17, 18, 19, 20, 21, 22, 23, 24, 25, 26, 27, 28, 29, 30, 31, 32, 33, 34, 35, 5, 36, 37, 1, 38, 39, 40, 41, 42, 43, 44, 45, 46, 47, 48, 49, 50, 51, 52, 53, 54, 55, 56, 57, 58, 59, 60, 61, 62, 63, 64, 65, 66, 67, 68, 69, 70, 71, 72, 73, 74, 75, 76, 77, 78, 79, 80, 81, 82, 83, 84, 85, 86, 87, 88, 89, 90, 91, 92, 93, 94, 95, 96, 97, 98, 99, 100, 101, 108, 109, 110, 111, 112, 113, 114, 115, 116, 117, 118, 119, 120, 121, 122, 123, 124, 125] (by decide +kernel) (by decide +kernel)
set_option maxRecDepth 20000 in
theorem gX9_bestWhisper_X9_countNow : GoodIn wsX9_bestWhisper (wsV RX9 80 RX9 yX9_countNow wsX9_countNow) := goodIn_app (goodIn_of _ (by decide +kernel)) ggX9_bestWhisper_X9_countNow
set_option maxRecDepth 20000 in
theorem ggX9_bestWhisper_X4_size : GoodIn wsX9_bestWhisper wsX4_size := goodIn_r _ [57, 58, 122, 123, 124, 125] (by decide +kernel) (by decide +kernel)
set_option maxRecDepth 20000 in
theorem gX9_bestWhisper_X4_size : GoodIn wsX9_bestWhisper (wsV RX9 54 RX4 yX4_size wsX4_size) := goodIn_app (goodIn_of _ (by decide +kernel)) ggX9_bestWhisper_X4_size
set_option maxRecDepth 20000 in
theorem ggX9_bestWhisper_X9_countWithWhisper : GoodIn wsX9_bestWhisper wsX9_countWithWhisper := goodIn_r _ [106, 7, 8, 2, 3, 4, 5, 6, 9, 10, 11, 12, 13, 14, 15, 16, 17, 18, 19, 20, 21, 22, 23, 24, 25, 26, 27, 28, 29, 30, 31, 32, 33, 34, 35, 36, 37, 1, 38, 39, 40, 41, 42, 43, 44, 45, 46, 47, 48, 49, 50, 51, 52, 53, 54, 55, 56, 57, 58, 59, 60, 61, 62, 63, 64, 65, 66, 67, 68, 69, 70, 71, 72, 73, 74, 75, 76, 77, 78, 79, 80, 81, 82, 83, 84, 85, 86, 87, 88, 89, 90, 91, 92, 93, 94, 95, 96, 97, 98, 99, 100, 101, 107, 108, 109, 110, 111, 112, 113, 114, 115, 116, 117, 118, 119, 120, 121, 122, 123, 124, 125] (by decide +kernel) (by decide +kernel)
set_option maxRecDepth 20000 in
theorem gX9_bestWhisper_X9_countWithWhisper : GoodIn wsX9_bestWhisper (wsV RX9 83 RX9 yX9_countWithWhisper wsX9_countWithWhisper) := goodIn_app (goodIn_of _ (by decide +kernel)) ggX9_bestWhisper_X9_countWithWhisper
set_option maxRecDepth 20000 in
theorem ggX9_countWithWhisper_X9_countNow : GoodIn wsX9_countWithWhisper wsX9_countNow := goodIn_r _ [7, 1, 2, 8, 9, 10, 11, 12, 13, 14, 15, 16, 17, 18, 19, 20, 21, 22, 23, 24, 25, 26, 27, 28, 29, 30, 31, 32, 33, 34, 6, 35, 36, 37, 38, 39, 40, 41, 42, 43, 44, 45, 46, 47, 48, 49, 50, 51, 52, 53, 54, 55, 56, 57, 58, 59, 60, 61, 62, 63, 64, 65, 66, 67, 68, 69, 70, 71, 72, 73, 74, 75, 76, 77, 78, 79, 80, 81, 82, 83, 84, 85, 86, 87, 88, 89, 90, 91, 92, 93, 94, 95, 96, 97, 98, 99, 100, 101, 103, 104, 105, 106, 107, 108, 109, 110, 111, 112, 113, 114, 115, 116, 117, 118, 119, 120] (by decide +kernel) (by decide +kernel)
set_option maxRecDepth 20000 in
theorem gX9_countWithWhisper_X9_countNow : GoodIn wsX9_countWithWhisper (wsV RX9 80 RX9 yX9_countNow wsX9_countNow) := goodIn_app (goodIn_of _ (by decide +kernel)) ggX9_countWithWhisper_X9_countNow
set_option maxRecDepth 20000 in
theorem ggX9_countWithWhisper_X7_takeAll : GoodIn wsX9_countWithWhisper wsX7_takeAll := goodIn_r _ [12, 13, 14, 15, 16, 17, 18, 19, 20, 21, 22, 11, 23, 24, 25, 26, 27, 28, 29, 30, 31, 108, 109, 110, 111, 112, 113, 114] (by decide +kernel) (by decide +kernel)
set_option maxRecDepth 20000 in
theorem gX9_countWithWhisper_X7_takeAll : GoodIn wsX9_countWithWhisper (wsV RX9 50 RX7 yX7_takeAll wsX7_takeAll) := goodIn_app (goodIn_of _ (by decide +kernel)) ggX9_countWithWhisper_X7_takeAll
set_option maxRecDepth 20000 in
theorem ggX9_countWithWhisper_X7_addWhisper : GoodIn wsX9_countWithWhisper wsX7_addWhisper := goodIn_r _ [31, 16, 17, 18, 108, 109, 110, 111, 112, 113, 114] (by decide +kernel) (by decide +kernel)
set_option maxRecDepth 20000 in
theorem gX9_countWithWhisper_X7_addWhisper : GoodIn wsX9_countWithWhisper (wsV RX9 86 RX7 yX7_addWhisper wsX7_addWhisper) := goodIn_app (goodIn_of _ (by decide +kernel)) ggX9_countWithWhisper_X7_addWhisper
set_option maxRecDepth 20000 in
theorem ggX9_countWithWhisper_X9_sayAtLast : GoodIn wsX9_countWithWhisper wsX9_sayAtLast := goodIn_r _ [35, 36, 37, 1, 38, 39, 40, 41, 42, 43, 44, 45, 46, 11, 47, 13, 15, 48, 49, 50, 51, 52, 53, 54, 55, 56, 57, 58, 59, 60, 61, 62, 63, 64, 65, 66, 67, 14, 16, 17, 18, 68, 69, 70, 71, 72, 73, 74, 75, 76, 77, 78, 79, 19, 80, 81, 82, 83, 84, 85, 86, 87, 88, 89, 90, 91, 92, 93, 94, 95, 96, 97, 98, 99, 100, 103, 104, 105, 106, 107, 115, 116, 108, 109, 110, 111, 112, 113, 114, 117, 118, 119, 120] (by decide +kernel) (by decide +kernel)
set_option maxRecDepth 20000 in
theorem gX9_countWithWhisper_X9_sayAtLast : GoodIn wsX9_countWithWhisper (wsV RX9 64 RX9 yX9_sayAtLast wsX9_sayAtLast) := goodIn_app (goodIn_of _ (by decide +kernel)) ggX9_countWithWhisper_X9_sayAtLast
set_option maxRecDepth 20000 in
theorem ggX9_countWithWhisper_J6_bitCount_0f7a4 : GoodIn wsX9_countWithWhisper wsJ6_bitCount_0f7a4 := goodIn_r _ [83, 84, 85, 86] (by decide +kernel) (by decide +kernel)
set_option maxRecDepth 20000 in
theorem gX9_countWithWhisper_J6_bitCount_0f7a4 : GoodIn wsX9_countWithWhisper (va_wsS RX9 74 yJ6_bitCount_0f7a4 wsJ6_bitCount_0f7a4) := goodIn_app (goodIn_of _ (by decide +kernel)) ggX9_countWithWhisper_J6_bitCount_0f7a4
set_option maxRecDepth 20000 in
theorem ggX9_countNow_X7_takeAll : GoodIn wsX9_countNow wsX7_takeAll := goodIn_r _ [7, 8, 9, 10, 11, 12, 13, 14, 15, 16, 17, 6, 18, 19, 20, 21, 22, 23, 24, 25, 26, 103, 104, 105, 106, 107, 108, 109] (by decide +kernel) (by decide +kernel)
set_option maxRecDepth 20000 in
theorem gX9_countNow_X7_takeAll : GoodIn wsX9_countNow (wsV RX9 50 RX7 yX7_takeAll wsX7_takeAll) := goodIn_app (goodIn_of _ (by decide +kernel)) ggX9_countNow_X7_takeAll
set_option maxRecDepth 20000 in
theorem ggX9_countNow_X9_sayAtLast : GoodIn wsX9_countNow wsX9_sayAtLast := goodIn_r _ [31, 32, 33, 1, 34, 35, 36, 37, 38, 39, 40, 41, 42, 6, 43, 8, 10, 44, 45, 46, 47, 48, 49, 50, 51, 52, 53, 54, 55, 56, 57, 58, 59, 60, 61, 62, 63, 9, 11, 12, 13, 64, 65, 66, 67, 68, 69, 70, 71, 72, 73, 74, 75, 14, 76, 77, 78, 79, 80, 81, 82, 83, 84, 85, 86, 87, 88, 89, 90, 91, 92, 93, 94, 95, 96, 98, 99, 100, 101, 102, 110, 111, 103, 104, 105, 106, 107, 108, 109, 112, 113, 114, 115] (by decide +kernel) (by decide +kernel)
set_option maxRecDepth 20000 in
theorem gX9_countNow_X9_sayAtLast : GoodIn wsX9_countNow (wsV RX9 64 RX9 yX9_sayAtLast wsX9_sayAtLast) := goodIn_app (goodIn_of _ (by decide +kernel)) ggX9_countNow_X9_sayAtLast
set_option maxRecDepth 20000 in
theorem ggX9_countNow_J6_bitCount_0f7a4 : GoodIn wsX9_countNow wsJ6_bitCount_0f7a4 := goodIn_r _ [79, 80, 81, 82] (by decide +kernel) (by decide +kernel)
set_option maxRecDepth 20000 in
theorem gX9_countNow_J6_bitCount_0f7a4 : GoodIn wsX9_countNow (va_wsS RX9 74 yJ6_bitCount_0f7a4 wsJ6_bitCount_0f7a4) := goodIn_app (goodIn_of _ (by decide +kernel)) ggX9_countNow_J6_bitCount_0f7a4
set_option maxRecDepth 20000 in
theorem ggX9_fewerWithout_X9_countNow : GoodIn wsX9_fewerWithout wsX9_countNow := goodIn_r _ [7, 1, 2, 8, 9, 10, 11, 12, 13, 14, 15, 16, 17, 18, 19, 20, 21, 22, 23, 24, 25, 26, 27, 28, 29, 30, 31, 32, 33, 34, 6, 35, 36, 37, 38, 39, 40, 41, 42, 43, 44, 45, 46, 47, 48, 49, 50, 51, 52, 53, 54, 55, 56, 57, 58, 59, 60, 61, 62, 63, 64, 65, 66, 67, 68, 69, 70, 71, 72, 73, 74, 75, 76, 77, 78, 79, 80, 81, 82, 83, 84, 85, 86, 87, 88, 89, 90, 91, 92, 93, 94, 95, 96, 97, 98, 99, 100, 101, 114, 115, 116, 117, 118, 119, 120, 121, 122, 123, 124, 125, 126, 127, 128, 129, 130, 131] (by decide +kernel) (by decide +kernel)
set_option maxRecDepth 20000 in
theorem gX9_fewerWithout_X9_countNow : GoodIn wsX9_fewerWithout (wsV RX9 80 RX9 yX9_countNow wsX9_countNow) := goodIn_app (goodIn_of _ (by decide +kernel)) ggX9_fewerWithout_X9_countNow
set_option maxRecDepth 20000 in
theorem ggX9_fewerWithout_X7_takeAll : GoodIn wsX9_fewerWithout wsX7_takeAll := goodIn_r _ [12, 13, 14, 15, 16, 17, 18, 19, 20, 21, 22, 11, 23, 24, 25, 26, 27, 28, 29, 30, 31, 119, 120, 121, 122, 123, 124, 125] (by decide +kernel) (by decide +kernel)
set_option maxRecDepth 20000 in
theorem gX9_fewerWithout_X7_takeAll : GoodIn wsX9_fewerWithout (wsV RX9 50 RX7 yX7_takeAll wsX7_takeAll) := goodIn_app (goodIn_of _ (by decide +kernel)) ggX9_fewerWithout_X7_takeAll
set_option maxRecDepth 20000 in
theorem ggX9_fewerWithout_X7_dropWordAt : GoodIn wsX9_fewerWithout wsX7_dropWordAt := goodIn_r _ [105, 13, 14, 15, 106, 107, 108, 11, 109, 110, 111, 112, 113, 119, 120, 121, 122, 123, 124, 125] (by decide +kernel) (by decide +kernel)
set_option maxRecDepth 20000 in
theorem gX9_fewerWithout_X7_dropWordAt : GoodIn wsX9_fewerWithout (wsV RX9 89 RX7 yX7_dropWordAt wsX7_dropWordAt) := goodIn_app (goodIn_of _ (by decide +kernel)) ggX9_fewerWithout_X7_dropWordAt
set_option maxRecDepth 20000 in
theorem ggX9_fewerWithout_X9_sayAtLast : GoodIn wsX9_fewerWithout wsX9_sayAtLast := goodIn_r _ [35, 36, 37, 1, 38, 39, 40, 41, 42, 43, 44, 45, 46, 11, 47, 13, 15, 48, 49, 50, 51, 52, 53, 54, 55, 56, 57, 58, 59, 60, 61, 62, 63, 64, 65, 66, 67, 14, 16, 17, 18, 68, 69, 70, 71, 72, 73, 74, 75, 76, 77, 78, 79, 19, 80, 81, 82, 83, 84, 85, 86, 87, 88, 89, 90, 91, 92, 93, 94, 95, 96, 97, 98, 99, 100, 114, 115, 116, 117, 118, 126, 127, 119, 120, 121, 122, 123, 124, 125, 128, 129, 130, 131] (by decide +kernel) (by decide +kernel)
set_option maxRecDepth 20000 in
theorem gX9_fewerWithout_X9_sayAtLast : GoodIn wsX9_fewerWithout (wsV RX9 64 RX9 yX9_sayAtLast wsX9_sayAtLast) := goodIn_app (goodIn_of _ (by decide +kernel)) ggX9_fewerWithout_X9_sayAtLast
set_option maxRecDepth 20000 in
theorem ggX9_fewerWithout_J6_bitCount_0f7a4 : GoodIn wsX9_fewerWithout wsJ6_bitCount_0f7a4 := goodIn_r _ [83, 84, 85, 86] (by decide +kernel) (by decide +kernel)
set_option maxRecDepth 20000 in
theorem gX9_fewerWithout_J6_bitCount_0f7a4 : GoodIn wsX9_fewerWithout (va_wsS RX9 74 yJ6_bitCount_0f7a4 wsJ6_bitCount_0f7a4) := goodIn_app (goodIn_of _ (by decide +kernel)) ggX9_fewerWithout_J6_bitCount_0f7a4
set_option maxRecDepth 20000 in
theorem ggX9_placesThatFit_X4_size : GoodIn wsX9_placesThatFit wsX4_size := goodIn_r _ [10, 11, 109, 110, 111, 112] (by decide +kernel) (by decide +kernel)
set_option maxRecDepth 20000 in
theorem gX9_placesThatFit_X4_size : GoodIn wsX9_placesThatFit (wsV RX9 54 RX4 yX4_size wsX4_size) := goodIn_app (goodIn_of _ (by decide +kernel)) ggX9_placesThatFit_X4_size
set_option maxRecDepth 20000 in
theorem ggX9_placesThatFit_X7_takeAll : GoodIn wsX9_placesThatFit wsX7_takeAll := goodIn_r _ [16, 17, 18, 19, 20, 21, 22, 23, 24, 25, 26, 15, 27, 28, 29, 30, 31, 32, 33, 34, 35, 113, 114, 115, 116, 117, 118, 119] (by decide +kernel) (by decide +kernel)
set_option maxRecDepth 20000 in
theorem gX9_placesThatFit_X7_takeAll : GoodIn wsX9_placesThatFit (wsV RX9 50 RX7 yX7_takeAll wsX7_takeAll) := goodIn_app (goodIn_of _ (by decide +kernel)) ggX9_placesThatFit_X7_takeAll
set_option maxRecDepth 20000 in
theorem ggX9_placesThatFit_X7_addWord : GoodIn wsX9_placesThatFit wsX7_addWord := goodIn_r _ [31, 17, 18, 19, 113, 114, 115, 116, 117, 118, 119] (by decide +kernel) (by decide +kernel)
set_option maxRecDepth 20000 in
theorem gX9_placesThatFit_X7_addWord : GoodIn wsX9_placesThatFit (wsV RX9 60 RX7 yX7_addWord wsX7_addWord) := goodIn_app (goodIn_of _ (by decide +kernel)) ggX9_placesThatFit_X7_addWord
set_option maxRecDepth 20000 in
theorem ggX9_placesThatFit_X1_pass : GoodIn wsX9_placesThatFit wsX1_pass := goodIn_r _ [41, 42, 43, 44, 45, 15, 46, 17, 19, 47, 48, 49, 40, 50, 51, 52, 7, 8, 9, 10, 11, 53, 54, 55, 56, 57, 58, 59, 60, 61, 18, 20, 21, 22, 62, 63, 64, 65, 66, 67, 68, 69, 70, 71, 72, 73, 23, 74, 75, 76, 77, 78, 79, 80, 81, 82, 83, 84, 85, 86, 87, 88, 120, 121, 113, 114, 115, 116, 117, 118, 119, 109, 110, 111, 112] (by decide +kernel) (by decide +kernel)
set_option maxRecDepth 20000 in
theorem gX9_placesThatFit_X1_pass : GoodIn wsX9_placesThatFit (wsV RX9 92 RX1 yX1_pass wsX1_pass) := goodIn_app (goodIn_of _ (by decide +kernel)) ggX9_placesThatFit_X1_pass
set_option maxRecDepth 20000 in
theorem ggX9_placesThatFit_X2_areAllSo : GoodIn wsX9_placesThatFit wsX2_areAllSo := goodIn_r _ [93, 94, 95, 96, 97, 98, 99, 100, 40, 101, 42, 102, 82, 103, 81, 83, 122, 123, 124, 125, 120, 121] (by decide +kernel) (by decide +kernel)
set_option maxRecDepth 20000 in
theorem gX9_placesThatFit_X2_areAllSo : GoodIn wsX9_placesThatFit (wsV RX9 96 RX2 yX2_areAllSo wsX2_areAllSo) := goodIn_app (goodIn_of _ (by decide +kernel)) ggX9_placesThatFit_X2_areAllSo
set_option maxRecDepth 20000 in
theorem ggX9_bribesThatFit_X4_size : GoodIn wsX9_bribesThatFit wsX4_size := goodIn_r _ [10, 11, 113, 114, 115, 116] (by decide +kernel) (by decide +kernel)
set_option maxRecDepth 20000 in
theorem gX9_bribesThatFit_X4_size : GoodIn wsX9_bribesThatFit (wsV RX9 54 RX4 yX4_size wsX4_size) := goodIn_app (goodIn_of _ (by decide +kernel)) ggX9_bribesThatFit_X4_size
set_option maxRecDepth 20000 in
theorem ggX9_bribesThatFit_X7_takeAll : GoodIn wsX9_bribesThatFit wsX7_takeAll := goodIn_r _ [16, 17, 18, 19, 20, 21, 22, 23, 24, 25, 26, 15, 27, 28, 29, 30, 31, 32, 33, 34, 35, 117, 118, 119, 120, 121, 122, 123] (by decide +kernel) (by decide +kernel)
set_option maxRecDepth 20000 in
theorem gX9_bribesThatFit_X7_takeAll : GoodIn wsX9_bribesThatFit (wsV RX9 50 RX7 yX7_takeAll wsX7_takeAll) := goodIn_app (goodIn_of _ (by decide +kernel)) ggX9_bribesThatFit_X7_takeAll
set_option maxRecDepth 20000 in
theorem ggX9_bribesThatFit_X7_bribedSet : GoodIn wsX9_bribesThatFit wsX7_bribedSet := goodIn_r _ [39, 23, 117, 118, 119, 120, 121, 122, 123] (by decide +kernel) (by decide +kernel)
set_option maxRecDepth 20000 in
theorem gX9_bribesThatFit_X7_bribedSet : GoodIn wsX9_bribesThatFit (wsV RX9 67 RX7 yX7_bribedSet wsX7_bribedSet) := goodIn_app (goodIn_of _ (by decide +kernel)) ggX9_bribesThatFit_X7_bribedSet
set_option maxRecDepth 20000 in
theorem ggX9_bribesThatFit_X7_setBribed : GoodIn wsX9_bribesThatFit wsX7_setBribed := goodIn_r _ [43, 23, 117, 118, 119, 120, 121, 122, 123] (by decide +kernel) (by decide +kernel)
set_option maxRecDepth 20000 in
theorem gX9_bribesThatFit_X7_setBribed : GoodIn wsX9_bribesThatFit (wsV RX9 70 RX7 yX7_setBribed wsX7_setBribed) := goodIn_app (goodIn_of _ (by decide +kernel)) ggX9_bribesThatFit_X7_setBribed
set_option maxRecDepth 20000 in
theorem ggX9_bribesThatFit_X1_pass : GoodIn wsX9_bribesThatFit wsX1_pass := goodIn_r _ [48, 49, 50, 51, 52, 15, 53, 17, 19, 54, 55, 56, 47, 57, 58, 59, 7, 8, 9, 10, 11, 60, 61, 62, 63, 64, 65, 66, 67, 68, 18, 20, 21, 22, 69, 70, 71, 72, 73, 74, 75, 76, 77, 37, 38, 39, 23, 78, 79, 80, 81, 82, 83, 84, 85, 86, 87, 88, 89, 90, 91, 92, 124, 125, 117, 118, 119, 120, 121, 122, 123, 113, 114, 115, 116] (by decide +kernel) (by decide +kernel)
set_option maxRecDepth 20000 in
theorem gX9_bribesThatFit_X1_pass : GoodIn wsX9_bribesThatFit (wsV RX9 92 RX1 yX1_pass wsX1_pass) := goodIn_app (goodIn_of _ (by decide +kernel)) ggX9_bribesThatFit_X1_pass
set_option maxRecDepth 20000 in
theorem ggX9_bribesThatFit_X2_areAllSo : GoodIn wsX9_bribesThatFit wsX2_areAllSo := goodIn_r _ [97, 98, 99, 100, 101, 102, 103, 104, 47, 105, 49, 106, 86, 107, 85, 87, 126, 127, 128, 129, 124, 125] (by decide +kernel) (by decide +kernel)
set_option maxRecDepth 20000 in
theorem gX9_bribesThatFit_X2_areAllSo : GoodIn wsX9_bribesThatFit (wsV RX9 96 RX2 yX2_areAllSo wsX2_areAllSo) := goodIn_app (goodIn_of _ (by decide +kernel)) ggX9_bribesThatFit_X2_areAllSo
set_option maxRecDepth 20000 in
theorem ggX9_shareOfSaying_X7_takeAll : GoodIn wsX9_shareOfSaying wsX7_takeAll := goodIn_r _ [9, 10, 11, 12, 13, 14, 15, 16, 17, 18, 19, 8, 20, 21, 22, 23, 24, 25, 26, 27, 28, 103, 104, 105, 106, 107, 108, 109] (by decide +kernel) (by decide +kernel)
set_option maxRecDepth 20000 in
theorem gX9_shareOfSaying_X7_takeAll : GoodIn wsX9_shareOfSaying (wsV RX9 50 RX7 yX7_takeAll wsX7_takeAll) := goodIn_app (goodIn_of _ (by decide +kernel)) ggX9_shareOfSaying_X7_takeAll
set_option maxRecDepth 20000 in
theorem ggX9_shareOfSaying_X4_everyone : GoodIn wsX9_shareOfSaying wsX4_everyone := goodIn_r _ [33, 34, 110, 111, 112, 113] (by decide +kernel) (by decide +kernel)
set_option maxRecDepth 20000 in
theorem gX9_shareOfSaying_X4_everyone : GoodIn wsX9_shareOfSaying (wsV RX9 36 RX4 yX4_everyone wsX4_everyone) := goodIn_app (goodIn_of _ (by decide +kernel)) ggX9_shareOfSaying_X4_everyone
set_option maxRecDepth 20000 in
theorem ggX9_shareOfSaying_X7_setBribed : GoodIn wsX9_shareOfSaying wsX7_setBribed := goodIn_r _ [38, 16, 103, 104, 105, 106, 107, 108, 109] (by decide +kernel) (by decide +kernel)
set_option maxRecDepth 20000 in
theorem gX9_shareOfSaying_X7_setBribed : GoodIn wsX9_shareOfSaying (wsV RX9 70 RX7 yX7_setBribed wsX7_setBribed) := goodIn_app (goodIn_of _ (by decide +kernel)) ggX9_shareOfSaying_X7_setBribed
set_option maxRecDepth 20000 in
theorem ggX9_shareOfSaying_X1_pass : GoodIn wsX9_shareOfSaying wsX1_pass := goodIn_r _ [43, 44, 45, 46, 47, 8, 48, 10, 12, 49, 50, 51, 42, 52, 53, 54, 55, 56, 32, 57, 34, 58, 59, 60, 61, 62, 63, 64, 65, 66, 11, 13, 14, 15, 67, 68, 69, 70, 71, 30, 31, 33, 72, 73, 74, 75, 16, 76, 77, 78, 79, 80, 81, 82, 83, 84, 85, 86, 87, 88, 89, 90, 114, 115, 103, 104, 105, 106, 107, 108, 109, 110, 111, 112, 113] (by decide +kernel) (by decide +kernel)
set_option maxRecDepth 20000 in
theorem gX9_shareOfSaying_X1_pass : GoodIn wsX9_shareOfSaying (wsV RX9 92 RX1 yX1_pass wsX1_pass) := goodIn_app (goodIn_of _ (by decide +kernel)) ggX9_shareOfSaying_X1_pass
set_option maxRecDepth 20000 in
theorem ggX9_shareOfSaying_X1_saidBy : GoodIn wsX9_shareOfSaying wsX1_saidBy := goodIn_r _ [94, 44, 95, 84, 96, 114, 115] (by decide +kernel) (by decide +kernel)
set_option maxRecDepth 20000 in
theorem gX9_shareOfSaying_X1_saidBy : GoodIn wsX9_shareOfSaying (wsV RX9 102 RX1 yX1_saidBy wsX1_saidBy) := goodIn_app (goodIn_of _ (by decide +kernel)) ggX9_shareOfSaying_X1_saidBy
set_option maxRecDepth 20000 in
theorem ggX9_shareOfSaying_X10_isIn : GoodIn wsX9_shareOfSaying wsX10_isIn := goodIn_r _ [85] (by decide +kernel) (by decide +kernel)
set_option maxRecDepth 20000 in
theorem gX9_shareOfSaying_X10_isIn_n57 : GoodIn wsX9_shareOfSaying (wsX10_isIn) := ggX9_shareOfSaying_X10_isIn
set_option maxRecDepth 20000 in
theorem ggX9_shareOfSaying_X4_size : GoodIn wsX9_shareOfSaying wsX4_size := goodIn_r _ [57, 34, 110, 111, 112, 113] (by decide +kernel) (by decide +kernel)
set_option maxRecDepth 20000 in
theorem gX9_shareOfSaying_X4_size : GoodIn wsX9_shareOfSaying (wsV RX9 54 RX4 yX4_size wsX4_size) := goodIn_app (goodIn_of _ (by decide +kernel)) ggX9_shareOfSaying_X4_size
set_option maxRecDepth 20000 in
theorem ggX9_sayAtLast_X1_pass : GoodIn wsX9_sayAtLast wsX1_pass := goodIn_r _ [8, 9, 10, 11, 12, 13, 14, 15, 16, 17, 18, 19, 7, 20, 21, 22, 23, 24, 25, 26, 27, 28, 29, 30, 31, 32, 33, 34, 35, 36, 37, 38, 39, 40, 41, 42, 43, 44, 45, 46, 47, 48, 49, 50, 51, 52, 53, 54, 55, 56, 57, 58, 59, 60, 61, 62, 63, 64, 65, 66, 67, 68, 80, 81, 82, 83, 84, 85, 86, 87, 88, 89, 90, 91, 92] (by decide +kernel) (by decide +kernel)
set_option maxRecDepth 20000 in
theorem gX9_sayAtLast_X1_pass : GoodIn wsX9_sayAtLast (wsV RX9 92 RX1 yX1_pass wsX1_pass) := goodIn_app (goodIn_of _ (by decide +kernel)) ggX9_sayAtLast_X1_pass
set_option maxRecDepth 20000 in
theorem ggX9_sayAtLast_X1_saidBy : GoodIn wsX9_sayAtLast wsX1_saidBy := goodIn_r _ [72, 9, 73, 62, 74, 80, 81] (by decide +kernel) (by decide +kernel)
set_option maxRecDepth 20000 in
theorem gX9_sayAtLast_X1_saidBy : GoodIn wsX9_sayAtLast (wsV RX9 102 RX1 yX1_saidBy wsX1_saidBy) := goodIn_app (goodIn_of _ (by decide +kernel)) ggX9_sayAtLast_X1_saidBy
set_option maxRecDepth 20000 in
theorem ggX10_init_X3_init : GoodIn wsX10_init wsX3_init := goodIn_r _ [34, 35, 2, 3, 36, 37, 86, 87, 88, 89] (by decide +kernel) (by decide +kernel)
set_option maxRecDepth 20000 in
theorem gX10_init_X3_init_n17 : GoodIn wsX10_init (wsX3_init) := ggX10_init_X3_init
set_option maxRecDepth 20000 in
theorem ggX10_init_X4_init : GoodIn wsX10_init wsX4_init := goodIn_r _ [39, 40, 2, 3, 41, 42, 36, 43, 44, 90, 91, 92, 93] (by decide +kernel) (by decide +kernel)
set_option maxRecDepth 20000 in
theorem gX10_init_X4_init_n20 : GoodIn wsX10_init (wsX4_init) := ggX10_init_X4_init
set_option maxRecDepth 20000 in
theorem ggX10_init_X7_init : GoodIn wsX10_init wsX7_init := goodIn_r _ [46, 47, 2, 3, 36, 48, 49, 50, 51, 94, 95, 96, 97, 98, 99, 100] (by decide +kernel) (by decide +kernel)
set_option maxRecDepth 20000 in
theorem gX10_init_X7_init_n27 : GoodIn wsX10_init (wsX7_init) := ggX10_init_X7_init
set_option maxRecDepth 20000 in
theorem ggX10_init_X1_init : GoodIn wsX10_init wsX1_init := goodIn_r _ [53, 54, 2, 3, 36, 55, 56, 101, 102] (by decide +kernel) (by decide +kernel)
set_option maxRecDepth 20000 in
theorem gX10_init_X1_init_n34 : GoodIn wsX10_init (wsX1_init) := ggX10_init_X1_init
set_option maxRecDepth 20000 in
theorem ggX10_init_X2_init : GoodIn wsX10_init wsX2_init := goodIn_r _ [58, 59, 2, 3, 36, 60, 61, 62, 63, 103, 104, 105, 106] (by decide +kernel) (by decide +kernel)
set_option maxRecDepth 20000 in
theorem gX10_init_X2_init_n41 : GoodIn wsX10_init (wsX2_init) := ggX10_init_X2_init
set_option maxRecDepth 20000 in
theorem ggX10_init_X9_init : GoodIn wsX10_init wsX9_init := goodIn_r _ [66, 67, 2, 3, 68, 13, 14, 69, 70, 17, 18, 71, 72, 73, 74, 45, 46, 47, 36, 48, 49, 50, 51, 52, 53, 54, 55, 56, 94, 95, 96, 97, 98, 99, 100, 107, 108, 109, 110, 111, 101, 102] (by decide +kernel) (by decide +kernel)
set_option maxRecDepth 20000 in
theorem gX10_init_X9_init : GoodIn wsX10_init (wsX9_init) := ggX10_init_X9_init
set_option maxRecDepth 20000 in
theorem ggX10_init_X8_init : GoodIn wsX10_init wsX8_init := goodIn_r _ [76, 77, 2, 3] (by decide +kernel) (by decide +kernel)
set_option maxRecDepth 20000 in
theorem gX10_init_X8_init_n57 : GoodIn wsX10_init (wsX8_init) := ggX10_init_X8_init
set_option maxRecDepth 20000 in
theorem ggX10_street_X10_sheetAt : GoodIn wsX10_street wsX10_sheetAt := goodIn_r _ [9, 10, 135, 136, 137, 138, 139, 140, 141, 142] (by decide +kernel) (by decide +kernel)
set_option maxRecDepth 20000 in
theorem gX10_street_X10_sheetAt : GoodIn wsX10_street (wsV RX10 66 RX10 yX10_sheetAt wsX10_sheetAt) := goodIn_app (goodIn_of _ (by decide +kernel)) ggX10_street_X10_sheetAt
set_option maxRecDepth 20000 in
theorem ggX10_street_X10_isLane : GoodIn wsX10_street wsX10_isLane := goodIn_r _ [13] (by decide +kernel) (by decide +kernel)
set_option maxRecDepth 20000 in
theorem gX10_street_X10_isLane : GoodIn wsX10_street (va_wsS RX10 70 yX10_isLane wsX10_isLane) := goodIn_app (goodIn_of _ (by decide +kernel)) ggX10_street_X10_isLane
set_option maxRecDepth 20000 in
theorem ggX10_street_X3_faultOfTaking : GoodIn wsX10_street wsX3_faultOfTaking := goodIn_r _ [18, 19, 20, 21, 17, 22, 23, 24, 25, 26, 27, 28, 29, 143, 144, 145, 146] (by decide +kernel) (by decide +kernel)
set_option maxRecDepth 20000 in
theorem gX10_street_X3_faultOfTaking : GoodIn wsX10_street (wsV RX10 74 RX3 yX3_faultOfTaking wsX3_faultOfTaking) := goodIn_app (goodIn_of _ (by decide +kernel)) ggX10_street_X3_faultOfTaking
set_option maxRecDepth 20000 in
theorem ggX10_street_X10_faulted : GoodIn wsX10_street wsX10_faulted := goodIn_r _ [33, 1, 135, 136, 137, 138, 139, 140, 141, 142] (by decide +kernel) (by decide +kernel)
set_option maxRecDepth 20000 in
theorem gX10_street_X10_faulted : GoodIn wsX10_street (wsV RX10 78 RX10 yX10_faulted wsX10_faulted) := goodIn_app (goodIn_of _ (by decide +kernel)) ggX10_street_X10_faulted
set_option maxRecDepth 20000 in
theorem ggX10_street_X4_firstWrong : GoodIn wsX10_street wsX4_firstWrong := goodIn_r _ [37, 38, 39, 40, 17, 41, 42, 43, 44, 45, 46, 29, 47, 48, 36, 49, 143, 144, 145, 146] (by decide +kernel) (by decide +kernel)
set_option maxRecDepth 20000 in
theorem gX10_street_X4_firstWrong : GoodIn wsX10_street (va_wsS RX10 82 yX4_firstWrong wsX4_firstWrong) := goodIn_app (goodIn_of _ (by decide +kernel)) ggX10_street_X4_firstWrong
set_option maxRecDepth 20000 in
theorem ggX10_street_X4_settle : GoodIn wsX10_street wsX4_settle := goodIn_r _ [53, 54, 55, 56, 57, 58, 59, 60, 61, 62, 38, 39, 40, 17, 41, 42, 43, 44, 45, 46, 29, 63, 64, 36, 65, 66, 67, 68, 69, 70, 71, 72, 73, 74, 75, 76, 77, 78, 79, 80, 81, 82, 83, 84, 85, 86, 87, 88, 89, 90, 91, 92, 93, 94, 95, 96, 97, 98, 99, 100, 101, 102, 103, 104, 105, 106, 107, 108, 109, 110, 111, 112, 113, 114, 115, 116, 147, 148, 149, 150, 151, 152, 153, 154, 155, 156, 157, 158, 159, 143, 144, 145, 146] (by decide +kernel) (by decide +kernel)
set_option maxRecDepth 20000 in
theorem gX10_street_X4_settle : GoodIn wsX10_street (wsV RX10 86 RX4 yX4_settle wsX4_settle) := goodIn_app (goodIn_of _ (by decide +kernel)) ggX10_street_X4_settle
set_option maxRecDepth 20000 in
theorem ggX10_street_X7_clear : GoodIn wsX10_street wsX7_clear := goodIn_r _ [121, 122, 123, 124, 160, 161, 162, 163, 164, 165, 166] (by decide +kernel) (by decide +kernel)
set_option maxRecDepth 20000 in
theorem gX10_street_X7_clear : GoodIn wsX10_street (wsV RX10 90 RX7 yX7_clear wsX7_clear) := goodIn_app (goodIn_of _ (by decide +kernel)) ggX10_street_X7_clear
set_option maxRecDepth 20000 in
theorem ggX10_street_X2_clear : GoodIn wsX10_street wsX2_clear := goodIn_r _ [129, 130, 167, 168, 169, 170] (by decide +kernel) (by decide +kernel)
set_option maxRecDepth 20000 in
theorem gX10_street_X2_clear : GoodIn wsX10_street (wsV RX10 93 RX2 yX2_clear wsX2_clear) := goodIn_app (goodIn_of _ (by decide +kernel)) ggX10_street_X2_clear
set_option maxRecDepth 20000 in
theorem ggX10_street_X4_size : GoodIn wsX10_street wsX4_size := goodIn_r _ [134, 58, 147, 148, 149, 150] (by decide +kernel) (by decide +kernel)
set_option maxRecDepth 20000 in
theorem gX10_street_X4_size : GoodIn wsX10_street (wsV RX10 94 RX4 yX4_size wsX4_size) := goodIn_app (goodIn_of _ (by decide +kernel)) ggX10_street_X4_size
set_option maxRecDepth 20000 in
theorem ggX10_ofPerson_X4_at : GoodIn wsX10_ofPerson wsX4_at := goodIn_r _ [9, 10, 11, 12, 13, 8, 14, 15, 77, 78, 79, 80] (by decide +kernel) (by decide +kernel)
set_option maxRecDepth 20000 in
theorem gX10_ofPerson_X4_at : GoodIn wsX10_ofPerson (wsV RX10 98 RX4 yX4_at wsX4_at) := goodIn_app (goodIn_of _ (by decide +kernel)) ggX10_ofPerson_X4_at
set_option maxRecDepth 20000 in
theorem ggX10_ofPerson_X0_kind : GoodIn wsX10_ofPerson wsX0_kind := goodIn_r _ [22] (by decide +kernel) (by decide +kernel)
set_option maxRecDepth 20000 in
theorem gX10_ofPerson_X0_kind_u102X0 : GoodIn wsX10_ofPerson (va_wsO RX10 102 RX0 "SilkWord$Subject" ⟨"SilkWord$Subject", "kind", "()I"⟩ yX0_kind wsX0_kind) := goodIn_app (goodIn_of _ (by decide +kernel)) ggX10_ofPerson_X0_kind
set_option maxRecDepth 20000 in
theorem ggX10_ofPerson_X5_kind : GoodIn wsX10_ofPerson wsX5_kind := goodIn_r _ [23] (by decide +kernel) (by decide +kernel)
set_option maxRecDepth 20000 in
theorem gX10_ofPerson_X5_kind : GoodIn wsX10_ofPerson (wsV RX10 102 RX5 yX5_kind wsX5_kind) := goodIn_app (goodIn_of _ (by decide +kernel)) ggX10_ofPerson_X5_kind
set_option maxRecDepth 20000 in
theorem ggX10_ofPerson_X6_kind : GoodIn wsX10_ofPerson wsX6_kind := goodIn_r _ [31] (by decide +kernel) (by decide +kernel)
set_option maxRecDepth 20000 in
theorem gX10_ofPerson_X6_kind_u102X6 : GoodIn wsX10_ofPerson (va_wsO RX10 102 RX6 "SilkWord$Subject" ⟨"SilkWord$Subject", "kind", "()I"⟩ yX6_kind wsX6_kind) := goodIn_app (goodIn_of _ (by decide +kernel)) ggX10_ofPerson_X6_kind
set_option maxRecDepth 20000 in
theorem ggX10_ofPerson_X0_dares : GoodIn wsX10_ofPerson wsX0_dares := goodIn_r _ [37, 38, 33, 39, 40, 27, 41, 42, 68, 69, 70, 71, 72, 73, 74, 75, 76] (by decide +kernel) (by decide +kernel)
set_option maxRecDepth 20000 in
theorem gX10_ofPerson_X0_dares_u113X0 : GoodIn wsX10_ofPerson (va_wsO RX10 113 RX0 "SilkWord$Subject" ⟨"SilkWord$Subject", "dares", "()I"⟩ yX0_dares wsX0_dares) := goodIn_app (goodIn_of _ (by decide +kernel)) ggX10_ofPerson_X0_dares
set_option maxRecDepth 20000 in
theorem ggX10_ofPerson_X5_dares : GoodIn wsX10_ofPerson wsX5_dares := goodIn_r _ [41, 42, 68, 69, 70, 71, 72, 73, 74, 75, 76] (by decide +kernel) (by decide +kernel)
set_option maxRecDepth 20000 in
theorem gX10_ofPerson_X5_dares : GoodIn wsX10_ofPerson (wsV RX10 113 RX5 yX5_dares wsX5_dares) := goodIn_app (goodIn_of _ (by decide +kernel)) ggX10_ofPerson_X5_dares
set_option maxRecDepth 20000 in
theorem ggX10_ofPerson_X6_dares : GoodIn wsX10_ofPerson wsX6_dares := goodIn_r _ [47, 48, 49, 50, 36, 21, 37, 38, 33, 39, 40, 27, 41, 42, 68, 69, 70, 71, 72, 73, 74, 75, 76] (by decide +kernel) (by decide +kernel)
set_option maxRecDepth 20000 in
theorem gX10_ofPerson_X6_dares_u113X6 : GoodIn wsX10_ofPerson (va_wsO RX10 113 RX6 "SilkWord$Subject" ⟨"SilkWord$Subject", "dares", "()I"⟩ yX6_dares wsX6_dares) := goodIn_app (goodIn_of _ (by decide +kernel)) ggX10_ofPerson_X6_dares
set_option maxRecDepth 20000 in
theorem ggX10_ofPerson_X7_bribed : GoodIn wsX10_ofPerson wsX7_bribed := goodIn_r _ [55, 56, 57, 58, 59, 81, 82, 83, 84, 85, 86, 87] (by decide +kernel) (by decide +kernel)
set_option maxRecDepth 20000 in
theorem gX10_ofPerson_X7_bribed : GoodIn wsX10_ofPerson (wsV RX10 116 RX7 yX7_bribed wsX7_bribed) := goodIn_app (goodIn_of _ (by decide +kernel)) ggX10_ofPerson_X7_bribed
set_option maxRecDepth 20000 in
theorem ggX10_word_X4_has : GoodIn wsX10_word wsX4_has := goodIn_r _ [7, 8, 33, 34, 35, 36] (by decide +kernel) (by decide +kernel)
set_option maxRecDepth 20000 in
theorem gX10_word_X4_has : GoodIn wsX10_word (wsV RX10 119 RX4 yX4_has wsX4_has) := goodIn_app (goodIn_of _ (by decide +kernel)) ggX10_word_X4_has
set_option maxRecDepth 20000 in
theorem ggX10_word_X10_isDay : GoodIn wsX10_word wsX10_isDay := goodIn_r _ [12] (by decide +kernel) (by decide +kernel)
set_option maxRecDepth 20000 in
theorem gX10_word_X10_isDay : GoodIn wsX10_word (va_wsS RX10 122 yX10_isDay wsX10_isDay) := goodIn_app (goodIn_of _ (by decide +kernel)) ggX10_word_X10_isDay
set_option maxRecDepth 20000 in
theorem ggX10_word_X7_words : GoodIn wsX10_word wsX7_words := goodIn_r _ [17, 18, 37, 38, 39, 40, 41, 42, 43] (by decide +kernel) (by decide +kernel)
set_option maxRecDepth 20000 in
theorem gX10_word_X7_words : GoodIn wsX10_word (wsV RX10 125 RX7 yX7_words wsX7_words) := goodIn_app (goodIn_of _ (by decide +kernel)) ggX10_word_X7_words
set_option maxRecDepth 20000 in
theorem ggX10_word_X7_addWord : GoodIn wsX10_word wsX7_addWord := goodIn_r _ [22, 18, 23, 24, 37, 38, 39, 40, 41, 42, 43] (by decide +kernel) (by decide +kernel)
set_option maxRecDepth 20000 in
theorem gX10_word_X7_addWord : GoodIn wsX10_word (wsV RX10 128 RX7 yX7_addWord wsX7_addWord) := goodIn_app (goodIn_of _ (by decide +kernel)) ggX10_word_X7_addWord
set_option maxRecDepth 20000 in
theorem ggX10_unsay_X7_words : GoodIn wsX10_unsay wsX7_words := goodIn_r _ [6, 7, 24, 25, 26, 27, 28, 29, 30] (by decide +kernel) (by decide +kernel)
set_option maxRecDepth 20000 in
theorem gX10_unsay_X7_words : GoodIn wsX10_unsay (wsV RX10 125 RX7 yX7_words wsX7_words) := goodIn_app (goodIn_of _ (by decide +kernel)) ggX10_unsay_X7_words
set_option maxRecDepth 20000 in
theorem ggX10_unsay_X7_dropWords : GoodIn wsX10_unsay wsX7_dropWords := goodIn_r _ [11, 7, 12, 13, 14, 15, 24, 25, 26, 27, 28, 29, 30] (by decide +kernel) (by decide +kernel)
set_option maxRecDepth 20000 in
theorem gX10_unsay_X7_dropWords : GoodIn wsX10_unsay (wsV RX10 132 RX7 yX7_dropWords wsX7_dropWords) := goodIn_app (goodIn_of _ (by decide +kernel)) ggX10_unsay_X7_dropWords
set_option maxRecDepth 20000 in
theorem ggX10_bribe_X4_has : GoodIn wsX10_bribe wsX4_has := goodIn_r _ [7, 8, 34, 35, 36, 37] (by decide +kernel) (by decide +kernel)
set_option maxRecDepth 20000 in
theorem gX10_bribe_X4_has : GoodIn wsX10_bribe (wsV RX10 119 RX4 yX4_has wsX4_has) := goodIn_app (goodIn_of _ (by decide +kernel)) ggX10_bribe_X4_has
set_option maxRecDepth 20000 in
theorem ggX10_bribe_X7_bribed : GoodIn wsX10_bribe wsX7_bribed := goodIn_r _ [13, 14, 15, 16, 17, 38, 39, 40, 41, 42, 43, 44] (by decide +kernel) (by decide +kernel)
set_option maxRecDepth 20000 in
theorem gX10_bribe_X7_bribed : GoodIn wsX10_bribe (wsV RX10 116 RX7 yX7_bribed wsX7_bribed) := goodIn_app (goodIn_of _ (by decide +kernel)) ggX10_bribe_X7_bribed
set_option maxRecDepth 20000 in
theorem ggX10_bribe_X7_bribedSet : GoodIn wsX10_bribe wsX7_bribedSet := goodIn_r _ [21, 14, 38, 39, 40, 41, 42, 43, 44] (by decide +kernel) (by decide +kernel)
set_option maxRecDepth 20000 in
theorem gX10_bribe_X7_bribedSet : GoodIn wsX10_bribe (wsV RX10 136 RX7 yX7_bribedSet wsX7_bribedSet) := goodIn_app (goodIn_of _ (by decide +kernel)) ggX10_bribe_X7_bribedSet
set_option maxRecDepth 20000 in
theorem ggX10_bribe_X7_setBribed : GoodIn wsX10_bribe wsX7_setBribed := goodIn_r _ [25, 14, 38, 39, 40, 41, 42, 43, 44] (by decide +kernel) (by decide +kernel)
set_option maxRecDepth 20000 in
theorem gX10_bribe_X7_setBribed : GoodIn wsX10_bribe (wsV RX10 139 RX7 yX7_setBribed wsX7_setBribed) := goodIn_app (goodIn_of _ (by decide +kernel)) ggX10_bribe_X7_setBribed
set_option maxRecDepth 20000 in
theorem ggX10_whisper_X4_has : GoodIn wsX10_whisper wsX4_has := goodIn_r _ [7, 8, 29, 30, 31, 32] (by decide +kernel) (by decide +kernel)
set_option maxRecDepth 20000 in
theorem gX10_whisper_X4_has : GoodIn wsX10_whisper (wsV RX10 119 RX4 yX4_has wsX4_has) := goodIn_app (goodIn_of _ (by decide +kernel)) ggX10_whisper_X4_has
set_option maxRecDepth 20000 in
theorem ggX10_whisper_X7_whispersKept : GoodIn wsX10_whisper wsX7_whispersKept := goodIn_r _ [13, 14, 33, 34, 35, 36, 37, 38, 39] (by decide +kernel) (by decide +kernel)
set_option maxRecDepth 20000 in
theorem gX10_whisper_X7_whispersKept : GoodIn wsX10_whisper (wsV RX10 142 RX7 yX7_whispersKept wsX7_whispersKept) := goodIn_app (goodIn_of _ (by decide +kernel)) ggX10_whisper_X7_whispersKept
set_option maxRecDepth 20000 in
theorem ggX10_whisper_X7_addWhisper : GoodIn wsX10_whisper wsX7_addWhisper := goodIn_r _ [18, 14, 19, 20, 33, 34, 35, 36, 37, 38, 39] (by decide +kernel) (by decide +kernel)
set_option maxRecDepth 20000 in
theorem gX10_whisper_X7_addWhisper : GoodIn wsX10_whisper (wsV RX10 145 RX7 yX7_addWhisper wsX7_addWhisper) := goodIn_app (goodIn_of _ (by decide +kernel)) ggX10_whisper_X7_addWhisper
set_option maxRecDepth 20000 in
theorem ggX10_forget_X7_whispersKept : GoodIn wsX10_forget wsX7_whispersKept := goodIn_r _ [6, 7, 24, 25, 26, 27, 28, 29, 30] (by decide +kernel) (by decide +kernel)
set_option maxRecDepth 20000 in
theorem gX10_forget_X7_whispersKept : GoodIn wsX10_forget (wsV RX10 142 RX7 yX7_whispersKept wsX7_whispersKept) := goodIn_app (goodIn_of _ (by decide +kernel)) ggX10_forget_X7_whispersKept
set_option maxRecDepth 20000 in
theorem ggX10_forget_X7_dropWhispers : GoodIn wsX10_forget wsX7_dropWhispers := goodIn_r _ [11, 7, 12, 13, 14, 15, 24, 25, 26, 27, 28, 29, 30] (by decide +kernel) (by decide +kernel)
set_option maxRecDepth 20000 in
theorem gX10_forget_X7_dropWhispers : GoodIn wsX10_forget (wsV RX10 148 RX7 yX7_dropWhispers wsX7_dropWhispers) := goodIn_app (goodIn_of _ (by decide +kernel)) ggX10_forget_X7_dropWhispers
set_option maxRecDepth 20000 in
theorem ggX10_says_X4_has : GoodIn wsX10_says wsX4_has := goodIn_r _ [8, 9, 85, 86, 87, 88] (by decide +kernel) (by decide +kernel)
set_option maxRecDepth 20000 in
theorem gX10_says_X4_has : GoodIn wsX10_says (wsV RX10 119 RX4 yX4_has wsX4_has) := goodIn_app (goodIn_of _ (by decide +kernel)) ggX10_says_X4_has
set_option maxRecDepth 20000 in
theorem ggX10_says_X1_pass : GoodIn wsX10_says wsX1_pass := goodIn_r _ [14, 15, 16, 17, 18, 19, 20, 21, 22, 23, 24, 25, 13, 26, 27, 28, 29, 30, 7, 31, 9, 32, 33, 34, 35, 36, 37, 38, 39, 40, 41, 42, 43, 44, 45, 46, 47, 48, 49, 50, 51, 52, 53, 54, 55, 56, 57, 58, 59, 60, 61, 62, 63, 64, 65, 66, 67, 68, 69, 70, 71, 72, 89, 90, 91, 92, 93, 94, 95, 96, 97, 85, 86, 87, 88] (by decide +kernel) (by decide +kernel)
set_option maxRecDepth 20000 in
theorem gX10_says_X1_pass : GoodIn wsX10_says (wsV RX10 151 RX1 yX1_pass wsX1_pass) := goodIn_app (goodIn_of _ (by decide +kernel)) ggX10_says_X1_pass
set_option maxRecDepth 20000 in
theorem ggX10_says_X1_firstWith : GoodIn wsX10_says wsX1_firstWith := goodIn_r _ [76, 15, 65, 66, 67, 89, 90] (by decide +kernel) (by decide +kernel)
set_option maxRecDepth 20000 in
theorem gX10_says_X1_firstWith : GoodIn wsX10_says (wsV RX10 155 RX1 yX1_firstWith wsX1_firstWith) := goodIn_app (goodIn_of _ (by decide +kernel)) ggX10_says_X1_firstWith
set_option maxRecDepth 20000 in
theorem ggX10_crowd_X10_isDay : GoodIn wsX10_crowd wsX10_isDay := goodIn_r _ [7] (by decide +kernel) (by decide +kernel)
set_option maxRecDepth 20000 in
theorem gX10_crowd_X10_isDay : GoodIn wsX10_crowd (va_wsS RX10 122 yX10_isDay wsX10_isDay) := goodIn_app (goodIn_of _ (by decide +kernel)) ggX10_crowd_X10_isDay
set_option maxRecDepth 20000 in
theorem ggX10_crowd_X4_isEmpty : GoodIn wsX10_crowd wsX4_isEmpty := goodIn_r _ [12, 13, 88, 89, 90, 91] (by decide +kernel) (by decide +kernel)
set_option maxRecDepth 20000 in
theorem gX10_crowd_X4_isEmpty : GoodIn wsX10_crowd (wsV RX10 158 RX4 yX4_isEmpty wsX4_isEmpty) := goodIn_app (goodIn_of _ (by decide +kernel)) ggX10_crowd_X4_isEmpty
set_option maxRecDepth 20000 in
theorem ggX10_crowd_X1_pass : GoodIn wsX10_crowd wsX1_pass := goodIn_r _ [18, 19, 20, 21, 22, 23, 24, 25, 26, 27, 28, 29, 17, 30, 31, 32, 33, 34, 11, 35, 13, 36, 37, 38, 39, 40, 41, 42, 43, 44, 45, 46, 47, 48, 49, 50, 51, 52, 53, 54, 55, 56, 57, 58, 59, 60, 61, 62, 63, 64, 65, 66, 67, 68, 69, 6, 70, 71, 72, 73, 74, 75, 92, 93, 94, 95, 96, 97, 98, 99, 100, 88, 89, 90, 91] (by decide +kernel) (by decide +kernel)
set_option maxRecDepth 20000 in
theorem gX10_crowd_X1_pass : GoodIn wsX10_crowd (wsV RX10 151 RX1 yX1_pass wsX1_pass) := goodIn_app (goodIn_of _ (by decide +kernel)) ggX10_crowd_X1_pass
set_option maxRecDepth 20000 in
theorem ggX10_crowd_X1_saidBy : GoodIn wsX10_crowd wsX1_saidBy := goodIn_r _ [79, 19, 5, 6, 7, 92, 93] (by decide +kernel) (by decide +kernel)
set_option maxRecDepth 20000 in
theorem gX10_crowd_X1_saidBy : GoodIn wsX10_crowd (wsV RX10 162 RX1 yX1_saidBy wsX1_saidBy) := goodIn_app (goodIn_of _ (by decide +kernel)) ggX10_crowd_X1_saidBy
set_option maxRecDepth 20000 in
theorem ggX10_heard_X4_has : GoodIn wsX10_heard wsX4_has := goodIn_r _ [8, 9, 91, 92, 93, 94] (by decide +kernel) (by decide +kernel)
set_option maxRecDepth 20000 in
theorem gX10_heard_X4_has : GoodIn wsX10_heard (wsV RX10 119 RX4 yX4_has wsX4_has) := goodIn_app (goodIn_of _ (by decide +kernel)) ggX10_heard_X4_has
set_option maxRecDepth 20000 in
theorem ggX10_heard_X10_isDay : GoodIn wsX10_heard wsX10_isDay := goodIn_r _ [13] (by decide +kernel) (by decide +kernel)
set_option maxRecDepth 20000 in
theorem gX10_heard_X10_isDay : GoodIn wsX10_heard (va_wsS RX10 122 yX10_isDay wsX10_isDay) := goodIn_app (goodIn_of _ (by decide +kernel)) ggX10_heard_X10_isDay
set_option maxRecDepth 20000 in
theorem ggX10_heard_X1_pass : GoodIn wsX10_heard wsX1_pass := goodIn_r _ [18, 19, 20, 21, 22, 23, 24, 25, 26, 27, 28, 29, 17, 30, 31, 32, 33, 34, 7, 35, 9, 36, 37, 38, 39, 40, 41, 42, 43, 44, 45, 46, 47, 48, 49, 50, 51, 52, 53, 54, 55, 56, 57, 58, 59, 60, 61, 62, 63, 64, 65, 66, 67, 68, 69, 12, 70, 71, 72, 73, 74, 75, 95, 96, 97, 98, 99, 100, 101, 102, 103, 91, 92, 93, 94] (by decide +kernel) (by decide +kernel)
set_option maxRecDepth 20000 in
theorem gX10_heard_X1_pass : GoodIn wsX10_heard (wsV RX10 151 RX1 yX1_pass wsX1_pass) := goodIn_app (goodIn_of _ (by decide +kernel)) ggX10_heard_X1_pass
set_option maxRecDepth 20000 in
theorem ggX10_heard_X1_saidBy : GoodIn wsX10_heard wsX1_saidBy := goodIn_r _ [79, 19, 11, 12, 13, 95, 96] (by decide +kernel) (by decide +kernel)
set_option maxRecDepth 20000 in
theorem gX10_heard_X1_saidBy : GoodIn wsX10_heard (wsV RX10 162 RX1 yX1_saidBy wsX1_saidBy) := goodIn_app (goodIn_of _ (by decide +kernel)) ggX10_heard_X1_saidBy
set_option maxRecDepth 20000 in
theorem ggX10_heard_X4_inEar : GoodIn wsX10_heard wsX4_inEar := goodIn_r _ [39, 9, 40, 91, 92, 93, 94] (by decide +kernel) (by decide +kernel)
set_option maxRecDepth 20000 in
theorem gX10_heard_X4_inEar : GoodIn wsX10_heard (wsV RX10 165 RX4 yX4_inEar wsX4_inEar) := goodIn_app (goodIn_of _ (by decide +kernel)) ggX10_heard_X4_inEar
set_option maxRecDepth 20000 in
theorem ggX10_heard_J6_bitCount_0f7a4 : GoodIn wsX10_heard wsJ6_bitCount_0f7a4 := goodIn_r _ [65, 66, 67, 68] (by decide +kernel) (by decide +kernel)
set_option maxRecDepth 20000 in
theorem gX10_heard_J6_bitCount_0f7a4 : GoodIn wsX10_heard (va_wsS RX10 168 yJ6_bitCount_0f7a4 wsJ6_bitCount_0f7a4) := goodIn_app (goodIn_of _ (by decide +kernel)) ggX10_heard_J6_bitCount_0f7a4
set_option maxRecDepth 20000 in
theorem ggX10_heard_X7_reaching : GoodIn wsX10_heard wsX7_reaching := goodIn_r _ [44, 25, 26, 45, 46, 47, 48, 97, 98, 99, 100, 101, 102, 103] (by decide +kernel) (by decide +kernel)
set_option maxRecDepth 20000 in
theorem gX10_heard_X7_reaching : GoodIn wsX10_heard (wsV RX10 173 RX7 yX7_reaching wsX7_reaching) := goodIn_app (goodIn_of _ (by decide +kernel)) ggX10_heard_X7_reaching
set_option maxRecDepth 20000 in
theorem ggX10_silence_X4_isEmpty : GoodIn wsX10_silence wsX4_isEmpty := goodIn_r _ [8, 9, 87, 88, 89, 90] (by decide +kernel) (by decide +kernel)
set_option maxRecDepth 20000 in
theorem gX10_silence_X4_isEmpty : GoodIn wsX10_silence (wsV RX10 158 RX4 yX4_isEmpty wsX4_isEmpty) := goodIn_app (goodIn_of _ (by decide +kernel)) ggX10_silence_X4_isEmpty
set_option maxRecDepth 20000 in
theorem ggX10_silence_X1_pass : GoodIn wsX10_silence wsX1_pass := goodIn_r _ [14, 15, 16, 17, 18, 19, 20, 21, 22, 23, 24, 25, 13, 26, 27, 28, 29, 30, 7, 31, 9, 32, 33, 34, 35, 36, 37, 38, 39, 40, 41, 42, 43, 44, 45, 46, 47, 48, 49, 50, 51, 52, 53, 54, 55, 56, 57, 58, 59, 60, 61, 62, 63, 64, 65, 66, 67, 68, 69, 70, 71, 72, 91, 92, 93, 94, 95, 96, 97, 98, 99, 87, 88, 89, 90] (by decide +kernel) (by decide +kernel)
set_option maxRecDepth 20000 in
theorem gX10_silence_X1_pass : GoodIn wsX10_silence (wsV RX10 151 RX1 yX1_pass wsX1_pass) := goodIn_app (goodIn_of _ (by decide +kernel)) ggX10_silence_X1_pass
set_option maxRecDepth 20000 in
theorem ggX10_silence_X1_saidBy : GoodIn wsX10_silence wsX1_saidBy := goodIn_r _ [76, 15, 77, 66, 78, 91, 92] (by decide +kernel) (by decide +kernel)
set_option maxRecDepth 20000 in
theorem gX10_silence_X1_saidBy : GoodIn wsX10_silence (wsV RX10 162 RX1 yX1_saidBy wsX1_saidBy) := goodIn_app (goodIn_of _ (by decide +kernel)) ggX10_silence_X1_saidBy
set_option maxRecDepth 20000 in
theorem ggX10_noticed_X4_isEmpty : GoodIn wsX10_noticed wsX4_isEmpty := goodIn_r _ [8, 9, 86, 87, 88, 89] (by decide +kernel) (by decide +kernel)
set_option maxRecDepth 20000 in
theorem gX10_noticed_X4_isEmpty : GoodIn wsX10_noticed (wsV RX10 158 RX4 yX4_isEmpty wsX4_isEmpty) := goodIn_app (goodIn_of _ (by decide +kernel)) ggX10_noticed_X4_isEmpty
set_option maxRecDepth 20000 in
theorem ggX10_noticed_X1_pass : GoodIn wsX10_noticed wsX1_pass := goodIn_r _ [14, 15, 16, 17, 18, 19, 20, 21, 22, 23, 24, 25, 13, 26, 27, 28, 29, 30, 7, 31, 9, 32, 33, 34, 35, 36, 37, 38, 39, 40, 41, 42, 43, 44, 45, 46, 47, 48, 49, 50, 51, 52, 53, 54, 55, 56, 57, 58, 59, 60, 61, 62, 63, 64, 65, 66, 67, 68, 69, 70, 71, 72, 90, 91, 92, 93, 94, 95, 96, 97, 98, 86, 87, 88, 89] (by decide +kernel) (by decide +kernel)
set_option maxRecDepth 20000 in
theorem gX10_noticed_X1_pass : GoodIn wsX10_noticed (wsV RX10 151 RX1 yX1_pass wsX1_pass) := goodIn_app (goodIn_of _ (by decide +kernel)) ggX10_noticed_X1_pass
set_option maxRecDepth 20000 in
theorem ggX10_noticed_X4_size : GoodIn wsX10_noticed wsX4_size := goodIn_r _ [31, 9, 86, 87, 88, 89] (by decide +kernel) (by decide +kernel)
set_option maxRecDepth 20000 in
theorem gX10_noticed_X4_size : GoodIn wsX10_noticed (wsV RX10 94 RX4 yX4_size wsX4_size) := goodIn_app (goodIn_of _ (by decide +kernel)) ggX10_noticed_X4_size
set_option maxRecDepth 20000 in
theorem ggX10_noticed_X1_firstWithHalfOf : GoodIn wsX10_noticed wsX1_firstWithHalfOf := goodIn_r _ [77, 15, 58, 59, 60, 61, 62, 63, 64, 90, 91] (by decide +kernel) (by decide +kernel)
set_option maxRecDepth 20000 in
theorem gX10_noticed_X1_firstWithHalfOf : GoodIn wsX10_noticed (wsV RX10 176 RX1 yX1_firstWithHalfOf wsX1_firstWithHalfOf) := goodIn_app (goodIn_of _ (by decide +kernel)) ggX10_noticed_X1_firstWithHalfOf
set_option maxRecDepth 20000 in
theorem ggX10_fewest_X4_isEmpty : GoodIn wsX10_fewest wsX4_isEmpty := goodIn_r _ [7, 8, 127, 128, 129, 130] (by decide +kernel) (by decide +kernel)
set_option maxRecDepth 20000 in
theorem gX10_fewest_X4_isEmpty : GoodIn wsX10_fewest (wsV RX10 158 RX4 yX4_isEmpty wsX4_isEmpty) := goodIn_app (goodIn_of _ (by decide +kernel)) ggX10_fewest_X4_isEmpty
set_option maxRecDepth 20000 in
theorem ggX10_fewest_X9_fewestWords : GoodIn wsX10_fewest wsX9_fewestWords := goodIn_r _ [13, 14, 15, 16, 17, 6, 18, 8, 19, 20, 12, 21, 22, 23, 24, 25, 26, 27, 28, 29, 30, 31, 32, 33, 34, 35, 36, 37, 38, 39, 40, 41, 42, 43, 44, 45, 46, 47, 48, 49, 50, 51, 52, 53, 54, 55, 56, 57, 58, 59, 60, 61, 62, 63, 64, 65, 66, 67, 68, 69, 70, 71, 72, 73, 74, 75, 76, 77, 78, 79, 80, 81, 82, 83, 84, 85, 86, 87, 88, 89, 90, 91, 92, 93, 94, 95, 96, 97, 98, 99, 100, 101, 102, 103, 104, 105, 106, 107, 108, 109, 110, 111, 112, 113, 114, 115, 116, 117, 118, 131, 132, 133, 134, 135, 127, 128, 129, 130, 136, 137, 138, 139, 140, 141, 142, 143, 144] (by decide +kernel) (by decide +kernel)
set_option maxRecDepth 20000 in
theorem gX10_fewest_X9_fewestWords : GoodIn wsX10_fewest (wsV RX10 179 RX9 yX9_fewestWords wsX9_fewestWords) := goodIn_app (goodIn_of _ (by decide +kernel)) ggX10_fewest_X9_fewestWords
set_option maxRecDepth 20000 in
theorem ggX10_bribes_X4_has : GoodIn wsX10_bribes wsX4_has := goodIn_r _ [7, 8, 125, 126, 127, 128] (by decide +kernel) (by decide +kernel)
set_option maxRecDepth 20000 in
theorem gX10_bribes_X4_has : GoodIn wsX10_bribes (wsV RX10 119 RX4 yX4_has wsX4_has) := goodIn_app (goodIn_of _ (by decide +kernel)) ggX10_bribes_X4_has
set_option maxRecDepth 20000 in
theorem ggX10_bribes_X9_fewestBribes : GoodIn wsX10_bribes wsX9_fewestBribes := goodIn_r _ [13, 14, 15, 16, 17, 18, 19, 6, 20, 8, 21, 22, 23, 24, 25, 12, 26, 27, 28, 29, 30, 31, 32, 33, 34, 35, 36, 37, 38, 39, 40, 41, 42, 43, 44, 45, 46, 47, 48, 49, 50, 51, 52, 53, 54, 55, 56, 57, 58, 59, 60, 61, 62, 63, 64, 65, 66, 67, 68, 69, 70, 71, 72, 73, 74, 75, 76, 77, 78, 79, 80, 81, 82, 83, 84, 85, 86, 87, 88, 89, 90, 91, 92, 93, 94, 95, 96, 97, 98, 99, 100, 101, 102, 103, 104, 105, 106, 107, 108, 109, 110, 111, 112, 113, 114, 115, 116, 129, 130, 131, 132, 133, 125, 126, 127, 128, 134, 135, 136, 137, 138, 139, 140, 141, 142] (by decide +kernel) (by decide +kernel)
set_option maxRecDepth 20000 in
theorem gX10_bribes_X9_fewestBribes : GoodIn wsX10_bribes (wsV RX10 182 RX9 yX9_fewestBribes wsX9_fewestBribes) := goodIn_app (goodIn_of _ (by decide +kernel)) ggX10_bribes_X9_fewestBribes
set_option maxRecDepth 20000 in
theorem ggX10_whispers_X4_isEmpty : GoodIn wsX10_whispers wsX4_isEmpty := goodIn_r _ [7, 8, 127, 128, 129, 130] (by decide +kernel) (by decide +kernel)
set_option maxRecDepth 20000 in
theorem gX10_whispers_X4_isEmpty : GoodIn wsX10_whispers (wsV RX10 158 RX4 yX4_isEmpty wsX4_isEmpty) := goodIn_app (goodIn_of _ (by decide +kernel)) ggX10_whispers_X4_isEmpty
set_option maxRecDepth 20000 in
theorem ggX10_whispers_X9_bestWhisper : GoodIn wsX10_whispers wsX9_bestWhisper := goodIn_r _ [13, 14, 15, 16, 17, 12, 18, 19, 20, 21, 22, 23, 24, 25, 26, 27, 28, 29, 30, 31, 32, 33, 34, 35, 36, 37, 38, 39, 40, 41, 42, 43, 44, 45, 46, 47, 48, 49, 50, 51, 52, 53, 54, 55, 56, 57, 58, 59, 60, 61, 62, 63, 64, 65, 66, 67, 6, 68, 8, 69, 70, 71, 72, 73, 74, 75, 76, 77, 78, 79, 80, 81, 82, 83, 84, 85, 86, 87, 88, 89, 90, 91, 92, 93, 94, 95, 96, 97, 98, 99, 100, 101, 102, 103, 104, 105, 106, 107, 108, 109, 110, 111, 112, 113, 114, 115, 116, 117, 131, 132, 133, 134, 135, 136, 137, 138, 139, 140, 141, 142, 143, 144, 127, 128, 129, 130] (by decide +kernel) (by decide +kernel)
set_option maxRecDepth 20000 in
theorem gX10_whispers_X9_bestWhisper : GoodIn wsX10_whispers (wsV RX10 185 RX9 yX9_bestWhisper wsX9_bestWhisper) := goodIn_app (goodIn_of _ (by decide +kernel)) ggX10_whispers_X9_bestWhisper
set_option maxRecDepth 20000 in
theorem ggX10_whispers_X9_countWithWhisper : GoodIn wsX10_whispers wsX9_countWithWhisper := goodIn_r _ [116, 19, 20, 15, 16, 17, 12, 18, 21, 22, 23, 24, 25, 26, 27, 28, 29, 30, 31, 32, 33, 34, 35, 36, 37, 38, 39, 40, 41, 42, 43, 44, 45, 46, 47, 48, 49, 14, 50, 51, 52, 53, 54, 55, 56, 57, 58, 59, 60, 61, 62, 63, 64, 65, 66, 67, 6, 68, 8, 69, 70, 71, 72, 73, 74, 75, 76, 77, 78, 79, 80, 81, 82, 83, 84, 85, 86, 87, 88, 89, 90, 91, 92, 93, 94, 95, 96, 97, 98, 99, 100, 101, 102, 103, 104, 105, 106, 107, 108, 109, 110, 111, 117, 131, 132, 133, 134, 135, 136, 137, 138, 139, 140, 141, 142, 143, 144, 127, 128, 129, 130] (by decide +kernel) (by decide +kernel)
set_option maxRecDepth 20000 in
theorem gX10_whispers_X9_countWithWhisper : GoodIn wsX10_whispers (wsV RX10 188 RX9 yX9_countWithWhisper wsX9_countWithWhisper) := goodIn_app (goodIn_of _ (by decide +kernel)) ggX10_whispers_X9_countWithWhisper
set_option maxRecDepth 20000 in
theorem ggX10_worth_X7_words : GoodIn wsX10_worth wsX7_words := goodIn_r _ [7, 8, 132, 133, 134, 135, 136, 137, 138] (by decide +kernel) (by decide +kernel)
set_option maxRecDepth 20000 in
theorem gX10_worth_X7_words : GoodIn wsX10_worth (wsV RX10 125 RX7 yX7_words wsX7_words) := goodIn_app (goodIn_of _ (by decide +kernel)) ggX10_worth_X7_words
set_option maxRecDepth 20000 in
theorem ggX10_worth_X9_fewerWithout : GoodIn wsX10_worth wsX9_fewerWithout := goodIn_r _ [13, 14, 15, 16, 17, 18, 12, 19, 20, 21, 22, 6, 23, 8, 24, 25, 26, 27, 28, 29, 30, 31, 32, 33, 34, 35, 36, 37, 38, 39, 40, 41, 42, 43, 44, 45, 46, 47, 48, 49, 50, 51, 52, 53, 54, 55, 56, 57, 58, 59, 60, 61, 62, 63, 64, 65, 66, 67, 68, 69, 70, 71, 72, 73, 74, 75, 76, 77, 78, 79, 80, 81, 82, 83, 84, 85, 86, 87, 88, 89, 90, 91, 92, 93, 94, 95, 96, 97, 98, 99, 100, 101, 102, 103, 104, 105, 106, 107, 108, 109, 110, 111, 112, 113, 114, 115, 116, 117, 118, 119, 120, 121, 122, 123, 139, 140, 141, 142, 143, 132, 133, 134, 135, 136, 137, 138, 144, 145, 146, 147, 148, 149] (by decide +kernel) (by decide +kernel)
set_option maxRecDepth 20000 in
theorem gX10_worth_X9_fewerWithout : GoodIn wsX10_worth (wsV RX10 191 RX9 yX9_fewerWithout wsX9_fewerWithout) := goodIn_app (goodIn_of _ (by decide +kernel)) ggX10_worth_X9_fewerWithout
set_option maxRecDepth 20000 in
theorem ggX10_asked_X10_sheetAt : GoodIn wsX10_asked wsX10_sheetAt := goodIn_r _ [7, 8, 92, 93, 94, 95, 96, 97, 98, 99] (by decide +kernel) (by decide +kernel)
set_option maxRecDepth 20000 in
theorem gX10_asked_X10_sheetAt : GoodIn wsX10_asked (wsV RX10 66 RX10 yX10_sheetAt wsX10_sheetAt) := goodIn_app (goodIn_of _ (by decide +kernel)) ggX10_asked_X10_sheetAt
set_option maxRecDepth 20000 in
theorem ggX10_asked_X10_isLane : GoodIn wsX10_asked wsX10_isLane := goodIn_r _ [11] (by decide +kernel) (by decide +kernel)
set_option maxRecDepth 20000 in
theorem gX10_asked_X10_isLane : GoodIn wsX10_asked (va_wsS RX10 70 yX10_isLane wsX10_isLane) := goodIn_app (goodIn_of _ (by decide +kernel)) ggX10_asked_X10_isLane
set_option maxRecDepth 20000 in
theorem ggX10_asked_X4_isEmpty : GoodIn wsX10_asked wsX4_isEmpty := goodIn_r _ [16, 17, 100, 101, 102, 103] (by decide +kernel) (by decide +kernel)
set_option maxRecDepth 20000 in
theorem gX10_asked_X4_isEmpty : GoodIn wsX10_asked (wsV RX10 158 RX4 yX4_isEmpty wsX4_isEmpty) := goodIn_app (goodIn_of _ (by decide +kernel)) ggX10_asked_X4_isEmpty
set_option maxRecDepth 20000 in
theorem ggX10_asked_X3_faultOfTaking : GoodIn wsX10_asked wsX3_faultOfTaking := goodIn_r _ [22, 23, 24, 25, 21, 26, 27, 28, 29, 30, 31, 32, 33, 104, 105, 106, 107] (by decide +kernel) (by decide +kernel)
set_option maxRecDepth 20000 in
theorem gX10_asked_X3_faultOfTaking : GoodIn wsX10_asked (wsV RX10 74 RX3 yX3_faultOfTaking wsX3_faultOfTaking) := goodIn_app (goodIn_of _ (by decide +kernel)) ggX10_asked_X3_faultOfTaking
set_option maxRecDepth 20000 in
theorem ggX10_asked_X10_faulted : GoodIn wsX10_asked wsX10_faulted := goodIn_r _ [37, 1, 92, 93, 94, 95, 96, 97, 98, 99] (by decide +kernel) (by decide +kernel)
set_option maxRecDepth 20000 in
theorem gX10_asked_X10_faulted : GoodIn wsX10_asked (wsV RX10 78 RX10 yX10_faulted wsX10_faulted) := goodIn_app (goodIn_of _ (by decide +kernel)) ggX10_asked_X10_faulted
set_option maxRecDepth 20000 in
theorem ggX10_asked_X10_sayingInTurn : GoodIn wsX10_asked wsX10_sayingInTurn := goodIn_r _ [41, 2, 42, 43, 44, 45, 21, 46, 47, 48, 49, 50, 51, 33, 52, 53, 54, 15, 55, 17, 56, 57, 6, 58, 59, 60, 61, 62, 63, 64, 65, 66, 67, 68, 69, 70, 71, 72, 73, 74, 75, 76, 77, 78, 79, 80, 81, 82, 83, 84, 85, 86, 87, 88, 89, 90, 91, 92, 93, 94, 95, 96, 97, 98, 99, 104, 105, 106, 107, 100, 101, 102, 103, 108, 109, 110, 111, 112, 113, 114] (by decide +kernel) (by decide +kernel)
set_option maxRecDepth 20000 in
theorem gX10_asked_X10_sayingInTurn : GoodIn wsX10_asked (wsV RX10 194 RX10 yX10_sayingInTurn wsX10_sayingInTurn) := goodIn_app (goodIn_of _ (by decide +kernel)) ggX10_asked_X10_sayingInTurn
set_option maxRecDepth 20000 in
theorem ggX10_sayingInTurn_X3_at : GoodIn wsX10_sayingInTurn wsX3_at := goodIn_r _ [7, 8, 9, 10, 11, 6, 12, 13, 65, 66, 67, 68] (by decide +kernel) (by decide +kernel)
set_option maxRecDepth 20000 in
theorem gX10_sayingInTurn_X3_at : GoodIn wsX10_sayingInTurn (wsV RX10 197 RX3 yX3_at wsX3_at) := goodIn_app (goodIn_of _ (by decide +kernel)) ggX10_sayingInTurn_X3_at
set_option maxRecDepth 20000 in
theorem ggX10_sayingInTurn_X4_has : GoodIn wsX10_sayingInTurn wsX4_has := goodIn_r _ [18, 19, 69, 70, 71, 72] (by decide +kernel) (by decide +kernel)
set_option maxRecDepth 20000 in
theorem gX10_sayingInTurn_X4_has : GoodIn wsX10_sayingInTurn (wsV RX10 119 RX4 yX4_has wsX4_has) := goodIn_app (goodIn_of _ (by decide +kernel)) ggX10_sayingInTurn_X4_has
set_option maxRecDepth 20000 in
theorem ggX10_sayingInTurn_X10_isIn : GoodIn wsX10_sayingInTurn wsX10_isIn := goodIn_r _ [23] (by decide +kernel) (by decide +kernel)
set_option maxRecDepth 20000 in
theorem gX10_sayingInTurn_X10_isIn : GoodIn wsX10_sayingInTurn (va_wsS RX10 199 yX10_isIn wsX10_isIn) := goodIn_app (goodIn_of _ (by decide +kernel)) ggX10_sayingInTurn_X10_isIn
set_option maxRecDepth 20000 in
theorem ggX10_sayingInTurn_X4_inEar : GoodIn wsX10_sayingInTurn wsX4_inEar := goodIn_r _ [27, 19, 28, 69, 70, 71, 72] (by decide +kernel) (by decide +kernel)
set_option maxRecDepth 20000 in
theorem gX10_sayingInTurn_X4_inEar : GoodIn wsX10_sayingInTurn (wsV RX10 165 RX4 yX4_inEar wsX4_inEar) := goodIn_app (goodIn_of _ (by decide +kernel)) ggX10_sayingInTurn_X4_inEar
set_option maxRecDepth 20000 in
theorem ggX10_sayingInTurn_J6_bitCount_0f7a4 : GoodIn wsX10_sayingInTurn wsJ6_bitCount_0f7a4 := goodIn_r _ [32, 33, 34, 35] (by decide +kernel) (by decide +kernel)
set_option maxRecDepth 20000 in
theorem gX10_sayingInTurn_J6_bitCount_0f7a4 : GoodIn wsX10_sayingInTurn (va_wsS RX10 168 yJ6_bitCount_0f7a4 wsJ6_bitCount_0f7a4) := goodIn_app (goodIn_of _ (by decide +kernel)) ggX10_sayingInTurn_J6_bitCount_0f7a4
set_option maxRecDepth 20000 in
theorem ggX10_sayingInTurn_X7_reaching : GoodIn wsX10_sayingInTurn wsX7_reaching := goodIn_r _ [40, 41, 42, 43, 44, 45, 46, 73, 74, 75, 76, 77, 78, 79] (by decide +kernel) (by decide +kernel)
set_option maxRecDepth 20000 in
theorem gX10_sayingInTurn_X7_reaching : GoodIn wsX10_sayingInTurn (wsV RX10 173 RX7 yX7_reaching wsX7_reaching) := goodIn_app (goodIn_of _ (by decide +kernel)) ggX10_sayingInTurn_X7_reaching
set_option maxRecDepth 20000 in
theorem ggX10_sayingInTurn_X7_bribed : GoodIn wsX10_sayingInTurn wsX7_bribed := goodIn_r _ [50, 51, 21, 22, 23, 73, 74, 75, 76, 77, 78, 79] (by decide +kernel) (by decide +kernel)
set_option maxRecDepth 20000 in
theorem gX10_sayingInTurn_X7_bribed : GoodIn wsX10_sayingInTurn (wsV RX10 116 RX7 yX7_bribed wsX7_bribed) := goodIn_app (goodIn_of _ (by decide +kernel)) ggX10_sayingInTurn_X7_bribed
set_option maxRecDepth 20000 in
theorem ggX10_sayingInTurn_X4_dares : GoodIn wsX10_sayingInTurn wsX4_dares := goodIn_r _ [55, 19, 56, 69, 70, 71, 72] (by decide +kernel) (by decide +kernel)
set_option maxRecDepth 20000 in
theorem gX10_sayingInTurn_X4_dares : GoodIn wsX10_sayingInTurn (wsV RX10 203 RX4 yX4_dares wsX4_dares) := goodIn_app (goodIn_of _ (by decide +kernel)) ggX10_sayingInTurn_X4_dares
set_option maxRecDepth 20000 in
theorem ggX10_reading_X4_has : GoodIn wsX10_reading wsX4_has := goodIn_r _ [7, 8, 34, 35, 36, 37] (by decide +kernel) (by decide +kernel)
set_option maxRecDepth 20000 in
theorem gX10_reading_X4_has : GoodIn wsX10_reading (wsV RX10 119 RX4 yX4_has wsX4_has) := goodIn_app (goodIn_of _ (by decide +kernel)) ggX10_reading_X4_has
set_option maxRecDepth 20000 in
theorem ggX10_reading_X10_isDay : GoodIn wsX10_reading wsX10_isDay := goodIn_r _ [12] (by decide +kernel) (by decide +kernel)
set_option maxRecDepth 20000 in
theorem gX10_reading_X10_isDay : GoodIn wsX10_reading (va_wsS RX10 122 yX10_isDay wsX10_isDay) := goodIn_app (goodIn_of _ (by decide +kernel)) ggX10_reading_X10_isDay
set_option maxRecDepth 20000 in
theorem ggX10_reading_X2_size : GoodIn wsX10_reading wsX2_size := goodIn_r _ [17, 18, 38, 39, 40, 41] (by decide +kernel) (by decide +kernel)
set_option maxRecDepth 20000 in
theorem gX10_reading_X2_size : GoodIn wsX10_reading (wsV RX10 205 RX2 yX2_size wsX2_size) := goodIn_app (goodIn_of _ (by decide +kernel)) ggX10_reading_X2_size
set_option maxRecDepth 20000 in
theorem ggX10_reading_X2_add : GoodIn wsX10_reading wsX2_add := goodIn_r _ [22, 18, 23, 24, 25, 38, 39, 40, 41] (by decide +kernel) (by decide +kernel)
set_option maxRecDepth 20000 in
theorem gX10_reading_X2_add : GoodIn wsX10_reading (wsV RX10 206 RX2 yX2_add wsX2_add) := goodIn_app (goodIn_of _ (by decide +kernel)) ggX10_reading_X2_add
set_option maxRecDepth 20000 in
theorem ggX10_back_X2_size : GoodIn wsX10_back wsX2_size := goodIn_r _ [6, 7, 24, 25, 26, 27] (by decide +kernel) (by decide +kernel)
set_option maxRecDepth 20000 in
theorem gX10_back_X2_size : GoodIn wsX10_back (wsV RX10 205 RX2 yX2_size wsX2_size) := goodIn_app (goodIn_of _ (by decide +kernel)) ggX10_back_X2_size
set_option maxRecDepth 20000 in
theorem ggX10_back_X2_drop : GoodIn wsX10_back wsX2_drop := goodIn_r _ [11, 7, 12, 13, 14, 15, 24, 25, 26, 27] (by decide +kernel) (by decide +kernel)
set_option maxRecDepth 20000 in
theorem gX10_back_X2_drop : GoodIn wsX10_back (wsV RX10 210 RX2 yX2_drop wsX2_drop) := goodIn_app (goodIn_of _ (by decide +kernel)) ggX10_back_X2_drop
set_option maxRecDepth 20000 in
theorem ggX10_where_X10_isDay : GoodIn wsX10_where wsX10_isDay := goodIn_r _ [6] (by decide +kernel) (by decide +kernel)
set_option maxRecDepth 20000 in
theorem gX10_where_X10_isDay : GoodIn wsX10_where (va_wsS RX10 122 yX10_isDay wsX10_isDay) := goodIn_app (goodIn_of _ (by decide +kernel)) ggX10_where_X10_isDay
set_option maxRecDepth 20000 in
theorem ggX10_where_X4_isEmpty : GoodIn wsX10_where wsX4_isEmpty := goodIn_r _ [11, 12, 124, 125, 126, 127] (by decide +kernel) (by decide +kernel)
set_option maxRecDepth 20000 in
theorem gX10_where_X4_isEmpty : GoodIn wsX10_where (wsV RX10 158 RX4 yX4_isEmpty wsX4_isEmpty) := goodIn_app (goodIn_of _ (by decide +kernel)) ggX10_where_X4_isEmpty
set_option maxRecDepth 20000 in
theorem ggX10_where_X9_placesThatFit : GoodIn wsX10_where wsX9_placesThatFit := goodIn_r _ [17, 18, 19, 20, 21, 22, 23, 24, 25, 10, 26, 12, 27, 28, 29, 30, 31, 32, 33, 34, 35, 36, 37, 38, 39, 40, 41, 42, 43, 44, 45, 46, 47, 48, 49, 50, 51, 52, 53, 54, 55, 56, 57, 58, 59, 60, 61, 62, 63, 64, 65, 66, 67, 68, 69, 70, 71, 72, 73, 74, 75, 76, 77, 78, 79, 80, 81, 82, 83, 84, 85, 86, 87, 88, 89, 90, 91, 92, 93, 94, 95, 96, 5, 97, 98, 99, 100, 101, 102, 103, 104, 105, 106, 107, 108, 109, 110, 111, 112, 113, 114, 115, 4, 6, 128, 129, 130, 131, 132, 124, 125, 126, 127, 133, 134, 135, 136, 137, 138, 139, 140, 141, 142, 143, 144, 145] (by decide +kernel) (by decide +kernel)
set_option maxRecDepth 20000 in
theorem gX10_where_X9_placesThatFit : GoodIn wsX10_where (wsV RX10 213 RX9 yX9_placesThatFit wsX9_placesThatFit) := goodIn_app (goodIn_of _ (by decide +kernel)) ggX10_where_X9_placesThatFit
set_option maxRecDepth 20000 in
theorem ggX10_paid_X4_isEmpty : GoodIn wsX10_paid wsX4_isEmpty := goodIn_r _ [7, 8, 127, 128, 129, 130] (by decide +kernel) (by decide +kernel)
set_option maxRecDepth 20000 in
theorem gX10_paid_X4_isEmpty : GoodIn wsX10_paid (wsV RX10 158 RX4 yX4_isEmpty wsX4_isEmpty) := goodIn_app (goodIn_of _ (by decide +kernel)) ggX10_paid_X4_isEmpty
set_option maxRecDepth 20000 in
theorem ggX10_paid_X9_bribesThatFit : GoodIn wsX10_paid wsX9_bribesThatFit := goodIn_r _ [13, 14, 15, 16, 17, 18, 19, 20, 21, 6, 22, 8, 23, 24, 25, 26, 27, 28, 29, 30, 31, 32, 33, 34, 35, 36, 37, 38, 39, 40, 41, 42, 43, 44, 45, 46, 47, 48, 49, 50, 51, 52, 53, 54, 55, 56, 57, 58, 59, 60, 61, 62, 63, 64, 65, 66, 67, 68, 69, 70, 71, 72, 73, 74, 75, 76, 77, 78, 79, 80, 81, 82, 83, 84, 85, 86, 87, 88, 89, 90, 91, 92, 93, 94, 95, 96, 97, 98, 99, 100, 101, 102, 103, 104, 105, 106, 107, 108, 109, 110, 111, 112, 113, 114, 115, 116, 117, 118, 131, 132, 133, 134, 135, 127, 128, 129, 130, 136, 137, 138, 139, 140, 141, 142, 143, 144, 145, 146, 147, 148] (by decide +kernel) (by decide +kernel)
set_option maxRecDepth 20000 in
theorem gX10_paid_X9_bribesThatFit : GoodIn wsX10_paid (wsV RX10 216 RX9 yX9_bribesThatFit wsX9_bribesThatFit) := goodIn_app (goodIn_of _ (by decide +kernel)) ggX10_paid_X9_bribesThatFit
set_option maxRecDepth 20000 in
theorem ggX10_odds_X4_has : GoodIn wsX10_odds wsX4_has := goodIn_r _ [8, 9, 119, 120, 121, 122] (by decide +kernel) (by decide +kernel)
set_option maxRecDepth 20000 in
theorem gX10_odds_X4_has : GoodIn wsX10_odds (wsV RX10 119 RX4 yX4_has wsX4_has) := goodIn_app (goodIn_of _ (by decide +kernel)) ggX10_odds_X4_has
set_option maxRecDepth 20000 in
theorem ggX10_odds_X10_isDay : GoodIn wsX10_odds wsX10_isDay := goodIn_r _ [13] (by decide +kernel) (by decide +kernel)
set_option maxRecDepth 20000 in
theorem gX10_odds_X10_isDay : GoodIn wsX10_odds (va_wsS RX10 122 yX10_isDay wsX10_isDay) := goodIn_app (goodIn_of _ (by decide +kernel)) ggX10_odds_X10_isDay
set_option maxRecDepth 20000 in
theorem ggX10_odds_X9_shareOfSaying : GoodIn wsX10_odds wsX9_shareOfSaying := goodIn_r _ [18, 19, 20, 21, 22, 23, 24, 25, 26, 27, 28, 29, 30, 31, 32, 33, 34, 35, 36, 37, 38, 39, 40, 41, 42, 43, 44, 45, 46, 47, 48, 49, 7, 50, 9, 51, 52, 53, 54, 55, 56, 57, 58, 59, 60, 61, 62, 63, 64, 65, 66, 67, 68, 69, 70, 71, 72, 73, 74, 75, 76, 77, 78, 79, 80, 81, 82, 83, 84, 85, 86, 87, 88, 89, 90, 91, 92, 93, 94, 95, 96, 97, 98, 99, 12, 100, 101, 102, 103, 104, 105, 106, 107, 108, 109, 11, 13, 110, 123, 124, 125, 126, 127, 128, 129, 130, 131, 132, 133, 134, 119, 120, 121, 122, 135, 136] (by decide +kernel) (by decide +kernel)
set_option maxRecDepth 20000 in
theorem gX10_odds_X9_shareOfSaying : GoodIn wsX10_odds (wsV RX10 221 RX9 yX9_shareOfSaying wsX9_shareOfSaying) := goodIn_app (goodIn_of _ (by decide +kernel)) ggX10_odds_X9_shareOfSaying
set_option maxRecDepth 20000 in
theorem ggX10_sheet_X10_sheetAt : GoodIn wsX10_sheet wsX10_sheetAt := goodIn_r _ [6, 7, 28, 29, 30, 31, 32, 33, 34, 35] (by decide +kernel) (by decide +kernel)
set_option maxRecDepth 20000 in
theorem gX10_sheet_X10_sheetAt : GoodIn wsX10_sheet (wsV RX10 66 RX10 yX10_sheetAt wsX10_sheetAt) := goodIn_app (goodIn_of _ (by decide +kernel)) ggX10_sheet_X10_sheetAt
set_option maxRecDepth 20000 in
theorem ggX10_sheet_X10_isLane : GoodIn wsX10_sheet wsX10_isLane := goodIn_r _ [10] (by decide +kernel) (by decide +kernel)
set_option maxRecDepth 20000 in
theorem gX10_sheet_X10_isLane : GoodIn wsX10_sheet (va_wsS RX10 70 yX10_isLane wsX10_isLane) := goodIn_app (goodIn_of _ (by decide +kernel)) ggX10_sheet_X10_isLane
set_option maxRecDepth 20000 in
theorem ggX10_sheet_X10_faulted : GoodIn wsX10_sheet wsX10_faulted := goodIn_r _ [14, 1, 28, 29, 30, 31, 32, 33, 34, 35] (by decide +kernel) (by decide +kernel)
set_option maxRecDepth 20000 in
theorem gX10_sheet_X10_faulted : GoodIn wsX10_sheet (wsV RX10 78 RX10 yX10_faulted wsX10_faulted) := goodIn_app (goodIn_of _ (by decide +kernel)) ggX10_sheet_X10_faulted
set_option maxRecDepth 20000 in
theorem ggX10_sheet_X3_renew : GoodIn wsX10_sheet wsX3_renew := goodIn_r _ [19, 20, 21, 22, 23, 24, 25, 26, 27, 36, 37, 38, 39] (by decide +kernel) (by decide +kernel)
set_option maxRecDepth 20000 in
theorem gX10_sheet_X3_renew : GoodIn wsX10_sheet (wsV RX10 225 RX3 yX3_renew wsX3_renew) := goodIn_app (goodIn_of _ (by decide +kernel)) ggX10_sheet_X3_renew
set_option maxRecDepth 20000 in
theorem ggX10_lose_X10_sheetAt : GoodIn wsX10_lose wsX10_sheetAt := goodIn_r _ [5, 6, 18, 19, 20, 21, 22, 23, 24, 25] (by decide +kernel) (by decide +kernel)
set_option maxRecDepth 20000 in
theorem gX10_lose_X10_sheetAt : GoodIn wsX10_lose (wsV RX10 66 RX10 yX10_sheetAt wsX10_sheetAt) := goodIn_app (goodIn_of _ (by decide +kernel)) ggX10_lose_X10_sheetAt
set_option maxRecDepth 20000 in
theorem ggX10_lose_X3_isNothing : GoodIn wsX10_lose wsX3_isNothing := goodIn_r _ [11, 12, 26, 27, 28, 29] (by decide +kernel) (by decide +kernel)
set_option maxRecDepth 20000 in
theorem gX10_lose_X3_isNothing : GoodIn wsX10_lose (wsV RX10 228 RX3 yX3_isNothing wsX3_isNothing) := goodIn_app (goodIn_of _ (by decide +kernel)) ggX10_lose_X3_isNothing
set_option maxRecDepth 20000 in
theorem ggX10_lose_X3_drop : GoodIn wsX10_lose wsX3_drop := goodIn_r _ [16, 12, 17, 26, 27, 28, 29] (by decide +kernel) (by decide +kernel)
set_option maxRecDepth 20000 in
theorem gX10_lose_X3_drop : GoodIn wsX10_lose (wsV RX10 231 RX3 yX3_drop wsX3_drop) := goodIn_app (goodIn_of _ (by decide +kernel)) ggX10_lose_X3_drop
set_option maxRecDepth 20000 in
theorem ggX10_put_X10_sheetAt : GoodIn wsX10_put wsX10_sheetAt := goodIn_r _ [6, 7, 34, 35, 36, 37, 38, 39, 40, 41] (by decide +kernel) (by decide +kernel)
set_option maxRecDepth 20000 in
theorem gX10_put_X10_sheetAt : GoodIn wsX10_put (wsV RX10 66 RX10 yX10_sheetAt wsX10_sheetAt) := goodIn_app (goodIn_of _ (by decide +kernel)) ggX10_put_X10_sheetAt
set_option maxRecDepth 20000 in
theorem ggX10_put_X3_isNothing : GoodIn wsX10_put wsX3_isNothing := goodIn_r _ [12, 13, 42, 43, 44, 45] (by decide +kernel) (by decide +kernel)
set_option maxRecDepth 20000 in
theorem gX10_put_X3_isNothing : GoodIn wsX10_put (wsV RX10 228 RX3 yX3_isNothing wsX3_isNothing) := goodIn_app (goodIn_of _ (by decide +kernel)) ggX10_put_X3_isNothing
set_option maxRecDepth 20000 in
theorem ggX10_put_X10_faulted : GoodIn wsX10_put wsX10_faulted := goodIn_r _ [17, 1, 34, 35, 36, 37, 38, 39, 40, 41] (by decide +kernel) (by decide +kernel)
set_option maxRecDepth 20000 in
theorem gX10_put_X10_faulted : GoodIn wsX10_put (wsV RX10 78 RX10 yX10_faulted wsX10_faulted) := goodIn_app (goodIn_of _ (by decide +kernel)) ggX10_put_X10_faulted
set_option maxRecDepth 20000 in
theorem ggX10_put_X3_hasCell : GoodIn wsX10_put wsX3_hasCell := goodIn_r _ [21, 22, 42, 43, 44, 45] (by decide +kernel) (by decide +kernel)
set_option maxRecDepth 20000 in
theorem gX10_put_X3_hasCell : GoodIn wsX10_put (wsV RX10 233 RX3 yX3_hasCell wsX3_hasCell) := goodIn_app (goodIn_of _ (by decide +kernel)) ggX10_put_X3_hasCell
set_option maxRecDepth 20000 in
theorem ggX10_put_X3_set : GoodIn wsX10_put wsX3_set := goodIn_r _ [26, 27, 28, 19, 20, 11, 21, 22, 29, 30, 31, 32, 33, 42, 43, 44, 45] (by decide +kernel) (by decide +kernel)
set_option maxRecDepth 20000 in
theorem gX10_put_X3_set : GoodIn wsX10_put (wsV RX10 236 RX3 yX3_set wsX3_set) := goodIn_app (goodIn_of _ (by decide +kernel)) ggX10_put_X3_set
set_option maxRecDepth 20000 in
theorem ggX10_cell_X10_sheetAt : GoodIn wsX10_cell wsX10_sheetAt := goodIn_r _ [7, 8, 30, 31, 32, 33, 34, 35, 36, 37] (by decide +kernel) (by decide +kernel)
set_option maxRecDepth 20000 in
theorem gX10_cell_X10_sheetAt : GoodIn wsX10_cell (wsV RX10 66 RX10 yX10_sheetAt wsX10_sheetAt) := goodIn_app (goodIn_of _ (by decide +kernel)) ggX10_cell_X10_sheetAt
set_option maxRecDepth 20000 in
theorem ggX10_cell_X10_isLane : GoodIn wsX10_cell wsX10_isLane := goodIn_r _ [11] (by decide +kernel) (by decide +kernel)
set_option maxRecDepth 20000 in
theorem gX10_cell_X10_isLane : GoodIn wsX10_cell (va_wsS RX10 70 yX10_isLane wsX10_isLane) := goodIn_app (goodIn_of _ (by decide +kernel)) ggX10_cell_X10_isLane
set_option maxRecDepth 20000 in
theorem ggX10_cell_X3_faultOfLane : GoodIn wsX10_cell wsX3_faultOfLane := goodIn_r _ [16, 17, 18, 38, 39, 40, 41] (by decide +kernel) (by decide +kernel)
set_option maxRecDepth 20000 in
theorem gX10_cell_X3_faultOfLane : GoodIn wsX10_cell (wsV RX10 239 RX3 yX3_faultOfLane wsX3_faultOfLane) := goodIn_app (goodIn_of _ (by decide +kernel)) ggX10_cell_X3_faultOfLane
set_option maxRecDepth 20000 in
theorem ggX10_cell_X3_hasCell : GoodIn wsX10_cell wsX3_hasCell := goodIn_r _ [22, 23, 38, 39, 40, 41] (by decide +kernel) (by decide +kernel)
set_option maxRecDepth 20000 in
theorem gX10_cell_X3_hasCell : GoodIn wsX10_cell (wsV RX10 233 RX3 yX3_hasCell wsX3_hasCell) := goodIn_app (goodIn_of _ (by decide +kernel)) ggX10_cell_X3_hasCell
set_option maxRecDepth 20000 in
theorem ggX10_cell_X3_at : GoodIn wsX10_cell wsX3_at := goodIn_r _ [27, 28, 29, 20, 21, 15, 22, 23, 38, 39, 40, 41] (by decide +kernel) (by decide +kernel)
set_option maxRecDepth 20000 in
theorem gX10_cell_X3_at : GoodIn wsX10_cell (wsV RX10 197 RX3 yX3_at wsX3_at) := goodIn_app (goodIn_of _ (by decide +kernel)) ggX10_cell_X3_at
set_option maxRecDepth 20000 in
theorem ggX10_copy_X10_sheetAt : GoodIn wsX10_copy wsX10_sheetAt := goodIn_r _ [6, 7, 42, 43, 44, 45, 46, 47, 48, 49] (by decide +kernel) (by decide +kernel)
set_option maxRecDepth 20000 in
theorem gX10_copy_X10_sheetAt : GoodIn wsX10_copy (wsV RX10 66 RX10 yX10_sheetAt wsX10_sheetAt) := goodIn_app (goodIn_of _ (by decide +kernel)) ggX10_copy_X10_sheetAt
set_option maxRecDepth 20000 in
theorem ggX10_copy_X3_isNothing : GoodIn wsX10_copy wsX3_isNothing := goodIn_r _ [12, 13, 50, 51, 52, 53] (by decide +kernel) (by decide +kernel)
set_option maxRecDepth 20000 in
theorem gX10_copy_X3_isNothing : GoodIn wsX10_copy (wsV RX10 228 RX3 yX3_isNothing wsX3_isNothing) := goodIn_app (goodIn_of _ (by decide +kernel)) ggX10_copy_X3_isNothing
set_option maxRecDepth 20000 in
theorem ggX10_copy_X10_faulted : GoodIn wsX10_copy wsX10_faulted := goodIn_r _ [17, 1, 42, 43, 44, 45, 46, 47, 48, 49] (by decide +kernel) (by decide +kernel)
set_option maxRecDepth 20000 in
theorem gX10_copy_X10_faulted : GoodIn wsX10_copy (wsV RX10 78 RX10 yX10_faulted wsX10_faulted) := goodIn_app (goodIn_of _ (by decide +kernel)) ggX10_copy_X10_faulted
set_option maxRecDepth 20000 in
theorem ggX10_copy_X3_lane : GoodIn wsX10_copy wsX3_lane := goodIn_r _ [21, 22, 50, 51, 52, 53] (by decide +kernel) (by decide +kernel)
set_option maxRecDepth 20000 in
theorem gX10_copy_X3_lane : GoodIn wsX10_copy (wsV RX10 242 RX3 yX3_lane wsX3_lane) := goodIn_app (goodIn_of _ (by decide +kernel)) ggX10_copy_X3_lane
set_option maxRecDepth 20000 in
theorem ggX10_copy_X3_faultOfLane : GoodIn wsX10_copy wsX3_faultOfLane := goodIn_r _ [26, 13, 22, 50, 51, 52, 53] (by decide +kernel) (by decide +kernel)
set_option maxRecDepth 20000 in
theorem gX10_copy_X3_faultOfLane : GoodIn wsX10_copy (wsV RX10 239 RX3 yX3_faultOfLane wsX3_faultOfLane) := goodIn_app (goodIn_of _ (by decide +kernel)) ggX10_copy_X3_faultOfLane
set_option maxRecDepth 20000 in
theorem ggX10_copy_X3_hasCells : GoodIn wsX10_copy wsX3_hasCells := goodIn_r _ [30, 31, 50, 51, 52, 53] (by decide +kernel) (by decide +kernel)
set_option maxRecDepth 20000 in
theorem gX10_copy_X3_hasCells : GoodIn wsX10_copy (wsV RX10 245 RX3 yX3_hasCells wsX3_hasCells) := goodIn_app (goodIn_of _ (by decide +kernel)) ggX10_copy_X3_hasCells
set_option maxRecDepth 20000 in
theorem ggX10_copy_X3_takeCells : GoodIn wsX10_copy wsX3_takeCells := goodIn_r _ [35, 36, 37, 38, 39, 40, 41, 28, 29, 11, 30, 31, 50, 51, 52, 53] (by decide +kernel) (by decide +kernel)
set_option maxRecDepth 20000 in
theorem gX10_copy_X3_takeCells : GoodIn wsX10_copy (wsV RX10 248 RX3 yX3_takeCells wsX3_takeCells) := goodIn_app (goodIn_of _ (by decide +kernel)) ggX10_copy_X3_takeCells
set_option maxRecDepth 20000 in
theorem ggX10_tell_X4_at : GoodIn wsX10_tell wsX4_at := goodIn_r _ [7, 8, 9, 10, 11, 6, 12, 13, 63, 64, 65, 66] (by decide +kernel) (by decide +kernel)
set_option maxRecDepth 20000 in
theorem gX10_tell_X4_at : GoodIn wsX10_tell (wsV RX10 98 RX4 yX4_at wsX4_at) := goodIn_app (goodIn_of _ (by decide +kernel)) ggX10_tell_X4_at
set_option maxRecDepth 20000 in
theorem ggX10_tell_X0_told : GoodIn wsX10_tell wsX0_told := goodIn_r _ [20, 21, 22, 23, 24, 25, 26, 27, 15, 28, 29, 30, 31, 32, 33, 34, 35, 36, 37, 38, 39, 40, 41, 67, 68, 69, 70, 71, 72, 73, 74, 75, 76] (by decide +kernel) (by decide +kernel)
set_option maxRecDepth 20000 in
theorem gX10_tell_X0_told_u252X0 : GoodIn wsX10_tell (va_wsO RX10 252 RX0 "SilkWord$Subject" ⟨"SilkWord$Subject", "told", "(LSilkWord$Trace;)I"⟩ yX0_told wsX0_told) := goodIn_app (goodIn_of _ (by decide +kernel)) ggX10_tell_X0_told
set_option maxRecDepth 20000 in
theorem ggX10_tell_X5_told : GoodIn wsX10_tell wsX5_told := goodIn_r _ [31, 32, 33, 34, 35, 30, 36, 37, 38, 22, 23, 24, 25, 26, 39, 40, 41, 68, 69, 70, 71, 72, 73, 74, 75, 76, 67] (by decide +kernel) (by decide +kernel)
set_option maxRecDepth 20000 in
theorem gX10_tell_X5_told : GoodIn wsX10_tell (wsV RX10 252 RX5 yX5_told wsX5_told) := goodIn_app (goodIn_of _ (by decide +kernel)) ggX10_tell_X5_told
set_option maxRecDepth 20000 in
theorem ggX10_tell_X6_told : GoodIn wsX10_tell wsX6_told := goodIn_r _ [47, 48, 22, 23, 24, 25, 26, 49, 50, 51, 18, 19, 20, 21, 27, 15, 28, 29, 30, 31, 32, 33, 34, 35, 36, 37, 38, 39, 40, 41, 52, 53, 54, 67, 68, 69, 70, 71, 72, 73, 74, 75, 76] (by decide +kernel) (by decide +kernel)
set_option maxRecDepth 20000 in
theorem gX10_tell_X6_told_u252X6 : GoodIn wsX10_tell (va_wsO RX10 252 RX6 "SilkWord$Subject" ⟨"SilkWord$Subject", "told", "(LSilkWord$Trace;)I"⟩ yX6_told wsX6_told) := goodIn_app (goodIn_of _ (by decide +kernel)) ggX10_tell_X6_told
set_option maxRecDepth 20000 in
theorem ggX10_bow_X4_at : GoodIn wsX10_bow wsX4_at := goodIn_r _ [7, 8, 9, 10, 11, 6, 12, 13, 43, 44, 45, 46] (by decide +kernel) (by decide +kernel)
set_option maxRecDepth 20000 in
theorem gX10_bow_X4_at : GoodIn wsX10_bow (wsV RX10 98 RX4 yX4_at wsX4_at) := goodIn_app (goodIn_of _ (by decide +kernel)) ggX10_bow_X4_at
set_option maxRecDepth 20000 in
theorem ggX10_bow_X5_bowedTo : GoodIn wsX10_bow wsX5_bowedTo := goodIn_r _ [19, 20, 21, 22, 23, 24, 25, 26, 47, 48, 49, 50, 51, 52, 53, 54, 55, 56] (by decide +kernel) (by decide +kernel)
set_option maxRecDepth 20000 in
theorem gX10_bow_X5_bowedTo_u256X0 : GoodIn wsX10_bow (va_wsU RX10 256 RX0 "SilkWord$Subject" ⟨"SilkWord$Subject", "bowedTo", "(LSilkWord$Trace;)I"⟩ yX5_bowedTo wsX5_bowedTo) := goodIn_app (goodIn_of _ (by decide +kernel)) ggX10_bow_X5_bowedTo
set_option maxRecDepth 20000 in
theorem gX10_bow_X5_bowedTo : GoodIn wsX10_bow (wsV RX10 256 RX5 yX5_bowedTo wsX5_bowedTo) := goodIn_app (goodIn_of _ (by decide +kernel)) ggX10_bow_X5_bowedTo
set_option maxRecDepth 20000 in
theorem ggX10_bow_X6_bowedTo : GoodIn wsX10_bow wsX6_bowedTo := goodIn_r _ [33, 34, 22, 23, 24, 25, 26, 56] (by decide +kernel) (by decide +kernel)
set_option maxRecDepth 20000 in
theorem gX10_bow_X6_bowedTo_u256X6 : GoodIn wsX10_bow (va_wsO RX10 256 RX6 "SilkWord$Subject" ⟨"SilkWord$Subject", "bowedTo", "(LSilkWord$Trace;)I"⟩ yX6_bowedTo wsX6_bowedTo) := goodIn_app (goodIn_of _ (by decide +kernel)) ggX10_bow_X6_bowedTo
set_option maxRecDepth 20000 in
theorem ggX10_as_X4_at : GoodIn wsX10_as wsX4_at := goodIn_r _ [7, 8, 9, 10, 11, 6, 12, 13, 43, 44, 45, 46] (by decide +kernel) (by decide +kernel)
set_option maxRecDepth 20000 in
theorem gX10_as_X4_at : GoodIn wsX10_as (wsV RX10 98 RX4 yX4_at wsX4_at) := goodIn_app (goodIn_of _ (by decide +kernel)) ggX10_as_X4_at
set_option maxRecDepth 20000 in
theorem ggX10_as_X0_kind : GoodIn wsX10_as wsX0_kind := goodIn_r _ [20] (by decide +kernel) (by decide +kernel)
set_option maxRecDepth 20000 in
theorem gX10_as_X0_kind_u102X0 : GoodIn wsX10_as (va_wsO RX10 102 RX0 "SilkWord$Subject" ⟨"SilkWord$Subject", "kind", "()I"⟩ yX0_kind wsX0_kind) := goodIn_app (goodIn_of _ (by decide +kernel)) ggX10_as_X0_kind
set_option maxRecDepth 20000 in
theorem ggX10_as_X5_kind : GoodIn wsX10_as wsX5_kind := goodIn_r _ [21] (by decide +kernel) (by decide +kernel)
set_option maxRecDepth 20000 in
theorem gX10_as_X5_kind : GoodIn wsX10_as (wsV RX10 102 RX5 yX5_kind wsX5_kind) := goodIn_app (goodIn_of _ (by decide +kernel)) ggX10_as_X5_kind
set_option maxRecDepth 20000 in
theorem ggX10_as_X6_kind : GoodIn wsX10_as wsX6_kind := goodIn_r _ [29] (by decide +kernel) (by decide +kernel)
set_option maxRecDepth 20000 in
theorem gX10_as_X6_kind_u102X6 : GoodIn wsX10_as (va_wsO RX10 102 RX6 "SilkWord$Subject" ⟨"SilkWord$Subject", "kind", "()I"⟩ yX6_kind wsX6_kind) := goodIn_app (goodIn_of _ (by decide +kernel)) ggX10_as_X6_kind
set_option maxRecDepth 20000 in
theorem ggX10_as_X10_faulted : GoodIn wsX10_as wsX10_faulted := goodIn_r _ [34, 1, 35, 36, 37, 38, 39, 40, 41, 42] (by decide +kernel) (by decide +kernel)
set_option maxRecDepth 20000 in
theorem gX10_as_X10_faulted : GoodIn wsX10_as (wsV RX10 78 RX10 yX10_faulted wsX10_faulted) := goodIn_app (goodIn_of _ (by decide +kernel)) ggX10_as_X10_faulted
set_option maxRecDepth 20000 in
theorem ggX10_trace_X8_number : GoodIn wsX10_trace wsX8_number := goodIn_r _ [6, 7, 16] (by decide +kernel) (by decide +kernel)
set_option maxRecDepth 20000 in
theorem gX10_trace_X8_number : GoodIn wsX10_trace (wsV RX10 259 RX8 yX8_number wsX8_number) := goodIn_app (goodIn_of _ (by decide +kernel)) ggX10_trace_X8_number
set_option maxRecDepth 20000 in
theorem ggX10_many_X4_size : GoodIn wsX10_many wsX4_size := goodIn_r _ [8, 9, 35, 36, 37, 38] (by decide +kernel) (by decide +kernel)
set_option maxRecDepth 20000 in
theorem gX10_many_X4_size : GoodIn wsX10_many (wsV RX10 94 RX4 yX4_size wsX4_size) := goodIn_app (goodIn_of _ (by decide +kernel)) ggX10_many_X4_size
set_option maxRecDepth 20000 in
theorem ggX10_many_X7_words : GoodIn wsX10_many wsX7_words := goodIn_r _ [14, 15, 39, 40, 41, 42, 43, 44, 45] (by decide +kernel) (by decide +kernel)
set_option maxRecDepth 20000 in
theorem gX10_many_X7_words : GoodIn wsX10_many (wsV RX10 125 RX7 yX7_words wsX7_words) := goodIn_app (goodIn_of _ (by decide +kernel)) ggX10_many_X7_words
set_option maxRecDepth 20000 in
theorem ggX10_many_X7_whispersKept : GoodIn wsX10_many wsX7_whispersKept := goodIn_r _ [19, 20, 39, 40, 41, 42, 43, 44, 45] (by decide +kernel) (by decide +kernel)
set_option maxRecDepth 20000 in
theorem gX10_many_X7_whispersKept : GoodIn wsX10_many (wsV RX10 142 RX7 yX7_whispersKept wsX7_whispersKept) := goodIn_app (goodIn_of _ (by decide +kernel)) ggX10_many_X7_whispersKept
set_option maxRecDepth 20000 in
theorem ggX10_many_X2_size : GoodIn wsX10_many wsX2_size := goodIn_r _ [25, 26, 46, 47, 48, 49] (by decide +kernel) (by decide +kernel)
set_option maxRecDepth 20000 in
theorem gX10_many_X2_size : GoodIn wsX10_many (wsV RX10 205 RX2 yX2_size wsX2_size) := goodIn_app (goodIn_of _ (by decide +kernel)) ggX10_many_X2_size

