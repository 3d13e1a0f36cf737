set_option maxRecDepth 20000 in
theorem ggX11_failedLong_X11_lost : GoodIn wsX11_failedLong wsX11_lost := goodIn_r _ [5, 6] (by decide +kernel) (by decide +kernel)
set_option maxRecDepth 20000 in
theorem gX11_failedLong_X11_lost : GoodIn wsX11_failedLong (va_wsS RX11 71 yX11_lost wsX11_lost) := goodIn_app (goodIn_of _ (by decide +kernel)) ggX11_failedLong_X11_lost
set_option maxRecDepth 20000 in
theorem ggX11_noPerson_X11_in : GoodIn wsX11_noPerson wsX11_in := goodIn_r _ [5] (by decide +kernel) (by decide +kernel)
set_option maxRecDepth 20000 in
theorem gX11_noPerson_X11_in : GoodIn wsX11_noPerson (va_wsS RX11 78 yX11_in wsX11_in) := goodIn_app (goodIn_of _ (by decide +kernel)) ggX11_noPerson_X11_in
set_option maxRecDepth 20000 in
theorem ggX11_isDay_X11_in : GoodIn wsX11_isDay wsX11_in := goodIn_r _ [5] (by decide +kernel) (by decide +kernel)
set_option maxRecDepth 20000 in
theorem gX11_isDay_X11_in : GoodIn wsX11_isDay (va_wsS RX11 78 yX11_in wsX11_in) := goodIn_app (goodIn_of _ (by decide +kernel)) ggX11_isDay_X11_in
set_option maxRecDepth 20000 in
theorem ggX11_figure_X11_codeAt : GoodIn wsX11_figure wsX11_codeAt := goodIn_r _ [6, 1, 7, 11, 12, 13, 14, 15, 16, 17, 18, 19, 20, 21, 22, 23, 24, 25, 26, 27, 28, 29, 30, 31, 32, 33, 34, 35, 36, 37, 38] (by decide +kernel) (by decide +kernel)
set_option maxRecDepth 20000 in
theorem gX11_figure_X11_codeAt : GoodIn wsX11_figure (wsV RX11 87 RX11 yX11_codeAt wsX11_codeAt) := goodIn_app (goodIn_of _ (by decide +kernel)) ggX11_figure_X11_codeAt
set_option maxRecDepth 20000 in
theorem ggX11_figure_X11_in : GoodIn wsX11_figure wsX11_in := goodIn_r _ [10] (by decide +kernel) (by decide +kernel)
set_option maxRecDepth 20000 in
theorem gX11_figure_X11_in : GoodIn wsX11_figure (va_wsS RX11 78 yX11_in wsX11_in) := goodIn_app (goodIn_of _ (by decide +kernel)) ggX11_figure_X11_in
set_option maxRecDepth 20000 in
theorem ggX11_readsPerson_X11_codeAt : GoodIn wsX11_readsPerson wsX11_codeAt := goodIn_r _ [10, 2, 11, 19, 20, 21, 22, 23, 24, 25, 26, 27, 28, 29, 30, 31, 32, 33, 34, 35, 36, 37, 38, 39, 40, 41, 42, 43, 44, 45, 46] (by decide +kernel) (by decide +kernel)
set_option maxRecDepth 20000 in
theorem gX11_readsPerson_X11_codeAt : GoodIn wsX11_readsPerson (wsV RX11 87 RX11 yX11_codeAt wsX11_codeAt) := goodIn_app (goodIn_of _ (by decide +kernel)) ggX11_readsPerson_X11_codeAt
set_option maxRecDepth 20000 in
theorem ggX11_readsPerson_X11_figure : GoodIn wsX11_readsPerson wsX11_figure := goodIn_r _ [15, 2, 6, 7, 8, 9, 10, 11, 16, 17, 18, 19, 20, 21, 22, 23, 24, 25, 26, 27, 28, 29, 30, 31, 32, 33, 34, 35, 36, 37, 38, 39, 40, 41, 42, 43, 44, 45, 46] (by decide +kernel) (by decide +kernel)
set_option maxRecDepth 20000 in
theorem gX11_readsPerson_X11_figure : GoodIn wsX11_readsPerson (wsV RX11 94 RX11 yX11_figure wsX11_figure) := goodIn_app (goodIn_of _ (by decide +kernel)) ggX11_readsPerson_X11_figure
set_option maxRecDepth 20000 in
theorem ggX11_readsStreet_X11_codeAt : GoodIn wsX11_readsStreet wsX11_codeAt := goodIn_r _ [7, 1, 8, 23, 24, 25, 26, 27, 28, 29, 30, 31, 32, 33, 34, 35, 36, 37, 38, 39, 40, 41, 42, 43, 44, 45, 46, 47, 48, 49, 50] (by decide +kernel) (by decide +kernel)
set_option maxRecDepth 20000 in
theorem gX11_readsStreet_X11_codeAt : GoodIn wsX11_readsStreet (wsV RX11 87 RX11 yX11_codeAt wsX11_codeAt) := goodIn_app (goodIn_of _ (by decide +kernel)) ggX11_readsStreet_X11_codeAt
set_option maxRecDepth 20000 in
theorem ggX11_readsStreet_X11_readsPerson : GoodIn wsX11_readsStreet wsX11_readsPerson := goodIn_r _ [12, 2, 1, 13, 14, 15, 3, 4, 5, 6, 7, 8, 16, 17, 18, 19, 20, 21, 22, 23, 24, 25, 26, 27, 28, 29, 30, 31, 32, 33, 34, 35, 36, 37, 38, 39, 40, 41, 42, 43, 44, 45, 46, 47, 48, 49, 50] (by decide +kernel) (by decide +kernel)
set_option maxRecDepth 20000 in
theorem gX11_readsStreet_X11_readsPerson : GoodIn wsX11_readsStreet (wsV RX11 98 RX11 yX11_readsPerson wsX11_readsPerson) := goodIn_app (goodIn_of _ (by decide +kernel)) ggX11_readsStreet_X11_readsPerson
set_option maxRecDepth 20000 in
theorem ggX11_cellsBarred_X11_failed : GoodIn wsX11_cellsBarred wsX11_failed := goodIn_r _ [7, 8, 12, 13, 14, 15, 16, 17, 18, 19, 20, 21, 22, 23, 24, 25, 26, 27, 28, 29, 30, 31, 32, 33, 34, 35, 36, 37, 38, 39] (by decide +kernel) (by decide +kernel)
set_option maxRecDepth 20000 in
theorem gX11_cellsBarred_X11_failed : GoodIn wsX11_cellsBarred (wsV RX11 102 RX11 yX11_failed wsX11_failed) := goodIn_app (goodIn_of _ (by decide +kernel)) ggX11_cellsBarred_X11_failed
set_option maxRecDepth 20000 in
theorem ggX11_cellsBarred_X11_isBeyond : GoodIn wsX11_cellsBarred wsX11_isBeyond := goodIn_r _ [11] (by decide +kernel) (by decide +kernel)
set_option maxRecDepth 20000 in
theorem gX11_cellsBarred_X11_isBeyond : GoodIn wsX11_cellsBarred (va_wsS RX11 106 yX11_isBeyond wsX11_isBeyond) := goodIn_app (goodIn_of _ (by decide +kernel)) ggX11_cellsBarred_X11_isBeyond
set_option maxRecDepth 20000 in
theorem ggX11_street_X11_noSheet : GoodIn wsX11_street wsX11_noSheet := goodIn_r _ [18, 19, 20, 21, 17, 22] (by decide +kernel) (by decide +kernel)
set_option maxRecDepth 20000 in
theorem gX11_street_X11_noSheet : GoodIn wsX11_street (va_wsS RX11 110 yX11_noSheet wsX11_noSheet) := goodIn_app (goodIn_of _ (by decide +kernel)) ggX11_street_X11_noSheet
set_option maxRecDepth 20000 in
theorem ggX11_street_X11_refused : GoodIn wsX11_street wsX11_refused := goodIn_r _ [26, 27, 58, 59, 60, 61, 62, 63, 64, 65, 66, 67, 68, 69, 70, 71, 72, 73, 74, 75, 76, 77, 78, 79, 80, 81, 82, 83, 84, 85] (by decide +kernel) (by decide +kernel)
set_option maxRecDepth 20000 in
theorem gX11_street_X11_refused : GoodIn wsX11_street (wsV RX11 114 RX11 yX11_refused wsX11_refused) := goodIn_app (goodIn_of _ (by decide +kernel)) ggX11_street_X11_refused
set_option maxRecDepth 20000 in
theorem ggX11_street_X11_in : GoodIn wsX11_street wsX11_in := goodIn_r _ [22] (by decide +kernel) (by decide +kernel)
set_option maxRecDepth 20000 in
theorem gX11_street_X11_in : GoodIn wsX11_street (va_wsS RX11 78 yX11_in wsX11_in) := goodIn_app (goodIn_of _ (by decide +kernel)) ggX11_street_X11_in
set_option maxRecDepth 20000 in
theorem ggX11_street_X11_cellsBarred : GoodIn wsX11_street wsX11_cellsBarred := goodIn_r _ [31, 32, 33, 34, 35, 36, 17, 37, 27, 38, 39, 40, 58, 59, 60, 61, 62, 63, 64, 65, 66, 67, 68, 69, 70, 71, 72, 73, 74, 75, 76, 77, 78, 79, 80, 81, 82, 83, 84, 85] (by decide +kernel) (by decide +kernel)
set_option maxRecDepth 20000 in
theorem gX11_street_X11_cellsBarred : GoodIn wsX11_street (wsV RX11 119 RX11 yX11_cellsBarred wsX11_cellsBarred) := goodIn_app (goodIn_of _ (by decide +kernel)) ggX11_street_X11_cellsBarred
set_option maxRecDepth 20000 in
theorem ggX11_street_X11_readsStreet : GoodIn wsX11_street wsX11_readsStreet := goodIn_r _ [44, 2, 3, 45, 46, 47, 17, 48, 49, 50, 51, 52, 53, 6, 8, 10, 54, 55, 56, 57, 20, 21, 22, 58, 59, 60, 61, 62, 63, 64, 65, 66, 67, 68, 69, 70, 71, 72, 73, 74, 75, 76, 77, 78, 79, 80, 81, 82, 83, 84, 85] (by decide +kernel) (by decide +kernel)
set_option maxRecDepth 20000 in
theorem gX11_street_X11_readsStreet : GoodIn wsX11_street (wsV RX11 123 RX11 yX11_readsStreet wsX11_readsStreet) := goodIn_app (goodIn_of _ (by decide +kernel)) ggX11_street_X11_readsStreet
set_option maxRecDepth 20000 in
theorem ggX11_ofPerson_X11_noPerson : GoodIn wsX11_ofPerson wsX11_noPerson := goodIn_r _ [9, 10, 11, 12, 8, 13, 21, 22, 23, 24, 25, 26, 27, 28, 29, 30, 31, 32, 33, 34, 35, 36, 37, 38, 39, 40, 41, 42, 43, 44, 45, 46, 47, 48] (by decide +kernel) (by decide +kernel)
set_option maxRecDepth 20000 in
theorem gX11_ofPerson_X11_noPerson : GoodIn wsX11_ofPerson (wsV RX11 138 RX11 yX11_noPerson wsX11_noPerson) := goodIn_app (goodIn_of _ (by decide +kernel)) ggX11_ofPerson_X11_noPerson
set_option maxRecDepth 20000 in
theorem ggX11_ofPerson_X11_daresOf : GoodIn wsX11_ofPerson wsX11_daresOf := goodIn_r _ [17, 2, 1, 21, 22, 23, 24, 25, 26, 27, 28, 29, 30, 31, 32, 33, 34, 35, 36, 37, 38, 39, 40, 41, 42, 43, 44, 45, 46, 47, 48] (by decide +kernel) (by decide +kernel)
set_option maxRecDepth 20000 in
theorem gX11_ofPerson_X11_daresOf : GoodIn wsX11_ofPerson (wsV RX11 141 RX11 yX11_daresOf wsX11_daresOf) := goodIn_app (goodIn_of _ (by decide +kernel)) ggX11_ofPerson_X11_daresOf
set_option maxRecDepth 20000 in
theorem ggX11_ofPerson_X11_isIn : GoodIn wsX11_ofPerson wsX11_isIn := goodIn_r _ [20] (by decide +kernel) (by decide +kernel)
set_option maxRecDepth 20000 in
theorem gX11_ofPerson_X11_isIn : GoodIn wsX11_ofPerson (va_wsS RX11 144 yX11_isIn wsX11_isIn) := goodIn_app (goodIn_of _ (by decide +kernel)) ggX11_ofPerson_X11_isIn
set_option maxRecDepth 20000 in
theorem ggX11_word_X11_noPerson : GoodIn wsX11_word wsX11_noPerson := goodIn_r _ [8, 9, 10, 11, 7, 12, 17, 18, 19, 20, 21, 22, 23, 24, 25, 26, 27, 28, 29, 30, 31, 32, 33, 34, 35, 36, 37, 38, 39, 40, 41, 42, 43, 44] (by decide +kernel) (by decide +kernel)
set_option maxRecDepth 20000 in
theorem gX11_word_X11_noPerson : GoodIn wsX11_word (wsV RX11 138 RX11 yX11_noPerson wsX11_noPerson) := goodIn_app (goodIn_of _ (by decide +kernel)) ggX11_word_X11_noPerson
set_option maxRecDepth 20000 in
theorem ggX11_word_X11_isDay : GoodIn wsX11_word wsX11_isDay := goodIn_r _ [15, 16, 10, 11, 7, 12] (by decide +kernel) (by decide +kernel)
set_option maxRecDepth 20000 in
theorem gX11_word_X11_isDay : GoodIn wsX11_word (va_wsS RX11 147 yX11_isDay wsX11_isDay) := goodIn_app (goodIn_of _ (by decide +kernel)) ggX11_word_X11_isDay
set_option maxRecDepth 20000 in
theorem ggX11_unsay_X11_in : GoodIn wsX11_unsay wsX11_in := goodIn_r _ [5] (by decide +kernel) (by decide +kernel)
set_option maxRecDepth 20000 in
theorem gX11_unsay_X11_in : GoodIn wsX11_unsay (va_wsS RX11 78 yX11_in wsX11_in) := goodIn_app (goodIn_of _ (by decide +kernel)) ggX11_unsay_X11_in
set_option maxRecDepth 20000 in
theorem ggX11_bribe_X11_noPerson : GoodIn wsX11_bribe wsX11_noPerson := goodIn_r _ [6, 7, 8, 9, 5, 10, 14, 15, 16, 17, 18, 19, 20, 21, 22, 23, 24, 25, 26, 27, 28, 29, 30, 31, 32, 33, 34, 35, 36, 37, 38, 39, 40, 41] (by decide +kernel) (by decide +kernel)
set_option maxRecDepth 20000 in
theorem gX11_bribe_X11_noPerson : GoodIn wsX11_bribe (wsV RX11 138 RX11 yX11_noPerson wsX11_noPerson) := goodIn_app (goodIn_of _ (by decide +kernel)) ggX11_bribe_X11_noPerson
set_option maxRecDepth 20000 in
theorem ggX11_bribe_X11_isIn : GoodIn wsX11_bribe wsX11_isIn := goodIn_r _ [13] (by decide +kernel) (by decide +kernel)
set_option maxRecDepth 20000 in
theorem gX11_bribe_X11_isIn : GoodIn wsX11_bribe (va_wsS RX11 144 yX11_isIn wsX11_isIn) := goodIn_app (goodIn_of _ (by decide +kernel)) ggX11_bribe_X11_isIn
set_option maxRecDepth 20000 in
theorem ggX11_whisper_X11_noPerson : GoodIn wsX11_whisper wsX11_noPerson := goodIn_r _ [8, 9, 10, 11, 7, 12, 13, 14, 15, 16, 17, 18, 19, 20, 21, 22, 23, 24, 25, 26, 27, 28, 29, 30, 31, 32, 33, 34, 35, 36, 37, 38, 39, 40] (by decide +kernel) (by decide +kernel)
set_option maxRecDepth 20000 in
theorem gX11_whisper_X11_noPerson : GoodIn wsX11_whisper (wsV RX11 138 RX11 yX11_noPerson wsX11_noPerson) := goodIn_app (goodIn_of _ (by decide +kernel)) ggX11_whisper_X11_noPerson
set_option maxRecDepth 20000 in
theorem ggX11_forget_X11_in : GoodIn wsX11_forget wsX11_in := goodIn_r _ [5] (by decide +kernel) (by decide +kernel)
set_option maxRecDepth 20000 in
theorem gX11_forget_X11_in : GoodIn wsX11_forget (va_wsS RX11 78 yX11_in wsX11_in) := goodIn_app (goodIn_of _ (by decide +kernel)) ggX11_forget_X11_in
set_option maxRecDepth 20000 in
theorem ggX11_heardBy_X11_isNear : GoodIn wsX11_heardBy wsX11_isNear := goodIn_r _ [7, 8, 9, 10, 11, 12, 13, 14, 15, 16, 17, 18, 19, 20, 21, 22, 23, 24, 25, 26, 27, 28, 29, 30, 31, 32, 33, 34, 35, 36] (by decide +kernel) (by decide +kernel)
set_option maxRecDepth 20000 in
theorem gX11_heardBy_X11_isNear : GoodIn wsX11_heardBy (wsV RX11 150 RX11 yX11_isNear wsX11_isNear) := goodIn_app (goodIn_of _ (by decide +kernel)) ggX11_heardBy_X11_isNear
set_option maxRecDepth 20000 in
theorem ggX11_wordsFor_X11_isNear : GoodIn wsX11_wordsFor wsX11_isNear := goodIn_r _ [10, 11, 15, 16, 17, 18, 19, 20, 21, 22, 23, 24, 25, 26, 27, 28, 29, 30, 31, 32, 33, 34, 35, 36, 37, 38, 39, 40, 41, 42] (by decide +kernel) (by decide +kernel)
set_option maxRecDepth 20000 in
theorem gX11_wordsFor_X11_isNear : GoodIn wsX11_wordsFor (wsV RX11 150 RX11 yX11_isNear wsX11_isNear) := goodIn_app (goodIn_of _ (by decide +kernel)) ggX11_wordsFor_X11_isNear
set_option maxRecDepth 20000 in
theorem ggX11_wordsFor_X11_isIn : GoodIn wsX11_wordsFor wsX11_isIn := goodIn_r _ [14] (by decide +kernel) (by decide +kernel)
set_option maxRecDepth 20000 in
theorem gX11_wordsFor_X11_isIn : GoodIn wsX11_wordsFor (va_wsS RX11 144 yX11_isIn wsX11_isIn) := goodIn_app (goodIn_of _ (by decide +kernel)) ggX11_wordsFor_X11_isIn
set_option maxRecDepth 20000 in
theorem ggX11_heldBy_X11_heardBy : GoodIn wsX11_heldBy wsX11_heardBy := goodIn_r _ [5, 6, 7, 8, 9, 10, 4, 11, 12, 34, 35, 36, 37, 38, 39, 40, 41, 42, 43, 44, 45, 46, 47, 48, 49, 50, 51, 52, 53, 54, 55, 56, 57, 58, 59, 60, 61] (by decide +kernel) (by decide +kernel)
set_option maxRecDepth 20000 in
theorem gX11_heldBy_X11_heardBy : GoodIn wsX11_heldBy (wsV RX11 156 RX11 yX11_heardBy wsX11_heardBy) := goodIn_app (goodIn_of _ (by decide +kernel)) ggX11_heldBy_X11_heardBy
set_option maxRecDepth 20000 in
theorem ggX11_heldBy_X11_bits : GoodIn wsX11_heldBy wsX11_bits := goodIn_r _ [15] (by decide +kernel) (by decide +kernel)
set_option maxRecDepth 20000 in
theorem gX11_heldBy_X11_bits : GoodIn wsX11_heldBy (va_wsS RX11 159 yX11_bits wsX11_bits) := goodIn_app (goodIn_of _ (by decide +kernel)) ggX11_heldBy_X11_bits
set_option maxRecDepth 20000 in
theorem ggX11_heldBy_X11_wordsFor : GoodIn wsX11_heldBy wsX11_wordsFor := goodIn_r _ [19, 20, 21, 22, 6, 23, 8, 9, 10, 4, 11, 12, 24, 25, 26, 34, 35, 36, 37, 38, 39, 40, 41, 42, 43, 44, 45, 46, 47, 48, 49, 50, 51, 52, 53, 54, 55, 56, 57, 58, 59, 60, 61] (by decide +kernel) (by decide +kernel)
set_option maxRecDepth 20000 in
theorem gX11_heldBy_X11_wordsFor : GoodIn wsX11_heldBy (wsV RX11 162 RX11 yX11_wordsFor wsX11_wordsFor) := goodIn_app (goodIn_of _ (by decide +kernel)) ggX11_heldBy_X11_wordsFor
set_option maxRecDepth 20000 in
theorem ggX11_heldBy_X11_whispersOf : GoodIn wsX11_heldBy wsX11_whispersOf := goodIn_r _ [30, 31, 32, 33, 34, 35, 36, 37, 38, 39, 40, 41, 42, 43, 44, 45, 46, 47, 48, 49, 50, 51, 52, 53, 54, 55, 56, 57, 58, 59, 60, 61] (by decide +kernel) (by decide +kernel)
set_option maxRecDepth 20000 in
theorem gX11_heldBy_X11_whispersOf : GoodIn wsX11_heldBy (wsV RX11 165 RX11 yX11_whispersOf wsX11_whispersOf) := goodIn_app (goodIn_of _ (by decide +kernel)) ggX11_heldBy_X11_whispersOf
set_option maxRecDepth 20000 in
theorem ggX11_go_X11_isIn : GoodIn wsX11_go wsX11_isIn := goodIn_r _ [7] (by decide +kernel) (by decide +kernel)
set_option maxRecDepth 20000 in
theorem gX11_go_X11_isIn : GoodIn wsX11_go (va_wsS RX11 144 yX11_isIn wsX11_isIn) := goodIn_app (goodIn_of _ (by decide +kernel)) ggX11_go_X11_isIn
set_option maxRecDepth 20000 in
theorem ggX11_go_X11_heldBy : GoodIn wsX11_go wsX11_heldBy := goodIn_r _ [11, 12, 13, 14, 6, 15, 2, 1, 16, 17, 18, 19, 20, 21, 22, 23, 24, 25, 26, 27, 28, 29, 30, 31, 4, 5, 7, 32, 33, 34, 35, 36, 37, 38, 45, 46, 47, 48, 49, 50, 51, 52, 53, 54, 55, 56, 57, 58, 59, 60, 61, 62, 63, 64, 65, 66, 67, 68, 69, 70, 71, 72] (by decide +kernel) (by decide +kernel)
set_option maxRecDepth 20000 in
theorem gX11_go_X11_heldBy : GoodIn wsX11_go (wsV RX11 168 RX11 yX11_heldBy wsX11_heldBy) := goodIn_app (goodIn_of _ (by decide +kernel)) ggX11_go_X11_heldBy
set_option maxRecDepth 20000 in
theorem ggX11_go_X11_daresOf : GoodIn wsX11_go wsX11_daresOf := goodIn_r _ [42, 43, 44, 45, 46, 47, 48, 49, 50, 51, 52, 53, 54, 55, 56, 57, 58, 59, 60, 61, 62, 63, 64, 65, 66, 67, 68, 69, 70, 71, 72] (by decide +kernel) (by decide +kernel)
set_option maxRecDepth 20000 in
theorem gX11_go_X11_daresOf : GoodIn wsX11_go (wsV RX11 141 RX11 yX11_daresOf wsX11_daresOf) := goodIn_app (goodIn_of _ (by decide +kernel)) ggX11_go_X11_daresOf
set_option maxRecDepth 20000 in
theorem ggX11_goTold_X11_go : GoodIn wsX11_goTold wsX11_go := goodIn_r _ [5, 6, 7, 8, 9, 10, 4, 11, 12, 13, 14, 15, 16, 17, 18, 19, 20, 21, 22, 23, 24, 25, 26, 27, 28, 29, 30, 31, 32, 33, 34, 35, 36, 37, 38, 39, 40, 41, 42, 43, 44, 45, 46, 47, 48, 49, 50, 51, 52, 53, 54, 55, 56, 57, 58, 59, 60, 61, 62, 63, 64, 65, 66, 67, 68, 69, 70, 71, 72, 73, 74, 75, 76] (by decide +kernel) (by decide +kernel)
set_option maxRecDepth 20000 in
theorem gX11_goTold_X11_go : GoodIn wsX11_goTold (wsV RX11 171 RX11 yX11_go wsX11_go) := goodIn_app (goodIn_of _ (by decide +kernel)) ggX11_goTold_X11_go
set_option maxRecDepth 20000 in
theorem ggX11_says_X11_noPerson : GoodIn wsX11_says wsX11_noPerson := goodIn_r _ [6, 7, 8, 9, 5, 10, 60, 61, 62, 63, 64, 65, 66, 67, 68, 69, 70, 71, 72, 73, 74, 75, 76, 77, 78, 79, 80, 81, 82, 83, 84, 85, 86, 87] (by decide +kernel) (by decide +kernel)
set_option maxRecDepth 20000 in
theorem gX11_says_X11_noPerson : GoodIn wsX11_says (wsV RX11 138 RX11 yX11_noPerson wsX11_noPerson) := goodIn_app (goodIn_of _ (by decide +kernel)) ggX11_says_X11_noPerson
set_option maxRecDepth 20000 in
theorem ggX11_says_X11_goTold : GoodIn wsX11_says wsX11_goTold := goodIn_r _ [14, 15, 16, 17, 5, 18, 1, 7, 19, 20, 21, 22, 23, 24, 25, 26, 27, 28, 29, 30, 31, 32, 33, 34, 35, 36, 37, 38, 39, 40, 41, 42, 43, 44, 45, 46, 47, 48, 49, 50, 51, 52, 53, 54, 55, 56, 57, 58, 59, 60, 61, 62, 63, 64, 65, 66, 67, 68, 69, 70, 71, 72, 73, 74, 75, 76, 77, 78, 79, 80, 81, 82, 83, 84, 85, 86, 87] (by decide +kernel) (by decide +kernel)
set_option maxRecDepth 20000 in
theorem gX11_says_X11_goTold : GoodIn wsX11_says (wsV RX11 175 RX11 yX11_goTold wsX11_goTold) := goodIn_app (goodIn_of _ (by decide +kernel)) ggX11_says_X11_goTold
set_option maxRecDepth 20000 in
theorem ggX11_saidNow_X11_saidBy : GoodIn wsX11_saidNow wsX11_saidBy := goodIn_r _ [5, 6, 7, 8, 9, 10, 11, 12, 13, 14, 15, 16, 17, 18, 19, 20, 21, 22, 23, 24, 25, 26, 27, 28, 29, 30, 31, 32, 33, 34, 35] (by decide +kernel) (by decide +kernel)
set_option maxRecDepth 20000 in
theorem gX11_saidNow_X11_saidBy : GoodIn wsX11_saidNow (wsV RX11 178 RX11 yX11_saidBy wsX11_saidBy) := goodIn_app (goodIn_of _ (by decide +kernel)) ggX11_saidNow_X11_saidBy
set_option maxRecDepth 20000 in
theorem ggX11_crowd_X11_isDay : GoodIn wsX11_crowd wsX11_isDay := goodIn_r _ [5, 6, 7, 8, 4, 9] (by decide +kernel) (by decide +kernel)
set_option maxRecDepth 20000 in
theorem gX11_crowd_X11_isDay : GoodIn wsX11_crowd (va_wsS RX11 147 yX11_isDay wsX11_isDay) := goodIn_app (goodIn_of _ (by decide +kernel)) ggX11_crowd_X11_isDay
set_option maxRecDepth 20000 in
theorem ggX11_crowd_X11_goTold : GoodIn wsX11_crowd wsX11_goTold := goodIn_r _ [13, 14, 15, 16, 4, 17, 18, 1, 19, 20, 21, 22, 23, 24, 25, 26, 27, 28, 29, 30, 31, 32, 33, 34, 35, 36, 37, 38, 39, 40, 41, 42, 43, 44, 45, 46, 47, 48, 49, 50, 51, 52, 53, 54, 55, 56, 57, 58, 59, 64, 65, 66, 67, 68, 69, 70, 71, 72, 73, 74, 75, 76, 77, 78, 79, 80, 81, 82, 83, 84, 85, 86, 87, 88, 89, 90, 91] (by decide +kernel) (by decide +kernel)
set_option maxRecDepth 20000 in
theorem gX11_crowd_X11_goTold : GoodIn wsX11_crowd (wsV RX11 175 RX11 yX11_goTold wsX11_goTold) := goodIn_app (goodIn_of _ (by decide +kernel)) ggX11_crowd_X11_goTold
set_option maxRecDepth 20000 in
theorem ggX11_crowd_X11_saidBy : GoodIn wsX11_crowd wsX11_saidBy := goodIn_r _ [63, 1, 18, 64, 65, 66, 67, 68, 69, 70, 71, 72, 73, 74, 75, 76, 77, 78, 79, 80, 81, 82, 83, 84, 85, 86, 87, 88, 89, 90, 91] (by decide +kernel) (by decide +kernel)
set_option maxRecDepth 20000 in
theorem gX11_crowd_X11_saidBy : GoodIn wsX11_crowd (wsV RX11 178 RX11 yX11_saidBy wsX11_saidBy) := goodIn_app (goodIn_of _ (by decide +kernel)) ggX11_crowd_X11_saidBy
set_option maxRecDepth 20000 in
theorem ggX11_heard_X11_noPerson : GoodIn wsX11_heard wsX11_noPerson := goodIn_r _ [5, 6, 7, 8, 4, 9, 64, 65, 66, 67, 68, 69, 70, 71, 72, 73, 74, 75, 76, 77, 78, 79, 80, 81, 82, 83, 84, 85, 86, 87, 88, 89, 90, 91] (by decide +kernel) (by decide +kernel)
set_option maxRecDepth 20000 in
theorem gX11_heard_X11_noPerson : GoodIn wsX11_heard (wsV RX11 138 RX11 yX11_noPerson wsX11_noPerson) := goodIn_app (goodIn_of _ (by decide +kernel)) ggX11_heard_X11_noPerson
set_option maxRecDepth 20000 in
theorem ggX11_heard_X11_isDay : GoodIn wsX11_heard wsX11_isDay := goodIn_r _ [12, 13, 7, 8, 4, 9] (by decide +kernel) (by decide +kernel)
set_option maxRecDepth 20000 in
theorem gX11_heard_X11_isDay : GoodIn wsX11_heard (va_wsS RX11 147 yX11_isDay wsX11_isDay) := goodIn_app (goodIn_of _ (by decide +kernel)) ggX11_heard_X11_isDay
set_option maxRecDepth 20000 in
theorem ggX11_heard_X11_in : GoodIn wsX11_heard wsX11_in := goodIn_r _ [9] (by decide +kernel) (by decide +kernel)
set_option maxRecDepth 20000 in
theorem gX11_heard_X11_in : GoodIn wsX11_heard (va_wsS RX11 78 yX11_in wsX11_in) := goodIn_app (goodIn_of _ (by decide +kernel)) ggX11_heard_X11_in
set_option maxRecDepth 20000 in
theorem ggX11_heard_X11_goTold : GoodIn wsX11_heard wsX11_goTold := goodIn_r _ [17, 18, 19, 20, 4, 21, 22, 6, 23, 24, 25, 26, 27, 28, 29, 30, 31, 32, 33, 34, 35, 36, 37, 38, 39, 40, 41, 42, 43, 44, 45, 46, 47, 48, 49, 50, 51, 52, 53, 54, 55, 56, 57, 58, 59, 60, 61, 62, 63, 64, 65, 66, 67, 68, 69, 70, 71, 72, 73, 74, 75, 76, 77, 78, 79, 80, 81, 82, 83, 84, 85, 86, 87, 88, 89, 90, 91] (by decide +kernel) (by decide +kernel)
set_option maxRecDepth 20000 in
theorem gX11_heard_X11_goTold : GoodIn wsX11_heard (wsV RX11 175 RX11 yX11_goTold wsX11_goTold) := goodIn_app (goodIn_of _ (by decide +kernel)) ggX11_heard_X11_goTold
set_option maxRecDepth 20000 in
theorem ggX11_heard_X11_heardBy : GoodIn wsX11_heard wsX11_heardBy := goodIn_r _ [34, 6, 22, 35, 36, 37, 4, 38, 39, 64, 65, 66, 67, 68, 69, 70, 71, 72, 73, 74, 75, 76, 77, 78, 79, 80, 81, 82, 83, 84, 85, 86, 87, 88, 89, 90, 91] (by decide +kernel) (by decide +kernel)
set_option maxRecDepth 20000 in
theorem gX11_heard_X11_heardBy : GoodIn wsX11_heard (wsV RX11 156 RX11 yX11_heardBy wsX11_heardBy) := goodIn_app (goodIn_of _ (by decide +kernel)) ggX11_heard_X11_heardBy
set_option maxRecDepth 20000 in
theorem ggX11_heard_X11_heldBy : GoodIn wsX11_heard wsX11_heldBy := goodIn_r _ [30, 31, 32, 33, 4, 34, 6, 22, 35, 36, 37, 38, 39, 40, 41, 42, 43, 44, 45, 46, 47, 48, 49, 50, 24, 25, 26, 51, 52, 53, 54, 55, 56, 57, 64, 65, 66, 67, 68, 69, 70, 71, 72, 73, 74, 75, 76, 77, 78, 79, 80, 81, 82, 83, 84, 85, 86, 87, 88, 89, 90, 91] (by decide +kernel) (by decide +kernel)
set_option maxRecDepth 20000 in
theorem gX11_heard_X11_heldBy : GoodIn wsX11_heard (wsV RX11 168 RX11 yX11_heldBy wsX11_heldBy) := goodIn_app (goodIn_of _ (by decide +kernel)) ggX11_heard_X11_heldBy
set_option maxRecDepth 20000 in
theorem ggX11_silence_X11_goTold : GoodIn wsX11_silence wsX11_goTold := goodIn_r _ [6, 7, 8, 9, 5, 10, 11, 1, 12, 13, 14, 15, 16, 17, 18, 19, 20, 21, 22, 23, 24, 25, 26, 27, 28, 29, 30, 31, 32, 33, 34, 35, 36, 37, 38, 39, 40, 41, 42, 43, 44, 45, 46, 47, 48, 49, 50, 51, 52, 61, 62, 63, 64, 65, 66, 67, 68, 69, 70, 71, 72, 73, 74, 75, 76, 77, 78, 79, 80, 81, 82, 83, 84, 85, 86, 87, 88] (by decide +kernel) (by decide +kernel)
set_option maxRecDepth 20000 in
theorem gX11_silence_X11_goTold : GoodIn wsX11_silence (wsV RX11 175 RX11 yX11_goTold wsX11_goTold) := goodIn_app (goodIn_of _ (by decide +kernel)) ggX11_silence_X11_goTold
set_option maxRecDepth 20000 in
theorem ggX11_silence_X11_saidNow : GoodIn wsX11_silence wsX11_saidNow := goodIn_r _ [56, 57, 58, 59, 5, 60, 1, 11, 61, 62, 63, 64, 65, 66, 67, 68, 69, 70, 71, 72, 73, 74, 75, 76, 77, 78, 79, 80, 81, 82, 83, 84, 85, 86, 87, 88] (by decide +kernel) (by decide +kernel)
set_option maxRecDepth 20000 in
theorem gX11_silence_X11_saidNow : GoodIn wsX11_silence (wsV RX11 181 RX11 yX11_saidNow wsX11_saidNow) := goodIn_app (goodIn_of _ (by decide +kernel)) ggX11_silence_X11_saidNow
set_option maxRecDepth 20000 in
theorem ggX11_noticed_X11_goTold : GoodIn wsX11_noticed wsX11_goTold := goodIn_r _ [6, 7, 8, 9, 5, 10, 11, 1, 12, 13, 14, 15, 16, 17, 18, 19, 20, 21, 22, 23, 24, 25, 26, 27, 28, 29, 30, 31, 32, 33, 34, 35, 36, 37, 38, 39, 40, 41, 42, 43, 44, 45, 46, 47, 48, 49, 50, 51, 52, 57, 58, 59, 60, 61, 62, 63, 64, 65, 66, 67, 68, 69, 70, 71, 72, 73, 74, 75, 76, 77, 78, 79, 80, 81, 82, 83, 84] (by decide +kernel) (by decide +kernel)
set_option maxRecDepth 20000 in
theorem gX11_noticed_X11_goTold : GoodIn wsX11_noticed (wsV RX11 175 RX11 yX11_goTold wsX11_goTold) := goodIn_app (goodIn_of _ (by decide +kernel)) ggX11_noticed_X11_goTold
set_option maxRecDepth 20000 in
theorem ggX11_noticed_X11_saidBy : GoodIn wsX11_noticed wsX11_saidBy := goodIn_r _ [56, 1, 11, 57, 58, 59, 60, 61, 62, 63, 64, 65, 66, 67, 68, 69, 70, 71, 72, 73, 74, 75, 76, 77, 78, 79, 80, 81, 82, 83, 84] (by decide +kernel) (by decide +kernel)
set_option maxRecDepth 20000 in
theorem gX11_noticed_X11_saidBy : GoodIn wsX11_noticed (wsV RX11 178 RX11 yX11_saidBy wsX11_saidBy) := goodIn_app (goodIn_of _ (by decide +kernel)) ggX11_noticed_X11_saidBy
set_option maxRecDepth 20000 in
theorem ggX11_noticed_X11_bits : GoodIn wsX11_noticed wsX11_bits := goodIn_r _ [31] (by decide +kernel) (by decide +kernel)
set_option maxRecDepth 20000 in
theorem gX11_noticed_X11_bits : GoodIn wsX11_noticed (va_wsS RX11 159 yX11_bits wsX11_bits) := goodIn_app (goodIn_of _ (by decide +kernel)) ggX11_noticed_X11_bits
set_option maxRecDepth 20000 in
theorem ggX11_fewest_X11_all : GoodIn wsX11_fewest wsX11_all := goodIn_r _ [8, 1, 65, 66, 67, 68, 69, 70, 71, 72, 73, 74, 75, 76, 77, 78, 79, 80, 81, 82, 83, 84, 85, 86, 87, 88, 89, 90, 91, 92] (by decide +kernel) (by decide +kernel)
set_option maxRecDepth 20000 in
theorem gX11_fewest_X11_all : GoodIn wsX11_fewest (wsV RX11 185 RX11 yX11_all wsX11_all) := goodIn_app (goodIn_of _ (by decide +kernel)) ggX11_fewest_X11_all
set_option maxRecDepth 20000 in
theorem ggX11_fewest_X11_bits : GoodIn wsX11_fewest wsX11_bits := goodIn_r _ [11] (by decide +kernel) (by decide +kernel)
set_option maxRecDepth 20000 in
theorem gX11_fewest_X11_bits : GoodIn wsX11_fewest (va_wsS RX11 159 yX11_bits wsX11_bits) := goodIn_app (goodIn_of _ (by decide +kernel)) ggX11_fewest_X11_bits
set_option maxRecDepth 20000 in
theorem ggX11_fewest_X11_goTold : GoodIn wsX11_fewest wsX11_goTold := goodIn_r _ [15, 16, 17, 18, 7, 19, 20, 1, 3, 21, 22, 23, 24, 25, 26, 27, 28, 29, 30, 31, 32, 33, 34, 35, 36, 9, 10, 11, 37, 38, 39, 40, 41, 42, 43, 2, 44, 45, 46, 47, 48, 49, 50, 51, 52, 53, 54, 55, 56, 65, 66, 67, 68, 69, 70, 71, 72, 73, 74, 75, 76, 77, 78, 79, 80, 81, 82, 83, 84, 85, 86, 87, 88, 89, 90, 91, 92] (by decide +kernel) (by decide +kernel)
set_option maxRecDepth 20000 in
theorem gX11_fewest_X11_goTold : GoodIn wsX11_fewest (wsV RX11 175 RX11 yX11_goTold wsX11_goTold) := goodIn_app (goodIn_of _ (by decide +kernel)) ggX11_fewest_X11_goTold
set_option maxRecDepth 20000 in
theorem ggX11_fewest_X11_saidNow : GoodIn wsX11_fewest wsX11_saidNow := goodIn_r _ [60, 61, 62, 63, 7, 64, 1, 20, 65, 66, 67, 68, 69, 70, 71, 72, 73, 74, 75, 76, 77, 78, 79, 80, 81, 82, 83, 84, 85, 86, 87, 88, 89, 90, 91, 92] (by decide +kernel) (by decide +kernel)
set_option maxRecDepth 20000 in
theorem gX11_fewest_X11_saidNow : GoodIn wsX11_fewest (wsV RX11 181 RX11 yX11_saidNow wsX11_saidNow) := goodIn_app (goodIn_of _ (by decide +kernel)) ggX11_fewest_X11_saidNow
set_option maxRecDepth 20000 in
theorem ggX11_bribes_X11_noPerson : GoodIn wsX11_bribes wsX11_noPerson := goodIn_r _ [7, 8, 9, 10, 6, 11, 64, 65, 66, 67, 68, 69, 70, 71, 72, 73, 74, 75, 76, 77, 78, 79, 80, 81, 82, 83, 84, 85, 86, 87, 88, 89, 90, 91] (by decide +kernel) (by decide +kernel)
set_option maxRecDepth 20000 in
theorem gX11_bribes_X11_noPerson : GoodIn wsX11_bribes (wsV RX11 138 RX11 yX11_noPerson wsX11_noPerson) := goodIn_app (goodIn_of _ (by decide +kernel)) ggX11_bribes_X11_noPerson
set_option maxRecDepth 20000 in
theorem ggX11_bribes_X11_all : GoodIn wsX11_bribes wsX11_all := goodIn_r _ [15, 8, 64, 65, 66, 67, 68, 69, 70, 71, 72, 73, 74, 75, 76, 77, 78, 79, 80, 81, 82, 83, 84, 85, 86, 87, 88, 89, 90, 91] (by decide +kernel) (by decide +kernel)
set_option maxRecDepth 20000 in
theorem gX11_bribes_X11_all : GoodIn wsX11_bribes (wsV RX11 185 RX11 yX11_all wsX11_all) := goodIn_app (goodIn_of _ (by decide +kernel)) ggX11_bribes_X11_all
set_option maxRecDepth 20000 in
theorem ggX11_bribes_X11_isIn : GoodIn wsX11_bribes wsX11_isIn := goodIn_r _ [18] (by decide +kernel) (by decide +kernel)
set_option maxRecDepth 20000 in
theorem gX11_bribes_X11_isIn : GoodIn wsX11_bribes (va_wsS RX11 144 yX11_isIn wsX11_isIn) := goodIn_app (goodIn_of _ (by decide +kernel)) ggX11_bribes_X11_isIn
set_option maxRecDepth 20000 in
theorem ggX11_bribes_X11_bits : GoodIn wsX11_bribes wsX11_bits := goodIn_r _ [21] (by decide +kernel) (by decide +kernel)
set_option maxRecDepth 20000 in
theorem gX11_bribes_X11_bits : GoodIn wsX11_bribes (va_wsS RX11 159 yX11_bits wsX11_bits) := goodIn_app (goodIn_of _ (by decide +kernel)) ggX11_bribes_X11_bits
set_option maxRecDepth 20000 in
theorem ggX11_bribes_X11_goTold : GoodIn wsX11_bribes wsX11_goTold := goodIn_r _ [25, 26, 27, 28, 6, 29, 2, 8, 1, 16, 17, 18, 30, 31, 32, 33, 34, 35, 36, 37, 38, 39, 40, 41, 42, 19, 20, 21, 43, 44, 45, 46, 47, 48, 49, 50, 51, 52, 53, 54, 55, 56, 57, 58, 59, 60, 61, 62, 63, 64, 65, 66, 67, 68, 69, 70, 71, 72, 73, 74, 75, 76, 77, 78, 79, 80, 81, 82, 83, 84, 85, 86, 87, 88, 89, 90, 91] (by decide +kernel) (by decide +kernel)
set_option maxRecDepth 20000 in
theorem gX11_bribes_X11_goTold : GoodIn wsX11_bribes (wsV RX11 175 RX11 yX11_goTold wsX11_goTold) := goodIn_app (goodIn_of _ (by decide +kernel)) ggX11_bribes_X11_goTold
set_option maxRecDepth 20000 in
theorem ggX11_whispers_X11_in : GoodIn wsX11_whispers wsX11_in := goodIn_r _ [8] (by decide +kernel) (by decide +kernel)
set_option maxRecDepth 20000 in
theorem gX11_whispers_X11_in : GoodIn wsX11_whispers (va_wsS RX11 78 yX11_in wsX11_in) := goodIn_app (goodIn_of _ (by decide +kernel)) ggX11_whispers_X11_in
set_option maxRecDepth 20000 in
theorem ggX11_whispers_X11_goTold : GoodIn wsX11_whispers wsX11_goTold := goodIn_r _ [12, 13, 14, 15, 7, 16, 17, 1, 18, 19, 20, 21, 22, 23, 24, 25, 26, 27, 28, 29, 30, 31, 32, 33, 34, 35, 36, 37, 38, 39, 40, 41, 42, 43, 44, 45, 46, 47, 48, 49, 2, 3, 4, 50, 51, 52, 53, 54, 55, 64, 65, 66, 67, 68, 69, 70, 71, 72, 73, 74, 75, 76, 77, 78, 79, 80, 81, 82, 83, 84, 85, 86, 87, 88, 89, 90, 91] (by decide +kernel) (by decide +kernel)
set_option maxRecDepth 20000 in
theorem gX11_whispers_X11_goTold : GoodIn wsX11_whispers (wsV RX11 175 RX11 yX11_goTold wsX11_goTold) := goodIn_app (goodIn_of _ (by decide +kernel)) ggX11_whispers_X11_goTold
set_option maxRecDepth 20000 in
theorem ggX11_whispers_X11_saidNow : GoodIn wsX11_whispers wsX11_saidNow := goodIn_r _ [59, 60, 61, 62, 7, 63, 1, 17, 64, 65, 66, 67, 68, 69, 70, 71, 72, 73, 74, 75, 76, 77, 78, 79, 80, 81, 82, 83, 84, 85, 86, 87, 88, 89, 90, 91] (by decide +kernel) (by decide +kernel)
set_option maxRecDepth 20000 in
theorem gX11_whispers_X11_saidNow : GoodIn wsX11_whispers (wsV RX11 181 RX11 yX11_saidNow wsX11_saidNow) := goodIn_app (goodIn_of _ (by decide +kernel)) ggX11_whispers_X11_saidNow
set_option maxRecDepth 20000 in
theorem ggX11_whispers_X11_bits : GoodIn wsX11_whispers wsX11_bits := goodIn_r _ [37] (by decide +kernel) (by decide +kernel)
set_option maxRecDepth 20000 in
theorem gX11_whispers_X11_bits : GoodIn wsX11_whispers (va_wsS RX11 159 yX11_bits wsX11_bits) := goodIn_app (goodIn_of _ (by decide +kernel)) ggX11_whispers_X11_bits
set_option maxRecDepth 20000 in
theorem ggX11_worth_X11_in : GoodIn wsX11_worth wsX11_in := goodIn_r _ [5] (by decide +kernel) (by decide +kernel)
set_option maxRecDepth 20000 in
theorem gX11_worth_X11_in : GoodIn wsX11_worth (va_wsS RX11 78 yX11_in wsX11_in) := goodIn_app (goodIn_of _ (by decide +kernel)) ggX11_worth_X11_in
set_option maxRecDepth 20000 in
theorem ggX11_worth_X11_goTold : GoodIn wsX11_worth wsX11_goTold := goodIn_r _ [9, 10, 11, 12, 4, 13, 14, 15, 16, 17, 18, 19, 20, 21, 22, 23, 24, 25, 26, 27, 28, 29, 30, 31, 32, 33, 34, 35, 36, 37, 38, 39, 1, 40, 41, 42, 43, 44, 45, 46, 47, 48, 49, 50, 51, 52, 53, 54, 55, 64, 65, 66, 67, 68, 69, 70, 71, 72, 73, 74, 75, 76, 77, 78, 79, 80, 81, 82, 83, 84, 85, 86, 87, 88, 89, 90, 91] (by decide +kernel) (by decide +kernel)
set_option maxRecDepth 20000 in
theorem gX11_worth_X11_goTold : GoodIn wsX11_worth (wsV RX11 175 RX11 yX11_goTold wsX11_goTold) := goodIn_app (goodIn_of _ (by decide +kernel)) ggX11_worth_X11_goTold
set_option maxRecDepth 20000 in
theorem ggX11_worth_X11_saidNow : GoodIn wsX11_worth wsX11_saidNow := goodIn_r _ [59, 60, 61, 62, 4, 63, 15, 14, 64, 65, 66, 67, 68, 69, 70, 71, 72, 73, 74, 75, 76, 77, 78, 79, 80, 81, 82, 83, 84, 85, 86, 87, 88, 89, 90, 91] (by decide +kernel) (by decide +kernel)
set_option maxRecDepth 20000 in
theorem gX11_worth_X11_saidNow : GoodIn wsX11_worth (wsV RX11 181 RX11 yX11_saidNow wsX11_saidNow) := goodIn_app (goodIn_of _ (by decide +kernel)) ggX11_worth_X11_saidNow
set_option maxRecDepth 20000 in
theorem ggX11_worth_X11_bits : GoodIn wsX11_worth wsX11_bits := goodIn_r _ [35] (by decide +kernel) (by decide +kernel)
set_option maxRecDepth 20000 in
theorem gX11_worth_X11_bits : GoodIn wsX11_worth (va_wsS RX11 159 yX11_bits wsX11_bits) := goodIn_app (goodIn_of _ (by decide +kernel)) ggX11_worth_X11_bits
set_option maxRecDepth 20000 in
theorem ggX11_worth_X11_go : GoodIn wsX11_worth wsX11_go := goodIn_r _ [13, 14, 15, 16, 17, 18, 4, 19, 20, 21, 22, 23, 24, 25, 26, 27, 28, 29, 30, 31, 32, 33, 34, 35, 36, 37, 38, 39, 1, 40, 41, 42, 43, 44, 45, 46, 47, 48, 49, 50, 51, 52, 53, 54, 55, 64, 65, 66, 67, 68, 69, 70, 71, 72, 73, 74, 75, 76, 77, 78, 79, 80, 81, 82, 83, 84, 85, 86, 87, 88, 89, 90, 91] (by decide +kernel) (by decide +kernel)
set_option maxRecDepth 20000 in
theorem gX11_worth_X11_go : GoodIn wsX11_worth (wsV RX11 171 RX11 yX11_go wsX11_go) := goodIn_app (goodIn_of _ (by decide +kernel)) ggX11_worth_X11_go
set_option maxRecDepth 20000 in
theorem ggX11_askedBy_X11_wordsFor : GoodIn wsX11_askedBy wsX11_wordsFor := goodIn_r _ [8, 9, 10, 11, 2, 12, 13, 14, 15, 7, 16, 17, 18, 19, 20, 34, 35, 36, 37, 38, 39, 40, 41, 42, 43, 44, 45, 46, 47, 48, 49, 50, 51, 52, 53, 54, 55, 56, 57, 58, 59, 60, 61] (by decide +kernel) (by decide +kernel)
set_option maxRecDepth 20000 in
theorem gX11_askedBy_X11_wordsFor : GoodIn wsX11_askedBy (wsV RX11 162 RX11 yX11_wordsFor wsX11_wordsFor) := goodIn_app (goodIn_of _ (by decide +kernel)) ggX11_askedBy_X11_wordsFor
set_option maxRecDepth 20000 in
theorem ggX11_askedBy_X11_whispersOf : GoodIn wsX11_askedBy wsX11_whispersOf := goodIn_r _ [24, 25, 26, 27, 34, 35, 36, 37, 38, 39, 40, 41, 42, 43, 44, 45, 46, 47, 48, 49, 50, 51, 52, 53, 54, 55, 56, 57, 58, 59, 60, 61] (by decide +kernel) (by decide +kernel)
set_option maxRecDepth 20000 in
theorem gX11_askedBy_X11_whispersOf : GoodIn wsX11_askedBy (wsV RX11 165 RX11 yX11_whispersOf wsX11_whispersOf) := goodIn_app (goodIn_of _ (by decide +kernel)) ggX11_askedBy_X11_whispersOf
set_option maxRecDepth 20000 in
theorem ggX11_askedBy_X11_isIn : GoodIn wsX11_askedBy wsX11_isIn := goodIn_r _ [20] (by decide +kernel) (by decide +kernel)
set_option maxRecDepth 20000 in
theorem gX11_askedBy_X11_isIn : GoodIn wsX11_askedBy (va_wsS RX11 144 yX11_isIn wsX11_isIn) := goodIn_app (goodIn_of _ (by decide +kernel)) ggX11_askedBy_X11_isIn
set_option maxRecDepth 20000 in
theorem ggX11_askedBy_X11_isNear : GoodIn wsX11_askedBy wsX11_isNear := goodIn_r _ [16, 17, 34, 35, 36, 37, 38, 39, 40, 41, 42, 43, 44, 45, 46, 47, 48, 49, 50, 51, 52, 53, 54, 55, 56, 57, 58, 59, 60, 61] (by decide +kernel) (by decide +kernel)
set_option maxRecDepth 20000 in
theorem gX11_askedBy_X11_isNear : GoodIn wsX11_askedBy (wsV RX11 150 RX11 yX11_isNear wsX11_isNear) := goodIn_app (goodIn_of _ (by decide +kernel)) ggX11_askedBy_X11_isNear
set_option maxRecDepth 20000 in
theorem ggX11_askedBy_X11_daresOf : GoodIn wsX11_askedBy wsX11_daresOf := goodIn_r _ [31, 32, 33, 34, 35, 36, 37, 38, 39, 40, 41, 42, 43, 44, 45, 46, 47, 48, 49, 50, 51, 52, 53, 54, 55, 56, 57, 58, 59, 60, 61] (by decide +kernel) (by decide +kernel)
set_option maxRecDepth 20000 in
theorem gX11_askedBy_X11_daresOf : GoodIn wsX11_askedBy (wsV RX11 141 RX11 yX11_daresOf wsX11_daresOf) := goodIn_app (goodIn_of _ (by decide +kernel)) ggX11_askedBy_X11_daresOf
set_option maxRecDepth 20000 in
theorem ggX11_asked_X11_noSheet : GoodIn wsX11_asked wsX11_noSheet := goodIn_r _ [7, 8, 9, 10, 6, 11] (by decide +kernel) (by decide +kernel)
set_option maxRecDepth 20000 in
theorem gX11_asked_X11_noSheet : GoodIn wsX11_asked (va_wsS RX11 110 yX11_noSheet wsX11_noSheet) := goodIn_app (goodIn_of _ (by decide +kernel)) ggX11_asked_X11_noSheet
set_option maxRecDepth 20000 in
theorem ggX11_asked_X11_refused : GoodIn wsX11_asked wsX11_refused := goodIn_r _ [15, 16, 68, 69, 70, 71, 72, 73, 74, 75, 76, 77, 78, 79, 80, 81, 82, 83, 84, 85, 86, 87, 88, 89, 90, 91, 92, 93, 94, 95] (by decide +kernel) (by decide +kernel)
set_option maxRecDepth 20000 in
theorem gX11_asked_X11_refused : GoodIn wsX11_asked (wsV RX11 114 RX11 yX11_refused wsX11_refused) := goodIn_app (goodIn_of _ (by decide +kernel)) ggX11_asked_X11_refused
set_option maxRecDepth 20000 in
theorem ggX11_asked_X11_in : GoodIn wsX11_asked wsX11_in := goodIn_r _ [11] (by decide +kernel) (by decide +kernel)
set_option maxRecDepth 20000 in
theorem gX11_asked_X11_in : GoodIn wsX11_asked (va_wsS RX11 78 yX11_in wsX11_in) := goodIn_app (goodIn_of _ (by decide +kernel)) ggX11_asked_X11_in
set_option maxRecDepth 20000 in
theorem ggX11_asked_X11_cellsBarred : GoodIn wsX11_asked wsX11_cellsBarred := goodIn_r _ [20, 21, 22, 23, 24, 25, 6, 26, 16, 27, 28, 29, 68, 69, 70, 71, 72, 73, 74, 75, 76, 77, 78, 79, 80, 81, 82, 83, 84, 85, 86, 87, 88, 89, 90, 91, 92, 93, 94, 95] (by decide +kernel) (by decide +kernel)
set_option maxRecDepth 20000 in
theorem gX11_asked_X11_cellsBarred : GoodIn wsX11_asked (wsV RX11 119 RX11 yX11_cellsBarred wsX11_cellsBarred) := goodIn_app (goodIn_of _ (by decide +kernel)) ggX11_asked_X11_cellsBarred
set_option maxRecDepth 20000 in
theorem ggX11_asked_X11_noPerson : GoodIn wsX11_asked wsX11_noPerson := goodIn_r _ [33, 2, 9, 10, 6, 11, 68, 69, 70, 71, 72, 73, 74, 75, 76, 77, 78, 79, 80, 81, 82, 83, 84, 85, 86, 87, 88, 89, 90, 91, 92, 93, 94, 95] (by decide +kernel) (by decide +kernel)
set_option maxRecDepth 20000 in
theorem gX11_asked_X11_noPerson : GoodIn wsX11_asked (wsV RX11 138 RX11 yX11_noPerson wsX11_noPerson) := goodIn_app (goodIn_of _ (by decide +kernel)) ggX11_asked_X11_noPerson
set_option maxRecDepth 20000 in
theorem ggX11_asked_X11_isIn : GoodIn wsX11_asked wsX11_isIn := goodIn_r _ [36] (by decide +kernel) (by decide +kernel)
set_option maxRecDepth 20000 in
theorem gX11_asked_X11_isIn : GoodIn wsX11_asked (va_wsS RX11 144 yX11_isIn wsX11_isIn) := goodIn_app (goodIn_of _ (by decide +kernel)) ggX11_asked_X11_isIn
set_option maxRecDepth 20000 in
theorem ggX11_asked_X11_askedBy : GoodIn wsX11_asked wsX11_askedBy := goodIn_r _ [40, 3, 2, 41, 42, 43, 44, 6, 45, 46, 47, 48, 49, 50, 51, 52, 53, 54, 34, 35, 36, 55, 56, 57, 58, 59, 60, 61, 62, 63, 64, 65, 66, 67, 68, 69, 70, 71, 72, 73, 74, 75, 76, 77, 78, 79, 80, 81, 82, 83, 84, 85, 86, 87, 88, 89, 90, 91, 92, 93, 94, 95] (by decide +kernel) (by decide +kernel)
set_option maxRecDepth 20000 in
theorem gX11_asked_X11_askedBy : GoodIn wsX11_asked (wsV RX11 188 RX11 yX11_askedBy wsX11_askedBy) := goodIn_app (goodIn_of _ (by decide +kernel)) ggX11_asked_X11_askedBy
set_option maxRecDepth 20000 in
theorem ggX11_reading_X11_noPerson : GoodIn wsX11_reading wsX11_noPerson := goodIn_r _ [9, 10, 11, 12, 8, 13, 18, 19, 20, 21, 22, 23, 24, 25, 26, 27, 28, 29, 30, 31, 32, 33, 34, 35, 36, 37, 38, 39, 40, 41, 42, 43, 44, 45] (by decide +kernel) (by decide +kernel)
set_option maxRecDepth 20000 in
theorem gX11_reading_X11_noPerson : GoodIn wsX11_reading (wsV RX11 138 RX11 yX11_noPerson wsX11_noPerson) := goodIn_app (goodIn_of _ (by decide +kernel)) ggX11_reading_X11_noPerson
set_option maxRecDepth 20000 in
theorem ggX11_reading_X11_isDay : GoodIn wsX11_reading wsX11_isDay := goodIn_r _ [16, 17, 11, 12, 8, 13] (by decide +kernel) (by decide +kernel)
set_option maxRecDepth 20000 in
theorem gX11_reading_X11_isDay : GoodIn wsX11_reading (va_wsS RX11 147 yX11_isDay wsX11_isDay) := goodIn_app (goodIn_of _ (by decide +kernel)) ggX11_reading_X11_isDay
set_option maxRecDepth 20000 in
theorem ggX11_back_X11_in : GoodIn wsX11_back wsX11_in := goodIn_r _ [5] (by decide +kernel) (by decide +kernel)
set_option maxRecDepth 20000 in
theorem gX11_back_X11_in : GoodIn wsX11_back (va_wsS RX11 78 yX11_in wsX11_in) := goodIn_app (goodIn_of _ (by decide +kernel)) ggX11_back_X11_in
set_option maxRecDepth 20000 in
theorem ggX11_areSo_X11_goTold : GoodIn wsX11_areSo wsX11_goTold := goodIn_r _ [10, 11, 12, 13, 9, 14, 2, 15, 16, 17, 18, 19, 20, 21, 22, 23, 24, 25, 26, 27, 28, 29, 30, 31, 32, 33, 34, 35, 36, 37, 38, 39, 40, 41, 42, 43, 44, 45, 46, 47, 48, 49, 50, 51, 52, 53, 54, 55, 56, 57, 58, 59, 60, 61, 62, 63, 64, 65, 66, 67, 68, 69, 70, 71, 72, 73, 74, 75, 76, 77, 78, 79, 80, 81, 82, 83, 84] (by decide +kernel) (by decide +kernel)
set_option maxRecDepth 20000 in
theorem gX11_areSo_X11_goTold : GoodIn wsX11_areSo (wsV RX11 175 RX11 yX11_goTold wsX11_goTold) := goodIn_app (goodIn_of _ (by decide +kernel)) ggX11_areSo_X11_goTold
set_option maxRecDepth 20000 in
theorem ggX11_where_X11_isDay : GoodIn wsX11_where wsX11_isDay := goodIn_r _ [8, 9, 10, 11, 7, 12] (by decide +kernel) (by decide +kernel)
set_option maxRecDepth 20000 in
theorem gX11_where_X11_isDay : GoodIn wsX11_where (va_wsS RX11 147 yX11_isDay wsX11_isDay) := goodIn_app (goodIn_of _ (by decide +kernel)) ggX11_where_X11_isDay
set_option maxRecDepth 20000 in
theorem ggX11_where_X11_areSo : GoodIn wsX11_where wsX11_areSo := goodIn_r _ [16, 17, 18, 19, 20, 21, 22, 23, 24, 7, 25, 26, 27, 28, 29, 1, 30, 31, 32, 33, 34, 35, 36, 37, 38, 39, 40, 41, 42, 43, 44, 45, 46, 47, 48, 49, 50, 51, 52, 53, 2, 3, 4, 54, 55, 56, 57, 58, 59, 60, 61, 62, 63, 64, 65, 66, 67, 68, 69, 70, 71, 72, 73, 74, 75, 76, 77, 78, 79, 80, 81, 82, 83, 84, 85, 86, 87, 88, 89, 90, 91, 92, 93, 94, 95] (by decide +kernel) (by decide +kernel)
set_option maxRecDepth 20000 in
theorem gX11_where_X11_areSo : GoodIn wsX11_where (wsV RX11 191 RX11 yX11_areSo wsX11_areSo) := goodIn_app (goodIn_of _ (by decide +kernel)) ggX11_where_X11_areSo
set_option maxRecDepth 20000 in
theorem ggX11_paid_X11_areSo : GoodIn wsX11_paid wsX11_areSo := goodIn_r _ [7, 8, 9, 10, 11, 12, 13, 14, 15, 6, 16, 17, 18, 19, 20, 1, 2, 21, 22, 23, 24, 25, 26, 27, 28, 29, 30, 31, 32, 33, 34, 35, 36, 37, 38, 39, 40, 41, 42, 43, 44, 45, 46, 47, 48, 49, 50, 51, 52, 53, 54, 55, 56, 57, 58, 59, 60, 61, 62, 63, 64, 65, 66, 67, 68, 69, 70, 71, 72, 73, 74, 75, 76, 77, 78, 79, 80, 81, 82, 83, 84, 85, 86, 87, 88] (by decide +kernel) (by decide +kernel)
set_option maxRecDepth 20000 in
theorem gX11_paid_X11_areSo : GoodIn wsX11_paid (wsV RX11 191 RX11 yX11_areSo wsX11_areSo) := goodIn_app (goodIn_of _ (by decide +kernel)) ggX11_paid_X11_areSo
set_option maxRecDepth 20000 in
theorem ggX11_odds_X11_noPerson : GoodIn wsX11_odds wsX11_noPerson := goodIn_r _ [7, 8, 9, 10, 6, 11, 75, 76, 77, 78, 79, 80, 81, 82, 83, 84, 85, 86, 87, 88, 89, 90, 91, 92, 93, 94, 95, 96, 97, 98, 99, 100, 101, 102] (by decide +kernel) (by decide +kernel)
set_option maxRecDepth 20000 in
theorem gX11_odds_X11_noPerson : GoodIn wsX11_odds (wsV RX11 138 RX11 yX11_noPerson wsX11_noPerson) := goodIn_app (goodIn_of _ (by decide +kernel)) ggX11_odds_X11_noPerson
set_option maxRecDepth 20000 in
theorem ggX11_odds_X11_isDay : GoodIn wsX11_odds wsX11_isDay := goodIn_r _ [14, 15, 9, 10, 6, 11] (by decide +kernel) (by decide +kernel)
set_option maxRecDepth 20000 in
theorem gX11_odds_X11_isDay : GoodIn wsX11_odds (va_wsS RX11 147 yX11_isDay wsX11_isDay) := goodIn_app (goodIn_of _ (by decide +kernel)) ggX11_odds_X11_isDay
set_option maxRecDepth 20000 in
theorem ggX11_odds_X11_in : GoodIn wsX11_odds wsX11_in := goodIn_r _ [11] (by decide +kernel) (by decide +kernel)
set_option maxRecDepth 20000 in
theorem gX11_odds_X11_in : GoodIn wsX11_odds (va_wsS RX11 78 yX11_in wsX11_in) := goodIn_app (goodIn_of _ (by decide +kernel)) ggX11_odds_X11_in
set_option maxRecDepth 20000 in
theorem ggX11_odds_X11_lost : GoodIn wsX11_odds wsX11_lost := goodIn_r _ [18, 19] (by decide +kernel) (by decide +kernel)
set_option maxRecDepth 20000 in
theorem gX11_odds_X11_lost : GoodIn wsX11_odds (va_wsS RX11 71 yX11_lost wsX11_lost) := goodIn_app (goodIn_of _ (by decide +kernel)) ggX11_odds_X11_lost
set_option maxRecDepth 20000 in
theorem ggX11_odds_X11_all : GoodIn wsX11_odds wsX11_all := goodIn_r _ [23, 8, 75, 76, 77, 78, 79, 80, 81, 82, 83, 84, 85, 86, 87, 88, 89, 90, 91, 92, 93, 94, 95, 96, 97, 98, 99, 100, 101, 102] (by decide +kernel) (by decide +kernel)
set_option maxRecDepth 20000 in
theorem gX11_odds_X11_all : GoodIn wsX11_odds (wsV RX11 185 RX11 yX11_all wsX11_all) := goodIn_app (goodIn_of _ (by decide +kernel)) ggX11_odds_X11_all
set_option maxRecDepth 20000 in
theorem ggX11_odds_X11_goTold : GoodIn wsX11_odds wsX11_goTold := goodIn_r _ [27, 28, 29, 30, 6, 31, 2, 8, 1, 32, 33, 34, 35, 36, 37, 38, 39, 40, 41, 42, 43, 44, 45, 46, 47, 48, 49, 50, 51, 52, 53, 54, 55, 56, 57, 58, 59, 60, 61, 62, 63, 64, 65, 66, 67, 68, 69, 70, 71, 75, 76, 77, 78, 79, 80, 81, 82, 83, 84, 85, 86, 87, 88, 89, 90, 91, 92, 93, 94, 95, 96, 97, 98, 99, 100, 101, 102] (by decide +kernel) (by decide +kernel)
set_option maxRecDepth 20000 in
theorem gX11_odds_X11_goTold : GoodIn wsX11_odds (wsV RX11 175 RX11 yX11_goTold wsX11_goTold) := goodIn_app (goodIn_of _ (by decide +kernel)) ggX11_odds_X11_goTold
set_option maxRecDepth 20000 in
theorem ggX11_odds_X11_told : GoodIn wsX11_odds wsX11_told := goodIn_r _ [74] (by decide +kernel) (by decide +kernel)
set_option maxRecDepth 20000 in
theorem gX11_odds_X11_told : GoodIn wsX11_odds (va_wsS RX11 195 yX11_told wsX11_told) := goodIn_app (goodIn_of _ (by decide +kernel)) ggX11_odds_X11_told
set_option maxRecDepth 20000 in
theorem ggX11_noSheet_X11_in : GoodIn wsX11_noSheet wsX11_in := goodIn_r _ [5] (by decide +kernel) (by decide +kernel)
set_option maxRecDepth 20000 in
theorem gX11_noSheet_X11_in : GoodIn wsX11_noSheet (va_wsS RX11 78 yX11_in wsX11_in) := goodIn_app (goodIn_of _ (by decide +kernel)) ggX11_noSheet_X11_in
set_option maxRecDepth 20000 in
theorem ggX11_sheet_X11_noSheet : GoodIn wsX11_sheet wsX11_noSheet := goodIn_r _ [8, 9, 10, 11, 7, 12] (by decide +kernel) (by decide +kernel)
set_option maxRecDepth 20000 in
theorem gX11_sheet_X11_noSheet : GoodIn wsX11_sheet (va_wsS RX11 110 yX11_noSheet wsX11_noSheet) := goodIn_app (goodIn_of _ (by decide +kernel)) ggX11_sheet_X11_noSheet
set_option maxRecDepth 20000 in
theorem ggX11_sheet_X11_refused : GoodIn wsX11_sheet wsX11_refused := goodIn_r _ [16, 17, 22, 23, 24, 25, 26, 27, 28, 29, 30, 31, 32, 33, 34, 35, 36, 37, 38, 39, 40, 41, 42, 43, 44, 45, 46, 47, 48, 49] (by decide +kernel) (by decide +kernel)
set_option maxRecDepth 20000 in
theorem gX11_sheet_X11_refused : GoodIn wsX11_sheet (wsV RX11 114 RX11 yX11_refused wsX11_refused) := goodIn_app (goodIn_of _ (by decide +kernel)) ggX11_sheet_X11_refused
set_option maxRecDepth 20000 in
theorem ggX11_sheet_X11_in : GoodIn wsX11_sheet wsX11_in := goodIn_r _ [12] (by decide +kernel) (by decide +kernel)
set_option maxRecDepth 20000 in
theorem gX11_sheet_X11_in : GoodIn wsX11_sheet (va_wsS RX11 78 yX11_in wsX11_in) := goodIn_app (goodIn_of _ (by decide +kernel)) ggX11_sheet_X11_in
set_option maxRecDepth 20000 in
theorem ggX11_sheet_X11_failed : GoodIn wsX11_sheet wsX11_failed := goodIn_r _ [21, 17, 22, 23, 24, 25, 26, 27, 28, 29, 30, 31, 32, 33, 34, 35, 36, 37, 38, 39, 40, 41, 42, 43, 44, 45, 46, 47, 48, 49] (by decide +kernel) (by decide +kernel)
set_option maxRecDepth 20000 in
theorem gX11_sheet_X11_failed : GoodIn wsX11_sheet (wsV RX11 102 RX11 yX11_failed wsX11_failed) := goodIn_app (goodIn_of _ (by decide +kernel)) ggX11_sheet_X11_failed
set_option maxRecDepth 20000 in
theorem ggX11_lose_X11_noSheet : GoodIn wsX11_lose wsX11_noSheet := goodIn_r _ [5, 6, 7, 8, 4, 9] (by decide +kernel) (by decide +kernel)
set_option maxRecDepth 20000 in
theorem gX11_lose_X11_noSheet : GoodIn wsX11_lose (va_wsS RX11 110 yX11_noSheet wsX11_noSheet) := goodIn_app (goodIn_of _ (by decide +kernel)) ggX11_lose_X11_noSheet
set_option maxRecDepth 20000 in
theorem ggX11_noCell_X11_in : GoodIn wsX11_noCell wsX11_in := goodIn_r _ [5] (by decide +kernel) (by decide +kernel)
set_option maxRecDepth 20000 in
theorem gX11_noCell_X11_in : GoodIn wsX11_noCell (va_wsS RX11 78 yX11_in wsX11_in) := goodIn_app (goodIn_of _ (by decide +kernel)) ggX11_noCell_X11_in
set_option maxRecDepth 20000 in
theorem ggX11_put_X11_noSheet : GoodIn wsX11_put wsX11_noSheet := goodIn_r _ [6, 7, 8, 9, 5, 10] (by decide +kernel) (by decide +kernel)
set_option maxRecDepth 20000 in
theorem gX11_put_X11_noSheet : GoodIn wsX11_put (va_wsS RX11 110 yX11_noSheet wsX11_noSheet) := goodIn_app (goodIn_of _ (by decide +kernel)) ggX11_put_X11_noSheet
set_option maxRecDepth 20000 in
theorem ggX11_put_X11_refused : GoodIn wsX11_put wsX11_refused := goodIn_r _ [14, 15, 25, 26, 27, 28, 29, 30, 31, 32, 33, 34, 35, 36, 37, 38, 39, 40, 41, 42, 43, 44, 45, 46, 47, 48, 49, 50, 51, 52] (by decide +kernel) (by decide +kernel)
set_option maxRecDepth 20000 in
theorem gX11_put_X11_refused : GoodIn wsX11_put (wsV RX11 114 RX11 yX11_refused wsX11_refused) := goodIn_app (goodIn_of _ (by decide +kernel)) ggX11_put_X11_refused
set_option maxRecDepth 20000 in
theorem ggX11_put_X11_noCell : GoodIn wsX11_put wsX11_noCell := goodIn_r _ [19, 20, 8, 9, 5, 10, 25, 26, 27, 28, 29, 30, 31, 32, 33, 34, 35, 36, 37, 38, 39, 40, 41, 42, 43, 44, 45, 46, 47, 48, 49, 50, 51, 52] (by decide +kernel) (by decide +kernel)
set_option maxRecDepth 20000 in
theorem gX11_put_X11_noCell : GoodIn wsX11_put (wsV RX11 201 RX11 yX11_noCell wsX11_noCell) := goodIn_app (goodIn_of _ (by decide +kernel)) ggX11_put_X11_noCell
set_option maxRecDepth 20000 in
theorem ggX11_put_X11_failed : GoodIn wsX11_put wsX11_failed := goodIn_r _ [24, 15, 25, 26, 27, 28, 29, 30, 31, 32, 33, 34, 35, 36, 37, 38, 39, 40, 41, 42, 43, 44, 45, 46, 47, 48, 49, 50, 51, 52] (by decide +kernel) (by decide +kernel)
set_option maxRecDepth 20000 in
theorem gX11_put_X11_failed : GoodIn wsX11_put (wsV RX11 102 RX11 yX11_failed wsX11_failed) := goodIn_app (goodIn_of _ (by decide +kernel)) ggX11_put_X11_failed
set_option maxRecDepth 20000 in
theorem ggX11_cell_X11_noSheet : GoodIn wsX11_cell wsX11_noSheet := goodIn_r _ [9, 10, 11, 12, 8, 13] (by decide +kernel) (by decide +kernel)
set_option maxRecDepth 20000 in
theorem gX11_cell_X11_noSheet : GoodIn wsX11_cell (va_wsS RX11 110 yX11_noSheet wsX11_noSheet) := goodIn_app (goodIn_of _ (by decide +kernel)) ggX11_cell_X11_noSheet
set_option maxRecDepth 20000 in
theorem ggX11_cell_X11_in : GoodIn wsX11_cell wsX11_in := goodIn_r _ [13] (by decide +kernel) (by decide +kernel)
set_option maxRecDepth 20000 in
theorem gX11_cell_X11_in : GoodIn wsX11_cell (va_wsS RX11 78 yX11_in wsX11_in) := goodIn_app (goodIn_of _ (by decide +kernel)) ggX11_cell_X11_in
set_option maxRecDepth 20000 in
theorem ggX11_cell_X11_lost : GoodIn wsX11_cell wsX11_lost := goodIn_r _ [16, 17] (by decide +kernel) (by decide +kernel)
set_option maxRecDepth 20000 in
theorem gX11_cell_X11_lost : GoodIn wsX11_cell (va_wsS RX11 71 yX11_lost wsX11_lost) := goodIn_app (goodIn_of _ (by decide +kernel)) ggX11_cell_X11_lost
set_option maxRecDepth 20000 in
theorem ggX11_cell_X11_failedLong : GoodIn wsX11_cell wsX11_failedLong := goodIn_r _ [21, 1, 14, 15, 8, 16, 17, 26, 27, 28, 29, 30, 31, 32, 33, 34, 35, 36, 37, 38, 39, 40, 41, 42, 43, 44, 45, 46, 47, 48, 49, 50, 51, 52, 53] (by decide +kernel) (by decide +kernel)
set_option maxRecDepth 20000 in
theorem gX11_cell_X11_failedLong : GoodIn wsX11_cell (wsV RX11 204 RX11 yX11_failedLong wsX11_failedLong) := goodIn_app (goodIn_of _ (by decide +kernel)) ggX11_cell_X11_failedLong
set_option maxRecDepth 20000 in
theorem ggX11_cell_X11_noCell : GoodIn wsX11_cell wsX11_noCell := goodIn_r _ [25, 3, 11, 12, 8, 13, 26, 27, 28, 29, 30, 31, 32, 33, 34, 35, 36, 37, 38, 39, 40, 41, 42, 43, 44, 45, 46, 47, 48, 49, 50, 51, 52, 53] (by decide +kernel) (by decide +kernel)
set_option maxRecDepth 20000 in
theorem gX11_cell_X11_noCell : GoodIn wsX11_cell (wsV RX11 201 RX11 yX11_noCell wsX11_noCell) := goodIn_app (goodIn_of _ (by decide +kernel)) ggX11_cell_X11_noCell
set_option maxRecDepth 20000 in
theorem ggX11_copy_X11_noSheet : GoodIn wsX11_copy wsX11_noSheet := goodIn_r _ [8, 9, 10, 11, 7, 12] (by decide +kernel) (by decide +kernel)
set_option maxRecDepth 20000 in
theorem gX11_copy_X11_noSheet : GoodIn wsX11_copy (va_wsS RX11 110 yX11_noSheet wsX11_noSheet) := goodIn_app (goodIn_of _ (by decide +kernel)) ggX11_copy_X11_noSheet
set_option maxRecDepth 20000 in
theorem ggX11_copy_X11_refused : GoodIn wsX11_copy wsX11_refused := goodIn_r _ [16, 17, 25, 26, 27, 28, 29, 30, 31, 32, 33, 34, 35, 36, 37, 38, 39, 40, 41, 42, 43, 44, 45, 46, 47, 48, 49, 50, 51, 52] (by decide +kernel) (by decide +kernel)
set_option maxRecDepth 20000 in
theorem gX11_copy_X11_refused : GoodIn wsX11_copy (wsV RX11 114 RX11 yX11_refused wsX11_refused) := goodIn_app (goodIn_of _ (by decide +kernel)) ggX11_copy_X11_refused
set_option maxRecDepth 20000 in
theorem ggX11_copy_X11_failed : GoodIn wsX11_copy wsX11_failed := goodIn_r _ [21, 17, 25, 26, 27, 28, 29, 30, 31, 32, 33, 34, 35, 36, 37, 38, 39, 40, 41, 42, 43, 44, 45, 46, 47, 48, 49, 50, 51, 52] (by decide +kernel) (by decide +kernel)
set_option maxRecDepth 20000 in
theorem gX11_copy_X11_failed : GoodIn wsX11_copy (wsV RX11 102 RX11 yX11_failed wsX11_failed) := goodIn_app (goodIn_of _ (by decide +kernel)) ggX11_copy_X11_failed
set_option maxRecDepth 20000 in
theorem ggX11_copy_X11_isBeyond : GoodIn wsX11_copy wsX11_isBeyond := goodIn_r _ [24] (by decide +kernel) (by decide +kernel)
set_option maxRecDepth 20000 in
theorem gX11_copy_X11_isBeyond : GoodIn wsX11_copy (va_wsS RX11 106 yX11_isBeyond wsX11_isBeyond) := goodIn_app (goodIn_of _ (by decide +kernel)) ggX11_copy_X11_isBeyond
set_option maxRecDepth 20000 in
theorem ggX11_tell_X11_noPerson : GoodIn wsX11_tell wsX11_noPerson := goodIn_r _ [7, 8, 9, 10, 6, 11, 17, 18, 19, 20, 21, 22, 23, 24, 25, 26, 27, 28, 29, 30, 31, 32, 33, 34, 35, 36, 37, 38, 39, 40, 41, 42, 43, 44] (by decide +kernel) (by decide +kernel)
set_option maxRecDepth 20000 in
theorem gX11_tell_X11_noPerson : GoodIn wsX11_tell (wsV RX11 138 RX11 yX11_noPerson wsX11_noPerson) := goodIn_app (goodIn_of _ (by decide +kernel)) ggX11_tell_X11_noPerson
set_option maxRecDepth 20000 in
theorem ggX11_tell_X11_traced : GoodIn wsX11_tell wsX11_traced := goodIn_r _ [15, 16, 17, 18, 19, 20, 21, 22, 23, 24, 25, 26, 27, 28, 29, 30, 31, 32, 33, 34, 35, 36, 37, 38, 39, 40, 41, 42, 43, 44] (by decide +kernel) (by decide +kernel)
set_option maxRecDepth 20000 in
theorem gX11_tell_X11_traced : GoodIn wsX11_tell (wsV RX11 211 RX11 yX11_traced wsX11_traced) := goodIn_app (goodIn_of _ (by decide +kernel)) ggX11_tell_X11_traced
set_option maxRecDepth 20000 in
theorem ggX11_bow_X11_noPerson : GoodIn wsX11_bow wsX11_noPerson := goodIn_r _ [6, 7, 8, 9, 5, 10, 16, 17, 18, 19, 20, 21, 22, 23, 24, 25, 26, 27, 28, 29, 30, 31, 32, 33, 34, 35, 36, 37, 38, 39, 40, 41, 42, 43] (by decide +kernel) (by decide +kernel)
set_option maxRecDepth 20000 in
theorem gX11_bow_X11_noPerson : GoodIn wsX11_bow (wsV RX11 138 RX11 yX11_noPerson wsX11_noPerson) := goodIn_app (goodIn_of _ (by decide +kernel)) ggX11_bow_X11_noPerson
set_option maxRecDepth 20000 in
theorem ggX11_bow_X11_traced : GoodIn wsX11_bow wsX11_traced := goodIn_r _ [14, 15, 16, 17, 18, 19, 20, 21, 22, 23, 24, 25, 26, 27, 28, 29, 30, 31, 32, 33, 34, 35, 36, 37, 38, 39, 40, 41, 42, 43] (by decide +kernel) (by decide +kernel)
set_option maxRecDepth 20000 in
theorem gX11_bow_X11_traced : GoodIn wsX11_bow (wsV RX11 211 RX11 yX11_traced wsX11_traced) := goodIn_app (goodIn_of _ (by decide +kernel)) ggX11_bow_X11_traced
set_option maxRecDepth 20000 in
theorem ggX11_as_X11_noPerson : GoodIn wsX11_as wsX11_noPerson := goodIn_r _ [7, 8, 9, 10, 6, 11, 21, 22, 23, 24, 25, 26, 27, 28, 29, 30, 31, 32, 33, 34, 35, 36, 37, 38, 39, 40, 41, 42, 43, 44, 45, 46, 47, 48] (by decide +kernel) (by decide +kernel)
set_option maxRecDepth 20000 in
theorem gX11_as_X11_noPerson : GoodIn wsX11_as (wsV RX11 138 RX11 yX11_noPerson wsX11_noPerson) := goodIn_app (goodIn_of _ (by decide +kernel)) ggX11_as_X11_noPerson
set_option maxRecDepth 20000 in
theorem ggX11_as_X11_refused : GoodIn wsX11_as wsX11_refused := goodIn_r _ [15, 16, 21, 22, 23, 24, 25, 26, 27, 28, 29, 30, 31, 32, 33, 34, 35, 36, 37, 38, 39, 40, 41, 42, 43, 44, 45, 46, 47, 48] (by decide +kernel) (by decide +kernel)
set_option maxRecDepth 20000 in
theorem gX11_as_X11_refused : GoodIn wsX11_as (wsV RX11 114 RX11 yX11_refused wsX11_refused) := goodIn_app (goodIn_of _ (by decide +kernel)) ggX11_as_X11_refused
set_option maxRecDepth 20000 in
theorem ggX11_as_X11_in : GoodIn wsX11_as wsX11_in := goodIn_r _ [11] (by decide +kernel) (by decide +kernel)
set_option maxRecDepth 20000 in
theorem gX11_as_X11_in : GoodIn wsX11_as (va_wsS RX11 78 yX11_in wsX11_in) := goodIn_app (goodIn_of _ (by decide +kernel)) ggX11_as_X11_in
set_option maxRecDepth 20000 in
theorem ggX11_as_X11_failed : GoodIn wsX11_as wsX11_failed := goodIn_r _ [20, 16, 21, 22, 23, 24, 25, 26, 27, 28, 29, 30, 31, 32, 33, 34, 35, 36, 37, 38, 39, 40, 41, 42, 43, 44, 45, 46, 47, 48] (by decide +kernel) (by decide +kernel)
set_option maxRecDepth 20000 in
theorem gX11_as_X11_failed : GoodIn wsX11_as (wsV RX11 102 RX11 yX11_failed wsX11_failed) := goodIn_app (goodIn_of _ (by decide +kernel)) ggX11_as_X11_failed
