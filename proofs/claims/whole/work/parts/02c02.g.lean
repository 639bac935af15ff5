set_option maxRecDepth 20000 in
theorem ggX5_back_X2_hasQuality : GoodIn wsX5_back wsX2_hasQuality := goodIn_r _ [8, 9, 110, 111, 112, 113, 114, 115, 116, 117, 118, 119, 120] (by decide +kernel) (by decide +kernel)
set_option maxRecDepth 20000 in
theorem gX5_back_X2_hasQuality : GoodIn wsX5_back (wsV RX5 117 RX2 yX2_hasQuality wsX2_hasQuality) := goodIn_app (goodIn_of _ (by decide +kernel)) ggX5_back_X2_hasQuality
set_option maxRecDepth 20000 in
theorem ggX5_back_X3_standingOf : GoodIn wsX5_back wsX3_standingOf := goodIn_r _ [14, 15, 16, 17, 18, 121, 122] (by decide +kernel) (by decide +kernel)
set_option maxRecDepth 20000 in
theorem gX5_back_X3_standingOf : GoodIn wsX5_back (wsV RX5 129 RX3 yX3_standingOf wsX3_standingOf) := goodIn_app (goodIn_of _ (by decide +kernel)) ggX5_back_X3_standingOf
set_option maxRecDepth 20000 in
theorem ggX5_back_X3_copy : GoodIn wsX5_back wsX3_copy := goodIn_r _ [22, 15, 23, 24, 25, 13, 26, 27, 17, 28, 121, 122] (by decide +kernel) (by decide +kernel)
set_option maxRecDepth 20000 in
theorem gX5_back_X3_copy : GoodIn wsX5_back (wsV RX5 197 RX3 yX3_copy wsX3_copy) := goodIn_app (goodIn_of _ (by decide +kernel)) ggX5_back_X3_copy
set_option maxRecDepth 20000 in
theorem ggX5_back_X3_canRedeem : GoodIn wsX5_back wsX3_canRedeem := goodIn_r _ [32, 33, 34, 5, 6, 7, 8, 9, 35, 11, 12, 13, 14, 15, 16, 17, 18, 36, 37, 38, 39, 40, 41, 42, 43, 44, 45, 46, 47, 48, 49, 50, 51, 52, 53, 54, 55, 56, 57, 58, 59, 60, 61, 62, 63, 64, 65, 66, 67, 68, 121, 122, 110, 111, 112, 113, 114, 115, 116, 117, 118, 119, 120] (by decide +kernel) (by decide +kernel)
set_option maxRecDepth 20000 in
theorem gX5_back_X3_canRedeem : GoodIn wsX5_back (wsV RX5 166 RX3 yX3_canRedeem wsX3_canRedeem) := goodIn_app (goodIn_of _ (by decide +kernel)) ggX5_back_X3_canRedeem
set_option maxRecDepth 20000 in
theorem ggX5_back_X3_passDay : GoodIn wsX5_back wsX3_passDay := goodIn_r _ [72, 33, 15, 73, 74, 75, 7, 76, 77, 16, 17, 18, 59, 60, 61, 13, 62, 78, 79, 80, 81, 82, 83, 84, 85, 86, 35, 11, 12, 14, 27, 28, 36, 37, 38, 39, 40, 87, 88, 89, 90, 91, 92, 93, 94, 95, 96, 97, 98, 99, 63, 64, 65, 66, 49, 50, 51, 52, 53, 121, 122, 110, 111, 112, 113, 114, 115, 116, 117, 118, 119, 120] (by decide +kernel) (by decide +kernel)
set_option maxRecDepth 20000 in
theorem gX5_back_X3_passDay : GoodIn wsX5_back (wsV RX5 157 RX3 yX3_passDay wsX3_passDay) := goodIn_app (goodIn_of _ (by decide +kernel)) ggX5_back_X3_passDay
set_option maxRecDepth 20000 in
theorem ggX5_judge_X3_copy : GoodIn wsX5_judge wsX3_copy := goodIn_r _ [8, 9, 10, 11, 12, 7, 13, 14, 15, 16, 146, 147] (by decide +kernel) (by decide +kernel)
set_option maxRecDepth 20000 in
theorem gX5_judge_X3_copy : GoodIn wsX5_judge (wsV RX5 197 RX3 yX3_copy wsX3_copy) := goodIn_app (goodIn_of _ (by decide +kernel)) ggX5_judge_X3_copy
set_option maxRecDepth 20000 in
theorem ggX5_judge_X3_goesThrough : GoodIn wsX5_judge wsX3_goesThrough := goodIn_r _ [20, 21, 22, 23, 24, 7, 25, 26, 27, 28, 29, 30, 31, 32, 33, 34, 35, 9, 36, 15, 37, 14, 16, 38, 39, 40, 41, 42, 43, 44, 45, 46, 47, 48, 49, 50, 51, 52, 53, 54, 55, 56, 57, 58, 59, 60, 61, 62, 63, 64, 65, 66, 67, 68, 69, 70, 71, 72, 73, 74, 75, 76, 77, 78, 79, 80, 81, 82, 83, 84, 85, 86, 87, 88, 89, 90, 91, 92, 93, 94, 95, 96, 97, 98, 99, 100, 101, 102, 103, 104, 105, 106, 107, 108, 109, 110, 111, 112, 113, 114, 115, 116, 117, 118, 119, 120, 121, 122, 123, 124, 125, 126, 127, 128, 129, 130, 131, 132, 133, 134, 135, 146, 147, 148, 149, 150, 151, 152, 153, 154, 155, 156, 157, 158] (by decide +kernel) (by decide +kernel)
set_option maxRecDepth 20000 in
theorem gX5_judge_X3_goesThrough : GoodIn wsX5_judge (wsV RX5 202 RX3 yX3_goesThrough wsX3_goesThrough) := goodIn_app (goodIn_of _ (by decide +kernel)) ggX5_judge_X3_goesThrough
set_option maxRecDepth 20000 in
theorem ggX5_share_X2_hasQuality : GoodIn wsX5_share wsX2_hasQuality := goodIn_r _ [8, 9, 115, 116, 117, 118, 119, 120, 121, 122, 123, 124, 125] (by decide +kernel) (by decide +kernel)
set_option maxRecDepth 20000 in
theorem gX5_share_X2_hasQuality : GoodIn wsX5_share (wsV RX5 117 RX2 yX2_hasQuality wsX2_hasQuality) := goodIn_app (goodIn_of _ (by decide +kernel)) ggX5_share_X2_hasQuality
set_option maxRecDepth 20000 in
theorem ggX5_share_X3_copy : GoodIn wsX5_share wsX3_copy := goodIn_r _ [14, 15, 16, 17, 18, 13, 19, 20, 21, 22, 126, 127] (by decide +kernel) (by decide +kernel)
set_option maxRecDepth 20000 in
theorem gX5_share_X3_copy : GoodIn wsX5_share (wsV RX5 197 RX3 yX3_copy wsX3_copy) := goodIn_app (goodIn_of _ (by decide +kernel)) ggX5_share_X3_copy
set_option maxRecDepth 20000 in
theorem ggX5_share_X3_sellAllBut : GoodIn wsX5_share wsX3_sellAllBut := goodIn_r _ [26, 27, 15, 20, 21, 22, 126, 127, 115, 116, 117, 118, 119, 120, 121, 122, 123, 124, 125] (by decide +kernel) (by decide +kernel)
set_option maxRecDepth 20000 in
theorem gX5_share_X3_sellAllBut : GoodIn wsX5_share (wsV RX5 206 RX3 yX3_sellAllBut wsX3_sellAllBut) := goodIn_app (goodIn_of _ (by decide +kernel)) ggX5_share_X3_sellAllBut
set_option maxRecDepth 20000 in
theorem ggX5_share_X3_deedsInTheEnd : GoodIn wsX5_share wsX3_deedsInTheEnd := goodIn_r _ [31, 32, 33, 34, 13, 35, 27, 15, 36, 37, 38, 7, 39, 40, 41, 21, 42, 43, 44, 45, 46, 47, 48, 49, 50, 51, 52, 53, 54, 55, 56, 57, 58, 59, 20, 22, 60, 61, 62, 63, 64, 65, 66, 67, 68, 69, 70, 71, 72, 73, 74, 75, 76, 77, 78, 79, 80, 81, 82, 83, 84, 85, 86, 87, 88, 89, 90, 91, 92, 93, 94, 126, 127, 115, 116, 117, 118, 119, 120, 121, 122, 123, 124, 125] (by decide +kernel) (by decide +kernel)
set_option maxRecDepth 20000 in
theorem gX5_share_X3_deedsInTheEnd : GoodIn wsX5_share (wsV RX5 209 RX3 yX3_deedsInTheEnd wsX3_deedsInTheEnd) := goodIn_app (goodIn_of _ (by decide +kernel)) ggX5_share_X3_deedsInTheEnd
set_option maxRecDepth 20000 in
theorem ggX5_share_J6_bitCount_0f7a4 : GoodIn wsX5_share wsJ6_bitCount_0f7a4 := goodIn_r _ [98, 99, 100, 101] (by decide +kernel) (by decide +kernel)
set_option maxRecDepth 20000 in
theorem gX5_share_J6_bitCount_0f7a4 : GoodIn wsX5_share (va_wsS RX5 192 yJ6_bitCount_0f7a4 wsJ6_bitCount_0f7a4) := goodIn_app (goodIn_of _ (by decide +kernel)) ggX5_share_J6_bitCount_0f7a4
set_option maxRecDepth 20000 in
theorem ggX5_share_X5_partOfFraction : GoodIn wsX5_share wsX5_partOfFraction := goodIn_r _ [104] (by decide +kernel) (by decide +kernel)
set_option maxRecDepth 20000 in
theorem gX5_share_X5_partOfFraction : GoodIn wsX5_share (va_wsS RX5 212 yX5_partOfFraction wsX5_partOfFraction) := goodIn_app (goodIn_of _ (by decide +kernel)) ggX5_share_X5_partOfFraction
set_option maxRecDepth 20000 in
theorem ggX5_ask_X1_add : GoodIn wsX5_ask wsX1_add := goodIn_r _ [6, 7, 8, 9, 10, 11, 12, 23, 24, 25] (by decide +kernel) (by decide +kernel)
set_option maxRecDepth 20000 in
theorem gX5_ask_X1_add : GoodIn wsX5_ask (wsV RX5 216 RX1 yX1_add wsX1_add) := goodIn_app (goodIn_of _ (by decide +kernel)) ggX5_ask_X1_add
set_option maxRecDepth 20000 in
theorem ggX5_tickets_X5_isNoChoice : GoodIn wsX5_tickets wsX5_isNoChoice := goodIn_r _ [5] (by decide +kernel) (by decide +kernel)
set_option maxRecDepth 20000 in
theorem gX5_tickets_X5_isNoChoice : GoodIn wsX5_tickets (va_wsS RX5 185 yX5_isNoChoice wsX5_isNoChoice) := goodIn_app (goodIn_of _ (by decide +kernel)) ggX5_tickets_X5_isNoChoice
set_option maxRecDepth 20000 in
theorem ggX5_tickets_X1_fits : GoodIn wsX5_tickets wsX1_fits := goodIn_r _ [10, 11, 12, 13, 14, 4, 15, 16, 17, 28, 29, 30] (by decide +kernel) (by decide +kernel)
set_option maxRecDepth 20000 in
theorem gX5_tickets_X1_fits : GoodIn wsX5_tickets (wsV RX5 220 RX1 yX1_fits wsX1_fits) := goodIn_app (goodIn_of _ (by decide +kernel)) ggX5_tickets_X1_fits
set_option maxRecDepth 20000 in
theorem ggX5_rests_X2_hasPerson : GoodIn wsX5_rests wsX2_hasPerson := goodIn_r _ [6, 7, 152, 153, 154, 155, 156, 157, 158, 159, 160, 161, 162] (by decide +kernel) (by decide +kernel)
set_option maxRecDepth 20000 in
theorem gX5_rests_X2_hasPerson : GoodIn wsX5_rests (wsV RX5 104 RX2 yX2_hasPerson wsX2_hasPerson) := goodIn_app (goodIn_of _ (by decide +kernel)) ggX5_rests_X2_hasPerson
set_option maxRecDepth 20000 in
theorem ggX5_rests_X5_isNoChoice : GoodIn wsX5_rests wsX5_isNoChoice := goodIn_r _ [11] (by decide +kernel) (by decide +kernel)
set_option maxRecDepth 20000 in
theorem gX5_rests_X5_isNoChoice : GoodIn wsX5_rests (va_wsS RX5 185 yX5_isNoChoice wsX5_isNoChoice) := goodIn_app (goodIn_of _ (by decide +kernel)) ggX5_rests_X5_isNoChoice
set_option maxRecDepth 20000 in
theorem ggX5_rests_X5_gain : GoodIn wsX5_rests wsX5_gain := goodIn_r _ [15, 16, 17, 1, 18, 19, 20, 21, 22, 23, 24, 25, 26, 27, 28, 10, 29, 30, 31, 32, 33, 34, 35, 36, 37, 5, 38, 39, 40, 41, 42, 43, 44, 45, 46, 47, 48, 49, 50, 51, 52, 53, 54, 55, 56, 57, 58, 59, 60, 61, 62, 63, 64, 65, 66, 67, 68, 69, 70, 71, 72, 73, 74, 75, 76, 77, 78, 79, 80, 81, 82, 83, 84, 85, 86, 87, 88, 89, 90, 91, 92, 93, 94, 95, 96, 97, 98, 99, 100, 101, 102, 103, 104, 105, 106, 107, 108, 109, 110, 111, 112, 113, 114, 115, 116, 117, 118, 119, 120, 121, 122, 123, 124, 125, 126, 127, 128, 129, 130, 131, 132, 133, 134, 135, 136, 137, 138, 139, 140, 141, 142, 143, 144, 145, 146, 147, 148, 149, 150, 151, 163, 164, 152, 153, 154, 155, 156, 157, 158, 159, 160, 161, 162] (by decide +kernel) (by decide +kernel)
set_option maxRecDepth 20000 in
theorem gX5_rests_X5_gain : GoodIn wsX5_rests (wsV RX5 223 RX5 yX5_gain wsX5_gain) := goodIn_app (goodIn_of _ (by decide +kernel)) ggX5_rests_X5_gain
set_option maxRecDepth 20000 in
theorem ggX5_sales_X3_qualitiesThatAre : GoodIn wsX5_sales wsX3_qualitiesThatAre := goodIn_r _ [6, 7, 8, 9, 10, 5, 11, 12, 13, 14, 15, 120, 121, 122, 123, 124, 125, 126, 127, 128, 129, 130, 131, 132] (by decide +kernel) (by decide +kernel)
set_option maxRecDepth 20000 in
theorem gX5_sales_X3_qualitiesThatAre : GoodIn wsX5_sales (wsV RX5 93 RX3 yX3_qualitiesThatAre wsX3_qualitiesThatAre) := goodIn_app (goodIn_of _ (by decide +kernel)) ggX5_sales_X3_qualitiesThatAre
set_option maxRecDepth 20000 in
theorem ggX5_sales_X5_weightOfSale : GoodIn wsX5_sales wsX5_weightOfSale := goodIn_r _ [18] (by decide +kernel) (by decide +kernel)
set_option maxRecDepth 20000 in
theorem gX5_sales_X5_weightOfSale : GoodIn wsX5_sales (va_wsS RX5 227 yX5_weightOfSale wsX5_weightOfSale) := goodIn_app (goodIn_of _ (by decide +kernel)) ggX5_sales_X5_weightOfSale
set_option maxRecDepth 20000 in
theorem ggX5_sales_X5_deedsIfSold : GoodIn wsX5_sales wsX5_deedsIfSold := goodIn_r _ [22, 23, 1, 24, 25, 26, 5, 27, 12, 28, 29, 30, 31, 32, 14, 33, 34, 35, 36, 37, 7, 8, 9, 10, 11, 13, 15, 38, 39, 40, 41, 42, 43, 44, 45, 46, 47, 48, 49, 50, 51, 52, 53, 54, 55, 56, 57, 58, 59, 60, 61, 62, 63, 64, 65, 66, 67, 68, 69, 70, 71, 72, 73, 74, 75, 76, 77, 78, 79, 80, 81, 82, 83, 84, 85, 86, 87, 88, 89, 90, 91, 92, 93, 94, 95, 96, 97, 98, 99, 100, 101, 102, 103, 104, 105, 106, 110, 111, 112, 113, 114, 115, 116, 117, 118, 119, 120, 121, 122, 123, 124, 125, 126, 127, 128, 129, 130, 131, 132] (by decide +kernel) (by decide +kernel)
set_option maxRecDepth 20000 in
theorem gX5_sales_X5_deedsIfSold : GoodIn wsX5_sales (wsV RX5 230 RX5 yX5_deedsIfSold wsX5_deedsIfSold) := goodIn_app (goodIn_of _ (by decide +kernel)) ggX5_sales_X5_deedsIfSold
set_option maxRecDepth 20000 in
theorem ggX5_sales_X5_partOfFraction : GoodIn wsX5_sales wsX5_partOfFraction := goodIn_r _ [109] (by decide +kernel) (by decide +kernel)
set_option maxRecDepth 20000 in
theorem gX5_sales_X5_partOfFraction : GoodIn wsX5_sales (va_wsS RX5 212 yX5_partOfFraction wsX5_partOfFraction) := goodIn_app (goodIn_of _ (by decide +kernel)) ggX5_sales_X5_partOfFraction
set_option maxRecDepth 20000 in
theorem ggX5_years_X3_copy : GoodIn wsX5_years wsX3_copy := goodIn_r _ [11, 12, 13, 14, 15, 10, 16, 17, 18, 19, 144, 145] (by decide +kernel) (by decide +kernel)
set_option maxRecDepth 20000 in
theorem gX5_years_X3_copy : GoodIn wsX5_years (wsV RX5 197 RX3 yX3_copy wsX3_copy) := goodIn_app (goodIn_of _ (by decide +kernel)) ggX5_years_X3_copy
set_option maxRecDepth 20000 in
theorem ggX5_years_X3_chances : GoodIn wsX5_years wsX3_chances := goodIn_r _ [23, 24, 25, 26, 10, 27, 28, 12, 29, 30, 31, 32, 33, 34, 35, 36, 37, 38, 39, 40, 41, 42, 43, 18, 44, 45, 46, 47, 48, 49, 50, 51, 52, 53, 54, 55, 56, 57, 58, 59, 60, 61, 62, 17, 19, 63, 64, 65, 66, 67, 68, 69, 70, 71, 72, 73, 74, 75, 76, 77, 78, 79, 80, 81, 82, 83, 84, 85, 86, 87, 88, 89, 90, 91, 92, 93, 94, 95, 96, 97, 98, 99, 100, 101, 102, 103, 104, 105, 106, 107, 108, 109, 110, 111, 112, 113, 114, 115, 116, 117, 118, 119, 120, 121, 122, 123, 124, 125, 126, 127, 128, 129, 144, 145, 146, 147, 148, 149, 150, 151, 152, 153, 154, 155, 156] (by decide +kernel) (by decide +kernel)
set_option maxRecDepth 20000 in
theorem gX5_years_X3_chances : GoodIn wsX5_years (wsV RX5 243 RX3 yX3_chances wsX3_chances) := goodIn_app (goodIn_of _ (by decide +kernel)) ggX5_years_X3_chances
set_option maxRecDepth 20000 in
theorem ggX5_years_X3_inAllPurses : GoodIn wsX5_years wsX3_inAllPurses := goodIn_r _ [133, 28, 75, 76, 77, 10, 78, 12, 43, 18, 44, 144, 145, 146, 147, 148, 149, 150, 151, 152, 153, 154, 155, 156] (by decide +kernel) (by decide +kernel)
set_option maxRecDepth 20000 in
theorem gX5_years_X3_inAllPurses : GoodIn wsX5_years (wsV RX5 246 RX3 yX3_inAllPurses wsX3_inAllPurses) := goodIn_app (goodIn_of _ (by decide +kernel)) ggX5_years_X3_inAllPurses
set_option maxRecDepth 20000 in
theorem ggX5_keep_X3_saveTo : GoodIn wsX5_keep wsX3_saveTo := goodIn_r _ [8, 9, 10, 11, 12, 29, 30] (by decide +kernel) (by decide +kernel)
set_option maxRecDepth 20000 in
theorem gX5_keep_X3_saveTo : GoodIn wsX5_keep (wsV RX5 249 RX3 yX3_saveTo wsX3_saveTo) := goodIn_app (goodIn_of _ (by decide +kernel)) ggX5_keep_X3_saveTo
set_option maxRecDepth 20000 in
theorem ggX5_keep_X3_today : GoodIn wsX5_keep wsX3_today := goodIn_r _ [16, 9, 17, 11, 18, 29, 30] (by decide +kernel) (by decide +kernel)
set_option maxRecDepth 20000 in
theorem gX5_keep_X3_today : GoodIn wsX5_keep (wsV RX5 86 RX3 yX3_today wsX3_today) := goodIn_app (goodIn_of _ (by decide +kernel)) ggX5_keep_X3_today
set_option maxRecDepth 20000 in
theorem ggX5_again_X3_loadFrom : GoodIn wsX5_again wsX3_loadFrom := goodIn_r _ [9, 10, 11, 12, 13, 34, 35] (by decide +kernel) (by decide +kernel)
set_option maxRecDepth 20000 in
theorem gX5_again_X3_loadFrom : GoodIn wsX5_again (wsV RX5 253 RX3 yX3_loadFrom wsX3_loadFrom) := goodIn_app (goodIn_of _ (by decide +kernel)) ggX5_again_X3_loadFrom
set_option maxRecDepth 20000 in
theorem ggX5_again_X0_forget : GoodIn wsX5_again wsX0_forget := goodIn_r _ [18, 19, 36, 37, 38] (by decide +kernel) (by decide +kernel)
set_option maxRecDepth 20000 in
theorem gX5_again_X0_forget : GoodIn wsX5_again (wsV RX5 71 RX0 yX0_forget wsX0_forget) := goodIn_app (goodIn_of _ (by decide +kernel)) ggX5_again_X0_forget
set_option maxRecDepth 20000 in
theorem ggX5_again_X3_today : GoodIn wsX5_again wsX3_today := goodIn_r _ [23, 10, 11, 12, 13, 34, 35] (by decide +kernel) (by decide +kernel)
set_option maxRecDepth 20000 in
theorem gX5_again_X3_today : GoodIn wsX5_again (wsV RX5 86 RX3 yX3_today wsX3_today) := goodIn_app (goodIn_of _ (by decide +kernel)) ggX5_again_X3_today
set_option maxRecDepth 20000 in
theorem ggX5_lookAhead_X3_copy : GoodIn wsX5_lookAhead wsX3_copy := goodIn_r _ [7, 8, 9, 10, 11, 6, 12, 13, 14, 15, 83, 84] (by decide +kernel) (by decide +kernel)
set_option maxRecDepth 20000 in
theorem gX5_lookAhead_X3_copy : GoodIn wsX5_lookAhead (wsV RX5 197 RX3 yX3_copy wsX3_copy) := goodIn_app (goodIn_of _ (by decide +kernel)) ggX5_lookAhead_X3_copy
set_option maxRecDepth 20000 in
theorem ggX5_lookAhead_X3_passDay : GoodIn wsX5_lookAhead wsX3_passDay := goodIn_r _ [19, 20, 8, 21, 22, 23, 24, 25, 26, 27, 14, 28, 29, 30, 31, 6, 32, 33, 34, 35, 36, 37, 38, 39, 40, 41, 42, 43, 44, 45, 13, 15, 46, 47, 48, 49, 50, 51, 52, 53, 54, 55, 56, 57, 58, 59, 60, 61, 62, 63, 64, 65, 66, 67, 68, 69, 70, 71, 72, 83, 84, 85, 86, 87, 88, 89, 90, 91, 92, 93, 94, 95] (by decide +kernel) (by decide +kernel)
set_option maxRecDepth 20000 in
theorem gX5_lookAhead_X3_passDay : GoodIn wsX5_lookAhead (wsV RX5 157 RX3 yX3_passDay wsX3_passDay) := goodIn_app (goodIn_of _ (by decide +kernel)) ggX5_lookAhead_X3_passDay
set_option maxRecDepth 20000 in
theorem ggX5_deedsIfPledged_X2_qualitiesOf : GoodIn wsX5_deedsIfPledged wsX2_qualitiesOf := goodIn_r _ [8, 9, 10, 11, 12, 7, 13, 14, 15, 16, 17, 140, 141, 142, 143, 144, 145, 146, 147, 148, 149, 150] (by decide +kernel) (by decide +kernel)
set_option maxRecDepth 20000 in
theorem gX5_deedsIfPledged_X2_qualitiesOf : GoodIn wsX5_deedsIfPledged (wsV RX5 111 RX2 yX2_qualitiesOf wsX2_qualitiesOf) := goodIn_app (goodIn_of _ (by decide +kernel)) ggX5_deedsIfPledged_X2_qualitiesOf
set_option maxRecDepth 20000 in
theorem ggX5_deedsIfPledged_X3_copy : GoodIn wsX5_deedsIfPledged wsX3_copy := goodIn_r _ [22, 23, 24, 25, 26, 21, 27, 28, 16, 29, 151, 152] (by decide +kernel) (by decide +kernel)
set_option maxRecDepth 20000 in
theorem gX5_deedsIfPledged_X3_copy : GoodIn wsX5_deedsIfPledged (wsV RX5 197 RX3 yX3_copy wsX3_copy) := goodIn_app (goodIn_of _ (by decide +kernel)) ggX5_deedsIfPledged_X3_copy
set_option maxRecDepth 20000 in
theorem ggX5_deedsIfPledged_X3_tryPledge : GoodIn wsX5_deedsIfPledged wsX3_tryPledge := goodIn_r _ [33, 34, 23, 35, 36, 37, 21, 38, 39, 40, 41, 7, 42, 9, 43, 44, 45, 46, 15, 16, 17, 47, 48, 49, 50, 51, 52, 53, 54, 55, 56, 11, 12, 13, 14, 57, 58, 59, 60, 28, 29, 61, 62, 63, 64, 151, 152, 140, 141, 142, 143, 144, 145, 146, 147, 148, 149, 150] (by decide +kernel) (by decide +kernel)
set_option maxRecDepth 20000 in
theorem gX5_deedsIfPledged_X3_tryPledge : GoodIn wsX5_deedsIfPledged (wsV RX5 163 RX3 yX3_tryPledge wsX3_tryPledge) := goodIn_app (goodIn_of _ (by decide +kernel)) ggX5_deedsIfPledged_X3_tryPledge
set_option maxRecDepth 20000 in
theorem ggX5_deedsIfPledged_X3_purseOf : GoodIn wsX5_deedsIfPledged wsX3_purseOf := goodIn_r _ [68, 23, 15, 16, 17, 151, 152] (by decide +kernel) (by decide +kernel)
set_option maxRecDepth 20000 in
theorem gX5_deedsIfPledged_X3_purseOf : GoodIn wsX5_deedsIfPledged (wsV RX5 108 RX3 yX3_purseOf wsX3_purseOf) := goodIn_app (goodIn_of _ (by decide +kernel)) ggX5_deedsIfPledged_X3_purseOf
set_option maxRecDepth 20000 in
theorem ggX5_deedsIfPledged_X3_deedsInTheEnd : GoodIn wsX5_deedsIfPledged wsX3_deedsInTheEnd := goodIn_r _ [72, 73, 74, 75, 21, 76, 34, 23, 77, 78, 79, 7, 80, 81, 15, 16, 17, 61, 62, 63, 64, 82, 83, 84, 85, 86, 87, 88, 89, 90, 43, 44, 45, 46, 28, 29, 56, 11, 12, 13, 14, 91, 92, 93, 94, 95, 57, 58, 59, 60, 96, 97, 98, 99, 100, 101, 102, 103, 104, 105, 106, 107, 108, 109, 110, 111, 112, 113, 114, 115, 116, 151, 152, 140, 141, 142, 143, 144, 145, 146, 147, 148, 149, 150] (by decide +kernel) (by decide +kernel)
set_option maxRecDepth 20000 in
theorem gX5_deedsIfPledged_X3_deedsInTheEnd : GoodIn wsX5_deedsIfPledged (wsV RX5 209 RX3 yX3_deedsInTheEnd wsX3_deedsInTheEnd) := goodIn_app (goodIn_of _ (by decide +kernel)) ggX5_deedsIfPledged_X3_deedsInTheEnd
set_option maxRecDepth 20000 in
theorem ggX5_deedsIfPledged_X2_deedsOf : GoodIn wsX5_deedsIfPledged wsX2_deedsOf := goodIn_r _ [120, 121, 122, 87, 88, 7, 89, 90, 15, 16, 17, 10, 11, 12, 13, 14, 140, 141, 142, 143, 144, 145, 146, 147, 148, 149, 150] (by decide +kernel) (by decide +kernel)
set_option maxRecDepth 20000 in
theorem gX5_deedsIfPledged_X2_deedsOf : GoodIn wsX5_deedsIfPledged (wsV RX5 114 RX2 yX2_deedsOf wsX2_deedsOf) := goodIn_app (goodIn_of _ (by decide +kernel)) ggX5_deedsIfPledged_X2_deedsOf
set_option maxRecDepth 20000 in
theorem ggX5_deedsIfPledged_J6_bitCount_0f7a4 : GoodIn wsX5_deedsIfPledged wsJ6_bitCount_0f7a4 := goodIn_r _ [126, 127, 128, 129] (by decide +kernel) (by decide +kernel)
set_option maxRecDepth 20000 in
theorem gX5_deedsIfPledged_J6_bitCount_0f7a4 : GoodIn wsX5_deedsIfPledged (va_wsS RX5 192 yJ6_bitCount_0f7a4 wsJ6_bitCount_0f7a4) := goodIn_app (goodIn_of _ (by decide +kernel)) ggX5_deedsIfPledged_J6_bitCount_0f7a4
set_option maxRecDepth 20000 in
theorem ggX5_gain_X3_copy : GoodIn wsX5_gain wsX3_copy := goodIn_r _ [8, 9, 10, 11, 12, 7, 13, 14, 15, 16, 140, 141] (by decide +kernel) (by decide +kernel)
set_option maxRecDepth 20000 in
theorem gX5_gain_X3_copy : GoodIn wsX5_gain (wsV RX5 197 RX3 yX3_copy wsX3_copy) := goodIn_app (goodIn_of _ (by decide +kernel)) ggX5_gain_X3_copy
set_option maxRecDepth 20000 in
theorem ggX5_gain_X3_dearestOf : GoodIn wsX5_gain wsX3_dearestOf := goodIn_r _ [20, 21, 22, 23, 24, 25, 26, 27, 28, 15, 29, 30, 31, 32, 7, 33, 9, 34, 35, 36, 37, 38, 140, 141, 142, 143, 144, 145, 146, 147, 148, 149, 150, 151, 152] (by decide +kernel) (by decide +kernel)
set_option maxRecDepth 20000 in
theorem gX5_gain_X3_dearestOf : GoodIn wsX5_gain (wsV RX5 256 RX3 yX3_dearestOf wsX3_dearestOf) := goodIn_app (goodIn_of _ (by decide +kernel)) ggX5_gain_X3_dearestOf
set_option maxRecDepth 20000 in
theorem ggX5_gain_X3_tryPledge : GoodIn wsX5_gain wsX3_tryPledge := goodIn_r _ [42, 21, 9, 43, 44, 45, 7, 46, 47, 48, 49, 25, 50, 51, 30, 31, 32, 33, 28, 15, 29, 52, 53, 54, 55, 34, 35, 36, 37, 38, 22, 23, 24, 26, 27, 56, 57, 58, 59, 14, 16, 60, 61, 62, 63, 140, 141, 142, 143, 144, 145, 146, 147, 148, 149, 150, 151, 152] (by decide +kernel) (by decide +kernel)
set_option maxRecDepth 20000 in
theorem gX5_gain_X3_tryPledge : GoodIn wsX5_gain (wsV RX5 163 RX3 yX3_tryPledge wsX3_tryPledge) := goodIn_app (goodIn_of _ (by decide +kernel)) ggX5_gain_X3_tryPledge
set_option maxRecDepth 20000 in
theorem ggX5_gain_X3_purseOf : GoodIn wsX5_gain wsX3_purseOf := goodIn_r _ [67, 9, 28, 15, 29, 140, 141] (by decide +kernel) (by decide +kernel)
set_option maxRecDepth 20000 in
theorem gX5_gain_X3_purseOf : GoodIn wsX5_gain (wsV RX5 108 RX3 yX3_purseOf wsX3_purseOf) := goodIn_app (goodIn_of _ (by decide +kernel)) ggX5_gain_X3_purseOf
set_option maxRecDepth 20000 in
theorem ggX5_gain_X2_deedsOf : GoodIn wsX5_gain wsX2_deedsOf := goodIn_r _ [71, 72, 73, 74, 75, 25, 76, 77, 28, 15, 29, 78, 23, 24, 26, 27, 142, 143, 144, 145, 146, 147, 148, 149, 150, 151, 152] (by decide +kernel) (by decide +kernel)
set_option maxRecDepth 20000 in
theorem gX5_gain_X2_deedsOf : GoodIn wsX5_gain (wsV RX5 114 RX2 yX2_deedsOf wsX2_deedsOf) := goodIn_app (goodIn_of _ (by decide +kernel)) ggX5_gain_X2_deedsOf
set_option maxRecDepth 20000 in
theorem ggX5_gain_X3_deedsInTheEnd : GoodIn wsX5_gain wsX3_deedsInTheEnd := goodIn_r _ [82, 83, 84, 85, 7, 86, 21, 9, 87, 88, 89, 25, 90, 91, 28, 15, 29, 60, 61, 62, 63, 92, 93, 94, 95, 96, 74, 75, 76, 77, 30, 31, 32, 33, 14, 16, 22, 23, 24, 26, 27, 97, 98, 99, 100, 101, 56, 57, 58, 59, 102, 103, 104, 105, 106, 107, 108, 109, 110, 111, 112, 113, 114, 115, 116, 117, 118, 119, 120, 121, 122, 140, 141, 142, 143, 144, 145, 146, 147, 148, 149, 150, 151, 152] (by decide +kernel) (by decide +kernel)
set_option maxRecDepth 20000 in
theorem gX5_gain_X3_deedsInTheEnd : GoodIn wsX5_gain (wsV RX5 209 RX3 yX3_deedsInTheEnd wsX3_deedsInTheEnd) := goodIn_app (goodIn_of _ (by decide +kernel)) ggX5_gain_X3_deedsInTheEnd
set_option maxRecDepth 20000 in
theorem ggX5_gain_J6_bitCount_0f7a4 : GoodIn wsX5_gain wsJ6_bitCount_0f7a4 := goodIn_r _ [126, 127, 128, 129] (by decide +kernel) (by decide +kernel)
set_option maxRecDepth 20000 in
theorem gX5_gain_J6_bitCount_0f7a4 : GoodIn wsX5_gain (va_wsS RX5 192 yJ6_bitCount_0f7a4 wsJ6_bitCount_0f7a4) := goodIn_app (goodIn_of _ (by decide +kernel)) ggX5_gain_J6_bitCount_0f7a4
set_option maxRecDepth 20000 in
theorem ggX5_deedsIfSold_X3_copy : GoodIn wsX5_deedsIfSold wsX3_copy := goodIn_r _ [7, 8, 9, 10, 11, 6, 12, 13, 14, 15, 106, 107] (by decide +kernel) (by decide +kernel)
set_option maxRecDepth 20000 in
theorem gX5_deedsIfSold_X3_copy : GoodIn wsX5_deedsIfSold (wsV RX5 197 RX3 yX3_copy wsX3_copy) := goodIn_app (goodIn_of _ (by decide +kernel)) ggX5_deedsIfSold_X3_copy
set_option maxRecDepth 20000 in
theorem ggX5_deedsIfSold_X3_settle : GoodIn wsX5_deedsIfSold wsX3_settle := goodIn_r _ [19, 20, 8, 21, 22, 23, 6, 24, 25, 14, 26, 13, 15, 106, 107, 108, 109, 110, 111, 112, 113, 114, 115, 116, 117, 118] (by decide +kernel) (by decide +kernel)
set_option maxRecDepth 20000 in
theorem gX5_deedsIfSold_X3_settle : GoodIn wsX5_deedsIfSold (wsV RX5 259 RX3 yX3_settle wsX3_settle) := goodIn_app (goodIn_of _ (by decide +kernel)) ggX5_deedsIfSold_X3_settle
set_option maxRecDepth 20000 in
theorem ggX5_deedsIfSold_X3_deedsInTheEnd : GoodIn wsX5_deedsIfSold wsX3_deedsInTheEnd := goodIn_r _ [30, 31, 32, 33, 6, 34, 20, 8, 35, 36, 37, 38, 39, 40, 25, 14, 26, 41, 42, 43, 44, 45, 46, 47, 48, 49, 50, 51, 52, 53, 21, 22, 23, 24, 13, 15, 54, 55, 56, 57, 58, 59, 60, 61, 62, 63, 64, 65, 66, 67, 68, 69, 70, 71, 72, 73, 74, 75, 76, 77, 78, 79, 80, 81, 82, 83, 84, 85, 86, 87, 88, 106, 107, 108, 109, 110, 111, 112, 113, 114, 115, 116, 117, 118] (by decide +kernel) (by decide +kernel)
set_option maxRecDepth 20000 in
theorem gX5_deedsIfSold_X3_deedsInTheEnd : GoodIn wsX5_deedsIfSold (wsV RX5 209 RX3 yX3_deedsInTheEnd wsX3_deedsInTheEnd) := goodIn_app (goodIn_of _ (by decide +kernel)) ggX5_deedsIfSold_X3_deedsInTheEnd
set_option maxRecDepth 20000 in
theorem ggX5_deedsIfSold_J6_bitCount_0f7a4 : GoodIn wsX5_deedsIfSold wsJ6_bitCount_0f7a4 := goodIn_r _ [92, 93, 94, 95] (by decide +kernel) (by decide +kernel)
set_option maxRecDepth 20000 in
theorem gX5_deedsIfSold_J6_bitCount_0f7a4 : GoodIn wsX5_deedsIfSold (va_wsS RX5 192 yJ6_bitCount_0f7a4 wsJ6_bitCount_0f7a4) := goodIn_app (goodIn_of _ (by decide +kernel)) ggX5_deedsIfSold_J6_bitCount_0f7a4
set_option maxRecDepth 20000 in
theorem ggX6_noPerson_X6_in : GoodIn wsX6_noPerson wsX6_in := goodIn_r _ [5] (by decide +kernel) (by decide +kernel)
set_option maxRecDepth 20000 in
theorem gX6_noPerson_X6_in : GoodIn wsX6_noPerson (va_wsS RX6 75 yX6_in wsX6_in) := goodIn_app (goodIn_of _ (by decide +kernel)) ggX6_noPerson_X6_in
set_option maxRecDepth 20000 in
theorem ggX6_noQuality_X6_in : GoodIn wsX6_noQuality wsX6_in := goodIn_r _ [5] (by decide +kernel) (by decide +kernel)
set_option maxRecDepth 20000 in
theorem gX6_noQuality_X6_in : GoodIn wsX6_noQuality (va_wsS RX6 75 yX6_in wsX6_in) := goodIn_app (goodIn_of _ (by decide +kernel)) ggX6_noQuality_X6_in
set_option maxRecDepth 20000 in
theorem ggX6_noDeed_X6_in : GoodIn wsX6_noDeed wsX6_in := goodIn_r _ [5] (by decide +kernel) (by decide +kernel)
set_option maxRecDepth 20000 in
theorem gX6_noDeed_X6_in : GoodIn wsX6_noDeed (va_wsS RX6 75 yX6_in wsX6_in) := goodIn_app (goodIn_of _ (by decide +kernel)) ggX6_noDeed_X6_in
set_option maxRecDepth 20000 in
theorem ggX6_write_X6_in : GoodIn wsX6_write wsX6_in := goodIn_r _ [8] (by decide +kernel) (by decide +kernel)
set_option maxRecDepth 20000 in
theorem gX6_write_X6_in : GoodIn wsX6_write (va_wsS RX6 75 yX6_in wsX6_in) := goodIn_app (goodIn_of _ (by decide +kernel)) ggX6_write_X6_in
set_option maxRecDepth 20000 in
theorem ggX6_figure_X6_in : GoodIn wsX6_figure wsX6_in := goodIn_r _ [7] (by decide +kernel) (by decide +kernel)
set_option maxRecDepth 20000 in
theorem gX6_figure_X6_in : GoodIn wsX6_figure (va_wsS RX6 75 yX6_in wsX6_in) := goodIn_app (goodIn_of _ (by decide +kernel)) ggX6_figure_X6_in
set_option maxRecDepth 20000 in
theorem ggX6_readOnePerson_X6_figure : GoodIn wsX6_readOnePerson wsX6_figure := goodIn_r _ [7, 8, 9, 10, 11, 12, 6, 13, 14, 15, 16, 17, 18, 19, 20, 21, 22, 23, 24, 25, 26, 27, 28, 29, 30, 31, 32, 33, 34, 35, 36, 37, 38, 39, 40, 41, 42, 43, 44, 45, 46, 47, 48, 49, 50, 51] (by decide +kernel) (by decide +kernel)
set_option maxRecDepth 20000 in
theorem gX6_readOnePerson_X6_figure : GoodIn wsX6_readOnePerson (wsV RX6 93 RX6 yX6_figure wsX6_figure) := goodIn_app (goodIn_of _ (by decide +kernel)) ggX6_readOnePerson_X6_figure
set_option maxRecDepth 20000 in
theorem ggX6_readOneQuality_X6_figure : GoodIn wsX6_readOneQuality wsX6_figure := goodIn_r _ [8, 9, 10, 11, 12, 13, 7, 14, 15, 16, 17, 18, 19, 20, 21, 22, 23, 24, 25, 26, 27, 28, 29, 30, 31, 32, 33, 34, 35, 36, 37, 38, 39, 40, 41, 42, 43, 44, 45, 46, 47, 48, 49, 50, 51, 52] (by decide +kernel) (by decide +kernel)
set_option maxRecDepth 20000 in
theorem gX6_readOneQuality_X6_figure : GoodIn wsX6_readOneQuality (wsV RX6 93 RX6 yX6_figure wsX6_figure) := goodIn_app (goodIn_of _ (by decide +kernel)) ggX6_readOneQuality_X6_figure
set_option maxRecDepth 20000 in
theorem ggX6_readOneDeed_X6_figure : GoodIn wsX6_readOneDeed wsX6_figure := goodIn_r _ [8, 9, 10, 11, 12, 13, 7, 14, 15, 16, 17, 18, 19, 20, 21, 22, 23, 24, 25, 26, 27, 28, 29, 30, 31, 32, 33, 34, 35, 36, 37, 38, 39, 40, 41, 42, 43, 44, 45, 46, 47, 48, 49, 50, 51, 52] (by decide +kernel) (by decide +kernel)
set_option maxRecDepth 20000 in
theorem gX6_readOneDeed_X6_figure : GoodIn wsX6_readOneDeed (wsV RX6 93 RX6 yX6_figure wsX6_figure) := goodIn_app (goodIn_of _ (by decide +kernel)) ggX6_readOneDeed_X6_figure
set_option maxRecDepth 20000 in
theorem ggX6_readThing_X6_readOnePerson : GoodIn wsX6_readThing wsX6_readOnePerson := goodIn_r _ [10, 11, 3, 12, 13, 14, 9, 15, 2, 16, 1, 17, 18, 19, 30, 31, 32, 33, 34, 35, 36, 37, 38, 39, 40, 41, 42, 43, 44, 45, 46, 47, 48, 49, 50, 51, 52, 53, 54, 55, 56, 57, 58, 59, 60, 61, 62, 63, 64, 65, 66, 67] (by decide +kernel) (by decide +kernel)
set_option maxRecDepth 20000 in
theorem gX6_readThing_X6_readOnePerson : GoodIn wsX6_readThing (wsV RX6 106 RX6 yX6_readOnePerson wsX6_readOnePerson) := goodIn_app (goodIn_of _ (by decide +kernel)) ggX6_readThing_X6_readOnePerson
set_option maxRecDepth 20000 in
theorem ggX6_readThing_X6_readOneQuality : GoodIn wsX6_readThing wsX6_readOneQuality := goodIn_r _ [23, 3, 24, 4, 12, 13, 14, 9, 15, 2, 16, 1, 17, 18, 19, 30, 31, 32, 33, 34, 35, 36, 37, 38, 39, 40, 41, 42, 43, 44, 45, 46, 47, 48, 49, 50, 51, 52, 53, 54, 55, 56, 57, 58, 59, 60, 61, 62, 63, 64, 65, 66, 67] (by decide +kernel) (by decide +kernel)
set_option maxRecDepth 20000 in
theorem gX6_readThing_X6_readOneQuality : GoodIn wsX6_readThing (wsV RX6 110 RX6 yX6_readOneQuality wsX6_readOneQuality) := goodIn_app (goodIn_of _ (by decide +kernel)) ggX6_readThing_X6_readOneQuality
set_option maxRecDepth 20000 in
theorem ggX6_readThing_X6_readOneDeed : GoodIn wsX6_readThing wsX6_readOneDeed := goodIn_r _ [28, 4, 29, 5, 12, 13, 14, 9, 15, 2, 16, 1, 17, 18, 19, 30, 31, 32, 33, 34, 35, 36, 37, 38, 39, 40, 41, 42, 43, 44, 45, 46, 47, 48, 49, 50, 51, 52, 53, 54, 55, 56, 57, 58, 59, 60, 61, 62, 63, 64, 65, 66, 67] (by decide +kernel) (by decide +kernel)
set_option maxRecDepth 20000 in
theorem gX6_readThing_X6_readOneDeed : GoodIn wsX6_readThing (wsV RX6 113 RX6 yX6_readOneDeed wsX6_readOneDeed) := goodIn_app (goodIn_of _ (by decide +kernel)) ggX6_readThing_X6_readOneDeed
set_option maxRecDepth 20000 in
theorem ggX6_readShop_X6_figure : GoodIn wsX6_readShop wsX6_figure := goodIn_r _ [12, 1, 5, 6, 13, 14, 11, 15, 35, 36, 37, 38, 39, 40, 41, 42, 43, 44, 45, 46, 47, 48, 49, 50, 51, 52, 53, 54, 55, 56, 57, 58, 59, 60, 61, 62, 63, 64, 65, 66, 67, 68, 69, 70, 71, 72] (by decide +kernel) (by decide +kernel)
set_option maxRecDepth 20000 in
theorem gX6_readShop_X6_figure : GoodIn wsX6_readShop (wsV RX6 93 RX6 yX6_figure wsX6_figure) := goodIn_app (goodIn_of _ (by decide +kernel)) ggX6_readShop_X6_figure
set_option maxRecDepth 20000 in
theorem ggX6_readShop_X6_readThing : GoodIn wsX6_readShop wsX6_readThing := goodIn_r _ [19, 6, 1, 2, 3, 4, 20, 21, 22, 11, 23, 24, 8, 9, 10, 12, 5, 13, 14, 15, 25, 26, 27, 28, 29, 30, 31, 32, 33, 34, 35, 36, 37, 38, 39, 40, 41, 42, 43, 44, 45, 46, 47, 48, 49, 50, 51, 52, 53, 54, 55, 56, 57, 58, 59, 60, 61, 62, 63, 64, 65, 66, 67, 68, 69, 70, 71, 72] (by decide +kernel) (by decide +kernel)
set_option maxRecDepth 20000 in
theorem gX6_readShop_X6_readThing : GoodIn wsX6_readShop (wsV RX6 119 RX6 yX6_readThing wsX6_readThing) := goodIn_app (goodIn_of _ (by decide +kernel)) ggX6_readShop_X6_readThing
set_option maxRecDepth 20000 in
theorem ggX6_fault_X6_readShop : GoodIn wsX6_fault wsX6_readShop := goodIn_r _ [6, 7, 8, 9, 10, 11, 12, 13, 14, 15, 16, 5, 17, 18, 19, 20, 21, 22, 23, 24, 25, 26, 27, 28, 29, 30, 31, 32, 33, 34, 35, 36, 37, 38, 39, 40, 41, 42, 43, 44, 45, 46, 47, 48, 49, 50, 51, 52, 53, 54, 55, 56, 57, 58, 59, 60, 61, 62, 63, 64, 65, 66, 67, 68, 69, 70, 71, 72, 73, 74, 75, 76, 77] (by decide +kernel) (by decide +kernel)
set_option maxRecDepth 20000 in
theorem gX6_fault_X6_readShop : GoodIn wsX6_fault (wsV RX6 122 RX6 yX6_readShop wsX6_readShop) := goodIn_app (goodIn_of _ (by decide +kernel)) ggX6_fault_X6_readShop
set_option maxRecDepth 20000 in
theorem ggX6_shop_X6_readShop : GoodIn wsX6_shop wsX6_readShop := goodIn_r _ [25, 26, 2, 4, 6, 27, 28, 9, 29, 30, 31, 24, 32, 33, 34, 35, 36, 37, 38, 39, 40, 41, 42, 43, 10, 44, 45, 46, 47, 12, 48, 49, 50, 51, 16, 52, 53, 54, 55, 56, 57, 58, 59, 60, 61, 62, 63, 64, 65, 66, 67, 68, 69, 70, 71, 72, 73, 74, 75, 76, 77, 78, 79, 80, 81, 82, 83, 84, 85, 86, 87, 88, 89] (by decide +kernel) (by decide +kernel)
set_option maxRecDepth 20000 in
theorem gX6_shop_X6_readShop : GoodIn wsX6_shop (wsV RX6 122 RX6 yX6_readShop wsX6_readShop) := goodIn_app (goodIn_of _ (by decide +kernel)) ggX6_shop_X6_readShop
set_option maxRecDepth 20000 in
theorem ggX6_dueOf_X6_dueBy : GoodIn wsX6_dueOf wsX6_dueBy := goodIn_r _ [6] (by decide +kernel) (by decide +kernel)
set_option maxRecDepth 20000 in
theorem gX6_dueOf_X6_dueBy : GoodIn wsX6_dueOf (va_wsS RX6 129 yX6_dueBy wsX6_dueBy) := goodIn_app (goodIn_of _ (by decide +kernel)) ggX6_dueOf_X6_dueBy
set_option maxRecDepth 20000 in
theorem ggX6_goDays_X6_goDay : GoodIn wsX6_goDays wsX6_goDay := goodIn_r _ [6, 7, 8, 9, 10, 11, 12, 13, 14, 15, 16, 17, 18, 19, 20, 21, 22, 23, 24, 25, 26, 27, 28, 29, 30, 31, 32, 33, 34, 35, 36, 37, 38, 39, 40, 41, 42, 43, 44, 45, 46, 47, 48, 49, 50, 51] (by decide +kernel) (by decide +kernel)
set_option maxRecDepth 20000 in
theorem gX6_goDays_X6_goDay : GoodIn wsX6_goDays (wsV RX6 133 RX6 yX6_goDay wsX6_goDay) := goodIn_app (goodIn_of _ (by decide +kernel)) ggX6_goDays_X6_goDay
set_option maxRecDepth 20000 in
theorem ggX6_about_X6_thatAre : GoodIn wsX6_about wsX6_thatAre := goodIn_r _ [13, 3, 18, 19, 20, 21, 22, 23, 24, 25, 26, 27, 28, 29, 30, 31, 32, 33, 34, 35, 36, 37, 38, 39, 40, 41, 42, 43, 44, 45, 46, 47, 48, 49, 50, 51, 52, 53, 54, 55] (by decide +kernel) (by decide +kernel)
set_option maxRecDepth 20000 in
theorem gX6_about_X6_thatAre : GoodIn wsX6_about (wsV RX6 137 RX6 yX6_thatAre wsX6_thatAre) := goodIn_app (goodIn_of _ (by decide +kernel)) ggX6_about_X6_thatAre
set_option maxRecDepth 20000 in
theorem ggX6_about_X6_deedsThat : GoodIn wsX6_about wsX6_deedsThat := goodIn_r _ [17, 4, 18, 19, 20, 21, 22, 23, 24, 25, 26, 27, 28, 29, 30, 31, 32, 33, 34, 35, 36, 37, 38, 39, 40, 41, 42, 43, 44, 45, 46, 47, 48, 49, 50, 51, 52, 53, 54, 55] (by decide +kernel) (by decide +kernel)
set_option maxRecDepth 20000 in
theorem gX6_about_X6_deedsThat : GoodIn wsX6_about (wsV RX6 141 RX6 yX6_deedsThat wsX6_deedsThat) := goodIn_app (goodIn_of _ (by decide +kernel)) ggX6_about_X6_deedsThat
set_option maxRecDepth 20000 in
theorem ggX6_person_X6_noPerson : GoodIn wsX6_person wsX6_noPerson := goodIn_r _ [7, 8, 9, 10, 6, 11, 24, 25, 26, 27, 28, 29, 30, 31, 32, 33, 34, 35, 36, 37, 38, 39, 40, 41, 42, 43, 44, 45, 46, 47, 48, 49, 50, 51, 52, 53, 54, 55, 56, 57, 58, 59, 60, 61] (by decide +kernel) (by decide +kernel)
set_option maxRecDepth 20000 in
theorem gX6_person_X6_noPerson : GoodIn wsX6_person (wsV RX6 147 RX6 yX6_noPerson wsX6_noPerson) := goodIn_app (goodIn_of _ (by decide +kernel)) ggX6_person_X6_noPerson
set_option maxRecDepth 20000 in
theorem ggX6_person_X6_ownOf : GoodIn wsX6_person wsX6_ownOf := goodIn_r _ [15, 16, 17, 24, 25, 26, 27, 28, 29, 30, 31, 32, 33, 34, 35, 36, 37, 38, 39, 40, 41, 42, 43, 44, 45, 46, 47, 48, 49, 50, 51, 52, 53, 54, 55, 56, 57, 58, 59, 60, 61] (by decide +kernel) (by decide +kernel)
set_option maxRecDepth 20000 in
theorem gX6_person_X6_ownOf : GoodIn wsX6_person (wsV RX6 151 RX6 yX6_ownOf wsX6_ownOf) := goodIn_app (goodIn_of _ (by decide +kernel)) ggX6_person_X6_ownOf
set_option maxRecDepth 20000 in
theorem ggX6_person_X6_deedsOf : GoodIn wsX6_person wsX6_deedsOf := goodIn_r _ [21, 22, 17, 23, 24, 25, 26, 27, 28, 29, 30, 31, 32, 33, 34, 35, 36, 37, 38, 39, 40, 41, 42, 43, 44, 45, 46, 47, 48, 49, 50, 51, 52, 53, 54, 55, 56, 57, 58, 59, 60, 61] (by decide +kernel) (by decide +kernel)
set_option maxRecDepth 20000 in
theorem gX6_person_X6_deedsOf : GoodIn wsX6_person (wsV RX6 155 RX6 yX6_deedsOf wsX6_deedsOf) := goodIn_app (goodIn_of _ (by decide +kernel)) ggX6_person_X6_deedsOf
set_option maxRecDepth 20000 in
theorem ggX6_quality_X6_noQuality : GoodIn wsX6_quality wsX6_noQuality := goodIn_r _ [10, 11, 12, 13, 9, 14, 22, 23, 24, 25, 26, 27, 28, 29, 30, 31, 32, 33, 34, 35, 36, 37, 38, 39, 40, 41, 42, 43, 44, 45, 46, 47, 48, 49, 50, 51, 52, 53, 54, 55, 56, 57, 58, 59] (by decide +kernel) (by decide +kernel)
set_option maxRecDepth 20000 in
theorem gX6_quality_X6_noQuality : GoodIn wsX6_quality (wsV RX6 158 RX6 yX6_noQuality wsX6_noQuality) := goodIn_app (goodIn_of _ (by decide +kernel)) ggX6_quality_X6_noQuality
set_option maxRecDepth 20000 in
theorem ggX6_quality_X6_dueOf : GoodIn wsX6_quality wsX6_dueOf := goodIn_r _ [18, 3, 4, 19, 20, 9, 21, 22, 23, 24, 25, 26, 27, 28, 29, 30, 31, 32, 33, 34, 35, 36, 37, 38, 39, 40, 41, 42, 43, 44, 45, 46, 47, 48, 49, 50, 51, 52, 53, 54, 55, 56, 57, 58, 59] (by decide +kernel) (by decide +kernel)
set_option maxRecDepth 20000 in
theorem gX6_quality_X6_dueOf : GoodIn wsX6_quality (wsV RX6 161 RX6 yX6_dueOf wsX6_dueOf) := goodIn_app (goodIn_of _ (by decide +kernel)) ggX6_quality_X6_dueOf
set_option maxRecDepth 20000 in
theorem ggX6_deed_X6_noDeed : GoodIn wsX6_deed wsX6_noDeed := goodIn_r _ [10, 11, 12, 13, 9, 14, 15, 16, 17, 18, 19, 20, 21, 22, 23, 24, 25, 26, 27, 28, 29, 30, 31, 32, 33, 34, 35, 36, 37, 38, 39, 40, 41, 42, 43, 44, 45, 46, 47, 48, 49, 50, 51, 52] (by decide +kernel) (by decide +kernel)
set_option maxRecDepth 20000 in
theorem gX6_deed_X6_noDeed : GoodIn wsX6_deed (wsV RX6 164 RX6 yX6_noDeed wsX6_noDeed) := goodIn_app (goodIn_of _ (by decide +kernel)) ggX6_deed_X6_noDeed
set_option maxRecDepth 20000 in
theorem ggX6_day_X6_note : GoodIn wsX6_day wsX6_note := goodIn_r _ [7, 8, 9, 2, 21, 22, 23, 24, 25, 26, 27, 28, 29, 30, 31, 32, 33, 34, 35, 36, 37, 38, 39, 40, 41, 42, 43, 44, 45, 46, 47, 48, 49, 50, 51, 52, 53, 54, 55, 56, 57, 58] (by decide +kernel) (by decide +kernel)
set_option maxRecDepth 20000 in
theorem gX6_day_X6_note : GoodIn wsX6_day (wsV RX6 167 RX6 yX6_note wsX6_note) := goodIn_app (goodIn_of _ (by decide +kernel)) ggX6_day_X6_note
set_option maxRecDepth 20000 in
theorem ggX6_day_X6_goDay : GoodIn wsX6_day wsX6_goDay := goodIn_r _ [13, 14, 15, 16, 17, 18, 19, 20, 21, 22, 23, 24, 25, 26, 27, 28, 29, 30, 31, 32, 33, 34, 35, 36, 37, 38, 39, 40, 41, 42, 43, 44, 45, 46, 47, 48, 49, 50, 51, 52, 53, 54, 55, 56, 57, 58] (by decide +kernel) (by decide +kernel)
set_option maxRecDepth 20000 in
theorem gX6_day_X6_goDay : GoodIn wsX6_day (wsV RX6 133 RX6 yX6_goDay wsX6_goDay) := goodIn_app (goodIn_of _ (by decide +kernel)) ggX6_day_X6_goDay
set_option maxRecDepth 20000 in
theorem ggX6_pledge_X6_noQuality : GoodIn wsX6_pledge wsX6_noQuality := goodIn_r _ [7, 8, 9, 10, 6, 11, 28, 29, 30, 31, 32, 33, 34, 35, 36, 37, 38, 39, 40, 41, 42, 43, 44, 45, 46, 47, 48, 49, 50, 51, 52, 53, 54, 55, 56, 57, 58, 59, 60, 61, 62, 63, 64, 65] (by decide +kernel) (by decide +kernel)
set_option maxRecDepth 20000 in
theorem gX6_pledge_X6_noQuality : GoodIn wsX6_pledge (wsV RX6 158 RX6 yX6_noQuality wsX6_noQuality) := goodIn_app (goodIn_of _ (by decide +kernel)) ggX6_pledge_X6_noQuality
set_option maxRecDepth 20000 in
theorem ggX6_pledge_X6_canPledge : GoodIn wsX6_pledge wsX6_canPledge := goodIn_r _ [15, 16, 28, 29, 30, 31, 32, 33, 34, 35, 36, 37, 38, 39, 40, 41, 42, 43, 44, 45, 46, 47, 48, 49, 50, 51, 52, 53, 54, 55, 56, 57, 58, 59, 60, 61, 62, 63, 64, 65] (by decide +kernel) (by decide +kernel)
set_option maxRecDepth 20000 in
theorem gX6_pledge_X6_canPledge : GoodIn wsX6_pledge (wsV RX6 170 RX6 yX6_canPledge wsX6_canPledge) := goodIn_app (goodIn_of _ (by decide +kernel)) ggX6_pledge_X6_canPledge
set_option maxRecDepth 20000 in
theorem ggX6_pledge_X6_note : GoodIn wsX6_pledge wsX6_note := goodIn_r _ [20, 21, 22, 2, 28, 29, 30, 31, 32, 33, 34, 35, 36, 37, 38, 39, 40, 41, 42, 43, 44, 45, 46, 47, 48, 49, 50, 51, 52, 53, 54, 55, 56, 57, 58, 59, 60, 61, 62, 63, 64, 65] (by decide +kernel) (by decide +kernel)
set_option maxRecDepth 20000 in
theorem gX6_pledge_X6_note : GoodIn wsX6_pledge (wsV RX6 167 RX6 yX6_note wsX6_note) := goodIn_app (goodIn_of _ (by decide +kernel)) ggX6_pledge_X6_note
set_option maxRecDepth 20000 in
theorem ggX6_pledge_X6_goPledge : GoodIn wsX6_pledge wsX6_goPledge := goodIn_r _ [26, 16, 27, 28, 29, 30, 31, 32, 33, 34, 35, 36, 37, 38, 39, 40, 41, 42, 43, 44, 45, 46, 47, 48, 49, 50, 51, 52, 53, 54, 55, 56, 57, 58, 59, 60, 61, 62, 63, 64, 65] (by decide +kernel) (by decide +kernel)
set_option maxRecDepth 20000 in
theorem gX6_pledge_X6_goPledge : GoodIn wsX6_pledge (wsV RX6 174 RX6 yX6_goPledge wsX6_goPledge) := goodIn_app (goodIn_of _ (by decide +kernel)) ggX6_pledge_X6_goPledge
set_option maxRecDepth 20000 in
theorem ggX6_canRedeem_X6_dueOf : GoodIn wsX6_canRedeem wsX6_dueOf := goodIn_r _ [6, 7, 8, 9, 10, 5, 11, 12, 13, 14, 15, 16, 17, 18, 19, 20, 21, 22, 23, 24, 25, 26, 27, 28, 29, 30, 31, 32, 33, 34, 35, 36, 37, 38, 39, 40, 41, 42, 43, 44, 45, 46, 47, 48, 49] (by decide +kernel) (by decide +kernel)
set_option maxRecDepth 20000 in
theorem gX6_canRedeem_X6_dueOf : GoodIn wsX6_canRedeem (wsV RX6 161 RX6 yX6_dueOf wsX6_dueOf) := goodIn_app (goodIn_of _ (by decide +kernel)) ggX6_canRedeem_X6_dueOf
set_option maxRecDepth 20000 in
theorem ggX6_goRedeem_X6_dueOf : GoodIn wsX6_goRedeem wsX6_dueOf := goodIn_r _ [6, 7, 8, 9, 10, 5, 11, 12, 13, 14, 15, 16, 17, 18, 19, 20, 21, 22, 23, 24, 25, 26, 27, 28, 29, 30, 31, 32, 33, 34, 35, 36, 37, 38, 39, 40, 41, 42, 43, 44, 45, 46, 47, 48, 49] (by decide +kernel) (by decide +kernel)
set_option maxRecDepth 20000 in
theorem gX6_goRedeem_X6_dueOf : GoodIn wsX6_goRedeem (wsV RX6 161 RX6 yX6_dueOf wsX6_dueOf) := goodIn_app (goodIn_of _ (by decide +kernel)) ggX6_goRedeem_X6_dueOf
set_option maxRecDepth 20000 in
theorem ggX6_redeem_X6_noQuality : GoodIn wsX6_redeem wsX6_noQuality := goodIn_r _ [8, 9, 10, 11, 7, 12, 36, 37, 38, 39, 40, 41, 42, 43, 44, 45, 46, 47, 48, 49, 50, 51, 52, 53, 54, 55, 56, 57, 58, 59, 60, 61, 62, 63, 64, 65, 66, 67, 68, 69, 70, 71, 72, 73] (by decide +kernel) (by decide +kernel)
set_option maxRecDepth 20000 in
theorem gX6_redeem_X6_noQuality : GoodIn wsX6_redeem (wsV RX6 158 RX6 yX6_noQuality wsX6_noQuality) := goodIn_app (goodIn_of _ (by decide +kernel)) ggX6_redeem_X6_noQuality
set_option maxRecDepth 20000 in
theorem ggX6_redeem_X6_canRedeem : GoodIn wsX6_redeem wsX6_canRedeem := goodIn_r _ [16, 3, 17, 18, 19, 7, 20, 21, 22, 23, 24, 25, 36, 37, 38, 39, 40, 41, 42, 43, 44, 45, 46, 47, 48, 49, 50, 51, 52, 53, 54, 55, 56, 57, 58, 59, 60, 61, 62, 63, 64, 65, 66, 67, 68, 69, 70, 71, 72, 73] (by decide +kernel) (by decide +kernel)
set_option maxRecDepth 20000 in
theorem gX6_redeem_X6_canRedeem : GoodIn wsX6_redeem (wsV RX6 178 RX6 yX6_canRedeem wsX6_canRedeem) := goodIn_app (goodIn_of _ (by decide +kernel)) ggX6_redeem_X6_canRedeem
set_option maxRecDepth 20000 in
theorem ggX6_redeem_X6_note : GoodIn wsX6_redeem wsX6_note := goodIn_r _ [29, 30, 31, 2, 36, 37, 38, 39, 40, 41, 42, 43, 44, 45, 46, 47, 48, 49, 50, 51, 52, 53, 54, 55, 56, 57, 58, 59, 60, 61, 62, 63, 64, 65, 66, 67, 68, 69, 70, 71, 72, 73] (by decide +kernel) (by decide +kernel)
set_option maxRecDepth 20000 in
theorem gX6_redeem_X6_note : GoodIn wsX6_redeem (wsV RX6 167 RX6 yX6_note wsX6_note) := goodIn_app (goodIn_of _ (by decide +kernel)) ggX6_redeem_X6_note
set_option maxRecDepth 20000 in
theorem ggX6_redeem_X6_goRedeem : GoodIn wsX6_redeem wsX6_goRedeem := goodIn_r _ [35, 3, 17, 18, 19, 7, 20, 21, 22, 23, 24, 25, 36, 37, 38, 39, 40, 41, 42, 43, 44, 45, 46, 47, 48, 49, 50, 51, 52, 53, 54, 55, 56, 57, 58, 59, 60, 61, 62, 63, 64, 65, 66, 67, 68, 69, 70, 71, 72, 73] (by decide +kernel) (by decide +kernel)
set_option maxRecDepth 20000 in
theorem gX6_redeem_X6_goRedeem : GoodIn wsX6_redeem (wsV RX6 181 RX6 yX6_goRedeem wsX6_goRedeem) := goodIn_app (goodIn_of _ (by decide +kernel)) ggX6_redeem_X6_goRedeem
set_option maxRecDepth 20000 in
theorem ggX6_give_X6_noPerson : GoodIn wsX6_give wsX6_noPerson := goodIn_r _ [8, 9, 10, 11, 7, 12, 19, 20, 21, 22, 23, 24, 25, 26, 27, 28, 29, 30, 31, 32, 33, 34, 35, 36, 37, 38, 39, 40, 41, 42, 43, 44, 45, 46, 47, 48, 49, 50, 51, 52, 53, 54, 55, 56] (by decide +kernel) (by decide +kernel)
set_option maxRecDepth 20000 in
theorem gX6_give_X6_noPerson : GoodIn wsX6_give (wsV RX6 147 RX6 yX6_noPerson wsX6_noPerson) := goodIn_app (goodIn_of _ (by decide +kernel)) ggX6_give_X6_noPerson
set_option maxRecDepth 20000 in
theorem ggX6_give_X6_in : GoodIn wsX6_give wsX6_in := goodIn_r _ [12] (by decide +kernel) (by decide +kernel)
set_option maxRecDepth 20000 in
theorem gX6_give_X6_in : GoodIn wsX6_give (va_wsS RX6 75 yX6_in wsX6_in) := goodIn_app (goodIn_of _ (by decide +kernel)) ggX6_give_X6_in
