set_option maxRecDepth 20000 in
theorem ggX6_give_X6_note : GoodIn wsX6_give wsX6_note := goodIn_r _ [16, 17, 18, 3, 19, 20, 21, 22, 23, 24, 25, 26, 27, 28, 29, 30, 31, 32, 33, 34, 35, 36, 37, 38, 39, 40, 41, 42, 43, 44, 45, 46, 47, 48, 49, 50, 51, 52, 53, 54, 55, 56] (by decide +kernel) (by decide +kernel)
set_option maxRecDepth 20000 in
theorem gX6_give_X6_note : GoodIn wsX6_give (wsV RX6 167 RX6 yX6_note wsX6_note) := goodIn_app (goodIn_of _ (by decide +kernel)) ggX6_give_X6_note
set_option maxRecDepth 20000 in
theorem ggX6_due_X6_noQuality : GoodIn wsX6_due wsX6_noQuality := goodIn_r _ [8, 9, 10, 11, 7, 12, 40, 41, 42, 43, 44, 45, 46, 47, 48, 49, 50, 51, 52, 53, 54, 55, 56, 57, 58, 59, 60, 61, 62, 63, 64, 65, 66, 67, 68, 69, 70, 71, 72, 73, 74, 75, 76, 77] (by decide +kernel) (by decide +kernel)
set_option maxRecDepth 20000 in
theorem gX6_due_X6_noQuality : GoodIn wsX6_due (wsV RX6 158 RX6 yX6_noQuality wsX6_noQuality) := goodIn_app (goodIn_of _ (by decide +kernel)) ggX6_due_X6_noQuality
set_option maxRecDepth 20000 in
theorem ggX6_due_X6_in : GoodIn wsX6_due wsX6_in := goodIn_r _ [12] (by decide +kernel) (by decide +kernel)
set_option maxRecDepth 20000 in
theorem gX6_due_X6_in : GoodIn wsX6_due (va_wsS RX6 75 yX6_in wsX6_in) := goodIn_app (goodIn_of _ (by decide +kernel)) ggX6_due_X6_in
set_option maxRecDepth 20000 in
theorem ggX6_due_X6_begin : GoodIn wsX6_due wsX6_begin := goodIn_r _ [16, 3, 17, 40, 41, 42, 43, 44, 45, 46, 47, 48, 49, 50, 51, 52, 53, 54, 55, 56, 57, 58, 59, 60, 61, 62, 63, 64, 65, 66, 67, 68, 69, 70, 71, 72, 73, 74, 75, 76, 77] (by decide +kernel) (by decide +kernel)
set_option maxRecDepth 20000 in
theorem gX6_due_X6_begin : GoodIn wsX6_due (wsV RX6 188 RX6 yX6_begin wsX6_begin) := goodIn_app (goodIn_of _ (by decide +kernel)) ggX6_due_X6_begin
set_option maxRecDepth 20000 in
theorem ggX6_due_X6_goDays : GoodIn wsX6_due wsX6_goDays := goodIn_r _ [21, 3, 22, 23, 24, 7, 25, 26, 27, 28, 29, 30, 9, 31, 40, 41, 42, 43, 44, 45, 46, 47, 48, 49, 50, 51, 52, 53, 54, 55, 56, 57, 58, 59, 60, 61, 62, 63, 64, 65, 66, 67, 68, 69, 70, 71, 72, 73, 74, 75, 76, 77] (by decide +kernel) (by decide +kernel)
set_option maxRecDepth 20000 in
theorem gX6_due_X6_goDays : GoodIn wsX6_due (wsV RX6 191 RX6 yX6_goDays wsX6_goDays) := goodIn_app (goodIn_of _ (by decide +kernel)) ggX6_due_X6_goDays
set_option maxRecDepth 20000 in
theorem ggX6_due_X6_dueOf : GoodIn wsX6_due wsX6_dueOf := goodIn_r _ [35, 36, 31, 37, 38, 7, 39, 40, 41, 42, 43, 44, 45, 46, 47, 48, 49, 50, 51, 52, 53, 54, 55, 56, 57, 58, 59, 60, 61, 62, 63, 64, 65, 66, 67, 68, 69, 70, 71, 72, 73, 74, 75, 76, 77] (by decide +kernel) (by decide +kernel)
set_option maxRecDepth 20000 in
theorem gX6_due_X6_dueOf : GoodIn wsX6_due (wsV RX6 161 RX6 yX6_dueOf wsX6_dueOf) := goodIn_app (goodIn_of _ (by decide +kernel)) ggX6_due_X6_dueOf
set_option maxRecDepth 20000 in
theorem ggX6_done_X6_in : GoodIn wsX6_done wsX6_in := goodIn_r _ [7] (by decide +kernel) (by decide +kernel)
set_option maxRecDepth 20000 in
theorem gX6_done_X6_in : GoodIn wsX6_done (va_wsS RX6 75 yX6_in wsX6_in) := goodIn_app (goodIn_of _ (by decide +kernel)) ggX6_done_X6_in
set_option maxRecDepth 20000 in
theorem ggX6_done_X6_begin : GoodIn wsX6_done wsX6_begin := goodIn_r _ [11, 3, 12, 32, 33, 34, 35, 36, 37, 38, 39, 40, 41, 42, 43, 44, 45, 46, 47, 48, 49, 50, 51, 52, 53, 54, 55, 56, 57, 58, 59, 60, 61, 62, 63, 64, 65, 66, 67, 68, 69] (by decide +kernel) (by decide +kernel)
set_option maxRecDepth 20000 in
theorem gX6_done_X6_begin : GoodIn wsX6_done (wsV RX6 188 RX6 yX6_begin wsX6_begin) := goodIn_app (goodIn_of _ (by decide +kernel)) ggX6_done_X6_begin
set_option maxRecDepth 20000 in
theorem ggX6_done_X6_goDays : GoodIn wsX6_done wsX6_goDays := goodIn_r _ [16, 3, 17, 18, 19, 6, 20, 21, 22, 23, 24, 25, 26, 27, 32, 33, 34, 35, 36, 37, 38, 39, 40, 41, 42, 43, 44, 45, 46, 47, 48, 49, 50, 51, 52, 53, 54, 55, 56, 57, 58, 59, 60, 61, 62, 63, 64, 65, 66, 67, 68, 69] (by decide +kernel) (by decide +kernel)
set_option maxRecDepth 20000 in
theorem gX6_done_X6_goDays : GoodIn wsX6_done (wsV RX6 191 RX6 yX6_goDays wsX6_goDays) := goodIn_app (goodIn_of _ (by decide +kernel)) ggX6_done_X6_goDays
set_option maxRecDepth 20000 in
theorem ggX6_done_X6_deedsThat : GoodIn wsX6_done wsX6_deedsThat := goodIn_r _ [31, 21, 32, 33, 34, 35, 36, 37, 38, 39, 40, 41, 42, 43, 44, 45, 46, 47, 48, 49, 50, 51, 52, 53, 54, 55, 56, 57, 58, 59, 60, 61, 62, 63, 64, 65, 66, 67, 68, 69] (by decide +kernel) (by decide +kernel)
set_option maxRecDepth 20000 in
theorem gX6_done_X6_deedsThat : GoodIn wsX6_done (wsV RX6 141 RX6 yX6_deedsThat wsX6_deedsThat) := goodIn_app (goodIn_of _ (by decide +kernel)) ggX6_done_X6_deedsThat
set_option maxRecDepth 20000 in
theorem ggX6_coins_X6_noPerson : GoodIn wsX6_coins wsX6_noPerson := goodIn_r _ [8, 9, 10, 11, 7, 12, 33, 34, 35, 36, 37, 38, 39, 40, 41, 42, 43, 44, 45, 46, 47, 48, 49, 50, 51, 52, 53, 54, 55, 56, 57, 58, 59, 60, 61, 62, 63, 64, 65, 66, 67, 68, 69, 70] (by decide +kernel) (by decide +kernel)
set_option maxRecDepth 20000 in
theorem gX6_coins_X6_noPerson : GoodIn wsX6_coins (wsV RX6 147 RX6 yX6_noPerson wsX6_noPerson) := goodIn_app (goodIn_of _ (by decide +kernel)) ggX6_coins_X6_noPerson
set_option maxRecDepth 20000 in
theorem ggX6_coins_X6_in : GoodIn wsX6_coins wsX6_in := goodIn_r _ [12] (by decide +kernel) (by decide +kernel)
set_option maxRecDepth 20000 in
theorem gX6_coins_X6_in : GoodIn wsX6_coins (va_wsS RX6 75 yX6_in wsX6_in) := goodIn_app (goodIn_of _ (by decide +kernel)) ggX6_coins_X6_in
set_option maxRecDepth 20000 in
theorem ggX6_coins_X6_begin : GoodIn wsX6_coins wsX6_begin := goodIn_r _ [16, 3, 17, 33, 34, 35, 36, 37, 38, 39, 40, 41, 42, 43, 44, 45, 46, 47, 48, 49, 50, 51, 52, 53, 54, 55, 56, 57, 58, 59, 60, 61, 62, 63, 64, 65, 66, 67, 68, 69, 70] (by decide +kernel) (by decide +kernel)
set_option maxRecDepth 20000 in
theorem gX6_coins_X6_begin : GoodIn wsX6_coins (wsV RX6 188 RX6 yX6_begin wsX6_begin) := goodIn_app (goodIn_of _ (by decide +kernel)) ggX6_coins_X6_begin
set_option maxRecDepth 20000 in
theorem ggX6_coins_X6_goDays : GoodIn wsX6_coins wsX6_goDays := goodIn_r _ [21, 3, 22, 23, 24, 7, 25, 26, 27, 28, 29, 30, 31, 32, 33, 34, 35, 36, 37, 38, 39, 40, 41, 42, 43, 44, 45, 46, 47, 48, 49, 50, 51, 52, 53, 54, 55, 56, 57, 58, 59, 60, 61, 62, 63, 64, 65, 66, 67, 68, 69, 70] (by decide +kernel) (by decide +kernel)
set_option maxRecDepth 20000 in
theorem gX6_coins_X6_goDays : GoodIn wsX6_coins (wsV RX6 191 RX6 yX6_goDays wsX6_goDays) := goodIn_app (goodIn_of _ (by decide +kernel)) ggX6_coins_X6_goDays
set_option maxRecDepth 20000 in
theorem ggX6_worthOf_X6_has : GoodIn wsX6_worthOf wsX6_has := goodIn_r _ [6] (by decide +kernel) (by decide +kernel)
set_option maxRecDepth 20000 in
theorem gX6_worthOf_X6_has : GoodIn wsX6_worthOf (va_wsS RX6 195 yX6_has wsX6_has) := goodIn_app (goodIn_of _ (by decide +kernel)) ggX6_worthOf_X6_has
set_option maxRecDepth 20000 in
theorem ggX6_doneBy_X6_begin : GoodIn wsX6_doneBy wsX6_begin := goodIn_r _ [7, 2, 8, 42, 43, 44, 45, 46, 47, 48, 49, 50, 51, 52, 53, 54, 55, 56, 57, 58, 59, 60, 61, 62, 63, 64, 65, 66, 67, 68, 69, 70, 71, 72, 73, 74, 75, 76, 77, 78, 79] (by decide +kernel) (by decide +kernel)
set_option maxRecDepth 20000 in
theorem gX6_doneBy_X6_begin : GoodIn wsX6_doneBy (wsV RX6 188 RX6 yX6_begin wsX6_begin) := goodIn_app (goodIn_of _ (by decide +kernel)) ggX6_doneBy_X6_begin
set_option maxRecDepth 20000 in
theorem ggX6_doneBy_X6_has : GoodIn wsX6_doneBy wsX6_has := goodIn_r _ [11] (by decide +kernel) (by decide +kernel)
set_option maxRecDepth 20000 in
theorem gX6_doneBy_X6_has : GoodIn wsX6_doneBy (va_wsS RX6 195 yX6_has wsX6_has) := goodIn_app (goodIn_of _ (by decide +kernel)) ggX6_doneBy_X6_has
set_option maxRecDepth 20000 in
theorem ggX6_doneBy_X6_goPledge : GoodIn wsX6_doneBy wsX6_goPledge := goodIn_r _ [15, 16, 17, 42, 43, 44, 45, 46, 47, 48, 49, 50, 51, 52, 53, 54, 55, 56, 57, 58, 59, 60, 61, 62, 63, 64, 65, 66, 67, 68, 69, 70, 71, 72, 73, 74, 75, 76, 77, 78, 79] (by decide +kernel) (by decide +kernel)
set_option maxRecDepth 20000 in
theorem gX6_doneBy_X6_goPledge : GoodIn wsX6_doneBy (wsV RX6 174 RX6 yX6_goPledge wsX6_goPledge) := goodIn_app (goodIn_of _ (by decide +kernel)) ggX6_doneBy_X6_goPledge
set_option maxRecDepth 20000 in
theorem ggX6_doneBy_X6_goDays : GoodIn wsX6_doneBy wsX6_goDays := goodIn_r _ [21, 2, 22, 23, 24, 6, 25, 26, 27, 28, 17, 29, 1, 30, 42, 43, 44, 45, 46, 47, 48, 49, 50, 51, 52, 53, 54, 55, 56, 57, 58, 59, 60, 61, 62, 63, 64, 65, 66, 67, 68, 69, 70, 71, 72, 73, 74, 75, 76, 77, 78, 79] (by decide +kernel) (by decide +kernel)
set_option maxRecDepth 20000 in
theorem gX6_doneBy_X6_goDays : GoodIn wsX6_doneBy (wsV RX6 191 RX6 yX6_goDays wsX6_goDays) := goodIn_app (goodIn_of _ (by decide +kernel)) ggX6_doneBy_X6_goDays
set_option maxRecDepth 20000 in
theorem ggX6_doneBy_X6_deedsThat : GoodIn wsX6_doneBy wsX6_deedsThat := goodIn_r _ [34, 26, 42, 43, 44, 45, 46, 47, 48, 49, 50, 51, 52, 53, 54, 55, 56, 57, 58, 59, 60, 61, 62, 63, 64, 65, 66, 67, 68, 69, 70, 71, 72, 73, 74, 75, 76, 77, 78, 79] (by decide +kernel) (by decide +kernel)
set_option maxRecDepth 20000 in
theorem gX6_doneBy_X6_deedsThat : GoodIn wsX6_doneBy (wsV RX6 141 RX6 yX6_deedsThat wsX6_deedsThat) := goodIn_app (goodIn_of _ (by decide +kernel)) ggX6_doneBy_X6_deedsThat
set_option maxRecDepth 20000 in
theorem ggX6_doneBy_X6_deedsOf : GoodIn wsX6_doneBy wsX6_deedsOf := goodIn_r _ [38, 26, 17, 28, 42, 43, 44, 45, 46, 47, 48, 49, 50, 51, 52, 53, 54, 55, 56, 57, 58, 59, 60, 61, 62, 63, 64, 65, 66, 67, 68, 69, 70, 71, 72, 73, 74, 75, 76, 77, 78, 79] (by decide +kernel) (by decide +kernel)
set_option maxRecDepth 20000 in
theorem gX6_doneBy_X6_deedsOf : GoodIn wsX6_doneBy (wsV RX6 155 RX6 yX6_deedsOf wsX6_deedsOf) := goodIn_app (goodIn_of _ (by decide +kernel)) ggX6_doneBy_X6_deedsOf
set_option maxRecDepth 20000 in
theorem ggX6_doneBy_X6_many : GoodIn wsX6_doneBy wsX6_many := goodIn_r _ [41] (by decide +kernel) (by decide +kernel)
set_option maxRecDepth 20000 in
theorem gX6_doneBy_X6_many : GoodIn wsX6_doneBy (va_wsS RX6 199 yX6_many wsX6_many) := goodIn_app (goodIn_of _ (by decide +kernel)) ggX6_doneBy_X6_many
set_option maxRecDepth 20000 in
theorem ggX6_raise_X6_noPerson : GoodIn wsX6_raise wsX6_noPerson := goodIn_r _ [11, 12, 13, 14, 10, 15, 70, 71, 72, 73, 74, 75, 76, 77, 78, 79, 80, 81, 82, 83, 84, 85, 86, 87, 88, 89, 90, 91, 92, 93, 94, 95, 96, 97, 98, 99, 100, 101, 102, 103, 104, 105, 106, 107] (by decide +kernel) (by decide +kernel)
set_option maxRecDepth 20000 in
theorem gX6_raise_X6_noPerson : GoodIn wsX6_raise (wsV RX6 147 RX6 yX6_noPerson wsX6_noPerson) := goodIn_app (goodIn_of _ (by decide +kernel)) ggX6_raise_X6_noPerson
set_option maxRecDepth 20000 in
theorem ggX6_raise_X6_in : GoodIn wsX6_raise wsX6_in := goodIn_r _ [15] (by decide +kernel) (by decide +kernel)
set_option maxRecDepth 20000 in
theorem gX6_raise_X6_in : GoodIn wsX6_raise (va_wsS RX6 75 yX6_in wsX6_in) := goodIn_app (goodIn_of _ (by decide +kernel)) ggX6_raise_X6_in
set_option maxRecDepth 20000 in
theorem ggX6_raise_X6_thatAre : GoodIn wsX6_raise wsX6_thatAre := goodIn_r _ [19, 6, 70, 71, 72, 73, 74, 75, 76, 77, 78, 79, 80, 81, 82, 83, 84, 85, 86, 87, 88, 89, 90, 91, 92, 93, 94, 95, 96, 97, 98, 99, 100, 101, 102, 103, 104, 105, 106, 107] (by decide +kernel) (by decide +kernel)
set_option maxRecDepth 20000 in
theorem gX6_raise_X6_thatAre : GoodIn wsX6_raise (wsV RX6 137 RX6 yX6_thatAre wsX6_thatAre) := goodIn_app (goodIn_of _ (by decide +kernel)) ggX6_raise_X6_thatAre
set_option maxRecDepth 20000 in
theorem ggX6_raise_X6_ownOf : GoodIn wsX6_raise wsX6_ownOf := goodIn_r _ [23, 6, 24, 70, 71, 72, 73, 74, 75, 76, 77, 78, 79, 80, 81, 82, 83, 84, 85, 86, 87, 88, 89, 90, 91, 92, 93, 94, 95, 96, 97, 98, 99, 100, 101, 102, 103, 104, 105, 106, 107] (by decide +kernel) (by decide +kernel)
set_option maxRecDepth 20000 in
theorem gX6_raise_X6_ownOf : GoodIn wsX6_raise (wsV RX6 151 RX6 yX6_ownOf wsX6_ownOf) := goodIn_app (goodIn_of _ (by decide +kernel)) ggX6_raise_X6_ownOf
set_option maxRecDepth 20000 in
theorem ggX6_raise_X6_worthOf : GoodIn wsX6_raise wsX6_worthOf := goodIn_r _ [28, 6, 29, 30, 31, 10, 32, 70, 71, 72, 73, 74, 75, 76, 77, 78, 79, 80, 81, 82, 83, 84, 85, 86, 87, 88, 89, 90, 91, 92, 93, 94, 95, 96, 97, 98, 99, 100, 101, 102, 103, 104, 105, 106, 107] (by decide +kernel) (by decide +kernel)
set_option maxRecDepth 20000 in
theorem gX6_raise_X6_worthOf : GoodIn wsX6_raise (wsV RX6 210 RX6 yX6_worthOf wsX6_worthOf) := goodIn_app (goodIn_of _ (by decide +kernel)) ggX6_raise_X6_worthOf
set_option maxRecDepth 20000 in
theorem ggX6_raise_X6_doneBy : GoodIn wsX6_raise wsX6_doneBy := goodIn_r _ [36, 6, 37, 38, 39, 40, 10, 41, 3, 30, 31, 32, 42, 43, 44, 45, 29, 24, 46, 47, 48, 49, 50, 51, 52, 53, 54, 55, 56, 57, 58, 59, 60, 61, 62, 63, 64, 65, 66, 67, 68, 69, 70, 71, 72, 73, 74, 75, 76, 77, 78, 79, 80, 81, 82, 83, 84, 85, 86, 87, 88, 89, 90, 91, 92, 93, 94, 95, 96, 97, 98, 99, 100, 101, 102, 103, 104, 105, 106, 107] (by decide +kernel) (by decide +kernel)
set_option maxRecDepth 20000 in
theorem gX6_raise_X6_doneBy : GoodIn wsX6_raise (wsV RX6 213 RX6 yX6_doneBy wsX6_doneBy) := goodIn_app (goodIn_of _ (by decide +kernel)) ggX6_raise_X6_doneBy
set_option maxRecDepth 20000 in
theorem ggX6_raise_X6_many : GoodIn wsX6_raise wsX6_many := goodIn_r _ [69] (by decide +kernel) (by decide +kernel)
set_option maxRecDepth 20000 in
theorem gX6_raise_X6_many : GoodIn wsX6_raise (va_wsS RX6 199 yX6_many wsX6_many) := goodIn_app (goodIn_of _ (by decide +kernel)) ggX6_raise_X6_many
set_option maxRecDepth 20000 in
theorem ggX6_back_X6_noQuality : GoodIn wsX6_back wsX6_noQuality := goodIn_r _ [8, 9, 10, 11, 7, 12, 39, 40, 41, 42, 43, 44, 45, 46, 47, 48, 49, 50, 51, 52, 53, 54, 55, 56, 57, 58, 59, 60, 61, 62, 63, 64, 65, 66, 67, 68, 69, 70, 71, 72, 73, 74, 75, 76] (by decide +kernel) (by decide +kernel)
set_option maxRecDepth 20000 in
theorem gX6_back_X6_noQuality : GoodIn wsX6_back (wsV RX6 158 RX6 yX6_noQuality wsX6_noQuality) := goodIn_app (goodIn_of _ (by decide +kernel)) ggX6_back_X6_noQuality
set_option maxRecDepth 20000 in
theorem ggX6_back_X6_begin : GoodIn wsX6_back wsX6_begin := goodIn_r _ [16, 3, 2, 39, 40, 41, 42, 43, 44, 45, 46, 47, 48, 49, 50, 51, 52, 53, 54, 55, 56, 57, 58, 59, 60, 61, 62, 63, 64, 65, 66, 67, 68, 69, 70, 71, 72, 73, 74, 75, 76] (by decide +kernel) (by decide +kernel)
set_option maxRecDepth 20000 in
theorem gX6_back_X6_begin : GoodIn wsX6_back (wsV RX6 188 RX6 yX6_begin wsX6_begin) := goodIn_app (goodIn_of _ (by decide +kernel)) ggX6_back_X6_begin
set_option maxRecDepth 20000 in
theorem ggX6_back_X6_canRedeem : GoodIn wsX6_back wsX6_canRedeem := goodIn_r _ [20, 21, 22, 23, 24, 7, 25, 26, 27, 28, 29, 30, 39, 40, 41, 42, 43, 44, 45, 46, 47, 48, 49, 50, 51, 52, 53, 54, 55, 56, 57, 58, 59, 60, 61, 62, 63, 64, 65, 66, 67, 68, 69, 70, 71, 72, 73, 74, 75, 76] (by decide +kernel) (by decide +kernel)
set_option maxRecDepth 20000 in
theorem gX6_back_X6_canRedeem : GoodIn wsX6_back (wsV RX6 178 RX6 yX6_canRedeem wsX6_canRedeem) := goodIn_app (goodIn_of _ (by decide +kernel)) ggX6_back_X6_canRedeem
set_option maxRecDepth 20000 in
theorem ggX6_back_X6_goDay : GoodIn wsX6_back wsX6_goDay := goodIn_r _ [34, 35, 36, 37, 21, 38, 9, 27, 39, 40, 41, 42, 43, 44, 45, 46, 47, 48, 49, 50, 51, 52, 53, 54, 55, 56, 57, 58, 59, 60, 61, 62, 63, 64, 65, 66, 67, 68, 69, 70, 71, 72, 73, 74, 75, 76] (by decide +kernel) (by decide +kernel)
set_option maxRecDepth 20000 in
theorem gX6_back_X6_goDay : GoodIn wsX6_back (wsV RX6 133 RX6 yX6_goDay wsX6_goDay) := goodIn_app (goodIn_of _ (by decide +kernel)) ggX6_back_X6_goDay
set_option maxRecDepth 20000 in
theorem ggX6_doesTo_X6_noDeed : GoodIn wsX6_doesTo wsX6_noDeed := goodIn_r _ [6, 7, 8, 9, 5, 10, 42, 43, 44, 45, 46, 47, 48, 49, 50, 51, 52, 53, 54, 55, 56, 57, 58, 59, 60, 61, 62, 63, 64, 65, 66, 67, 68, 69, 70, 71, 72, 73, 74, 75, 76, 77, 78, 79] (by decide +kernel) (by decide +kernel)
set_option maxRecDepth 20000 in
theorem gX6_doesTo_X6_noDeed : GoodIn wsX6_doesTo (wsV RX6 164 RX6 yX6_noDeed wsX6_noDeed) := goodIn_app (goodIn_of _ (by decide +kernel)) ggX6_doesTo_X6_noDeed
set_option maxRecDepth 20000 in
theorem ggX6_doesTo_X6_noQuality : GoodIn wsX6_doesTo wsX6_noQuality := goodIn_r _ [14, 15, 8, 9, 5, 10, 42, 43, 44, 45, 46, 47, 48, 49, 50, 51, 52, 53, 54, 55, 56, 57, 58, 59, 60, 61, 62, 63, 64, 65, 66, 67, 68, 69, 70, 71, 72, 73, 74, 75, 76, 77, 78, 79] (by decide +kernel) (by decide +kernel)
set_option maxRecDepth 20000 in
theorem gX6_doesTo_X6_noQuality : GoodIn wsX6_doesTo (wsV RX6 158 RX6 yX6_noQuality wsX6_noQuality) := goodIn_app (goodIn_of _ (by decide +kernel)) ggX6_doesTo_X6_noQuality
set_option maxRecDepth 20000 in
theorem ggX6_doesTo_X6_canPledge : GoodIn wsX6_doesTo wsX6_canPledge := goodIn_r _ [19, 20, 42, 43, 44, 45, 46, 47, 48, 49, 50, 51, 52, 53, 54, 55, 56, 57, 58, 59, 60, 61, 62, 63, 64, 65, 66, 67, 68, 69, 70, 71, 72, 73, 74, 75, 76, 77, 78, 79] (by decide +kernel) (by decide +kernel)
set_option maxRecDepth 20000 in
theorem gX6_doesTo_X6_canPledge : GoodIn wsX6_doesTo (wsV RX6 170 RX6 yX6_canPledge wsX6_canPledge) := goodIn_app (goodIn_of _ (by decide +kernel)) ggX6_doesTo_X6_canPledge
set_option maxRecDepth 20000 in
theorem ggX6_doesTo_X6_goPledge : GoodIn wsX6_doesTo wsX6_goPledge := goodIn_r _ [24, 20, 25, 42, 43, 44, 45, 46, 47, 48, 49, 50, 51, 52, 53, 54, 55, 56, 57, 58, 59, 60, 61, 62, 63, 64, 65, 66, 67, 68, 69, 70, 71, 72, 73, 74, 75, 76, 77, 78, 79] (by decide +kernel) (by decide +kernel)
set_option maxRecDepth 20000 in
theorem gX6_doesTo_X6_goPledge : GoodIn wsX6_doesTo (wsV RX6 174 RX6 yX6_goPledge wsX6_goPledge) := goodIn_app (goodIn_of _ (by decide +kernel)) ggX6_doesTo_X6_goPledge
set_option maxRecDepth 20000 in
theorem ggX6_doesTo_X6_canRedeem : GoodIn wsX6_doesTo wsX6_canRedeem := goodIn_r _ [29, 25, 30, 31, 32, 5, 33, 20, 34, 35, 36, 37, 42, 43, 44, 45, 46, 47, 48, 49, 50, 51, 52, 53, 54, 55, 56, 57, 58, 59, 60, 61, 62, 63, 64, 65, 66, 67, 68, 69, 70, 71, 72, 73, 74, 75, 76, 77, 78, 79] (by decide +kernel) (by decide +kernel)
set_option maxRecDepth 20000 in
theorem gX6_doesTo_X6_canRedeem : GoodIn wsX6_doesTo (wsV RX6 178 RX6 yX6_canRedeem wsX6_canRedeem) := goodIn_app (goodIn_of _ (by decide +kernel)) ggX6_doesTo_X6_canRedeem
set_option maxRecDepth 20000 in
theorem ggX6_doesTo_X6_goRedeem : GoodIn wsX6_doesTo wsX6_goRedeem := goodIn_r _ [41, 25, 30, 31, 32, 5, 33, 20, 34, 35, 36, 37, 42, 43, 44, 45, 46, 47, 48, 49, 50, 51, 52, 53, 54, 55, 56, 57, 58, 59, 60, 61, 62, 63, 64, 65, 66, 67, 68, 69, 70, 71, 72, 73, 74, 75, 76, 77, 78, 79] (by decide +kernel) (by decide +kernel)
set_option maxRecDepth 20000 in
theorem gX6_doesTo_X6_goRedeem : GoodIn wsX6_doesTo (wsV RX6 181 RX6 yX6_goRedeem wsX6_goRedeem) := goodIn_app (goodIn_of _ (by decide +kernel)) ggX6_doesTo_X6_goRedeem
set_option maxRecDepth 20000 in
theorem ggX6_does_X6_goDay : GoodIn wsX6_does wsX6_goDay := goodIn_r _ [6, 7, 8, 9, 10, 11, 12, 13, 58, 59, 60, 61, 62, 63, 64, 65, 66, 67, 68, 69, 70, 71, 72, 73, 74, 75, 76, 77, 78, 79, 80, 81, 82, 83, 84, 85, 86, 87, 88, 89, 90, 91, 92, 93, 94, 95] (by decide +kernel) (by decide +kernel)
set_option maxRecDepth 20000 in
theorem gX6_does_X6_goDay : GoodIn wsX6_does (wsV RX6 133 RX6 yX6_goDay wsX6_goDay) := goodIn_app (goodIn_of _ (by decide +kernel)) ggX6_does_X6_goDay
set_option maxRecDepth 20000 in
theorem ggX6_does_X6_noPerson : GoodIn wsX6_does wsX6_noPerson := goodIn_r _ [17, 18, 19, 20, 5, 21, 58, 59, 60, 61, 62, 63, 64, 65, 66, 67, 68, 69, 70, 71, 72, 73, 74, 75, 76, 77, 78, 79, 80, 81, 82, 83, 84, 85, 86, 87, 88, 89, 90, 91, 92, 93, 94, 95] (by decide +kernel) (by decide +kernel)
set_option maxRecDepth 20000 in
theorem gX6_does_X6_noPerson : GoodIn wsX6_does (wsV RX6 147 RX6 yX6_noPerson wsX6_noPerson) := goodIn_app (goodIn_of _ (by decide +kernel)) ggX6_does_X6_noPerson
set_option maxRecDepth 20000 in
theorem ggX6_does_X6_doesTo : GoodIn wsX6_does wsX6_doesTo := goodIn_r _ [25, 1, 26, 27, 28, 5, 29, 7, 19, 20, 21, 30, 31, 32, 33, 12, 34, 35, 36, 37, 38, 39, 40, 41, 42, 10, 43, 44, 45, 46, 47, 48, 49, 50, 13, 51, 52, 53, 54, 55, 56, 57, 58, 59, 60, 61, 62, 63, 64, 65, 66, 67, 68, 69, 70, 71, 72, 73, 74, 75, 76, 77, 78, 79, 80, 81, 82, 83, 84, 85, 86, 87, 88, 89, 90, 91, 92, 93, 94, 95] (by decide +kernel) (by decide +kernel)
set_option maxRecDepth 20000 in
theorem gX6_does_X6_doesTo : GoodIn wsX6_does (wsV RX6 216 RX6 yX6_doesTo wsX6_doesTo) := goodIn_app (goodIn_of _ (by decide +kernel)) ggX6_does_X6_doesTo
set_option maxRecDepth 20000 in
theorem ggX6_judge_X6_in : GoodIn wsX6_judge wsX6_in := goodIn_r _ [7] (by decide +kernel) (by decide +kernel)
set_option maxRecDepth 20000 in
theorem gX6_judge_X6_in : GoodIn wsX6_judge (va_wsS RX6 75 yX6_in wsX6_in) := goodIn_app (goodIn_of _ (by decide +kernel)) ggX6_judge_X6_in
set_option maxRecDepth 20000 in
theorem ggX6_judge_X6_longPower : GoodIn wsX6_judge wsX6_longPower := goodIn_r _ [10] (by decide +kernel) (by decide +kernel)
set_option maxRecDepth 20000 in
theorem gX6_judge_X6_longPower : GoodIn wsX6_judge (va_wsS RX6 223 yX6_longPower wsX6_longPower) := goodIn_app (goodIn_of _ (by decide +kernel)) ggX6_judge_X6_longPower
set_option maxRecDepth 20000 in
theorem ggX6_judge_X6_begin : GoodIn wsX6_judge wsX6_begin := goodIn_r _ [14, 15, 16, 73, 74, 75, 76, 77, 78, 79, 80, 81, 82, 83, 84, 85, 86, 87, 88, 89, 90, 91, 92, 93, 94, 95, 96, 97, 98, 99, 100, 101, 102, 103, 104, 105, 106, 107, 108, 109, 110] (by decide +kernel) (by decide +kernel)
set_option maxRecDepth 20000 in
theorem gX6_judge_X6_begin : GoodIn wsX6_judge (wsV RX6 188 RX6 yX6_begin wsX6_begin) := goodIn_app (goodIn_of _ (by decide +kernel)) ggX6_judge_X6_begin
set_option maxRecDepth 20000 in
theorem ggX6_judge_X6_does : GoodIn wsX6_judge wsX6_does := goodIn_r _ [20, 15, 21, 22, 23, 6, 24, 25, 26, 27, 28, 29, 30, 31, 32, 33, 34, 35, 36, 4, 5, 7, 37, 38, 39, 40, 41, 42, 43, 44, 45, 46, 47, 48, 49, 50, 51, 52, 53, 54, 55, 56, 57, 58, 59, 60, 61, 62, 63, 64, 65, 66, 67, 68, 69, 70, 71, 72, 73, 74, 75, 76, 77, 78, 79, 80, 81, 82, 83, 84, 85, 86, 87, 88, 89, 90, 91, 92, 93, 94, 95, 96, 97, 98, 99, 100, 101, 102, 103, 104, 105, 106, 107, 108, 109, 110] (by decide +kernel) (by decide +kernel)
set_option maxRecDepth 20000 in
theorem gX6_judge_X6_does : GoodIn wsX6_judge (wsV RX6 227 RX6 yX6_does wsX6_does) := goodIn_app (goodIn_of _ (by decide +kernel)) ggX6_judge_X6_does
set_option maxRecDepth 20000 in
theorem ggX6_fraction_X6_divisor : GoodIn wsX6_fraction wsX6_divisor := goodIn_r _ [4] (by decide +kernel) (by decide +kernel)
set_option maxRecDepth 20000 in
theorem gX6_fraction_X6_divisor : GoodIn wsX6_fraction (va_wsS RX6 230 yX6_divisor wsX6_divisor) := goodIn_app (goodIn_of _ (by decide +kernel)) ggX6_fraction_X6_divisor
set_option maxRecDepth 20000 in
theorem ggX6_share_X6_noQuality : GoodIn wsX6_share wsX6_noQuality := goodIn_r _ [9, 2, 10, 11, 8, 12, 51, 52, 53, 54, 55, 56, 57, 58, 59, 60, 61, 62, 63, 64, 65, 66, 67, 68, 69, 70, 71, 72, 73, 74, 75, 76, 77, 78, 79, 80, 81, 82, 83, 84, 85, 86, 87, 88] (by decide +kernel) (by decide +kernel)
set_option maxRecDepth 20000 in
theorem gX6_share_X6_noQuality : GoodIn wsX6_share (wsV RX6 158 RX6 yX6_noQuality wsX6_noQuality) := goodIn_app (goodIn_of _ (by decide +kernel)) ggX6_share_X6_noQuality
set_option maxRecDepth 20000 in
theorem ggX6_share_X6_begin : GoodIn wsX6_share wsX6_begin := goodIn_r _ [16, 3, 17, 51, 52, 53, 54, 55, 56, 57, 58, 59, 60, 61, 62, 63, 64, 65, 66, 67, 68, 69, 70, 71, 72, 73, 74, 75, 76, 77, 78, 79, 80, 81, 82, 83, 84, 85, 86, 87, 88] (by decide +kernel) (by decide +kernel)
set_option maxRecDepth 20000 in
theorem gX6_share_X6_begin : GoodIn wsX6_share (wsV RX6 188 RX6 yX6_begin wsX6_begin) := goodIn_app (goodIn_of _ (by decide +kernel)) ggX6_share_X6_begin
set_option maxRecDepth 20000 in
theorem ggX6_share_X6_has : GoodIn wsX6_share wsX6_has := goodIn_r _ [20] (by decide +kernel) (by decide +kernel)
set_option maxRecDepth 20000 in
theorem gX6_share_X6_has : GoodIn wsX6_share (va_wsS RX6 195 yX6_has wsX6_has) := goodIn_app (goodIn_of _ (by decide +kernel)) ggX6_share_X6_has
set_option maxRecDepth 20000 in
theorem ggX6_share_X6_goDays : GoodIn wsX6_share wsX6_goDays := goodIn_r _ [24, 3, 25, 26, 27, 8, 28, 29, 30, 31, 32, 33, 2, 34, 51, 52, 53, 54, 55, 56, 57, 58, 59, 60, 61, 62, 63, 64, 65, 66, 67, 68, 69, 70, 71, 72, 73, 74, 75, 76, 77, 78, 79, 80, 81, 82, 83, 84, 85, 86, 87, 88] (by decide +kernel) (by decide +kernel)
set_option maxRecDepth 20000 in
theorem gX6_share_X6_goDays : GoodIn wsX6_share (wsV RX6 191 RX6 yX6_goDays wsX6_goDays) := goodIn_app (goodIn_of _ (by decide +kernel)) ggX6_share_X6_goDays
set_option maxRecDepth 20000 in
theorem ggX6_share_X6_deedsThat : GoodIn wsX6_share wsX6_deedsThat := goodIn_r _ [38, 29, 51, 52, 53, 54, 55, 56, 57, 58, 59, 60, 61, 62, 63, 64, 65, 66, 67, 68, 69, 70, 71, 72, 73, 74, 75, 76, 77, 78, 79, 80, 81, 82, 83, 84, 85, 86, 87, 88] (by decide +kernel) (by decide +kernel)
set_option maxRecDepth 20000 in
theorem gX6_share_X6_deedsThat : GoodIn wsX6_share (wsV RX6 141 RX6 yX6_deedsThat wsX6_deedsThat) := goodIn_app (goodIn_of _ (by decide +kernel)) ggX6_share_X6_deedsThat
set_option maxRecDepth 20000 in
theorem ggX6_share_X6_many : GoodIn wsX6_share wsX6_many := goodIn_r _ [41] (by decide +kernel) (by decide +kernel)
set_option maxRecDepth 20000 in
theorem gX6_share_X6_many : GoodIn wsX6_share (va_wsS RX6 199 yX6_many wsX6_many) := goodIn_app (goodIn_of _ (by decide +kernel)) ggX6_share_X6_many
set_option maxRecDepth 20000 in
theorem ggX6_share_X6_ways : GoodIn wsX6_share wsX6_ways := goodIn_r _ [44] (by decide +kernel) (by decide +kernel)
set_option maxRecDepth 20000 in
theorem gX6_share_X6_ways : GoodIn wsX6_share (va_wsS RX6 233 yX6_ways wsX6_ways) := goodIn_app (goodIn_of _ (by decide +kernel)) ggX6_share_X6_ways
set_option maxRecDepth 20000 in
theorem ggX6_share_X6_fraction : GoodIn wsX6_share wsX6_fraction := goodIn_r _ [47, 48, 49, 8, 50] (by decide +kernel) (by decide +kernel)
set_option maxRecDepth 20000 in
theorem gX6_share_X6_fraction : GoodIn wsX6_share (va_wsS RX6 236 yX6_fraction wsX6_fraction) := goodIn_app (goodIn_of _ (by decide +kernel)) ggX6_share_X6_fraction
set_option maxRecDepth 20000 in
theorem ggX6_ask_X6_in : GoodIn wsX6_ask wsX6_in := goodIn_r _ [10] (by decide +kernel) (by decide +kernel)
set_option maxRecDepth 20000 in
theorem gX6_ask_X6_in : GoodIn wsX6_ask (va_wsS RX6 75 yX6_in wsX6_in) := goodIn_app (goodIn_of _ (by decide +kernel)) ggX6_ask_X6_in
set_option maxRecDepth 20000 in
theorem ggX6_tickets_X6_in : GoodIn wsX6_tickets wsX6_in := goodIn_r _ [10] (by decide +kernel) (by decide +kernel)
set_option maxRecDepth 20000 in
theorem gX6_tickets_X6_in : GoodIn wsX6_tickets (va_wsS RX6 75 yX6_in wsX6_in) := goodIn_app (goodIn_of _ (by decide +kernel)) ggX6_tickets_X6_in
set_option maxRecDepth 20000 in
theorem ggX6_tickets_X6_dueBy : GoodIn wsX6_tickets wsX6_dueBy := goodIn_r _ [13] (by decide +kernel) (by decide +kernel)
set_option maxRecDepth 20000 in
theorem gX6_tickets_X6_dueBy : GoodIn wsX6_tickets (va_wsS RX6 129 yX6_dueBy wsX6_dueBy) := goodIn_app (goodIn_of _ (by decide +kernel)) ggX6_tickets_X6_dueBy
set_option maxRecDepth 20000 in
theorem ggX6_goBest_X6_canPledge : GoodIn wsX6_goBest wsX6_canPledge := goodIn_r _ [9, 4, 14, 15, 16, 17, 18, 19, 20, 21, 22, 23, 24, 25, 26, 27, 28, 29, 30, 31, 32, 33, 34, 35, 36, 37, 38, 39, 40, 41, 42, 43, 44, 45, 46, 47, 48, 49, 50, 51] (by decide +kernel) (by decide +kernel)
set_option maxRecDepth 20000 in
theorem gX6_goBest_X6_canPledge : GoodIn wsX6_goBest (wsV RX6 170 RX6 yX6_canPledge wsX6_canPledge) := goodIn_app (goodIn_of _ (by decide +kernel)) ggX6_goBest_X6_canPledge
set_option maxRecDepth 20000 in
theorem ggX6_goBest_X6_goPledge : GoodIn wsX6_goBest wsX6_goPledge := goodIn_r _ [13, 4, 2, 14, 15, 16, 17, 18, 19, 20, 21, 22, 23, 24, 25, 26, 27, 28, 29, 30, 31, 32, 33, 34, 35, 36, 37, 38, 39, 40, 41, 42, 43, 44, 45, 46, 47, 48, 49, 50, 51] (by decide +kernel) (by decide +kernel)
set_option maxRecDepth 20000 in
theorem gX6_goBest_X6_goPledge : GoodIn wsX6_goBest (wsV RX6 174 RX6 yX6_goPledge wsX6_goPledge) := goodIn_app (goodIn_of _ (by decide +kernel)) ggX6_goBest_X6_goPledge
set_option maxRecDepth 20000 in
theorem ggX6_rests_X6_noPerson : GoodIn wsX6_rests wsX6_noPerson := goodIn_r _ [10, 11, 12, 13, 9, 14, 59, 60, 61, 62, 63, 64, 65, 66, 67, 68, 69, 70, 71, 72, 73, 74, 75, 76, 77, 78, 79, 80, 81, 82, 83, 84, 85, 86, 87, 88, 89, 90, 91, 92, 93, 94, 95, 96] (by decide +kernel) (by decide +kernel)
set_option maxRecDepth 20000 in
theorem gX6_rests_X6_noPerson : GoodIn wsX6_rests (wsV RX6 147 RX6 yX6_noPerson wsX6_noPerson) := goodIn_app (goodIn_of _ (by decide +kernel)) ggX6_rests_X6_noPerson
set_option maxRecDepth 20000 in
theorem ggX6_rests_X6_in : GoodIn wsX6_rests wsX6_in := goodIn_r _ [14] (by decide +kernel) (by decide +kernel)
set_option maxRecDepth 20000 in
theorem gX6_rests_X6_in : GoodIn wsX6_rests (va_wsS RX6 75 yX6_in wsX6_in) := goodIn_app (goodIn_of _ (by decide +kernel)) ggX6_rests_X6_in
set_option maxRecDepth 20000 in
theorem ggX6_rests_X6_begin : GoodIn wsX6_rests wsX6_begin := goodIn_r _ [18, 2, 19, 59, 60, 61, 62, 63, 64, 65, 66, 67, 68, 69, 70, 71, 72, 73, 74, 75, 76, 77, 78, 79, 80, 81, 82, 83, 84, 85, 86, 87, 88, 89, 90, 91, 92, 93, 94, 95, 96] (by decide +kernel) (by decide +kernel)
set_option maxRecDepth 20000 in
theorem gX6_rests_X6_begin : GoodIn wsX6_rests (wsV RX6 188 RX6 yX6_begin wsX6_begin) := goodIn_app (goodIn_of _ (by decide +kernel)) ggX6_rests_X6_begin
set_option maxRecDepth 20000 in
theorem ggX6_rests_X6_goBest : GoodIn wsX6_rests wsX6_goBest := goodIn_r _ [23, 24, 25, 2, 26, 27, 28, 29, 9, 30, 31, 32, 33, 34, 59, 60, 61, 62, 63, 64, 65, 66, 67, 68, 69, 70, 71, 72, 73, 74, 75, 76, 77, 78, 79, 80, 81, 82, 83, 84, 85, 86, 87, 88, 89, 90, 91, 92, 93, 94, 95, 96] (by decide +kernel) (by decide +kernel)
set_option maxRecDepth 20000 in
theorem gX6_rests_X6_goBest : GoodIn wsX6_rests (wsV RX6 250 RX6 yX6_goBest wsX6_goBest) := goodIn_app (goodIn_of _ (by decide +kernel)) ggX6_rests_X6_goBest
set_option maxRecDepth 20000 in
theorem ggX6_rests_X6_goDays : GoodIn wsX6_rests wsX6_goDays := goodIn_r _ [38, 2, 39, 40, 41, 9, 42, 43, 44, 45, 25, 46, 24, 47, 59, 60, 61, 62, 63, 64, 65, 66, 67, 68, 69, 70, 71, 72, 73, 74, 75, 76, 77, 78, 79, 80, 81, 82, 83, 84, 85, 86, 87, 88, 89, 90, 91, 92, 93, 94, 95, 96] (by decide +kernel) (by decide +kernel)
set_option maxRecDepth 20000 in
theorem gX6_rests_X6_goDays : GoodIn wsX6_rests (wsV RX6 191 RX6 yX6_goDays wsX6_goDays) := goodIn_app (goodIn_of _ (by decide +kernel)) ggX6_rests_X6_goDays
set_option maxRecDepth 20000 in
theorem ggX6_rests_X6_deedsThat : GoodIn wsX6_rests wsX6_deedsThat := goodIn_r _ [51, 43, 59, 60, 61, 62, 63, 64, 65, 66, 67, 68, 69, 70, 71, 72, 73, 74, 75, 76, 77, 78, 79, 80, 81, 82, 83, 84, 85, 86, 87, 88, 89, 90, 91, 92, 93, 94, 95, 96] (by decide +kernel) (by decide +kernel)
set_option maxRecDepth 20000 in
theorem gX6_rests_X6_deedsThat : GoodIn wsX6_rests (wsV RX6 141 RX6 yX6_deedsThat wsX6_deedsThat) := goodIn_app (goodIn_of _ (by decide +kernel)) ggX6_rests_X6_deedsThat
set_option maxRecDepth 20000 in
theorem ggX6_rests_X6_deedsOf : GoodIn wsX6_rests wsX6_deedsOf := goodIn_r _ [55, 43, 25, 45, 59, 60, 61, 62, 63, 64, 65, 66, 67, 68, 69, 70, 71, 72, 73, 74, 75, 76, 77, 78, 79, 80, 81, 82, 83, 84, 85, 86, 87, 88, 89, 90, 91, 92, 93, 94, 95, 96] (by decide +kernel) (by decide +kernel)
set_option maxRecDepth 20000 in
theorem gX6_rests_X6_deedsOf : GoodIn wsX6_rests (wsV RX6 155 RX6 yX6_deedsOf wsX6_deedsOf) := goodIn_app (goodIn_of _ (by decide +kernel)) ggX6_rests_X6_deedsOf
set_option maxRecDepth 20000 in
theorem ggX6_rests_X6_many : GoodIn wsX6_rests wsX6_many := goodIn_r _ [58] (by decide +kernel) (by decide +kernel)
set_option maxRecDepth 20000 in
theorem gX6_rests_X6_many : GoodIn wsX6_rests (va_wsS RX6 199 yX6_many wsX6_many) := goodIn_app (goodIn_of _ (by decide +kernel)) ggX6_rests_X6_many
set_option maxRecDepth 20000 in
theorem ggX6_sales_X6_in : GoodIn wsX6_sales wsX6_in := goodIn_r _ [10] (by decide +kernel) (by decide +kernel)
set_option maxRecDepth 20000 in
theorem gX6_sales_X6_in : GoodIn wsX6_sales (va_wsS RX6 75 yX6_in wsX6_in) := goodIn_app (goodIn_of _ (by decide +kernel)) ggX6_sales_X6_in
set_option maxRecDepth 20000 in
theorem ggX6_sales_X6_thatAre : GoodIn wsX6_sales wsX6_thatAre := goodIn_r _ [14, 5, 52, 53, 54, 55, 56, 57, 58, 59, 60, 61, 62, 63, 64, 65, 66, 67, 68, 69, 70, 71, 72, 73, 74, 75, 76, 77, 78, 79, 80, 81, 82, 83, 84, 85, 86, 87, 88, 89] (by decide +kernel) (by decide +kernel)
set_option maxRecDepth 20000 in
theorem gX6_sales_X6_thatAre : GoodIn wsX6_sales (wsV RX6 137 RX6 yX6_thatAre wsX6_thatAre) := goodIn_app (goodIn_of _ (by decide +kernel)) ggX6_sales_X6_thatAre
set_option maxRecDepth 20000 in
theorem ggX6_sales_X6_many : GoodIn wsX6_sales wsX6_many := goodIn_r _ [17] (by decide +kernel) (by decide +kernel)
set_option maxRecDepth 20000 in
theorem gX6_sales_X6_many : GoodIn wsX6_sales (va_wsS RX6 199 yX6_many wsX6_many) := goodIn_app (goodIn_of _ (by decide +kernel)) ggX6_sales_X6_many
set_option maxRecDepth 20000 in
theorem ggX6_sales_X6_begin : GoodIn wsX6_sales wsX6_begin := goodIn_r _ [21, 6, 4, 52, 53, 54, 55, 56, 57, 58, 59, 60, 61, 62, 63, 64, 65, 66, 67, 68, 69, 70, 71, 72, 73, 74, 75, 76, 77, 78, 79, 80, 81, 82, 83, 84, 85, 86, 87, 88, 89] (by decide +kernel) (by decide +kernel)
set_option maxRecDepth 20000 in
theorem gX6_sales_X6_begin : GoodIn wsX6_sales (wsV RX6 188 RX6 yX6_begin wsX6_begin) := goodIn_app (goodIn_of _ (by decide +kernel)) ggX6_sales_X6_begin
set_option maxRecDepth 20000 in
theorem ggX6_sales_X6_has : GoodIn wsX6_sales wsX6_has := goodIn_r _ [24] (by decide +kernel) (by decide +kernel)
set_option maxRecDepth 20000 in
theorem gX6_sales_X6_has : GoodIn wsX6_sales (va_wsS RX6 195 yX6_has wsX6_has) := goodIn_app (goodIn_of _ (by decide +kernel)) ggX6_sales_X6_has
set_option maxRecDepth 20000 in
theorem ggX6_sales_X6_goDays : GoodIn wsX6_sales wsX6_goDays := goodIn_r _ [28, 6, 29, 30, 31, 9, 32, 33, 34, 35, 36, 37, 5, 38, 52, 53, 54, 55, 56, 57, 58, 59, 60, 61, 62, 63, 64, 65, 66, 67, 68, 69, 70, 71, 72, 73, 74, 75, 76, 77, 78, 79, 80, 81, 82, 83, 84, 85, 86, 87, 88, 89] (by decide +kernel) (by decide +kernel)
set_option maxRecDepth 20000 in
theorem gX6_sales_X6_goDays : GoodIn wsX6_sales (wsV RX6 191 RX6 yX6_goDays wsX6_goDays) := goodIn_app (goodIn_of _ (by decide +kernel)) ggX6_sales_X6_goDays
set_option maxRecDepth 20000 in
theorem ggX6_sales_X6_deedsThat : GoodIn wsX6_sales wsX6_deedsThat := goodIn_r _ [42, 33, 52, 53, 54, 55, 56, 57, 58, 59, 60, 61, 62, 63, 64, 65, 66, 67, 68, 69, 70, 71, 72, 73, 74, 75, 76, 77, 78, 79, 80, 81, 82, 83, 84, 85, 86, 87, 88, 89] (by decide +kernel) (by decide +kernel)
set_option maxRecDepth 20000 in
theorem gX6_sales_X6_deedsThat : GoodIn wsX6_sales (wsV RX6 141 RX6 yX6_deedsThat wsX6_deedsThat) := goodIn_app (goodIn_of _ (by decide +kernel)) ggX6_sales_X6_deedsThat
set_option maxRecDepth 20000 in
theorem ggX6_sales_X6_power : GoodIn wsX6_sales wsX6_power := goodIn_r _ [45] (by decide +kernel) (by decide +kernel)
set_option maxRecDepth 20000 in
theorem gX6_sales_X6_power : GoodIn wsX6_sales (va_wsS RX6 263 yX6_power wsX6_power) := goodIn_app (goodIn_of _ (by decide +kernel)) ggX6_sales_X6_power
set_option maxRecDepth 20000 in
theorem ggX6_sales_X6_fraction : GoodIn wsX6_sales wsX6_fraction := goodIn_r _ [48, 49, 50, 9, 51] (by decide +kernel) (by decide +kernel)
set_option maxRecDepth 20000 in
theorem gX6_sales_X6_fraction : GoodIn wsX6_sales (va_wsS RX6 236 yX6_fraction wsX6_fraction) := goodIn_app (goodIn_of _ (by decide +kernel)) ggX6_sales_X6_fraction
set_option maxRecDepth 20000 in
theorem ggX6_years_X6_in : GoodIn wsX6_years wsX6_in := goodIn_r _ [12] (by decide +kernel) (by decide +kernel)
set_option maxRecDepth 20000 in
theorem gX6_years_X6_in : GoodIn wsX6_years (va_wsS RX6 75 yX6_in wsX6_in) := goodIn_app (goodIn_of _ (by decide +kernel)) ggX6_years_X6_in
set_option maxRecDepth 20000 in
theorem ggX6_years_X6_begin : GoodIn wsX6_years wsX6_begin := goodIn_r _ [16, 8, 17, 73, 74, 75, 76, 77, 78, 79, 80, 81, 82, 83, 84, 85, 86, 87, 88, 89, 90, 91, 92, 93, 94, 95, 96, 97, 98, 99, 100, 101, 102, 103, 104, 105, 106, 107, 108, 109, 110] (by decide +kernel) (by decide +kernel)
set_option maxRecDepth 20000 in
theorem gX6_years_X6_begin : GoodIn wsX6_years (wsV RX6 188 RX6 yX6_begin wsX6_begin) := goodIn_app (goodIn_of _ (by decide +kernel)) ggX6_years_X6_begin
set_option maxRecDepth 20000 in
theorem ggX6_years_X6_does : GoodIn wsX6_years wsX6_does := goodIn_r _ [21, 8, 22, 23, 24, 11, 25, 26, 27, 28, 29, 30, 31, 32, 33, 34, 35, 36, 7, 9, 10, 12, 37, 38, 39, 40, 41, 42, 43, 44, 45, 46, 47, 48, 49, 50, 51, 52, 53, 54, 55, 56, 57, 58, 59, 60, 61, 62, 63, 64, 65, 66, 67, 68, 69, 70, 71, 72, 73, 74, 75, 76, 77, 78, 79, 80, 81, 82, 83, 84, 85, 86, 87, 88, 89, 90, 91, 92, 93, 94, 95, 96, 97, 98, 99, 100, 101, 102, 103, 104, 105, 106, 107, 108, 109, 110] (by decide +kernel) (by decide +kernel)
set_option maxRecDepth 20000 in
theorem gX6_years_X6_does : GoodIn wsX6_years (wsV RX6 227 RX6 yX6_does wsX6_does) := goodIn_app (goodIn_of _ (by decide +kernel)) ggX6_years_X6_does
set_option maxRecDepth 20000 in
theorem ggX6_keep_X6_in : GoodIn wsX6_keep wsX6_in := goodIn_r _ [8] (by decide +kernel) (by decide +kernel)
set_option maxRecDepth 20000 in
theorem gX6_keep_X6_in : GoodIn wsX6_keep (va_wsS RX6 75 yX6_in wsX6_in) := goodIn_app (goodIn_of _ (by decide +kernel)) ggX6_keep_X6_in
set_option maxRecDepth 20000 in
theorem ggX6_again_X6_in : GoodIn wsX6_again wsX6_in := goodIn_r _ [9] (by decide +kernel) (by decide +kernel)
set_option maxRecDepth 20000 in
theorem gX6_again_X6_in : GoodIn wsX6_again (va_wsS RX6 75 yX6_in wsX6_in) := goodIn_app (goodIn_of _ (by decide +kernel)) ggX6_again_X6_in
