set_option maxRecDepth 20000 in
theorem ggX3_goesThrough_X3_purseOf : GoodIn wsX3_goesThrough wsX3_purseOf := goodIn_r _ [26, 17, 18, 19, 20, 121, 122] (by decide +kernel) (by decide +kernel)
set_option maxRecDepth 20000 in
theorem gX3_goesThrough_X3_purseOf : GoodIn wsX3_goesThrough (wsV RX3 44 RX3 yX3_purseOf wsX3_purseOf) := goodIn_app (goodIn_of _ (by decide +kernel)) ggX3_goesThrough_X3_purseOf
set_option maxRecDepth 20000 in
theorem ggX3_goesThrough_X3_passDay : GoodIn wsX3_goesThrough wsX3_passDay := goodIn_r _ [30, 1, 17, 31, 32, 33, 10, 34, 35, 18, 19, 20, 36, 37, 38, 5, 39, 40, 41, 42, 43, 44, 45, 46, 47, 48, 49, 50, 51, 52, 21, 22, 53, 54, 55, 56, 57, 58, 59, 60, 61, 62, 13, 14, 15, 16, 63, 64, 65, 66, 67, 68, 69, 70, 71, 72, 73, 74, 75, 121, 122, 123, 124, 125, 126, 127, 128, 129, 130, 131, 132, 133] (by decide +kernel) (by decide +kernel)
set_option maxRecDepth 20000 in
theorem gX3_goesThrough_X3_passDay : GoodIn wsX3_goesThrough (wsV RX3 117 RX3 yX3_passDay wsX3_passDay) := goodIn_app (goodIn_of _ (by decide +kernel)) ggX3_goesThrough_X3_passDay
set_option maxRecDepth 20000 in
theorem ggX3_goesThrough_X3_tryPledge : GoodIn wsX3_goesThrough wsX3_tryPledge := goodIn_r _ [79, 1, 17, 80, 81, 82, 5, 83, 84, 85, 86, 10, 87, 88, 49, 50, 51, 52, 18, 19, 20, 89, 90, 91, 92, 93, 94, 95, 96, 97, 53, 54, 55, 56, 57, 13, 14, 15, 16, 21, 22, 36, 37, 38, 39, 121, 122, 123, 124, 125, 126, 127, 128, 129, 130, 131, 132, 133] (by decide +kernel) (by decide +kernel)
set_option maxRecDepth 20000 in
theorem gX3_goesThrough_X3_tryPledge : GoodIn wsX3_goesThrough (wsV RX3 127 RX3 yX3_tryPledge wsX3_tryPledge) := goodIn_app (goodIn_of _ (by decide +kernel)) ggX3_goesThrough_X3_tryPledge
set_option maxRecDepth 20000 in
theorem ggX3_goesThrough_X3_tryRedeem : GoodIn wsX3_goesThrough wsX3_tryRedeem := goodIn_r _ [101, 1, 17, 102, 103, 104, 5, 105, 84, 85, 86, 10, 87, 88, 49, 50, 51, 52, 18, 19, 20, 53, 54, 55, 56, 57, 23, 24, 25, 26, 106, 107, 108, 109, 71, 72, 73, 74, 75, 93, 94, 95, 96, 97, 36, 37, 38, 39, 67, 68, 69, 70, 110, 111, 13, 14, 15, 16, 21, 22, 89, 90, 91, 92, 121, 122, 123, 124, 125, 126, 127, 128, 129, 130, 131, 132, 133] (by decide +kernel) (by decide +kernel)
set_option maxRecDepth 20000 in
theorem gX3_goesThrough_X3_tryRedeem : GoodIn wsX3_goesThrough (wsV RX3 130 RX3 yX3_tryRedeem wsX3_tryRedeem) := goodIn_app (goodIn_of _ (by decide +kernel)) ggX3_goesThrough_X3_tryRedeem
set_option maxRecDepth 20000 in
theorem ggX3_goesThrough_X2_hasDeed : GoodIn wsX3_goesThrough wsX2_hasDeed := goodIn_r _ [115, 116, 123, 124, 125, 126, 127, 128, 129, 130, 131, 132, 133] (by decide +kernel) (by decide +kernel)
set_option maxRecDepth 20000 in
theorem gX3_goesThrough_X2_hasDeed : GoodIn wsX3_goesThrough (wsV RX3 133 RX2 yX2_hasDeed wsX2_hasDeed) := goodIn_app (goodIn_of _ (by decide +kernel)) ggX3_goesThrough_X2_hasDeed
set_option maxRecDepth 20000 in
theorem ggX3_goesThrough_X3_outcomeOf : GoodIn wsX3_goesThrough wsX3_outcomeOf := goodIn_r _ [120, 17, 18, 19, 20, 121, 122] (by decide +kernel) (by decide +kernel)
set_option maxRecDepth 20000 in
theorem gX3_goesThrough_X3_outcomeOf : GoodIn wsX3_goesThrough (wsV RX3 56 RX3 yX3_outcomeOf wsX3_outcomeOf) := goodIn_app (goodIn_of _ (by decide +kernel)) ggX3_goesThrough_X3_outcomeOf
set_option maxRecDepth 20000 in
theorem ggX3_chances_X3_tryPledge : GoodIn wsX3_chances wsX3_tryPledge := goodIn_r _ [5, 6, 7, 8, 9, 10, 4, 11, 12, 13, 14, 15, 16, 17, 18, 19, 20, 21, 22, 23, 24, 25, 26, 27, 28, 29, 30, 31, 32, 33, 34, 35, 36, 37, 38, 39, 40, 41, 42, 43, 44, 45, 46, 47, 48, 112, 113, 114, 115, 116, 117, 118, 119, 120, 121, 122, 123, 124] (by decide +kernel) (by decide +kernel)
set_option maxRecDepth 20000 in
theorem gX3_chances_X3_tryPledge : GoodIn wsX3_chances (wsV RX3 127 RX3 yX3_tryPledge wsX3_tryPledge) := goodIn_app (goodIn_of _ (by decide +kernel)) ggX3_chances_X3_tryPledge
set_option maxRecDepth 20000 in
theorem ggX3_chances_X3_tryRedeem : GoodIn wsX3_chances wsX3_tryRedeem := goodIn_r _ [52, 6, 7, 53, 54, 55, 4, 56, 12, 13, 14, 15, 16, 17, 18, 19, 20, 21, 22, 23, 24, 34, 35, 36, 37, 38, 57, 58, 59, 60, 61, 62, 63, 64, 65, 66, 67, 68, 69, 29, 30, 31, 32, 33, 45, 46, 47, 48, 70, 71, 72, 73, 74, 75, 39, 40, 41, 42, 43, 44, 25, 26, 27, 28, 112, 113, 114, 115, 116, 117, 118, 119, 120, 121, 122, 123, 124] (by decide +kernel) (by decide +kernel)
set_option maxRecDepth 20000 in
theorem gX3_chances_X3_tryRedeem : GoodIn wsX3_chances (wsV RX3 130 RX3 yX3_tryRedeem wsX3_tryRedeem) := goodIn_app (goodIn_of _ (by decide +kernel)) ggX3_chances_X3_tryRedeem
set_option maxRecDepth 20000 in
theorem ggX3_chances_X3_tryGive : GoodIn wsX3_chances wsX3_tryGive := goodIn_r _ [79, 6, 80, 81, 82, 15, 83, 84, 39, 40, 41, 4, 42, 7, 22, 23, 24, 43, 44, 112, 113, 114, 115, 116, 117, 118, 119, 120, 121, 122, 123, 124] (by decide +kernel) (by decide +kernel)
set_option maxRecDepth 20000 in
theorem gX3_chances_X3_tryGive : GoodIn wsX3_chances (wsV RX3 123 RX3 yX3_tryGive wsX3_tryGive) := goodIn_app (goodIn_of _ (by decide +kernel)) ggX3_chances_X3_tryGive
set_option maxRecDepth 20000 in
theorem ggX3_chances_X3_passDay : GoodIn wsX3_chances wsX3_passDay := goodIn_r _ [88, 6, 7, 89, 90, 91, 15, 92, 93, 22, 23, 24, 45, 46, 47, 4, 48, 94, 95, 96, 97, 98, 99, 100, 101, 102, 18, 19, 20, 21, 43, 44, 34, 35, 36, 37, 38, 103, 104, 105, 106, 107, 39, 40, 41, 42, 108, 109, 110, 111, 70, 71, 72, 73, 65, 66, 67, 68, 69, 112, 113, 114, 115, 116, 117, 118, 119, 120, 121, 122, 123, 124] (by decide +kernel) (by decide +kernel)
set_option maxRecDepth 20000 in
theorem gX3_chances_X3_passDay : GoodIn wsX3_chances (wsV RX3 117 RX3 yX3_passDay wsX3_passDay) := goodIn_app (goodIn_of _ (by decide +kernel)) ggX3_chances_X3_passDay
set_option maxRecDepth 20000 in
theorem ggX4_append_X5_put : GoodIn wsX4_append wsX5_put := goodIn_r _ [5] (by decide +kernel) (by decide +kernel)
set_option maxRecDepth 20000 in
theorem gX4_append_X5_put_n19 : GoodIn wsX4_append (wsX5_put) := ggX4_append_X5_put
set_option maxRecDepth 20000 in
theorem ggX4_readInto_X2_clear : GoodIn wsX4_readInto wsX2_clear := goodIn_r _ [7, 8, 9, 10, 11, 65, 66, 67, 68, 69, 70, 71, 72, 73, 74, 75] (by decide +kernel) (by decide +kernel)
set_option maxRecDepth 20000 in
theorem gX4_readInto_X2_clear : GoodIn wsX4_readInto (wsV RX4 23 RX2 yX2_clear wsX2_clear) := goodIn_app (goodIn_of _ (by decide +kernel)) ggX4_readInto_X2_clear
set_option maxRecDepth 20000 in
theorem ggX4_readInto_X4_upcoming : GoodIn wsX4_readInto wsX4_upcoming := goodIn_r _ [16, 1, 2, 17, 18, 19, 20, 62, 63, 64] (by decide +kernel) (by decide +kernel)
set_option maxRecDepth 20000 in
theorem gX4_readInto_X4_upcoming : GoodIn wsX4_readInto (wsV RX4 31 RX4 yX4_upcoming wsX4_upcoming) := goodIn_app (goodIn_of _ (by decide +kernel)) ggX4_readInto_X4_upcoming
set_option maxRecDepth 20000 in
theorem ggX4_readInto_X4_figure : GoodIn wsX4_readInto wsX4_figure := goodIn_r _ [24, 1, 12, 13, 14, 15, 16, 2, 17, 18, 19, 20, 62, 63, 64] (by decide +kernel) (by decide +kernel)
set_option maxRecDepth 20000 in
theorem gX4_readInto_X4_figure : GoodIn wsX4_readInto (wsV RX4 35 RX4 yX4_figure wsX4_figure) := goodIn_app (goodIn_of _ (by decide +kernel)) ggX4_readInto_X4_figure
set_option maxRecDepth 20000 in
theorem ggX4_readInto_X4_readThing : GoodIn wsX4_readInto wsX4_readThing := goodIn_r _ [28, 1, 12, 13, 14, 15, 16, 2, 17, 18, 19, 20, 29, 30, 31, 32, 21, 22, 23, 24, 33, 34, 35, 6, 36, 37, 9, 38, 39, 40, 41, 42, 43, 44, 45, 46, 47, 48, 10, 49, 50, 51, 52, 53, 54, 55, 56, 57, 58, 59, 11, 60, 61, 65, 66, 67, 68, 69, 70, 71, 72, 73, 74, 75, 62, 63, 64] (by decide +kernel) (by decide +kernel)
set_option maxRecDepth 20000 in
theorem gX4_readInto_X4_readThing : GoodIn wsX4_readInto (wsV RX4 42 RX4 yX4_readThing wsX4_readThing) := goodIn_app (goodIn_of _ (by decide +kernel)) ggX4_readInto_X4_readThing
set_option maxRecDepth 20000 in
theorem ggX4_readThing_X4_upcoming : GoodIn wsX4_readThing wsX4_upcoming := goodIn_r _ [6, 1, 7, 8, 9, 10, 11, 64, 65, 66] (by decide +kernel) (by decide +kernel)
set_option maxRecDepth 20000 in
theorem gX4_readThing_X4_upcoming : GoodIn wsX4_readThing (wsV RX4 31 RX4 yX4_upcoming wsX4_upcoming) := goodIn_app (goodIn_of _ (by decide +kernel)) ggX4_readThing_X4_upcoming
set_option maxRecDepth 20000 in
theorem ggX4_readThing_X4_readPerson : GoodIn wsX4_readThing wsX4_readPerson := goodIn_r _ [15, 16, 17, 18, 5, 19, 1, 2, 3, 4, 6, 7, 8, 9, 10, 11, 20, 21, 22, 23, 24, 25, 26, 27, 28, 64, 65, 66, 53, 54, 55, 56, 57, 58, 59, 60, 61, 62, 63] (by decide +kernel) (by decide +kernel)
set_option maxRecDepth 20000 in
theorem gX4_readThing_X4_readPerson : GoodIn wsX4_readThing (wsV RX4 49 RX4 yX4_readPerson wsX4_readPerson) := goodIn_app (goodIn_of _ (by decide +kernel)) ggX4_readThing_X4_readPerson
set_option maxRecDepth 20000 in
theorem ggX4_readThing_X4_readQuality : GoodIn wsX4_readThing wsX4_readQuality := goodIn_r _ [32, 16, 17, 18, 5, 19, 1, 2, 3, 4, 6, 7, 8, 9, 10, 11, 33, 34, 35, 23, 36, 37, 38, 39, 40, 27, 28, 53, 54, 55, 56, 57, 58, 59, 60, 61, 62, 63, 64, 65, 66] (by decide +kernel) (by decide +kernel)
set_option maxRecDepth 20000 in
theorem gX4_readThing_X4_readQuality : GoodIn wsX4_readThing (wsV RX4 55 RX4 yX4_readQuality wsX4_readQuality) := goodIn_app (goodIn_of _ (by decide +kernel)) ggX4_readThing_X4_readQuality
set_option maxRecDepth 20000 in
theorem ggX4_readThing_X4_readDeed : GoodIn wsX4_readThing wsX4_readDeed := goodIn_r _ [44, 16, 17, 18, 5, 19, 1, 2, 3, 4, 6, 7, 8, 9, 10, 11, 45, 46, 47, 23, 48, 49, 50, 51, 52, 27, 28, 53, 54, 55, 56, 57, 58, 59, 60, 61, 62, 63, 64, 65, 66] (by decide +kernel) (by decide +kernel)
set_option maxRecDepth 20000 in
theorem gX4_readThing_X4_readDeed : GoodIn wsX4_readThing (wsV RX4 61 RX4 yX4_readDeed wsX4_readDeed) := goodIn_app (goodIn_of _ (by decide +kernel)) ggX4_readThing_X4_readDeed
set_option maxRecDepth 20000 in
theorem ggX4_readPerson_X4_figure : GoodIn wsX4_readPerson wsX4_figure := goodIn_r _ [5, 6, 7, 8, 9, 4, 10, 11, 12, 13, 14, 15, 25, 26, 27] (by decide +kernel) (by decide +kernel)
set_option maxRecDepth 20000 in
theorem gX4_readPerson_X4_figure : GoodIn wsX4_readPerson (wsV RX4 35 RX4 yX4_figure wsX4_figure) := goodIn_app (goodIn_of _ (by decide +kernel)) ggX4_readPerson_X4_figure
set_option maxRecDepth 20000 in
theorem ggX4_readPerson_X2_addPerson : GoodIn wsX4_readPerson wsX2_addPerson := goodIn_r _ [20, 21, 22, 23, 14, 24, 28, 29, 30, 31, 32, 33, 34, 35, 36, 37, 38] (by decide +kernel) (by decide +kernel)
set_option maxRecDepth 20000 in
theorem gX4_readPerson_X2_addPerson : GoodIn wsX4_readPerson (wsV RX4 64 RX2 yX2_addPerson wsX2_addPerson) := goodIn_app (goodIn_of _ (by decide +kernel)) ggX4_readPerson_X2_addPerson
set_option maxRecDepth 20000 in
theorem ggX4_readQuality_X4_figure : GoodIn wsX4_readQuality wsX4_figure := goodIn_r _ [5, 6, 7, 8, 9, 4, 10, 11, 12, 13, 14, 15, 38, 39, 40] (by decide +kernel) (by decide +kernel)
set_option maxRecDepth 20000 in
theorem gX4_readQuality_X4_figure : GoodIn wsX4_readQuality (wsV RX4 35 RX4 yX4_figure wsX4_figure) := goodIn_app (goodIn_of _ (by decide +kernel)) ggX4_readQuality_X4_figure
set_option maxRecDepth 20000 in
theorem ggX4_readQuality_X2_addQuality : GoodIn wsX4_readQuality wsX2_addQuality := goodIn_r _ [20, 21, 22, 23, 24, 25, 14, 26, 27, 28, 29, 30, 31, 32, 33, 34, 35, 36, 37] (by decide +kernel) (by decide +kernel)
set_option maxRecDepth 20000 in
theorem gX4_readQuality_X2_addQuality : GoodIn wsX4_readQuality (wsV RX4 68 RX2 yX2_addQuality wsX2_addQuality) := goodIn_app (goodIn_of _ (by decide +kernel)) ggX4_readQuality_X2_addQuality
set_option maxRecDepth 20000 in
theorem ggX4_readDeed_X4_figure : GoodIn wsX4_readDeed wsX4_figure := goodIn_r _ [5, 6, 7, 8, 9, 4, 10, 11, 12, 13, 14, 15, 38, 39, 40] (by decide +kernel) (by decide +kernel)
set_option maxRecDepth 20000 in
theorem gX4_readDeed_X4_figure : GoodIn wsX4_readDeed (wsV RX4 35 RX4 yX4_figure wsX4_figure) := goodIn_app (goodIn_of _ (by decide +kernel)) ggX4_readDeed_X4_figure
set_option maxRecDepth 20000 in
theorem ggX4_readDeed_X2_addDeed : GoodIn wsX4_readDeed wsX2_addDeed := goodIn_r _ [20, 21, 22, 23, 24, 25, 14, 26, 27, 28, 29, 30, 31, 32, 33, 34, 35, 36, 37] (by decide +kernel) (by decide +kernel)
set_option maxRecDepth 20000 in
theorem gX4_readDeed_X2_addDeed : GoodIn wsX4_readDeed (wsV RX4 72 RX2 yX2_addDeed wsX2_addDeed) := goodIn_app (goodIn_of _ (by decide +kernel)) ggX4_readDeed_X2_addDeed
set_option maxRecDepth 20000 in
theorem ggX4_upcoming_X5_cell : GoodIn wsX4_upcoming wsX5_cell := goodIn_r _ [6] (by decide +kernel) (by decide +kernel)
set_option maxRecDepth 20000 in
theorem gX4_upcoming_X5_cell_n75 : GoodIn wsX4_upcoming (wsX5_cell) := ggX4_upcoming_X5_cell
set_option maxRecDepth 20000 in
theorem ggX4_figure_X4_upcoming : GoodIn wsX4_figure wsX4_upcoming := goodIn_r _ [6, 1, 7, 8, 9, 10, 11, 12, 13, 14] (by decide +kernel) (by decide +kernel)
set_option maxRecDepth 20000 in
theorem gX4_figure_X4_upcoming : GoodIn wsX4_figure (wsV RX4 31 RX4 yX4_upcoming wsX4_upcoming) := goodIn_app (goodIn_of _ (by decide +kernel)) ggX4_figure_X4_upcoming
set_option maxRecDepth 20000 in
theorem ggX5_init_X4_init : GoodIn wsX5_init wsX4_init := goodIn_r _ [29, 30, 2, 3, 26, 31, 57, 58, 59] (by decide +kernel) (by decide +kernel)
set_option maxRecDepth 20000 in
theorem gX5_init_X4_init_n11 : GoodIn wsX5_init (wsX4_init) := ggX5_init_X4_init
set_option maxRecDepth 20000 in
theorem ggX5_init_X2_init : GoodIn wsX5_init wsX2_init := goodIn_r _ [33, 34, 2, 3, 26, 35, 36, 37, 38, 39, 40, 41, 70, 71, 72, 73, 74, 75, 76, 77, 78, 79, 80] (by decide +kernel) (by decide +kernel)
set_option maxRecDepth 20000 in
theorem gX5_init_X2_init_n18 : GoodIn wsX5_init (wsX2_init) := ggX5_init_X2_init
set_option maxRecDepth 20000 in
theorem ggX5_init_X3_init : GoodIn wsX5_init wsX3_init := goodIn_r _ [44, 45, 2, 3, 26, 46, 47, 81, 82] (by decide +kernel) (by decide +kernel)
set_option maxRecDepth 20000 in
theorem gX5_init_X3_init : GoodIn wsX5_init (wsX3_init) := ggX5_init_X3_init
set_option maxRecDepth 20000 in
theorem ggX5_init_X0_init : GoodIn wsX5_init wsX0_init := goodIn_r _ [49, 50, 2, 3, 26, 51, 83, 84, 85] (by decide +kernel) (by decide +kernel)
set_option maxRecDepth 20000 in
theorem gX5_init_X0_init_n40 : GoodIn wsX5_init (wsX0_init) := ggX5_init_X0_init
set_option maxRecDepth 20000 in
theorem ggX5_init_X1_init : GoodIn wsX5_init wsX1_init := goodIn_r _ [53, 54, 2, 3, 26, 55, 56, 86, 87, 88] (by decide +kernel) (by decide +kernel)
set_option maxRecDepth 20000 in
theorem gX5_init_X1_init_n47 : GoodIn wsX5_init (wsX1_init) := ggX5_init_X1_init
set_option maxRecDepth 20000 in
theorem ggX5_write_X4_append : GoodIn wsX5_write wsX4_append := goodIn_r _ [6, 7, 8, 9, 10, 11, 22, 23, 24] (by decide +kernel) (by decide +kernel)
set_option maxRecDepth 20000 in
theorem gX5_write_X4_append : GoodIn wsX5_write (wsV RX5 60 RX4 yX4_append wsX4_append) := goodIn_app (goodIn_of _ (by decide +kernel)) ggX5_write_X4_append
set_option maxRecDepth 20000 in
theorem ggX5_fault_X4_readInto : GoodIn wsX5_fault wsX4_readInto := goodIn_r _ [7, 8, 9, 10, 11, 12, 13, 14, 15, 16, 17, 18, 19, 20, 21, 6, 22, 23, 24, 25, 26, 27, 28, 29, 30, 31, 32, 33, 34, 35, 36, 37, 38, 39, 40, 41, 42, 43, 44, 45, 46, 47, 48, 49, 50, 51, 52, 53, 54, 55, 56, 57, 58, 59, 60, 61, 62, 63, 64, 65, 66, 67, 78, 79, 80, 81, 82, 83, 84, 85, 86, 87, 88, 89, 90, 91] (by decide +kernel) (by decide +kernel)
set_option maxRecDepth 20000 in
theorem gX5_fault_X4_readInto : GoodIn wsX5_fault (wsV RX5 64 RX4 yX4_readInto wsX4_readInto) := goodIn_app (goodIn_of _ (by decide +kernel)) ggX5_fault_X4_readInto
set_option maxRecDepth 20000 in
theorem ggX5_shop_X4_readInto : GoodIn wsX5_shop wsX4_readInto := goodIn_r _ [11, 12, 13, 14, 15, 16, 17, 18, 19, 20, 21, 22, 23, 24, 25, 10, 26, 27, 28, 29, 30, 31, 32, 33, 34, 35, 36, 37, 38, 39, 40, 41, 42, 43, 44, 45, 46, 47, 48, 49, 50, 51, 52, 53, 54, 55, 56, 57, 58, 59, 60, 61, 62, 63, 64, 65, 66, 67, 68, 69, 70, 71, 110, 111, 112, 99, 100, 101, 102, 103, 104, 105, 106, 107, 108, 109] (by decide +kernel) (by decide +kernel)
set_option maxRecDepth 20000 in
theorem gX5_shop_X4_readInto : GoodIn wsX5_shop (wsV RX5 64 RX4 yX4_readInto wsX4_readInto) := goodIn_app (goodIn_of _ (by decide +kernel)) ggX5_shop_X4_readInto
set_option maxRecDepth 20000 in
theorem ggX5_shop_X3_begin : GoodIn wsX5_shop wsX3_begin := goodIn_r _ [76, 77, 78, 48, 29, 49, 79, 80, 81, 17, 82, 47, 28, 30, 113, 114, 99, 100, 101, 102, 103, 104, 105, 106, 107, 108, 109] (by decide +kernel) (by decide +kernel)
set_option maxRecDepth 20000 in
theorem gX5_shop_X3_begin : GoodIn wsX5_shop (wsV RX5 68 RX3 yX3_begin wsX3_begin) := goodIn_app (goodIn_of _ (by decide +kernel)) ggX5_shop_X3_begin
set_option maxRecDepth 20000 in
theorem ggX5_shop_X0_forget : GoodIn wsX5_shop wsX0_forget := goodIn_r _ [87, 88, 115, 116, 117] (by decide +kernel) (by decide +kernel)
set_option maxRecDepth 20000 in
theorem gX5_shop_X0_forget : GoodIn wsX5_shop (wsV RX5 71 RX0 yX0_forget wsX0_forget) := goodIn_app (goodIn_of _ (by decide +kernel)) ggX5_shop_X0_forget
set_option maxRecDepth 20000 in
theorem ggX5_about_X3_today : GoodIn wsX5_about wsX3_today := goodIn_r _ [10, 11, 12, 13, 14, 66, 67] (by decide +kernel) (by decide +kernel)
set_option maxRecDepth 20000 in
theorem gX5_about_X3_today : GoodIn wsX5_about (wsV RX5 86 RX3 yX3_today wsX3_today) := goodIn_app (goodIn_of _ (by decide +kernel)) ggX5_about_X3_today
set_option maxRecDepth 20000 in
theorem ggX5_about_X3_inTill : GoodIn wsX5_about wsX3_inTill := goodIn_r _ [18, 11, 12, 13, 14, 66, 67] (by decide +kernel) (by decide +kernel)
set_option maxRecDepth 20000 in
theorem gX5_about_X3_inTill : GoodIn wsX5_about (wsV RX5 90 RX3 yX3_inTill wsX3_inTill) := goodIn_app (goodIn_of _ (by decide +kernel)) ggX5_about_X3_inTill
set_option maxRecDepth 20000 in
theorem ggX5_about_X3_qualitiesThatAre : GoodIn wsX5_about wsX3_qualitiesThatAre := goodIn_r _ [22, 23, 24, 25, 26, 9, 27, 11, 12, 13, 14, 66, 67, 46, 47, 48, 49, 50, 51, 52, 53, 54, 55, 56] (by decide +kernel) (by decide +kernel)
set_option maxRecDepth 20000 in
theorem gX5_about_X3_qualitiesThatAre : GoodIn wsX5_about (wsV RX5 93 RX3 yX3_qualitiesThatAre wsX3_qualitiesThatAre) := goodIn_app (goodIn_of _ (by decide +kernel)) ggX5_about_X3_qualitiesThatAre
set_option maxRecDepth 20000 in
theorem ggX5_about_X3_deedsThatAre : GoodIn wsX5_about wsX3_deedsThatAre := goodIn_r _ [31, 23, 32, 33, 34, 9, 35, 11, 12, 13, 14, 66, 67, 46, 47, 48, 49, 50, 51, 52, 53, 54, 55, 56] (by decide +kernel) (by decide +kernel)
set_option maxRecDepth 20000 in
theorem gX5_about_X3_deedsThatAre : GoodIn wsX5_about (wsV RX5 97 RX3 yX3_deedsThatAre wsX3_deedsThatAre) := goodIn_app (goodIn_of _ (by decide +kernel)) ggX5_about_X3_deedsThatAre
set_option maxRecDepth 20000 in
theorem ggX5_person_X2_hasPerson : GoodIn wsX5_person wsX2_hasPerson := goodIn_r _ [7, 8, 48, 49, 50, 51, 52, 53, 54, 55, 56, 57, 58] (by decide +kernel) (by decide +kernel)
set_option maxRecDepth 20000 in
theorem gX5_person_X2_hasPerson : GoodIn wsX5_person (wsV RX5 104 RX2 yX2_hasPerson wsX2_hasPerson) := goodIn_app (goodIn_of _ (by decide +kernel)) ggX5_person_X2_hasPerson
set_option maxRecDepth 20000 in
theorem ggX5_person_X3_purseOf : GoodIn wsX5_person wsX3_purseOf := goodIn_r _ [13, 14, 15, 16, 17, 59, 60] (by decide +kernel) (by decide +kernel)
set_option maxRecDepth 20000 in
theorem gX5_person_X3_purseOf : GoodIn wsX5_person (wsV RX5 108 RX3 yX3_purseOf wsX3_purseOf) := goodIn_app (goodIn_of _ (by decide +kernel)) ggX5_person_X3_purseOf
set_option maxRecDepth 20000 in
theorem ggX5_person_X2_qualitiesOf : GoodIn wsX5_person wsX2_qualitiesOf := goodIn_r _ [21, 22, 23, 24, 25, 6, 26, 27, 15, 16, 17, 48, 49, 50, 51, 52, 53, 54, 55, 56, 57, 58] (by decide +kernel) (by decide +kernel)
set_option maxRecDepth 20000 in
theorem gX5_person_X2_qualitiesOf : GoodIn wsX5_person (wsV RX5 111 RX2 yX2_qualitiesOf wsX2_qualitiesOf) := goodIn_app (goodIn_of _ (by decide +kernel)) ggX5_person_X2_qualitiesOf
set_option maxRecDepth 20000 in
theorem ggX5_person_X2_deedsOf : GoodIn wsX5_person wsX2_deedsOf := goodIn_r _ [31, 32, 33, 34, 35, 6, 36, 37, 15, 16, 17, 23, 24, 25, 26, 27, 48, 49, 50, 51, 52, 53, 54, 55, 56, 57, 58] (by decide +kernel) (by decide +kernel)
set_option maxRecDepth 20000 in
theorem gX5_person_X2_deedsOf : GoodIn wsX5_person (wsV RX5 114 RX2 yX2_deedsOf wsX2_deedsOf) := goodIn_app (goodIn_of _ (by decide +kernel)) ggX5_person_X2_deedsOf
set_option maxRecDepth 20000 in
theorem ggX5_quality_X2_hasQuality : GoodIn wsX5_quality wsX2_hasQuality := goodIn_r _ [7, 8, 62, 63, 64, 65, 66, 67, 68, 69, 70, 71, 72] (by decide +kernel) (by decide +kernel)
set_option maxRecDepth 20000 in
theorem gX5_quality_X2_hasQuality : GoodIn wsX5_quality (wsV RX5 117 RX2 yX2_hasQuality wsX2_hasQuality) := goodIn_app (goodIn_of _ (by decide +kernel)) ggX5_quality_X2_hasQuality
set_option maxRecDepth 20000 in
theorem ggX5_quality_X2_ownerOf : GoodIn wsX5_quality wsX2_ownerOf := goodIn_r _ [12, 13, 14, 15, 16, 62, 63, 64, 65, 66, 67, 68, 69, 70, 71, 72] (by decide +kernel) (by decide +kernel)
set_option maxRecDepth 20000 in
theorem gX5_quality_X2_ownerOf : GoodIn wsX5_quality (wsV RX5 120 RX2 yX2_ownerOf wsX2_ownerOf) := goodIn_app (goodIn_of _ (by decide +kernel)) ggX5_quality_X2_ownerOf
set_option maxRecDepth 20000 in
theorem ggX5_quality_X2_worthOf : GoodIn wsX5_quality wsX2_worthOf := goodIn_r _ [20, 21, 14, 15, 16, 62, 63, 64, 65, 66, 67, 68, 69, 70, 71, 72] (by decide +kernel) (by decide +kernel)
set_option maxRecDepth 20000 in
theorem gX5_quality_X2_worthOf : GoodIn wsX5_quality (wsV RX5 123 RX2 yX2_worthOf wsX2_worthOf) := goodIn_app (goodIn_of _ (by decide +kernel)) ggX5_quality_X2_worthOf
set_option maxRecDepth 20000 in
theorem ggX5_quality_X2_kindOf : GoodIn wsX5_quality wsX2_kindOf := goodIn_r _ [25, 26, 14, 15, 16, 62, 63, 64, 65, 66, 67, 68, 69, 70, 71, 72] (by decide +kernel) (by decide +kernel)
set_option maxRecDepth 20000 in
theorem gX5_quality_X2_kindOf : GoodIn wsX5_quality (wsV RX5 126 RX2 yX2_kindOf wsX2_kindOf) := goodIn_app (goodIn_of _ (by decide +kernel)) ggX5_quality_X2_kindOf
set_option maxRecDepth 20000 in
theorem ggX5_quality_X3_standingOf : GoodIn wsX5_quality wsX3_standingOf := goodIn_r _ [31, 32, 14, 15, 16, 73, 74] (by decide +kernel) (by decide +kernel)
set_option maxRecDepth 20000 in
theorem gX5_quality_X3_standingOf : GoodIn wsX5_quality (wsV RX5 129 RX3 yX3_standingOf wsX3_standingOf) := goodIn_app (goodIn_of _ (by decide +kernel)) ggX5_quality_X3_standingOf
set_option maxRecDepth 20000 in
theorem ggX5_quality_X3_pledgedOn : GoodIn wsX5_quality wsX3_pledgedOn := goodIn_r _ [36, 32, 14, 15, 16, 73, 74] (by decide +kernel) (by decide +kernel)
set_option maxRecDepth 20000 in
theorem gX5_quality_X3_pledgedOn : GoodIn wsX5_quality (wsV RX5 132 RX3 yX3_pledgedOn wsX3_pledgedOn) := goodIn_app (goodIn_of _ (by decide +kernel)) ggX5_quality_X3_pledgedOn
set_option maxRecDepth 20000 in
theorem ggX5_quality_X3_owedFor : GoodIn wsX5_quality wsX3_owedFor := goodIn_r _ [40, 41, 42, 28, 29, 30, 31, 32, 14, 15, 16, 43, 23, 24, 6, 25, 26, 44, 18, 19, 20, 21, 45, 46, 47, 48, 49, 34, 35, 36, 50, 51, 73, 74, 62, 63, 64, 65, 66, 67, 68, 69, 70, 71, 72] (by decide +kernel) (by decide +kernel)
set_option maxRecDepth 20000 in
theorem gX5_quality_X3_owedFor : GoodIn wsX5_quality (wsV RX5 135 RX3 yX3_owedFor wsX3_owedFor) := goodIn_app (goodIn_of _ (by decide +kernel)) ggX5_quality_X3_owedFor
set_option maxRecDepth 20000 in
theorem ggX5_deed_X2_hasDeed : GoodIn wsX5_deed wsX2_hasDeed := goodIn_r _ [7, 8, 43, 44, 45, 46, 47, 48, 49, 50, 51, 52, 53] (by decide +kernel) (by decide +kernel)
set_option maxRecDepth 20000 in
theorem gX5_deed_X2_hasDeed : GoodIn wsX5_deed (wsV RX5 138 RX2 yX2_hasDeed wsX2_hasDeed) := goodIn_app (goodIn_of _ (by decide +kernel)) ggX5_deed_X2_hasDeed
set_option maxRecDepth 20000 in
theorem ggX5_deed_X2_wantedBy : GoodIn wsX5_deed wsX2_wantedBy := goodIn_r _ [12, 13, 14, 15, 16, 43, 44, 45, 46, 47, 48, 49, 50, 51, 52, 53] (by decide +kernel) (by decide +kernel)
set_option maxRecDepth 20000 in
theorem gX5_deed_X2_wantedBy : GoodIn wsX5_deed (wsV RX5 141 RX2 yX2_wantedBy wsX2_wantedBy) := goodIn_app (goodIn_of _ (by decide +kernel)) ggX5_deed_X2_wantedBy
set_option maxRecDepth 20000 in
theorem ggX5_deed_X2_dayOf : GoodIn wsX5_deed wsX2_dayOf := goodIn_r _ [20, 21, 14, 15, 16, 43, 44, 45, 46, 47, 48, 49, 50, 51, 52, 53] (by decide +kernel) (by decide +kernel)
set_option maxRecDepth 20000 in
theorem gX5_deed_X2_dayOf : GoodIn wsX5_deed (wsV RX5 144 RX2 yX2_dayOf wsX2_dayOf) := goodIn_app (goodIn_of _ (by decide +kernel)) ggX5_deed_X2_dayOf
set_option maxRecDepth 20000 in
theorem ggX5_deed_X2_rewardOf : GoodIn wsX5_deed wsX2_rewardOf := goodIn_r _ [25, 26, 14, 15, 16, 43, 44, 45, 46, 47, 48, 49, 50, 51, 52, 53] (by decide +kernel) (by decide +kernel)
set_option maxRecDepth 20000 in
theorem gX5_deed_X2_rewardOf : GoodIn wsX5_deed (wsV RX5 147 RX2 yX2_rewardOf wsX2_rewardOf) := goodIn_app (goodIn_of _ (by decide +kernel)) ggX5_deed_X2_rewardOf
set_option maxRecDepth 20000 in
theorem ggX5_deed_X3_outcomeOf : GoodIn wsX5_deed wsX3_outcomeOf := goodIn_r _ [31, 32, 14, 15, 16, 54, 55] (by decide +kernel) (by decide +kernel)
set_option maxRecDepth 20000 in
theorem gX5_deed_X3_outcomeOf : GoodIn wsX5_deed (wsV RX5 150 RX3 yX3_outcomeOf wsX3_outcomeOf) := goodIn_app (goodIn_of _ (by decide +kernel)) ggX5_deed_X3_outcomeOf
set_option maxRecDepth 20000 in
theorem ggX5_day_X0_remember : GoodIn wsX5_day wsX0_remember := goodIn_r _ [7, 8, 9, 10, 11, 12, 13, 14, 15, 16, 17, 18, 19, 87, 88, 89, 90, 91] (by decide +kernel) (by decide +kernel)
set_option maxRecDepth 20000 in
theorem gX5_day_X0_remember : GoodIn wsX5_day (wsV RX5 153 RX0 yX0_remember wsX0_remember) := goodIn_app (goodIn_of _ (by decide +kernel)) ggX5_day_X0_remember
set_option maxRecDepth 20000 in
theorem ggX5_day_X3_passDay : GoodIn wsX5_day wsX3_passDay := goodIn_r _ [23, 24, 16, 25, 26, 27, 28, 29, 30, 31, 18, 32, 33, 34, 35, 14, 36, 37, 38, 39, 40, 41, 42, 43, 44, 45, 46, 47, 48, 49, 17, 19, 50, 51, 52, 53, 54, 55, 56, 57, 58, 59, 60, 61, 62, 63, 64, 65, 66, 67, 68, 69, 70, 71, 72, 73, 74, 75, 76, 90, 91, 92, 93, 94, 95, 96, 97, 98, 99, 100, 101, 102] (by decide +kernel) (by decide +kernel)
set_option maxRecDepth 20000 in
theorem gX5_day_X3_passDay : GoodIn wsX5_day (wsV RX5 157 RX3 yX3_passDay wsX3_passDay) := goodIn_app (goodIn_of _ (by decide +kernel)) ggX5_day_X3_passDay
set_option maxRecDepth 20000 in
theorem ggX5_pledge_X2_hasQuality : GoodIn wsX5_pledge wsX2_hasQuality := goodIn_r _ [8, 9, 77, 78, 79, 80, 81, 82, 83, 84, 85, 86, 87] (by decide +kernel) (by decide +kernel)
set_option maxRecDepth 20000 in
theorem gX5_pledge_X2_hasQuality : GoodIn wsX5_pledge (wsV RX5 117 RX2 yX2_hasQuality wsX2_hasQuality) := goodIn_app (goodIn_of _ (by decide +kernel)) ggX5_pledge_X2_hasQuality
set_option maxRecDepth 20000 in
theorem ggX5_pledge_X3_canPledge : GoodIn wsX5_pledge wsX3_canPledge := goodIn_r _ [14, 15, 16, 5, 6, 7, 8, 9, 17, 18, 19, 13, 20, 21, 22, 23, 24, 25, 26, 27, 28, 29, 30, 31, 32, 33, 88, 89, 77, 78, 79, 80, 81, 82, 83, 84, 85, 86, 87] (by decide +kernel) (by decide +kernel)
set_option maxRecDepth 20000 in
theorem gX5_pledge_X3_canPledge : GoodIn wsX5_pledge (wsV RX5 160 RX3 yX3_canPledge wsX3_canPledge) := goodIn_app (goodIn_of _ (by decide +kernel)) ggX5_pledge_X3_canPledge
set_option maxRecDepth 20000 in
theorem ggX5_pledge_X0_remember : GoodIn wsX5_pledge wsX0_remember := goodIn_r _ [38, 39, 40, 41, 42, 43, 44, 13, 45, 21, 46, 23, 47, 90, 91, 92, 88, 89] (by decide +kernel) (by decide +kernel)
set_option maxRecDepth 20000 in
theorem gX5_pledge_X0_remember : GoodIn wsX5_pledge (wsV RX5 153 RX0 yX0_remember wsX0_remember) := goodIn_app (goodIn_of _ (by decide +kernel)) ggX5_pledge_X0_remember
set_option maxRecDepth 20000 in
theorem ggX5_pledge_X3_tryPledge : GoodIn wsX5_pledge wsX3_tryPledge := goodIn_r _ [51, 15, 21, 52, 11, 12, 13, 14, 16, 5, 6, 7, 8, 9, 17, 18, 19, 20, 22, 23, 24, 25, 26, 27, 28, 29, 30, 31, 32, 33, 53, 54, 55, 56, 57, 58, 59, 60, 61, 46, 47, 62, 63, 64, 65, 88, 89, 77, 78, 79, 80, 81, 82, 83, 84, 85, 86, 87] (by decide +kernel) (by decide +kernel)
set_option maxRecDepth 20000 in
theorem gX5_pledge_X3_tryPledge : GoodIn wsX5_pledge (wsV RX5 163 RX3 yX3_tryPledge wsX3_tryPledge) := goodIn_app (goodIn_of _ (by decide +kernel)) ggX5_pledge_X3_tryPledge
set_option maxRecDepth 20000 in
theorem ggX5_pledge_X3_inTill : GoodIn wsX5_pledge wsX3_inTill := goodIn_r _ [28, 21, 22, 23, 24, 88, 89] (by decide +kernel) (by decide +kernel)
set_option maxRecDepth 20000 in
theorem gX5_pledge_X3_inTill : GoodIn wsX5_pledge (wsV RX5 90 RX3 yX3_inTill wsX3_inTill) := goodIn_app (goodIn_of _ (by decide +kernel)) ggX5_pledge_X3_inTill
set_option maxRecDepth 20000 in
theorem ggX5_redeem_X2_hasQuality : GoodIn wsX5_redeem wsX2_hasQuality := goodIn_r _ [8, 9, 97, 98, 99, 100, 101, 102, 103, 104, 105, 106, 107] (by decide +kernel) (by decide +kernel)
set_option maxRecDepth 20000 in
theorem gX5_redeem_X2_hasQuality : GoodIn wsX5_redeem (wsV RX5 117 RX2 yX2_hasQuality wsX2_hasQuality) := goodIn_app (goodIn_of _ (by decide +kernel)) ggX5_redeem_X2_hasQuality
set_option maxRecDepth 20000 in
theorem ggX5_redeem_X3_canRedeem : GoodIn wsX5_redeem wsX3_canRedeem := goodIn_r _ [14, 15, 16, 5, 6, 7, 8, 9, 17, 18, 19, 13, 20, 21, 22, 23, 24, 25, 26, 27, 28, 29, 30, 31, 32, 33, 34, 35, 36, 37, 38, 39, 40, 41, 42, 43, 44, 45, 46, 47, 48, 49, 50, 51, 52, 53, 54, 55, 56, 57, 108, 109, 97, 98, 99, 100, 101, 102, 103, 104, 105, 106, 107] (by decide +kernel) (by decide +kernel)
set_option maxRecDepth 20000 in
theorem gX5_redeem_X3_canRedeem : GoodIn wsX5_redeem (wsV RX5 166 RX3 yX3_canRedeem wsX3_canRedeem) := goodIn_app (goodIn_of _ (by decide +kernel)) ggX5_redeem_X3_canRedeem
set_option maxRecDepth 20000 in
theorem ggX5_redeem_X0_remember : GoodIn wsX5_redeem wsX0_remember := goodIn_r _ [62, 63, 64, 65, 66, 67, 68, 13, 69, 21, 70, 23, 71, 110, 111, 112, 108, 109] (by decide +kernel) (by decide +kernel)
set_option maxRecDepth 20000 in
theorem gX5_redeem_X0_remember : GoodIn wsX5_redeem (wsV RX5 153 RX0 yX0_remember wsX0_remember) := goodIn_app (goodIn_of _ (by decide +kernel)) ggX5_redeem_X0_remember
set_option maxRecDepth 20000 in
theorem ggX5_redeem_X3_tryRedeem : GoodIn wsX5_redeem wsX3_tryRedeem := goodIn_r _ [75, 15, 21, 76, 11, 12, 13, 14, 16, 5, 6, 7, 8, 9, 17, 18, 19, 20, 22, 23, 24, 25, 26, 27, 28, 29, 30, 31, 32, 33, 34, 35, 36, 37, 38, 39, 40, 41, 42, 43, 44, 45, 46, 47, 48, 49, 50, 51, 52, 53, 54, 55, 56, 57, 77, 78, 79, 80, 70, 71, 81, 82, 83, 84, 108, 109, 97, 98, 99, 100, 101, 102, 103, 104, 105, 106, 107] (by decide +kernel) (by decide +kernel)
set_option maxRecDepth 20000 in
theorem gX5_redeem_X3_tryRedeem : GoodIn wsX5_redeem (wsV RX5 169 RX3 yX3_tryRedeem wsX3_tryRedeem) := goodIn_app (goodIn_of _ (by decide +kernel)) ggX5_redeem_X3_tryRedeem
set_option maxRecDepth 20000 in
theorem ggX5_redeem_X2_ownerOf : GoodIn wsX5_redeem wsX2_ownerOf := goodIn_r _ [28, 29, 22, 23, 24, 97, 98, 99, 100, 101, 102, 103, 104, 105, 106, 107] (by decide +kernel) (by decide +kernel)
set_option maxRecDepth 20000 in
theorem gX5_redeem_X2_ownerOf : GoodIn wsX5_redeem (wsV RX5 120 RX2 yX2_ownerOf wsX2_ownerOf) := goodIn_app (goodIn_of _ (by decide +kernel)) ggX5_redeem_X2_ownerOf
set_option maxRecDepth 20000 in
theorem ggX5_redeem_X3_purseOf : GoodIn wsX5_redeem wsX3_purseOf := goodIn_r _ [33, 21, 22, 23, 24, 108, 109] (by decide +kernel) (by decide +kernel)
set_option maxRecDepth 20000 in
theorem gX5_redeem_X3_purseOf : GoodIn wsX5_redeem (wsV RX5 108 RX3 yX3_purseOf wsX3_purseOf) := goodIn_app (goodIn_of _ (by decide +kernel)) ggX5_redeem_X3_purseOf
set_option maxRecDepth 20000 in
theorem ggX5_give_X2_hasPerson : GoodIn wsX5_give wsX2_hasPerson := goodIn_r _ [8, 9, 53, 54, 55, 56, 57, 58, 59, 60, 61, 62, 63] (by decide +kernel) (by decide +kernel)
set_option maxRecDepth 20000 in
theorem gX5_give_X2_hasPerson : GoodIn wsX5_give (wsV RX5 104 RX2 yX2_hasPerson wsX2_hasPerson) := goodIn_app (goodIn_of _ (by decide +kernel)) ggX5_give_X2_hasPerson
set_option maxRecDepth 20000 in
theorem ggX5_give_X0_remember : GoodIn wsX5_give wsX0_remember := goodIn_r _ [14, 15, 16, 17, 18, 19, 20, 21, 22, 23, 24, 25, 26, 64, 65, 66, 67, 68] (by decide +kernel) (by decide +kernel)
set_option maxRecDepth 20000 in
theorem gX5_give_X0_remember : GoodIn wsX5_give (wsV RX5 153 RX0 yX0_remember wsX0_remember) := goodIn_app (goodIn_of _ (by decide +kernel)) ggX5_give_X0_remember
set_option maxRecDepth 20000 in
theorem ggX5_give_X3_tryGive : GoodIn wsX5_give wsX3_tryGive := goodIn_r _ [30, 31, 32, 5, 6, 7, 8, 9, 33, 34, 35, 21, 36, 23, 37, 25, 38, 24, 26, 67, 68, 53, 54, 55, 56, 57, 58, 59, 60, 61, 62, 63] (by decide +kernel) (by decide +kernel)
set_option maxRecDepth 20000 in
theorem gX5_give_X3_tryGive : GoodIn wsX5_give (wsV RX5 172 RX3 yX3_tryGive wsX3_tryGive) := goodIn_app (goodIn_of _ (by decide +kernel)) ggX5_give_X3_tryGive
set_option maxRecDepth 20000 in
theorem ggX5_give_X3_purseOf : GoodIn wsX5_give wsX3_purseOf := goodIn_r _ [42, 23, 37, 25, 38, 67, 68] (by decide +kernel) (by decide +kernel)
set_option maxRecDepth 20000 in
theorem gX5_give_X3_purseOf : GoodIn wsX5_give (wsV RX5 108 RX3 yX3_purseOf wsX3_purseOf) := goodIn_app (goodIn_of _ (by decide +kernel)) ggX5_give_X3_purseOf
set_option maxRecDepth 20000 in
theorem ggX5_undo_X0_takeBack : GoodIn wsX5_undo wsX0_takeBack := goodIn_r _ [7, 8, 9, 10, 11, 12, 13, 14, 15, 16, 17, 18, 19, 30, 31, 32, 33, 34] (by decide +kernel) (by decide +kernel)
set_option maxRecDepth 20000 in
theorem gX5_undo_X0_takeBack : GoodIn wsX5_undo (wsV RX5 176 RX0 yX0_takeBack wsX0_takeBack) := goodIn_app (goodIn_of _ (by decide +kernel)) ggX5_undo_X0_takeBack
set_option maxRecDepth 20000 in
theorem ggX5_due_X2_hasQuality : GoodIn wsX5_due wsX2_hasQuality := goodIn_r _ [7, 8, 107, 108, 109, 110, 111, 112, 113, 114, 115, 116, 117] (by decide +kernel) (by decide +kernel)
set_option maxRecDepth 20000 in
theorem gX5_due_X2_hasQuality : GoodIn wsX5_due (wsV RX5 117 RX2 yX2_hasQuality wsX2_hasQuality) := goodIn_app (goodIn_of _ (by decide +kernel)) ggX5_due_X2_hasQuality
set_option maxRecDepth 20000 in
theorem ggX5_due_X5_isNoDaysAhead : GoodIn wsX5_due wsX5_isNoDaysAhead := goodIn_r _ [12] (by decide +kernel) (by decide +kernel)
set_option maxRecDepth 20000 in
theorem gX5_due_X5_isNoDaysAhead : GoodIn wsX5_due (va_wsS RX5 179 yX5_isNoDaysAhead wsX5_isNoDaysAhead) := goodIn_app (goodIn_of _ (by decide +kernel)) ggX5_due_X5_isNoDaysAhead
set_option maxRecDepth 20000 in
theorem ggX5_due_X5_lookAhead : GoodIn wsX5_due wsX5_lookAhead := goodIn_r _ [16, 2, 17, 18, 19, 20, 21, 22, 23, 24, 25, 26, 27, 28, 11, 29, 30, 31, 32, 33, 34, 35, 36, 37, 6, 38, 39, 40, 41, 42, 43, 44, 45, 46, 47, 48, 49, 50, 51, 52, 53, 54, 55, 56, 57, 58, 59, 60, 61, 62, 63, 64, 65, 66, 67, 68, 69, 70, 71, 72, 73, 74, 75, 76, 77, 78, 79, 80, 81, 82, 83, 84, 85, 97, 98, 99, 100, 101, 102, 103, 104, 105, 106, 118, 119, 107, 108, 109, 110, 111, 112, 113, 114, 115, 116, 117] (by decide +kernel) (by decide +kernel)
set_option maxRecDepth 20000 in
theorem gX5_due_X5_lookAhead : GoodIn wsX5_due (wsV RX5 182 RX5 yX5_lookAhead wsX5_lookAhead) := goodIn_app (goodIn_of _ (by decide +kernel)) ggX5_due_X5_lookAhead
set_option maxRecDepth 20000 in
theorem ggX5_due_X3_owedFor : GoodIn wsX5_due wsX3_owedFor := goodIn_r _ [89, 34, 55, 56, 57, 21, 58, 23, 40, 11, 41, 81, 82, 83, 6, 84, 85, 90, 91, 92, 93, 94, 42, 43, 44, 45, 77, 78, 79, 80, 95, 96, 118, 119, 107, 108, 109, 110, 111, 112, 113, 114, 115, 116, 117] (by decide +kernel) (by decide +kernel)
set_option maxRecDepth 20000 in
theorem gX5_due_X3_owedFor : GoodIn wsX5_due (wsV RX5 135 RX3 yX3_owedFor wsX3_owedFor) := goodIn_app (goodIn_of _ (by decide +kernel)) ggX5_due_X3_owedFor
set_option maxRecDepth 20000 in
theorem ggX5_done_X5_isNoDaysAhead : GoodIn wsX5_done wsX5_isNoDaysAhead := goodIn_r _ [5] (by decide +kernel) (by decide +kernel)
set_option maxRecDepth 20000 in
theorem gX5_done_X5_isNoDaysAhead : GoodIn wsX5_done (va_wsS RX5 179 yX5_isNoDaysAhead wsX5_isNoDaysAhead) := goodIn_app (goodIn_of _ (by decide +kernel)) ggX5_done_X5_isNoDaysAhead
set_option maxRecDepth 20000 in
theorem ggX5_done_X5_lookAhead : GoodIn wsX5_done wsX5_lookAhead := goodIn_r _ [9, 1, 10, 11, 12, 13, 14, 15, 16, 17, 18, 19, 20, 21, 4, 22, 23, 24, 25, 26, 27, 28, 29, 30, 31, 32, 33, 34, 35, 36, 37, 38, 39, 40, 41, 42, 43, 44, 45, 46, 47, 48, 49, 50, 51, 52, 53, 54, 55, 56, 57, 58, 59, 60, 61, 62, 63, 64, 65, 66, 67, 68, 69, 70, 71, 72, 73, 74, 75, 76, 77, 78, 79, 88, 89, 90, 91, 92, 93, 94, 95, 96, 97, 98, 99, 100, 101, 102, 103, 104, 105, 106, 107, 108, 109, 110] (by decide +kernel) (by decide +kernel)
set_option maxRecDepth 20000 in
theorem gX5_done_X5_lookAhead : GoodIn wsX5_done (wsV RX5 182 RX5 yX5_lookAhead wsX5_lookAhead) := goodIn_app (goodIn_of _ (by decide +kernel)) ggX5_done_X5_lookAhead
set_option maxRecDepth 20000 in
theorem ggX5_done_X3_deedsThatAre : GoodIn wsX5_done wsX3_deedsThatAre := goodIn_r _ [83, 27, 84, 85, 86, 14, 87, 16, 34, 4, 35, 98, 99, 100, 101, 102, 103, 104, 105, 106, 107, 108, 109, 110] (by decide +kernel) (by decide +kernel)
set_option maxRecDepth 20000 in
theorem gX5_done_X3_deedsThatAre : GoodIn wsX5_done (wsV RX5 97 RX3 yX3_deedsThatAre wsX3_deedsThatAre) := goodIn_app (goodIn_of _ (by decide +kernel)) ggX5_done_X3_deedsThatAre
set_option maxRecDepth 20000 in
theorem ggX5_coins_X2_hasPerson : GoodIn wsX5_coins wsX2_hasPerson := goodIn_r _ [7, 8, 100, 101, 102, 103, 104, 105, 106, 107, 108, 109, 110] (by decide +kernel) (by decide +kernel)
set_option maxRecDepth 20000 in
theorem gX5_coins_X2_hasPerson : GoodIn wsX5_coins (wsV RX5 104 RX2 yX2_hasPerson wsX2_hasPerson) := goodIn_app (goodIn_of _ (by decide +kernel)) ggX5_coins_X2_hasPerson
set_option maxRecDepth 20000 in
theorem ggX5_coins_X5_isNoDaysAhead : GoodIn wsX5_coins wsX5_isNoDaysAhead := goodIn_r _ [12] (by decide +kernel) (by decide +kernel)
set_option maxRecDepth 20000 in
theorem gX5_coins_X5_isNoDaysAhead : GoodIn wsX5_coins (va_wsS RX5 179 yX5_isNoDaysAhead wsX5_isNoDaysAhead) := goodIn_app (goodIn_of _ (by decide +kernel)) ggX5_coins_X5_isNoDaysAhead
set_option maxRecDepth 20000 in
theorem ggX5_coins_X5_lookAhead : GoodIn wsX5_coins wsX5_lookAhead := goodIn_r _ [16, 2, 17, 18, 19, 20, 21, 22, 23, 24, 25, 26, 27, 28, 11, 29, 30, 31, 32, 33, 34, 35, 36, 37, 6, 38, 39, 40, 41, 42, 43, 44, 45, 46, 47, 48, 49, 50, 51, 52, 53, 54, 55, 56, 57, 58, 59, 60, 61, 62, 63, 64, 65, 66, 67, 68, 69, 70, 71, 72, 73, 74, 75, 76, 77, 78, 79, 80, 81, 82, 83, 84, 85, 90, 91, 92, 93, 94, 95, 96, 97, 98, 99, 111, 112, 100, 101, 102, 103, 104, 105, 106, 107, 108, 109, 110] (by decide +kernel) (by decide +kernel)
set_option maxRecDepth 20000 in
theorem gX5_coins_X5_lookAhead : GoodIn wsX5_coins (wsV RX5 182 RX5 yX5_lookAhead wsX5_lookAhead) := goodIn_app (goodIn_of _ (by decide +kernel)) ggX5_coins_X5_lookAhead
set_option maxRecDepth 20000 in
theorem ggX5_coins_X3_purseOf : GoodIn wsX5_coins wsX3_purseOf := goodIn_r _ [89, 23, 40, 11, 41, 111, 112] (by decide +kernel) (by decide +kernel)
set_option maxRecDepth 20000 in
theorem gX5_coins_X3_purseOf : GoodIn wsX5_coins (wsV RX5 108 RX3 yX3_purseOf wsX3_purseOf) := goodIn_app (goodIn_of _ (by decide +kernel)) ggX5_coins_X3_purseOf
set_option maxRecDepth 20000 in
theorem ggX5_raise_X2_hasPerson : GoodIn wsX5_raise wsX2_hasPerson := goodIn_r _ [6, 7, 152, 153, 154, 155, 156, 157, 158, 159, 160, 161, 162] (by decide +kernel) (by decide +kernel)
set_option maxRecDepth 20000 in
theorem gX5_raise_X2_hasPerson : GoodIn wsX5_raise (wsV RX5 104 RX2 yX2_hasPerson wsX2_hasPerson) := goodIn_app (goodIn_of _ (by decide +kernel)) ggX5_raise_X2_hasPerson
set_option maxRecDepth 20000 in
theorem ggX5_raise_X5_isNoChoice : GoodIn wsX5_raise wsX5_isNoChoice := goodIn_r _ [11] (by decide +kernel) (by decide +kernel)
set_option maxRecDepth 20000 in
theorem gX5_raise_X5_isNoChoice : GoodIn wsX5_raise (va_wsS RX5 185 yX5_isNoChoice wsX5_isNoChoice) := goodIn_app (goodIn_of _ (by decide +kernel)) ggX5_raise_X5_isNoChoice
set_option maxRecDepth 20000 in
theorem ggX5_raise_X5_deedsIfPledged : GoodIn wsX5_raise wsX5_deedsIfPledged := goodIn_r _ [15, 1, 16, 17, 18, 19, 20, 5, 21, 22, 23, 24, 25, 26, 27, 28, 10, 29, 30, 31, 32, 33, 34, 35, 36, 37, 38, 39, 40, 41, 42, 43, 44, 45, 46, 47, 48, 49, 50, 51, 52, 53, 54, 55, 56, 57, 58, 59, 60, 61, 62, 63, 64, 65, 66, 67, 68, 69, 70, 71, 72, 73, 74, 75, 76, 77, 78, 79, 80, 81, 82, 83, 84, 85, 86, 87, 88, 89, 90, 91, 92, 93, 94, 95, 96, 97, 98, 99, 100, 101, 102, 103, 104, 105, 106, 107, 108, 109, 110, 111, 112, 113, 114, 115, 116, 117, 118, 119, 120, 121, 122, 123, 124, 125, 126, 127, 128, 129, 130, 131, 132, 133, 134, 135, 136, 137, 138, 139, 140, 141, 142, 143, 144, 145, 146, 147, 148, 149, 150, 151, 152, 153, 154, 155, 156, 157, 158, 159, 160, 161, 162, 163, 164] (by decide +kernel) (by decide +kernel)
set_option maxRecDepth 20000 in
theorem gX5_raise_X5_deedsIfPledged : GoodIn wsX5_raise (wsV RX5 188 RX5 yX5_deedsIfPledged wsX5_deedsIfPledged) := goodIn_app (goodIn_of _ (by decide +kernel)) ggX5_raise_X5_deedsIfPledged
set_option maxRecDepth 20000 in
theorem ggX5_raise_J6_bitCount_0f7a4 : GoodIn wsX5_raise wsJ6_bitCount_0f7a4 := goodIn_r _ [138, 139, 140, 141] (by decide +kernel) (by decide +kernel)
set_option maxRecDepth 20000 in
theorem gX5_raise_J6_bitCount_0f7a4 : GoodIn wsX5_raise (va_wsS RX5 192 yJ6_bitCount_0f7a4 wsJ6_bitCount_0f7a4) := goodIn_app (goodIn_of _ (by decide +kernel)) ggX5_raise_J6_bitCount_0f7a4
