set_option maxRecDepth 20000 in
theorem ggX0_remember_X3_saveTo : GoodIn wsX0_remember wsX3_saveTo := goodIn_r _ [8, 9, 10, 11, 12, 16, 17] (by decide +kernel) (by decide +kernel)
set_option maxRecDepth 20000 in
theorem gX0_remember_X3_saveTo : GoodIn wsX0_remember (wsV RX0 21 RX3 yX3_saveTo wsX3_saveTo) := goodIn_app (goodIn_of _ (by decide +kernel)) ggX0_remember_X3_saveTo
set_option maxRecDepth 20000 in
theorem ggX0_takeBack_X3_loadFrom : GoodIn wsX0_takeBack wsX3_loadFrom := goodIn_r _ [8, 9, 10, 11, 12, 16, 17] (by decide +kernel) (by decide +kernel)
set_option maxRecDepth 20000 in
theorem gX0_takeBack_X3_loadFrom : GoodIn wsX0_takeBack (wsV RX0 28 RX3 yX3_loadFrom wsX3_loadFrom) := goodIn_app (goodIn_of _ (by decide +kernel)) ggX0_takeBack_X3_loadFrom
set_option maxRecDepth 20000 in
theorem ggX1_add_X5_put : GoodIn wsX1_add wsX5_put := goodIn_r _ [6] (by decide +kernel) (by decide +kernel)
set_option maxRecDepth 20000 in
theorem gX1_add_X5_put_n22 : GoodIn wsX1_add (wsX5_put) := ggX1_add_X5_put
set_option maxRecDepth 20000 in
theorem ggX1_fits_X5_cell : GoodIn wsX1_fits wsX5_cell := goodIn_r _ [6] (by decide +kernel) (by decide +kernel)
set_option maxRecDepth 20000 in
theorem gX1_fits_X5_cell_n26 : GoodIn wsX1_fits (wsX5_cell) := ggX1_fits_X5_cell
set_option maxRecDepth 20000 in
theorem ggX1_fits_X5_dueFor : GoodIn wsX1_fits wsX5_dueFor := goodIn_r _ [8] (by decide +kernel) (by decide +kernel)
set_option maxRecDepth 20000 in
theorem gX1_fits_X5_dueFor_n30 : GoodIn wsX1_fits (wsX5_dueFor) := ggX1_fits_X5_dueFor
set_option maxRecDepth 20000 in
theorem ggX2_addPerson_X5_put : GoodIn wsX2_addPerson wsX5_put := goodIn_r _ [5] (by decide +kernel) (by decide +kernel)
set_option maxRecDepth 20000 in
theorem gX2_addPerson_X5_put_n46 : GoodIn wsX2_addPerson (wsX5_put) := ggX2_addPerson_X5_put
set_option maxRecDepth 20000 in
theorem ggX2_addQuality_X5_put : GoodIn wsX2_addQuality wsX5_put := goodIn_r _ [7] (by decide +kernel) (by decide +kernel)
set_option maxRecDepth 20000 in
theorem gX2_addQuality_X5_put_n46 : GoodIn wsX2_addQuality (wsX5_put) := ggX2_addQuality_X5_put
set_option maxRecDepth 20000 in
theorem ggX2_addDeed_X5_put : GoodIn wsX2_addDeed wsX5_put := goodIn_r _ [7] (by decide +kernel) (by decide +kernel)
set_option maxRecDepth 20000 in
theorem gX2_addDeed_X5_put_n46 : GoodIn wsX2_addDeed (wsX5_put) := ggX2_addDeed_X5_put
set_option maxRecDepth 20000 in
theorem ggX2_firstPurseOf_X5_cell : GoodIn wsX2_firstPurseOf wsX5_cell := goodIn_r _ [4] (by decide +kernel) (by decide +kernel)
set_option maxRecDepth 20000 in
theorem gX2_firstPurseOf_X5_cell_n50 : GoodIn wsX2_firstPurseOf (wsX5_cell) := ggX2_firstPurseOf_X5_cell
set_option maxRecDepth 20000 in
theorem ggX2_ownerOf_X5_cell : GoodIn wsX2_ownerOf wsX5_cell := goodIn_r _ [4] (by decide +kernel) (by decide +kernel)
set_option maxRecDepth 20000 in
theorem gX2_ownerOf_X5_cell_n50 : GoodIn wsX2_ownerOf (wsX5_cell) := ggX2_ownerOf_X5_cell
set_option maxRecDepth 20000 in
theorem ggX2_worthOf_X5_cell : GoodIn wsX2_worthOf wsX5_cell := goodIn_r _ [4] (by decide +kernel) (by decide +kernel)
set_option maxRecDepth 20000 in
theorem gX2_worthOf_X5_cell_n50 : GoodIn wsX2_worthOf (wsX5_cell) := ggX2_worthOf_X5_cell
set_option maxRecDepth 20000 in
theorem ggX2_kindOf_X5_cell : GoodIn wsX2_kindOf wsX5_cell := goodIn_r _ [4] (by decide +kernel) (by decide +kernel)
set_option maxRecDepth 20000 in
theorem gX2_kindOf_X5_cell_n50 : GoodIn wsX2_kindOf (wsX5_cell) := ggX2_kindOf_X5_cell
set_option maxRecDepth 20000 in
theorem ggX2_wantedBy_X5_cell : GoodIn wsX2_wantedBy wsX5_cell := goodIn_r _ [4] (by decide +kernel) (by decide +kernel)
set_option maxRecDepth 20000 in
theorem gX2_wantedBy_X5_cell_n50 : GoodIn wsX2_wantedBy (wsX5_cell) := ggX2_wantedBy_X5_cell
set_option maxRecDepth 20000 in
theorem ggX2_dayOf_X5_cell : GoodIn wsX2_dayOf wsX5_cell := goodIn_r _ [4] (by decide +kernel) (by decide +kernel)
set_option maxRecDepth 20000 in
theorem gX2_dayOf_X5_cell_n50 : GoodIn wsX2_dayOf (wsX5_cell) := ggX2_dayOf_X5_cell
set_option maxRecDepth 20000 in
theorem ggX2_rewardOf_X5_cell : GoodIn wsX2_rewardOf wsX5_cell := goodIn_r _ [4] (by decide +kernel) (by decide +kernel)
set_option maxRecDepth 20000 in
theorem gX2_rewardOf_X5_cell_n50 : GoodIn wsX2_rewardOf (wsX5_cell) := ggX2_rewardOf_X5_cell
set_option maxRecDepth 20000 in
theorem ggX2_qualitiesOf_X2_ownerOf : GoodIn wsX2_qualitiesOf wsX2_ownerOf := goodIn_r _ [6, 7, 8, 9, 10, 11, 12, 13, 14, 15, 16, 17, 18, 19, 20, 21] (by decide +kernel) (by decide +kernel)
set_option maxRecDepth 20000 in
theorem gX2_qualitiesOf_X2_ownerOf : GoodIn wsX2_qualitiesOf (wsV RX2 54 RX2 yX2_ownerOf wsX2_ownerOf) := goodIn_app (goodIn_of _ (by decide +kernel)) ggX2_qualitiesOf_X2_ownerOf
set_option maxRecDepth 20000 in
theorem ggX2_deedsOf_X2_wantedBy : GoodIn wsX2_deedsOf wsX2_wantedBy := goodIn_r _ [6, 7, 8, 9, 10, 16, 17, 18, 19, 20, 21, 22, 23, 24, 25, 26] (by decide +kernel) (by decide +kernel)
set_option maxRecDepth 20000 in
theorem gX2_deedsOf_X2_wantedBy : GoodIn wsX2_deedsOf (wsV RX2 58 RX2 yX2_wantedBy wsX2_wantedBy) := goodIn_app (goodIn_of _ (by decide +kernel)) ggX2_deedsOf_X2_wantedBy
set_option maxRecDepth 20000 in
theorem ggX2_deedsOf_X2_ownerOf : GoodIn wsX2_deedsOf wsX2_ownerOf := goodIn_r _ [14, 15, 8, 9, 10, 16, 17, 18, 19, 20, 21, 22, 23, 24, 25, 26] (by decide +kernel) (by decide +kernel)
set_option maxRecDepth 20000 in
theorem gX2_deedsOf_X2_ownerOf : GoodIn wsX2_deedsOf (wsV RX2 54 RX2 yX2_ownerOf wsX2_ownerOf) := goodIn_app (goodIn_of _ (by decide +kernel)) ggX2_deedsOf_X2_ownerOf
set_option maxRecDepth 20000 in
theorem ggX3_begin_X5_put : GoodIn wsX3_begin wsX5_put := goodIn_r _ [5] (by decide +kernel) (by decide +kernel)
set_option maxRecDepth 20000 in
theorem gX3_begin_X5_put_n25 : GoodIn wsX3_begin (wsX5_put) := ggX3_begin_X5_put
set_option maxRecDepth 20000 in
theorem ggX3_begin_X2_firstPurseOf : GoodIn wsX3_begin wsX2_firstPurseOf := goodIn_r _ [10, 11, 12, 4, 13, 16, 17, 18, 19, 20, 21, 22, 23, 24, 25, 26] (by decide +kernel) (by decide +kernel)
set_option maxRecDepth 20000 in
theorem gX3_begin_X2_firstPurseOf : GoodIn wsX3_begin (wsV RX3 32 RX2 yX2_firstPurseOf wsX2_firstPurseOf) := goodIn_app (goodIn_of _ (by decide +kernel)) ggX3_begin_X2_firstPurseOf
set_option maxRecDepth 20000 in
theorem ggX3_copy_X3_saveTo : GoodIn wsX3_copy wsX3_saveTo := goodIn_r _ [6, 1, 7, 8, 9, 10, 11] (by decide +kernel) (by decide +kernel)
set_option maxRecDepth 20000 in
theorem gX3_copy_X3_saveTo : GoodIn wsX3_copy (wsV RX3 36 RX3 yX3_saveTo wsX3_saveTo) := goodIn_app (goodIn_of _ (by decide +kernel)) ggX3_copy_X3_saveTo
set_option maxRecDepth 20000 in
theorem ggX3_saveTo_X5_put : GoodIn wsX3_saveTo wsX5_put := goodIn_r _ [4] (by decide +kernel) (by decide +kernel)
set_option maxRecDepth 20000 in
theorem gX3_saveTo_X5_put_n25 : GoodIn wsX3_saveTo (wsX5_put) := ggX3_saveTo_X5_put
set_option maxRecDepth 20000 in
theorem ggX3_loadFrom_X5_cell : GoodIn wsX3_loadFrom wsX5_cell := goodIn_r _ [4] (by decide +kernel) (by decide +kernel)
set_option maxRecDepth 20000 in
theorem gX3_loadFrom_X5_cell_n40 : GoodIn wsX3_loadFrom (wsX5_cell) := ggX3_loadFrom_X5_cell
set_option maxRecDepth 20000 in
theorem ggX3_inTill_X5_cell : GoodIn wsX3_inTill wsX5_cell := goodIn_r _ [4] (by decide +kernel) (by decide +kernel)
set_option maxRecDepth 20000 in
theorem gX3_inTill_X5_cell_n40 : GoodIn wsX3_inTill (wsX5_cell) := ggX3_inTill_X5_cell
set_option maxRecDepth 20000 in
theorem ggX3_today_X5_cell : GoodIn wsX3_today wsX5_cell := goodIn_r _ [4] (by decide +kernel) (by decide +kernel)
set_option maxRecDepth 20000 in
theorem gX3_today_X5_cell_n40 : GoodIn wsX3_today (wsX5_cell) := ggX3_today_X5_cell
set_option maxRecDepth 20000 in
theorem ggX3_purseOf_X5_cell : GoodIn wsX3_purseOf wsX5_cell := goodIn_r _ [4] (by decide +kernel) (by decide +kernel)
set_option maxRecDepth 20000 in
theorem gX3_purseOf_X5_cell_n40 : GoodIn wsX3_purseOf (wsX5_cell) := ggX3_purseOf_X5_cell
set_option maxRecDepth 20000 in
theorem ggX3_standingOf_X5_cell : GoodIn wsX3_standingOf wsX5_cell := goodIn_r _ [4] (by decide +kernel) (by decide +kernel)
set_option maxRecDepth 20000 in
theorem gX3_standingOf_X5_cell_n40 : GoodIn wsX3_standingOf (wsX5_cell) := ggX3_standingOf_X5_cell
set_option maxRecDepth 20000 in
theorem ggX3_pledgedOn_X5_cell : GoodIn wsX3_pledgedOn wsX5_cell := goodIn_r _ [4] (by decide +kernel) (by decide +kernel)
set_option maxRecDepth 20000 in
theorem gX3_pledgedOn_X5_cell_n40 : GoodIn wsX3_pledgedOn (wsX5_cell) := ggX3_pledgedOn_X5_cell
set_option maxRecDepth 20000 in
theorem ggX3_outcomeOf_X5_cell : GoodIn wsX3_outcomeOf wsX5_cell := goodIn_r _ [4] (by decide +kernel) (by decide +kernel)
set_option maxRecDepth 20000 in
theorem gX3_outcomeOf_X5_cell_n40 : GoodIn wsX3_outcomeOf (wsX5_cell) := ggX3_outcomeOf_X5_cell
set_option maxRecDepth 20000 in
theorem ggX3_inAllPurses_X3_purseOf : GoodIn wsX3_inAllPurses wsX3_purseOf := goodIn_r _ [6, 7, 8, 9, 10, 11, 12] (by decide +kernel) (by decide +kernel)
set_option maxRecDepth 20000 in
theorem gX3_inAllPurses_X3_purseOf : GoodIn wsX3_inAllPurses (wsV RX3 44 RX3 yX3_purseOf wsX3_purseOf) := goodIn_app (goodIn_of _ (by decide +kernel)) ggX3_inAllPurses_X3_purseOf
set_option maxRecDepth 20000 in
theorem ggX3_qualitiesThatAre_X3_standingOf : GoodIn wsX3_qualitiesThatAre wsX3_standingOf := goodIn_r _ [6, 7, 8, 9, 10, 11, 12] (by decide +kernel) (by decide +kernel)
set_option maxRecDepth 20000 in
theorem gX3_qualitiesThatAre_X3_standingOf : GoodIn wsX3_qualitiesThatAre (wsV RX3 50 RX3 yX3_standingOf wsX3_standingOf) := goodIn_app (goodIn_of _ (by decide +kernel)) ggX3_qualitiesThatAre_X3_standingOf
set_option maxRecDepth 20000 in
theorem ggX3_deedsThatAre_X3_outcomeOf : GoodIn wsX3_deedsThatAre wsX3_outcomeOf := goodIn_r _ [6, 7, 8, 9, 10, 11, 12] (by decide +kernel) (by decide +kernel)
set_option maxRecDepth 20000 in
theorem gX3_deedsThatAre_X3_outcomeOf : GoodIn wsX3_deedsThatAre (wsV RX3 56 RX3 yX3_outcomeOf wsX3_outcomeOf) := goodIn_app (goodIn_of _ (by decide +kernel)) ggX3_deedsThatAre_X3_outcomeOf
set_option maxRecDepth 20000 in
theorem ggX3_owedFor_X3_standingOf : GoodIn wsX3_owedFor wsX3_standingOf := goodIn_r _ [6, 7, 8, 9, 10, 32, 33] (by decide +kernel) (by decide +kernel)
set_option maxRecDepth 20000 in
theorem gX3_owedFor_X3_standingOf : GoodIn wsX3_owedFor (wsV RX3 50 RX3 yX3_standingOf wsX3_standingOf) := goodIn_app (goodIn_of _ (by decide +kernel)) ggX3_owedFor_X3_standingOf
set_option maxRecDepth 20000 in
theorem ggX3_owedFor_X2_kindOf : GoodIn wsX3_owedFor wsX2_kindOf := goodIn_r _ [15, 16, 8, 9, 10, 34, 35, 36, 37, 38, 39, 40, 41, 42, 43, 44] (by decide +kernel) (by decide +kernel)
set_option maxRecDepth 20000 in
theorem gX3_owedFor_X2_kindOf : GoodIn wsX3_owedFor (wsV RX3 59 RX2 yX2_kindOf wsX2_kindOf) := goodIn_app (goodIn_of _ (by decide +kernel)) ggX3_owedFor_X2_kindOf
set_option maxRecDepth 20000 in
theorem ggX3_owedFor_X2_worthOf : GoodIn wsX3_owedFor wsX2_worthOf := goodIn_r _ [20, 21, 8, 9, 10, 34, 35, 36, 37, 38, 39, 40, 41, 42, 43, 44] (by decide +kernel) (by decide +kernel)
set_option maxRecDepth 20000 in
theorem gX3_owedFor_X2_worthOf : GoodIn wsX3_owedFor (wsV RX3 62 RX2 yX2_worthOf wsX2_worthOf) := goodIn_app (goodIn_of _ (by decide +kernel)) ggX3_owedFor_X2_worthOf
set_option maxRecDepth 20000 in
theorem ggX3_owedFor_X3_today : GoodIn wsX3_owedFor wsX3_today := goodIn_r _ [25, 7, 8, 9, 10, 32, 33] (by decide +kernel) (by decide +kernel)
set_option maxRecDepth 20000 in
theorem gX3_owedFor_X3_today : GoodIn wsX3_owedFor (wsV RX3 65 RX3 yX3_today wsX3_today) := goodIn_app (goodIn_of _ (by decide +kernel)) ggX3_owedFor_X3_today
set_option maxRecDepth 20000 in
theorem ggX3_owedFor_X3_pledgedOn : GoodIn wsX3_owedFor wsX3_pledgedOn := goodIn_r _ [29, 7, 8, 9, 10, 32, 33] (by decide +kernel) (by decide +kernel)
set_option maxRecDepth 20000 in
theorem gX3_owedFor_X3_pledgedOn : GoodIn wsX3_owedFor (wsV RX3 69 RX3 yX3_pledgedOn wsX3_pledgedOn) := goodIn_app (goodIn_of _ (by decide +kernel)) ggX3_owedFor_X3_pledgedOn
set_option maxRecDepth 20000 in
theorem ggX3_owedFor_X5_dueFor : GoodIn wsX3_owedFor wsX5_dueFor := goodIn_r _ [31] (by decide +kernel) (by decide +kernel)
set_option maxRecDepth 20000 in
theorem gX3_owedFor_X5_dueFor_n72 : GoodIn wsX3_owedFor (wsX5_dueFor) := ggX3_owedFor_X5_dueFor
set_option maxRecDepth 20000 in
theorem ggX3_dearestOf_X2_ownerOf : GoodIn wsX3_dearestOf wsX2_ownerOf := goodIn_r _ [6, 7, 8, 9, 10, 24, 25, 26, 27, 28, 29, 30, 31, 32, 33, 34] (by decide +kernel) (by decide +kernel)
set_option maxRecDepth 20000 in
theorem gX3_dearestOf_X2_ownerOf : GoodIn wsX3_dearestOf (wsV RX3 76 RX2 yX2_ownerOf wsX2_ownerOf) := goodIn_app (goodIn_of _ (by decide +kernel)) ggX3_dearestOf_X2_ownerOf
set_option maxRecDepth 20000 in
theorem ggX3_dearestOf_X3_standingOf : GoodIn wsX3_dearestOf wsX3_standingOf := goodIn_r _ [15, 16, 8, 9, 10, 22, 23] (by decide +kernel) (by decide +kernel)
set_option maxRecDepth 20000 in
theorem gX3_dearestOf_X3_standingOf : GoodIn wsX3_dearestOf (wsV RX3 50 RX3 yX3_standingOf wsX3_standingOf) := goodIn_app (goodIn_of _ (by decide +kernel)) ggX3_dearestOf_X3_standingOf
set_option maxRecDepth 20000 in
theorem ggX3_dearestOf_X2_worthOf : GoodIn wsX3_dearestOf wsX2_worthOf := goodIn_r _ [20, 21, 8, 9, 10, 24, 25, 26, 27, 28, 29, 30, 31, 32, 33, 34] (by decide +kernel) (by decide +kernel)
set_option maxRecDepth 20000 in
theorem gX3_dearestOf_X2_worthOf : GoodIn wsX3_dearestOf (wsV RX3 62 RX2 yX2_worthOf wsX2_worthOf) := goodIn_app (goodIn_of _ (by decide +kernel)) ggX3_dearestOf_X2_worthOf
set_option maxRecDepth 20000 in
theorem ggX3_canPledge_X2_hasQuality : GoodIn wsX3_canPledge wsX2_hasQuality := goodIn_r _ [6, 7, 28, 29, 30, 31, 32, 33, 34, 35, 36, 37, 38] (by decide +kernel) (by decide +kernel)
set_option maxRecDepth 20000 in
theorem gX3_canPledge_X2_hasQuality : GoodIn wsX3_canPledge (wsV RX3 79 RX2 yX2_hasQuality wsX2_hasQuality) := goodIn_app (goodIn_of _ (by decide +kernel)) ggX3_canPledge_X2_hasQuality
set_option maxRecDepth 20000 in
theorem ggX3_canPledge_X3_standingOf : GoodIn wsX3_canPledge wsX3_standingOf := goodIn_r _ [12, 13, 14, 15, 16, 26, 27] (by decide +kernel) (by decide +kernel)
set_option maxRecDepth 20000 in
theorem gX3_canPledge_X3_standingOf : GoodIn wsX3_canPledge (wsV RX3 50 RX3 yX3_standingOf wsX3_standingOf) := goodIn_app (goodIn_of _ (by decide +kernel)) ggX3_canPledge_X3_standingOf
set_option maxRecDepth 20000 in
theorem ggX3_canPledge_X3_inTill : GoodIn wsX3_canPledge wsX3_inTill := goodIn_r _ [20, 13, 14, 15, 16, 26, 27] (by decide +kernel) (by decide +kernel)
set_option maxRecDepth 20000 in
theorem gX3_canPledge_X3_inTill : GoodIn wsX3_canPledge (wsV RX3 83 RX3 yX3_inTill wsX3_inTill) := goodIn_app (goodIn_of _ (by decide +kernel)) ggX3_canPledge_X3_inTill
set_option maxRecDepth 20000 in
theorem ggX3_canPledge_X2_worthOf : GoodIn wsX3_canPledge wsX2_worthOf := goodIn_r _ [24, 25, 14, 15, 16, 28, 29, 30, 31, 32, 33, 34, 35, 36, 37, 38] (by decide +kernel) (by decide +kernel)
set_option maxRecDepth 20000 in
theorem gX3_canPledge_X2_worthOf : GoodIn wsX3_canPledge (wsV RX3 62 RX2 yX2_worthOf wsX2_worthOf) := goodIn_app (goodIn_of _ (by decide +kernel)) ggX3_canPledge_X2_worthOf
set_option maxRecDepth 20000 in
theorem ggX3_canRedeem_X2_hasQuality : GoodIn wsX3_canRedeem wsX2_hasQuality := goodIn_r _ [6, 7, 52, 53, 54, 55, 56, 57, 58, 59, 60, 61, 62] (by decide +kernel) (by decide +kernel)
set_option maxRecDepth 20000 in
theorem gX3_canRedeem_X2_hasQuality : GoodIn wsX3_canRedeem (wsV RX3 79 RX2 yX2_hasQuality wsX2_hasQuality) := goodIn_app (goodIn_of _ (by decide +kernel)) ggX3_canRedeem_X2_hasQuality
set_option maxRecDepth 20000 in
theorem ggX3_canRedeem_X3_standingOf : GoodIn wsX3_canRedeem wsX3_standingOf := goodIn_r _ [12, 13, 14, 15, 16, 50, 51] (by decide +kernel) (by decide +kernel)
set_option maxRecDepth 20000 in
theorem gX3_canRedeem_X3_standingOf : GoodIn wsX3_canRedeem (wsV RX3 50 RX3 yX3_standingOf wsX3_standingOf) := goodIn_app (goodIn_of _ (by decide +kernel)) ggX3_canRedeem_X3_standingOf
set_option maxRecDepth 20000 in
theorem ggX3_canRedeem_X2_ownerOf : GoodIn wsX3_canRedeem wsX2_ownerOf := goodIn_r _ [20, 21, 14, 15, 16, 52, 53, 54, 55, 56, 57, 58, 59, 60, 61, 62] (by decide +kernel) (by decide +kernel)
set_option maxRecDepth 20000 in
theorem gX3_canRedeem_X2_ownerOf : GoodIn wsX3_canRedeem (wsV RX3 76 RX2 yX2_ownerOf wsX2_ownerOf) := goodIn_app (goodIn_of _ (by decide +kernel)) ggX3_canRedeem_X2_ownerOf
set_option maxRecDepth 20000 in
theorem ggX3_canRedeem_X3_purseOf : GoodIn wsX3_canRedeem wsX3_purseOf := goodIn_r _ [25, 13, 14, 15, 16, 50, 51] (by decide +kernel) (by decide +kernel)
set_option maxRecDepth 20000 in
theorem gX3_canRedeem_X3_purseOf : GoodIn wsX3_canRedeem (wsV RX3 44 RX3 yX3_purseOf wsX3_purseOf) := goodIn_app (goodIn_of _ (by decide +kernel)) ggX3_canRedeem_X3_purseOf
set_option maxRecDepth 20000 in
theorem ggX3_canRedeem_X3_owedFor : GoodIn wsX3_canRedeem wsX3_owedFor := goodIn_r _ [29, 1, 8, 9, 10, 11, 12, 13, 14, 15, 16, 30, 31, 32, 5, 33, 34, 35, 36, 37, 38, 39, 40, 41, 42, 43, 44, 45, 46, 47, 48, 49, 50, 51, 52, 53, 54, 55, 56, 57, 58, 59, 60, 61, 62] (by decide +kernel) (by decide +kernel)
set_option maxRecDepth 20000 in
theorem gX3_canRedeem_X3_owedFor : GoodIn wsX3_canRedeem (wsV RX3 86 RX3 yX3_owedFor wsX3_owedFor) := goodIn_app (goodIn_of _ (by decide +kernel)) ggX3_canRedeem_X3_owedFor
set_option maxRecDepth 20000 in
theorem ggX3_tryPledge_X3_canPledge : GoodIn wsX3_tryPledge wsX3_canPledge := goodIn_r _ [7, 1, 8, 9, 10, 11, 12, 13, 14, 15, 16, 6, 17, 2, 18, 19, 20, 21, 22, 23, 24, 25, 26, 27, 28, 29, 45, 46, 47, 48, 49, 50, 51, 52, 53, 54, 55, 56, 57] (by decide +kernel) (by decide +kernel)
set_option maxRecDepth 20000 in
theorem gX3_tryPledge_X3_canPledge : GoodIn wsX3_tryPledge (wsV RX3 89 RX3 yX3_canPledge wsX3_canPledge) := goodIn_app (goodIn_of _ (by decide +kernel)) ggX3_tryPledge_X3_canPledge
set_option maxRecDepth 20000 in
theorem ggX3_tryPledge_X2_ownerOf : GoodIn wsX3_tryPledge wsX2_ownerOf := goodIn_r _ [33, 34, 18, 19, 20, 47, 48, 49, 50, 51, 52, 53, 54, 55, 56, 57] (by decide +kernel) (by decide +kernel)
set_option maxRecDepth 20000 in
theorem gX3_tryPledge_X2_ownerOf : GoodIn wsX3_tryPledge (wsV RX3 76 RX2 yX2_ownerOf wsX2_ownerOf) := goodIn_app (goodIn_of _ (by decide +kernel)) ggX3_tryPledge_X2_ownerOf
set_option maxRecDepth 20000 in
theorem ggX3_tryPledge_X2_worthOf : GoodIn wsX3_tryPledge wsX2_worthOf := goodIn_r _ [28, 29, 18, 19, 20, 47, 48, 49, 50, 51, 52, 53, 54, 55, 56, 57] (by decide +kernel) (by decide +kernel)
set_option maxRecDepth 20000 in
theorem gX3_tryPledge_X2_worthOf : GoodIn wsX3_tryPledge (wsV RX3 62 RX2 yX2_worthOf wsX2_worthOf) := goodIn_app (goodIn_of _ (by decide +kernel)) ggX3_tryPledge_X2_worthOf
set_option maxRecDepth 20000 in
theorem ggX3_tryPledge_X3_pay : GoodIn wsX3_tryPledge wsX3_pay := goodIn_r _ [38, 2, 18, 19, 20, 39, 40, 45, 46] (by decide +kernel) (by decide +kernel)
set_option maxRecDepth 20000 in
theorem gX3_tryPledge_X3_pay : GoodIn wsX3_tryPledge (wsV RX3 92 RX3 yX3_pay wsX3_pay) := goodIn_app (goodIn_of _ (by decide +kernel)) ggX3_tryPledge_X3_pay
set_option maxRecDepth 20000 in
theorem ggX3_tryPledge_X3_inTill : GoodIn wsX3_tryPledge wsX3_inTill := goodIn_r _ [24, 2, 18, 19, 20, 45, 46] (by decide +kernel) (by decide +kernel)
set_option maxRecDepth 20000 in
theorem gX3_tryPledge_X3_inTill : GoodIn wsX3_tryPledge (wsV RX3 83 RX3 yX3_inTill wsX3_inTill) := goodIn_app (goodIn_of _ (by decide +kernel)) ggX3_tryPledge_X3_inTill
set_option maxRecDepth 20000 in
theorem ggX3_tryPledge_X5_put : GoodIn wsX3_tryPledge wsX5_put := goodIn_r _ [40] (by decide +kernel) (by decide +kernel)
set_option maxRecDepth 20000 in
theorem gX3_tryPledge_X5_put_n25 : GoodIn wsX3_tryPledge (wsX5_put) := ggX3_tryPledge_X5_put
set_option maxRecDepth 20000 in
theorem ggX3_tryPledge_X3_today : GoodIn wsX3_tryPledge wsX3_today := goodIn_r _ [44, 2, 18, 19, 20, 45, 46] (by decide +kernel) (by decide +kernel)
set_option maxRecDepth 20000 in
theorem gX3_tryPledge_X3_today : GoodIn wsX3_tryPledge (wsV RX3 65 RX3 yX3_today wsX3_today) := goodIn_app (goodIn_of _ (by decide +kernel)) ggX3_tryPledge_X3_today
set_option maxRecDepth 20000 in
theorem ggX3_tryRedeem_X3_canRedeem : GoodIn wsX3_tryRedeem wsX3_canRedeem := goodIn_r _ [7, 1, 8, 9, 10, 11, 12, 13, 14, 15, 16, 6, 17, 2, 18, 19, 20, 21, 22, 23, 24, 25, 26, 27, 28, 29, 30, 31, 32, 33, 34, 35, 36, 37, 38, 39, 40, 41, 42, 43, 44, 45, 46, 47, 48, 49, 50, 51, 52, 53, 64, 65, 66, 67, 68, 69, 70, 71, 72, 73, 74, 75, 76] (by decide +kernel) (by decide +kernel)
set_option maxRecDepth 20000 in
theorem gX3_tryRedeem_X3_canRedeem : GoodIn wsX3_tryRedeem (wsV RX3 96 RX3 yX3_canRedeem wsX3_canRedeem) := goodIn_app (goodIn_of _ (by decide +kernel)) ggX3_tryRedeem_X3_canRedeem
set_option maxRecDepth 20000 in
theorem ggX3_tryRedeem_X3_owedFor : GoodIn wsX3_tryRedeem wsX3_owedFor := goodIn_r _ [33, 1, 14, 15, 16, 6, 17, 2, 18, 19, 20, 34, 35, 36, 11, 37, 38, 39, 40, 41, 42, 43, 44, 45, 46, 47, 48, 49, 50, 51, 52, 53, 64, 65, 66, 67, 68, 69, 70, 71, 72, 73, 74, 75, 76] (by decide +kernel) (by decide +kernel)
set_option maxRecDepth 20000 in
theorem gX3_tryRedeem_X3_owedFor : GoodIn wsX3_tryRedeem (wsV RX3 86 RX3 yX3_owedFor wsX3_owedFor) := goodIn_app (goodIn_of _ (by decide +kernel)) ggX3_tryRedeem_X3_owedFor
set_option maxRecDepth 20000 in
theorem ggX3_tryRedeem_X2_ownerOf : GoodIn wsX3_tryRedeem wsX2_ownerOf := goodIn_r _ [24, 25, 18, 19, 20, 66, 67, 68, 69, 70, 71, 72, 73, 74, 75, 76] (by decide +kernel) (by decide +kernel)
set_option maxRecDepth 20000 in
theorem gX3_tryRedeem_X2_ownerOf : GoodIn wsX3_tryRedeem (wsV RX3 76 RX2 yX2_ownerOf wsX2_ownerOf) := goodIn_app (goodIn_of _ (by decide +kernel)) ggX3_tryRedeem_X2_ownerOf
set_option maxRecDepth 20000 in
theorem ggX3_tryRedeem_X3_pay : GoodIn wsX3_tryRedeem wsX3_pay := goodIn_r _ [57, 2, 18, 19, 20, 58, 59, 64, 65] (by decide +kernel) (by decide +kernel)
set_option maxRecDepth 20000 in
theorem gX3_tryRedeem_X3_pay : GoodIn wsX3_tryRedeem (wsV RX3 92 RX3 yX3_pay wsX3_pay) := goodIn_app (goodIn_of _ (by decide +kernel)) ggX3_tryRedeem_X3_pay
set_option maxRecDepth 20000 in
theorem ggX3_tryRedeem_X3_inTill : GoodIn wsX3_tryRedeem wsX3_inTill := goodIn_r _ [63, 2, 18, 19, 20, 64, 65] (by decide +kernel) (by decide +kernel)
set_option maxRecDepth 20000 in
theorem gX3_tryRedeem_X3_inTill : GoodIn wsX3_tryRedeem (wsV RX3 83 RX3 yX3_inTill wsX3_inTill) := goodIn_app (goodIn_of _ (by decide +kernel)) ggX3_tryRedeem_X3_inTill
set_option maxRecDepth 20000 in
theorem ggX3_tryRedeem_X5_put : GoodIn wsX3_tryRedeem wsX5_put := goodIn_r _ [59] (by decide +kernel) (by decide +kernel)
set_option maxRecDepth 20000 in
theorem gX3_tryRedeem_X5_put_n25 : GoodIn wsX3_tryRedeem (wsX5_put) := ggX3_tryRedeem_X5_put
set_option maxRecDepth 20000 in
theorem ggX3_tryGive_X2_hasPerson : GoodIn wsX3_tryGive wsX2_hasPerson := goodIn_r _ [6, 7, 21, 22, 23, 24, 25, 26, 27, 28, 29, 30, 31] (by decide +kernel) (by decide +kernel)
set_option maxRecDepth 20000 in
theorem gX3_tryGive_X2_hasPerson : GoodIn wsX3_tryGive (wsV RX3 99 RX2 yX2_hasPerson wsX2_hasPerson) := goodIn_app (goodIn_of _ (by decide +kernel)) ggX3_tryGive_X2_hasPerson
set_option maxRecDepth 20000 in
theorem ggX3_tryGive_X3_pay : GoodIn wsX3_tryGive wsX3_pay := goodIn_r _ [12, 13, 14, 15, 16, 17, 18, 19, 20] (by decide +kernel) (by decide +kernel)
set_option maxRecDepth 20000 in
theorem gX3_tryGive_X3_pay : GoodIn wsX3_tryGive (wsV RX3 92 RX3 yX3_pay wsX3_pay) := goodIn_app (goodIn_of _ (by decide +kernel)) ggX3_tryGive_X3_pay
set_option maxRecDepth 20000 in
theorem ggX3_pay_X5_cell : GoodIn wsX3_pay wsX5_cell := goodIn_r _ [4] (by decide +kernel) (by decide +kernel)
set_option maxRecDepth 20000 in
theorem gX3_pay_X5_cell_n40 : GoodIn wsX3_pay (wsX5_cell) := ggX3_pay_X5_cell
set_option maxRecDepth 20000 in
theorem ggX3_pay_X5_put : GoodIn wsX3_pay wsX5_put := goodIn_r _ [6] (by decide +kernel) (by decide +kernel)
set_option maxRecDepth 20000 in
theorem gX3_pay_X5_put_n25 : GoodIn wsX3_pay (wsX5_put) := ggX3_pay_X5_put
set_option maxRecDepth 20000 in
theorem ggX3_passDay_X2_dayOf : GoodIn wsX3_passDay wsX2_dayOf := goodIn_r _ [7, 8, 9, 10, 11, 61, 62, 63, 64, 65, 66, 67, 68, 69, 70, 71] (by decide +kernel) (by decide +kernel)
set_option maxRecDepth 20000 in
theorem gX3_passDay_X2_dayOf : GoodIn wsX3_passDay (wsV RX3 102 RX2 yX2_dayOf wsX2_dayOf) := goodIn_app (goodIn_of _ (by decide +kernel)) ggX3_passDay_X2_dayOf
set_option maxRecDepth 20000 in
theorem ggX3_passDay_X3_today : GoodIn wsX3_passDay wsX3_today := goodIn_r _ [16, 2, 9, 10, 11, 59, 60] (by decide +kernel) (by decide +kernel)
set_option maxRecDepth 20000 in
theorem gX3_passDay_X3_today : GoodIn wsX3_passDay (wsV RX3 65 RX3 yX3_today wsX3_today) := goodIn_app (goodIn_of _ (by decide +kernel)) ggX3_passDay_X3_today
set_option maxRecDepth 20000 in
theorem ggX3_passDay_X3_tryDeed : GoodIn wsX3_passDay wsX3_tryDeed := goodIn_r _ [20, 1, 2, 21, 22, 23, 6, 24, 25, 9, 10, 11, 26, 27, 28, 15, 29, 30, 31, 32, 33, 34, 35, 36, 37, 38, 39, 40, 41, 42, 43, 44, 45, 59, 60, 61, 62, 63, 64, 65, 66, 67, 68, 69, 70, 71] (by decide +kernel) (by decide +kernel)
set_option maxRecDepth 20000 in
theorem gX3_passDay_X3_tryDeed : GoodIn wsX3_passDay (wsV RX3 105 RX3 yX3_tryDeed wsX3_tryDeed) := goodIn_app (goodIn_of _ (by decide +kernel)) ggX3_passDay_X3_tryDeed
set_option maxRecDepth 20000 in
theorem ggX3_passDay_X5_put : GoodIn wsX3_passDay wsX5_put := goodIn_r _ [31] (by decide +kernel) (by decide +kernel)
set_option maxRecDepth 20000 in
theorem gX3_passDay_X5_put_n25 : GoodIn wsX3_passDay (wsX5_put) := ggX3_passDay_X5_put
set_option maxRecDepth 20000 in
theorem ggX3_passDay_X3_sellOverdue : GoodIn wsX3_passDay wsX3_sellOverdue := goodIn_r _ [49, 1, 2, 26, 27, 28, 15, 29, 9, 10, 11, 12, 13, 14, 16, 50, 51, 52, 53, 54, 55, 56, 6, 57, 58, 30, 31, 59, 60, 61, 62, 63, 64, 65, 66, 67, 68, 69, 70, 71] (by decide +kernel) (by decide +kernel)
set_option maxRecDepth 20000 in
theorem gX3_passDay_X3_sellOverdue : GoodIn wsX3_passDay (wsV RX3 108 RX3 yX3_sellOverdue wsX3_sellOverdue) := goodIn_app (goodIn_of _ (by decide +kernel)) ggX3_passDay_X3_sellOverdue
set_option maxRecDepth 20000 in
theorem ggX3_tryDeed_X2_wantedBy : GoodIn wsX3_tryDeed wsX2_wantedBy := goodIn_r _ [7, 8, 9, 10, 11, 35, 36, 37, 38, 39, 40, 41, 42, 43, 44, 45] (by decide +kernel) (by decide +kernel)
set_option maxRecDepth 20000 in
theorem gX3_tryDeed_X2_wantedBy : GoodIn wsX3_tryDeed (wsV RX3 111 RX2 yX2_wantedBy wsX2_wantedBy) := goodIn_app (goodIn_of _ (by decide +kernel)) ggX3_tryDeed_X2_wantedBy
set_option maxRecDepth 20000 in
theorem ggX3_tryDeed_X3_standingOf : GoodIn wsX3_tryDeed wsX3_standingOf := goodIn_r _ [16, 2, 9, 10, 11, 33, 34] (by decide +kernel) (by decide +kernel)
set_option maxRecDepth 20000 in
theorem gX3_tryDeed_X3_standingOf : GoodIn wsX3_tryDeed (wsV RX3 50 RX3 yX3_standingOf wsX3_standingOf) := goodIn_app (goodIn_of _ (by decide +kernel)) ggX3_tryDeed_X3_standingOf
set_option maxRecDepth 20000 in
theorem ggX3_tryDeed_X5_put : GoodIn wsX3_tryDeed wsX5_put := goodIn_r _ [18] (by decide +kernel) (by decide +kernel)
set_option maxRecDepth 20000 in
theorem gX3_tryDeed_X5_put_n25 : GoodIn wsX3_tryDeed (wsX5_put) := ggX3_tryDeed_X5_put
set_option maxRecDepth 20000 in
theorem ggX3_tryDeed_X2_ownerOf : GoodIn wsX3_tryDeed wsX2_ownerOf := goodIn_r _ [22, 23, 9, 10, 11, 35, 36, 37, 38, 39, 40, 41, 42, 43, 44, 45] (by decide +kernel) (by decide +kernel)
set_option maxRecDepth 20000 in
theorem gX3_tryDeed_X2_ownerOf : GoodIn wsX3_tryDeed (wsV RX3 76 RX2 yX2_ownerOf wsX2_ownerOf) := goodIn_app (goodIn_of _ (by decide +kernel)) ggX3_tryDeed_X2_ownerOf
set_option maxRecDepth 20000 in
theorem ggX3_tryDeed_X2_rewardOf : GoodIn wsX3_tryDeed wsX2_rewardOf := goodIn_r _ [27, 28, 9, 10, 11, 35, 36, 37, 38, 39, 40, 41, 42, 43, 44, 45] (by decide +kernel) (by decide +kernel)
set_option maxRecDepth 20000 in
theorem gX3_tryDeed_X2_rewardOf : GoodIn wsX3_tryDeed (wsV RX3 114 RX2 yX2_rewardOf wsX2_rewardOf) := goodIn_app (goodIn_of _ (by decide +kernel)) ggX3_tryDeed_X2_rewardOf
set_option maxRecDepth 20000 in
theorem ggX3_tryDeed_X3_pay : GoodIn wsX3_tryDeed wsX3_pay := goodIn_r _ [32, 2, 9, 10, 11, 17, 18, 33, 34] (by decide +kernel) (by decide +kernel)
set_option maxRecDepth 20000 in
theorem gX3_tryDeed_X3_pay : GoodIn wsX3_tryDeed (wsV RX3 92 RX3 yX3_pay wsX3_pay) := goodIn_app (goodIn_of _ (by decide +kernel)) ggX3_tryDeed_X3_pay
set_option maxRecDepth 20000 in
theorem ggX3_sellOverdue_X3_standingOf : GoodIn wsX3_sellOverdue wsX3_standingOf := goodIn_r _ [7, 2, 8, 9, 10, 27, 28] (by decide +kernel) (by decide +kernel)
set_option maxRecDepth 20000 in
theorem gX3_sellOverdue_X3_standingOf : GoodIn wsX3_sellOverdue (wsV RX3 50 RX3 yX3_standingOf wsX3_standingOf) := goodIn_app (goodIn_of _ (by decide +kernel)) ggX3_sellOverdue_X3_standingOf
set_option maxRecDepth 20000 in
theorem ggX3_sellOverdue_X3_today : GoodIn wsX3_sellOverdue wsX3_today := goodIn_r _ [14, 2, 8, 9, 10, 27, 28] (by decide +kernel) (by decide +kernel)
set_option maxRecDepth 20000 in
theorem gX3_sellOverdue_X3_today : GoodIn wsX3_sellOverdue (wsV RX3 65 RX3 yX3_today wsX3_today) := goodIn_app (goodIn_of _ (by decide +kernel)) ggX3_sellOverdue_X3_today
set_option maxRecDepth 20000 in
theorem ggX3_sellOverdue_X3_pledgedOn : GoodIn wsX3_sellOverdue wsX3_pledgedOn := goodIn_r _ [18, 2, 8, 9, 10, 27, 28] (by decide +kernel) (by decide +kernel)
set_option maxRecDepth 20000 in
theorem gX3_sellOverdue_X3_pledgedOn : GoodIn wsX3_sellOverdue (wsV RX3 69 RX3 yX3_pledgedOn wsX3_pledgedOn) := goodIn_app (goodIn_of _ (by decide +kernel)) ggX3_sellOverdue_X3_pledgedOn
set_option maxRecDepth 20000 in
theorem ggX3_sellOverdue_X2_kindOf : GoodIn wsX3_sellOverdue wsX2_kindOf := goodIn_r _ [23, 24, 8, 9, 10, 29, 30, 31, 32, 33, 34, 35, 36, 37, 38, 39] (by decide +kernel) (by decide +kernel)
set_option maxRecDepth 20000 in
theorem gX3_sellOverdue_X2_kindOf : GoodIn wsX3_sellOverdue (wsV RX3 59 RX2 yX2_kindOf wsX2_kindOf) := goodIn_app (goodIn_of _ (by decide +kernel)) ggX3_sellOverdue_X2_kindOf
set_option maxRecDepth 20000 in
theorem ggX3_sellOverdue_X5_put : GoodIn wsX3_sellOverdue wsX5_put := goodIn_r _ [26] (by decide +kernel) (by decide +kernel)
set_option maxRecDepth 20000 in
theorem gX3_sellOverdue_X5_put_n25 : GoodIn wsX3_sellOverdue (wsX5_put) := ggX3_sellOverdue_X5_put
set_option maxRecDepth 20000 in
theorem ggX3_deedsInTheEnd_X3_passDay : GoodIn wsX3_deedsInTheEnd wsX3_passDay := goodIn_r _ [5, 6, 7, 8, 9, 10, 11, 12, 13, 14, 15, 16, 17, 18, 19, 4, 20, 21, 22, 23, 24, 25, 26, 27, 28, 29, 30, 31, 32, 33, 34, 35, 36, 37, 38, 39, 40, 41, 42, 43, 44, 45, 46, 47, 48, 49, 50, 51, 52, 53, 54, 55, 56, 57, 58, 59, 60, 61, 62, 71, 72, 73, 74, 75, 76, 77, 78, 79, 80, 81, 82, 83] (by decide +kernel) (by decide +kernel)
set_option maxRecDepth 20000 in
theorem gX3_deedsInTheEnd_X3_passDay : GoodIn wsX3_deedsInTheEnd (wsV RX3 117 RX3 yX3_passDay wsX3_passDay) := goodIn_app (goodIn_of _ (by decide +kernel)) ggX3_deedsInTheEnd_X3_passDay
set_option maxRecDepth 20000 in
theorem ggX3_deedsInTheEnd_X3_deedsThatAre : GoodIn wsX3_deedsInTheEnd wsX3_deedsThatAre := goodIn_r _ [66, 6, 67, 68, 69, 4, 70, 7, 14, 15, 16, 71, 72, 73, 74, 75, 76, 77, 78, 79, 80, 81, 82, 83] (by decide +kernel) (by decide +kernel)
set_option maxRecDepth 20000 in
theorem gX3_deedsInTheEnd_X3_deedsThatAre : GoodIn wsX3_deedsInTheEnd (wsV RX3 120 RX3 yX3_deedsThatAre wsX3_deedsThatAre) := goodIn_app (goodIn_of _ (by decide +kernel)) ggX3_deedsInTheEnd_X3_deedsThatAre
set_option maxRecDepth 20000 in
theorem ggX3_sellAllBut_X5_put : GoodIn wsX3_sellAllBut wsX5_put := goodIn_r _ [5] (by decide +kernel) (by decide +kernel)
set_option maxRecDepth 20000 in
theorem gX3_sellAllBut_X5_put_n25 : GoodIn wsX3_sellAllBut (wsX5_put) := ggX3_sellAllBut_X5_put
set_option maxRecDepth 20000 in
theorem ggX3_settle_X3_standingOf : GoodIn wsX3_settle wsX3_standingOf := goodIn_r _ [7, 2, 8, 9, 10, 13, 14] (by decide +kernel) (by decide +kernel)
set_option maxRecDepth 20000 in
theorem gX3_settle_X3_standingOf : GoodIn wsX3_settle (wsV RX3 50 RX3 yX3_standingOf wsX3_standingOf) := goodIn_app (goodIn_of _ (by decide +kernel)) ggX3_settle_X3_standingOf
set_option maxRecDepth 20000 in
theorem ggX3_settle_X5_put : GoodIn wsX3_settle wsX5_put := goodIn_r _ [12] (by decide +kernel) (by decide +kernel)
set_option maxRecDepth 20000 in
theorem gX3_settle_X5_put_n25 : GoodIn wsX3_settle (wsX5_put) := ggX3_settle_X5_put
set_option maxRecDepth 20000 in
theorem ggX3_goesThrough_X3_tryGive : GoodIn wsX3_goesThrough wsX3_tryGive := goodIn_r _ [6, 1, 7, 8, 9, 10, 11, 12, 13, 14, 15, 5, 16, 17, 18, 19, 20, 21, 22, 121, 122, 123, 124, 125, 126, 127, 128, 129, 130, 131, 132, 133] (by decide +kernel) (by decide +kernel)
set_option maxRecDepth 20000 in
theorem gX3_goesThrough_X3_tryGive : GoodIn wsX3_goesThrough (wsV RX3 123 RX3 yX3_tryGive wsX3_tryGive) := goodIn_app (goodIn_of _ (by decide +kernel)) ggX3_goesThrough_X3_tryGive
set_option maxRecDepth 20000 in
theorem ggX3_goesThrough_X2_hasPerson : GoodIn wsX3_goesThrough wsX2_hasPerson := goodIn_r _ [11, 12, 123, 124, 125, 126, 127, 128, 129, 130, 131, 132, 133] (by decide +kernel) (by decide +kernel)
set_option maxRecDepth 20000 in
theorem gX3_goesThrough_X2_hasPerson : GoodIn wsX3_goesThrough (wsV RX3 99 RX2 yX2_hasPerson wsX2_hasPerson) := goodIn_app (goodIn_of _ (by decide +kernel)) ggX3_goesThrough_X2_hasPerson
