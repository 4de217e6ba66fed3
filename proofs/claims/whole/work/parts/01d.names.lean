set_option maxRecDepth 20000 in
theorem ggX0_cost_X0_age : GoodIn wsX0_cost wsX0_age := goodIn_r _ [6, 7, 11, 12, 13, 14, 15, 16, 17, 18] rfl (by decide +kernel)
set_option maxRecDepth 20000 in
theorem gX0_cost_X0_age : GoodIn wsX0_cost (wsV RX0 30 RX0 yX0_age wsX0_age) := goodIn_app (goodIn_r _ [2, 3, 4, 5] rfl (by decide +kernel)) ggX0_cost_X0_age
set_option maxRecDepth 20000 in
theorem ggX0_cost_X4_dividedUp : GoodIn wsX0_cost wsX4_dividedUp := goodIn_r _ [10] rfl (by decide +kernel)
set_option maxRecDepth 20000 in
theorem gX0_cost_X4_dividedUp_n34 : GoodIn wsX0_cost (wsX4_dividedUp) := ggX0_cost_X4_dividedUp
set_option maxRecDepth 20000 in
theorem ggX0_lossIn_X0_age : GoodIn wsX0_lossIn wsX0_age := goodIn_r _ [7, 8, 16, 17, 18, 19, 20, 21, 22, 23] rfl (by decide +kernel)
set_option maxRecDepth 20000 in
theorem gX0_lossIn_X0_age : GoodIn wsX0_lossIn (wsV RX0 30 RX0 yX0_age wsX0_age) := goodIn_app (goodIn_r _ [3, 4, 5, 6] rfl (by decide +kernel)) ggX0_lossIn_X0_age
set_option maxRecDepth 20000 in
theorem ggX0_lossIn_X4_lossBy : GoodIn wsX0_lossIn wsX4_lossBy := goodIn_r _ [11, 12, 13, 14, 15] rfl (by decide +kernel)
set_option maxRecDepth 20000 in
theorem gX0_lossIn_X4_lossBy_n38 : GoodIn wsX0_lossIn (wsX4_lossBy) := ggX0_lossIn_X4_lossBy
set_option maxRecDepth 20000 in
theorem ggX0_passYear_X0_lossIn : GoodIn wsX0_passYear wsX0_lossIn := goodIn_r _ [15, 9, 16, 17, 18, 19, 14, 20, 21, 22, 23, 24, 25, 4, 5, 6, 31, 32, 33, 34, 35, 36, 37, 38] rfl (by decide +kernel)
set_option maxRecDepth 20000 in
theorem gX0_passYear_X0_lossIn : GoodIn wsX0_passYear (wsV RX0 42 RX0 yX0_lossIn wsX0_lossIn) := goodIn_app (goodIn_r _ [11, 12, 13, 14] rfl (by decide +kernel)) ggX0_passYear_X0_lossIn
set_option maxRecDepth 20000 in
theorem ggX0_passYear_X4_lostOf : GoodIn wsX0_passYear wsX4_lostOf := goodIn_r _ [27, 28, 29, 23, 30] rfl (by decide +kernel)
set_option maxRecDepth 20000 in
theorem gX0_passYear_X4_lostOf_n45 : GoodIn wsX0_passYear (wsX4_lostOf) := ggX0_passYear_X4_lostOf
set_option maxRecDepth 20000 in
theorem ggX0_passYear_X4_dividedUp : GoodIn wsX0_passYear wsX4_dividedUp := goodIn_r _ [30] rfl (by decide +kernel)
set_option maxRecDepth 20000 in
theorem gX0_passYear_X4_dividedUp_n34 : GoodIn wsX0_passYear (wsX4_dividedUp) := ggX0_passYear_X4_dividedUp
set_option maxRecDepth 20000 in
theorem ggX1_add_X0_cost : GoodIn wsX1_add wsX0_cost := goodIn_r _ [21, 22, 23, 24, 25, 20, 26, 27, 28, 29, 30, 39, 40, 41, 42, 43, 44, 45, 46] rfl (by decide +kernel)
set_option maxRecDepth 20000 in
theorem gX1_add_X0_cost : GoodIn wsX1_add (wsV RX1 48 RX0 yX0_cost wsX0_cost) := goodIn_app (goodIn_r _ [17, 18, 19, 20] rfl (by decide +kernel)) ggX1_add_X0_cost
set_option maxRecDepth 20000 in
theorem ggX1_add_X0_age : GoodIn wsX1_add wsX0_age := goodIn_r _ [26, 27, 39, 40, 41, 42, 43, 44, 45, 46] rfl (by decide +kernel)
set_option maxRecDepth 20000 in
theorem gX1_add_X0_age : GoodIn wsX1_add (wsV RX1 51 RX0 yX0_age wsX0_age) := goodIn_app (goodIn_r _ [31, 24, 25, 20] rfl (by decide +kernel)) ggX1_add_X0_age
set_option maxRecDepth 20000 in
theorem ggX2_init_X2_reset : GoodIn wsX2_init wsX2_reset := goodIn_r _ [11, 5, 6, 12, 13, 14, 15, 16, 17] rfl (by decide +kernel)
set_option maxRecDepth 20000 in
theorem gX2_init_X2_reset : GoodIn wsX2_init (wsV RX2 18 RX2 yX2_reset wsX2_reset) := goodIn_app (goodIn_r _ [7, 8, 9, 10] rfl (by decide +kernel)) ggX2_init_X2_reset
set_option maxRecDepth 20000 in
theorem ggX2_take_X2_fit : GoodIn wsX2_take wsX2_fit := goodIn_r _ [7, 8, 9, 2, 1, 10, 11, 12, 6, 13, 14, 15, 16, 17, 18, 19, 20, 21] rfl (by decide +kernel)
set_option maxRecDepth 20000 in
theorem gX2_take_X2_fit : GoodIn wsX2_take (wsV RX2 28 RX2 yX2_fit wsX2_fit) := goodIn_app (goodIn_r _ [3, 4, 5, 6] rfl (by decide +kernel)) ggX2_take_X2_fit
set_option maxRecDepth 20000 in
theorem ggX2_fit_X2_ties : GoodIn wsX2_fit wsX2_ties := goodIn_r _ [9, 2, 14, 15, 16, 17] rfl (by decide +kernel)
set_option maxRecDepth 20000 in
theorem gX2_fit_X2_ties : GoodIn wsX2_fit (wsV RX2 32 RX2 yX2_ties wsX2_ties) := goodIn_app (goodIn_r _ [5, 6, 7, 8] rfl (by decide +kernel)) ggX2_fit_X2_ties
set_option maxRecDepth 20000 in
theorem ggX2_fit_X2_join : GoodIn wsX2_fit wsX2_join := goodIn_r _ [13, 2, 1, 14, 15, 16, 17] rfl (by decide +kernel)
set_option maxRecDepth 20000 in
theorem gX2_fit_X2_join : GoodIn wsX2_fit (wsV RX2 36 RX2 yX2_join wsX2_join) := goodIn_app (goodIn_r _ [10, 11, 12, 8] rfl (by decide +kernel)) ggX2_fit_X2_join
set_option maxRecDepth 20000 in
theorem ggX3_isMetBy_X3_isOldEnough : GoodIn wsX3_isMetBy wsX3_isOldEnough := goodIn_r _ [10, 11, 2, 21, 22, 23, 24, 25, 26, 27, 28] rfl (by decide +kernel)
set_option maxRecDepth 20000 in
theorem gX3_isMetBy_X3_isOldEnough : GoodIn wsX3_isMetBy (wsV RX3 25 RX3 yX3_isOldEnough wsX3_isOldEnough) := goodIn_app (goodIn_r _ [6, 7, 8, 9] rfl (by decide +kernel)) ggX3_isMetBy_X3_isOldEnough
set_option maxRecDepth 20000 in
theorem ggX3_isMetBy_X1_evenly : GoodIn wsX3_isMetBy wsX1_evenly := goodIn_r _ [16, 17, 21, 22, 23, 24, 25, 26, 27] rfl (by decide +kernel)
set_option maxRecDepth 20000 in
theorem gX3_isMetBy_X1_evenly : GoodIn wsX3_isMetBy (wsV RX3 32 RX1 yX1_evenly wsX1_evenly) := goodIn_app (goodIn_r _ [12, 13, 14, 15] rfl (by decide +kernel)) ggX3_isMetBy_X1_evenly
set_option maxRecDepth 20000 in
theorem ggX3_isMetBy_X4_isWithin : GoodIn wsX3_isMetBy wsX4_isWithin := goodIn_r _ [20] rfl (by decide +kernel)
set_option maxRecDepth 20000 in
theorem gX3_isMetBy_X4_isWithin_n36 : GoodIn wsX3_isMetBy (wsX4_isWithin) := ggX3_isMetBy_X4_isWithin
set_option maxRecDepth 20000 in
theorem ggX4_init_X3_init : GoodIn wsX4_init wsX3_init := goodIn_r _ [27, 28, 2, 3, 6, 29, 57] rfl (by decide +kernel)
set_option maxRecDepth 20000 in
theorem gX4_init_X3_init_n21 : GoodIn wsX4_init (wsX3_init) := ggX4_init_X3_init
set_option maxRecDepth 20000 in
theorem ggX4_init_X1_init : GoodIn wsX4_init wsX1_init := goodIn_r _ [31, 32, 2, 3] rfl (by decide +kernel)
set_option maxRecDepth 20000 in
theorem gX4_init_X1_init_n28 : GoodIn wsX4_init (wsX1_init) := ggX4_init_X1_init
set_option maxRecDepth 20000 in
theorem ggX4_init_X2_init : GoodIn wsX4_init wsX2_init := goodIn_r _ [35, 36, 2, 3, 6, 37, 38, 39, 40, 41, 18, 42, 43, 44, 65, 66, 67, 68] rfl (by decide +kernel)
set_option maxRecDepth 20000 in
theorem gX4_init_X2_init : GoodIn wsX4_init (wsX2_init) := ggX4_init_X2_init
set_option maxRecDepth 20000 in
theorem ggX4_init_X0_init : GoodIn wsX4_init wsX0_init := goodIn_r _ [46, 47, 2, 3] rfl (by decide +kernel)
set_option maxRecDepth 20000 in
theorem gX4_init_X0_init_n54 : GoodIn wsX4_init (wsX0_init) := ggX4_init_X0_init
set_option maxRecDepth 20000 in
theorem ggX4_lay_X4_isWithin : GoodIn wsX4_lay wsX4_isWithin := goodIn_r _ [7] rfl (by decide +kernel)
set_option maxRecDepth 20000 in
theorem gX4_lay_X4_isWithin : GoodIn wsX4_lay (va_wsS RX4 55 yX4_isWithin wsX4_isWithin) := goodIn_app (goodIn_r _ [4, 5, 6] rfl (by decide +kernel)) ggX4_lay_X4_isWithin
set_option maxRecDepth 20000 in
theorem ggX4_lay_X0_fill : GoodIn wsX4_lay wsX0_fill := goodIn_r _ [12, 13, 14, 15, 16, 17, 18, 28, 29, 30, 31, 32, 33, 34, 35] rfl (by decide +kernel)
set_option maxRecDepth 20000 in
theorem gX4_lay_X0_fill : GoodIn wsX4_lay (wsV RX4 59 RX0 yX0_fill wsX0_fill) := goodIn_app (goodIn_r _ [8, 9, 10, 11] rfl (by decide +kernel)) ggX4_lay_X0_fill
set_option maxRecDepth 20000 in
theorem ggX4_years_X4_isWithin : GoodIn wsX4_years wsX4_isWithin := goodIn_r _ [5] rfl (by decide +kernel)
set_option maxRecDepth 20000 in
theorem gX4_years_X4_isWithin : GoodIn wsX4_years (va_wsS RX4 55 yX4_isWithin wsX4_isWithin) := goodIn_app (goodIn_r _ [2, 3, 4] rfl (by decide +kernel)) ggX4_years_X4_isWithin
set_option maxRecDepth 20000 in
theorem ggX4_years_X4_passYear : GoodIn wsX4_years wsX4_passYear := goodIn_r _ [9, 10, 11, 12, 1, 13, 14, 15, 16, 17, 18, 19, 20, 21, 22, 23, 24, 25, 26, 27, 28, 29, 30, 31, 32, 33, 34, 35, 36, 37, 38, 4, 39, 40, 41, 42, 43, 44, 45, 46, 47, 48, 49, 50, 51, 52, 53, 54, 55, 56, 57, 58, 59, 60, 61, 62] rfl (by decide +kernel)
set_option maxRecDepth 20000 in
theorem gX4_years_X4_passYear : GoodIn wsX4_years (wsV RX4 63 RX4 yX4_passYear wsX4_passYear) := goodIn_app (goodIn_r _ [6, 7, 8, 4] rfl (by decide +kernel)) ggX4_years_X4_passYear
set_option maxRecDepth 20000 in
theorem ggX4_loss_X4_isCask : GoodIn wsX4_loss wsX4_isCask := goodIn_r _ [9, 10, 11, 12, 8, 13, 21, 22, 23, 24, 25, 26, 27, 28, 29] rfl (by decide +kernel)
set_option maxRecDepth 20000 in
theorem gX4_loss_X4_isCask : GoodIn wsX4_loss (wsV RX4 66 RX4 yX4_isCask wsX4_isCask) := goodIn_app (goodIn_r _ [5, 6, 7, 8] rfl (by decide +kernel)) ggX4_loss_X4_isCask
set_option maxRecDepth 20000 in
theorem ggX4_loss_X4_isWithin : GoodIn wsX4_loss wsX4_isWithin := goodIn_r _ [13] rfl (by decide +kernel)
set_option maxRecDepth 20000 in
theorem gX4_loss_X4_isWithin : GoodIn wsX4_loss (va_wsS RX4 55 yX4_isWithin wsX4_isWithin) := goodIn_app (goodIn_r _ [11, 12, 8] rfl (by decide +kernel)) ggX4_loss_X4_isWithin
set_option maxRecDepth 20000 in
theorem ggX4_loss_X4_lossBy : GoodIn wsX4_loss wsX4_lossBy := goodIn_r _ [16, 17, 18, 19, 20] rfl (by decide +kernel)
set_option maxRecDepth 20000 in
theorem gX4_loss_X4_lossBy : GoodIn wsX4_loss (va_wsS RX4 76 yX4_lossBy wsX4_lossBy) := goodIn_app (goodIn_r _ [14, 15, 8] rfl (by decide +kernel)) ggX4_loss_X4_lossBy
set_option maxRecDepth 20000 in
theorem ggX4_about_X4_isCask : GoodIn wsX4_about wsX4_isCask := goodIn_r _ [14, 15, 16, 17, 13, 18, 33, 34, 35, 36, 37, 38, 39, 40, 41] rfl (by decide +kernel)
set_option maxRecDepth 20000 in
theorem gX4_about_X4_isCask : GoodIn wsX4_about (wsV RX4 66 RX4 yX4_isCask wsX4_isCask) := goodIn_app (goodIn_r _ [10, 11, 12, 13] rfl (by decide +kernel)) ggX4_about_X4_isCask
set_option maxRecDepth 20000 in
theorem ggX4_about_X0_age : GoodIn wsX4_about wsX0_age := goodIn_r _ [23, 24, 42, 43, 44, 45, 46, 47, 48, 49] rfl (by decide +kernel)
set_option maxRecDepth 20000 in
theorem gX4_about_X0_age : GoodIn wsX4_about (wsV RX4 86 RX0 yX0_age wsX0_age) := goodIn_app (goodIn_r _ [19, 20, 21, 22] rfl (by decide +kernel)) ggX4_about_X0_age
set_option maxRecDepth 20000 in
theorem ggX4_about_X0_cost : GoodIn wsX4_about wsX0_cost := goodIn_r _ [28, 29, 30, 20, 21, 22, 23, 24, 31, 13, 32, 42, 43, 44, 45, 46, 47, 48, 49] rfl (by decide +kernel)
set_option maxRecDepth 20000 in
theorem gX4_about_X0_cost : GoodIn wsX4_about (wsV RX4 102 RX0 yX0_cost wsX0_cost) := goodIn_app (goodIn_r _ [25, 26, 27, 22] rfl (by decide +kernel)) ggX4_about_X0_cost
set_option maxRecDepth 20000 in
theorem ggX4_move_X4_isCask : GoodIn wsX4_move wsX4_isCask := goodIn_r _ [7, 8, 9, 10, 6, 11, 12, 13, 14, 15, 16, 17, 18, 19, 20] rfl (by decide +kernel)
set_option maxRecDepth 20000 in
theorem gX4_move_X4_isCask : GoodIn wsX4_move (wsV RX4 66 RX4 yX4_isCask wsX4_isCask) := goodIn_app (goodIn_r _ [3, 4, 5, 6] rfl (by decide +kernel)) ggX4_move_X4_isCask
set_option maxRecDepth 20000 in
theorem ggX4_move_X4_isWithin : GoodIn wsX4_move wsX4_isWithin := goodIn_r _ [11] rfl (by decide +kernel)
set_option maxRecDepth 20000 in
theorem gX4_move_X4_isWithin : GoodIn wsX4_move (va_wsS RX4 55 yX4_isWithin wsX4_isWithin) := goodIn_app (goodIn_r _ [9, 10, 6] rfl (by decide +kernel)) ggX4_move_X4_isWithin
set_option maxRecDepth 20000 in
theorem ggX4_draw_X4_isCask : GoodIn wsX4_draw wsX4_isCask := goodIn_r _ [7, 8, 9, 10, 6, 11, 12, 13, 14, 15, 16, 17, 18, 19, 20] rfl (by decide +kernel)
set_option maxRecDepth 20000 in
theorem gX4_draw_X4_isCask : GoodIn wsX4_draw (wsV RX4 66 RX4 yX4_isCask wsX4_isCask) := goodIn_app (goodIn_r _ [3, 4, 5, 6] rfl (by decide +kernel)) ggX4_draw_X4_isCask
set_option maxRecDepth 20000 in
theorem ggX4_draw_X4_isWithin : GoodIn wsX4_draw wsX4_isWithin := goodIn_r _ [11] rfl (by decide +kernel)
set_option maxRecDepth 20000 in
theorem gX4_draw_X4_isWithin : GoodIn wsX4_draw (va_wsS RX4 55 yX4_isWithin wsX4_isWithin) := goodIn_app (goodIn_r _ [9, 10, 6] rfl (by decide +kernel)) ggX4_draw_X4_isWithin
set_option maxRecDepth 20000 in
theorem ggX4_want_X4_isWithin : GoodIn wsX4_want wsX4_isWithin := goodIn_r _ [6] rfl (by decide +kernel)
set_option maxRecDepth 20000 in
theorem gX4_want_X4_isWithin : GoodIn wsX4_want (va_wsS RX4 55 yX4_isWithin wsX4_isWithin) := goodIn_app (goodIn_r _ [3, 4, 5] rfl (by decide +kernel)) ggX4_want_X4_isWithin
set_option maxRecDepth 20000 in
theorem ggX4_want_X3_most : GoodIn wsX4_want wsX3_most := goodIn_r _ [10, 11] rfl (by decide +kernel)
set_option maxRecDepth 20000 in
theorem gX4_want_X3_most : GoodIn wsX4_want (va_wsS RX4 105 yX3_most wsX3_most) := goodIn_app (goodIn_r _ [7, 8, 9] rfl (by decide +kernel)) ggX4_want_X3_most
set_option maxRecDepth 20000 in
theorem ggX4_blend_X4_isSet : GoodIn wsX4_blend wsX4_isSet := goodIn_r _ [14, 15, 16, 17, 13, 18, 88, 89, 90, 91, 92, 93, 94, 95, 96] rfl (by decide +kernel)
set_option maxRecDepth 20000 in
theorem gX4_blend_X4_isSet : GoodIn wsX4_blend (wsV RX4 111 RX4 yX4_isSet wsX4_isSet) := goodIn_app (goodIn_r _ [10, 11, 12, 13] rfl (by decide +kernel)) ggX4_blend_X4_isSet
set_option maxRecDepth 20000 in
theorem ggX4_blend_X4_gather : GoodIn wsX4_blend wsX4_gather := goodIn_r _ [22, 1, 15, 23, 24, 25, 2, 26, 27, 28, 29, 30, 31, 32, 33, 34, 35, 36, 37, 38, 39, 13, 40, 41, 42, 43, 44, 45, 46, 47, 48, 49, 50, 51, 52, 53, 54, 55, 56, 57, 58, 59, 60, 61, 62, 63, 64, 65, 66, 67, 88, 89, 90, 91, 92, 93, 94, 95, 96, 104, 105, 106, 107, 108, 109, 110, 111, 97, 98, 99, 100, 101, 102, 103] rfl (by decide +kernel)
set_option maxRecDepth 20000 in
theorem gX4_blend_X4_gather : GoodIn wsX4_blend (wsV RX4 114 RX4 yX4_gather wsX4_gather) := goodIn_app (goodIn_r _ [19, 20, 21, 13] rfl (by decide +kernel)) ggX4_blend_X4_gather
set_option maxRecDepth 20000 in
theorem ggX4_blend_X1_evenly : GoodIn wsX4_blend wsX1_evenly := goodIn_r _ [71, 31, 97, 98, 99, 100, 101, 102, 103] rfl (by decide +kernel)
set_option maxRecDepth 20000 in
theorem gX4_blend_X1_evenly : GoodIn wsX4_blend (wsV RX4 121 RX1 yX1_evenly wsX1_evenly) := goodIn_app (goodIn_r _ [68, 69, 70, 29] rfl (by decide +kernel)) ggX4_blend_X1_evenly
set_option maxRecDepth 20000 in
theorem ggX4_blend_X3_isMetBy : GoodIn wsX4_blend wsX3_isMetBy := goodIn_r _ [76, 77, 78, 79, 80, 81, 82, 83, 84, 75, 85, 86, 87, 69, 70, 29, 71, 31, 17, 13, 18, 97, 98, 99, 100, 101, 102, 103, 112] rfl (by decide +kernel)
set_option maxRecDepth 20000 in
theorem gX4_blend_X3_isMetBy : GoodIn wsX4_blend (wsV RX4 137 RX3 yX3_isMetBy wsX3_isMetBy) := goodIn_app (goodIn_r _ [72, 73, 74, 75] rfl (by decide +kernel)) ggX4_blend_X3_isMetBy
set_option maxRecDepth 20000 in
theorem ggX4_best_X4_isWithin : GoodIn wsX4_best wsX4_isWithin := goodIn_r _ [6] rfl (by decide +kernel)
set_option maxRecDepth 20000 in
theorem gX4_best_X4_isWithin : GoodIn wsX4_best (va_wsS RX4 55 yX4_isWithin wsX4_isWithin) := goodIn_app (goodIn_r _ [3, 4, 5] rfl (by decide +kernel)) ggX4_best_X4_isWithin
set_option maxRecDepth 20000 in
theorem ggX4_best_X4_bestSet : GoodIn wsX4_best wsX4_bestSet := goodIn_r _ [10, 11, 1, 2, 12, 13, 14, 15, 5, 16, 17, 18, 19, 20, 21, 22, 23, 24, 25, 26, 27, 28, 29, 30, 31, 32, 33, 34, 35, 36, 37, 38, 39, 40, 41, 42, 43, 44, 45, 46, 47, 48, 49, 50, 51, 52, 53, 54, 55, 56, 57, 58, 59, 60, 61, 62, 63, 64, 65, 66, 67, 68, 69, 70, 71, 72, 73, 74, 75, 76, 77, 78, 79, 80, 81, 82, 4, 6, 83, 84, 85, 86, 87, 88, 89, 90, 91, 92, 93, 94, 95, 96, 97, 98, 99, 100, 101, 102, 103, 104, 105, 106, 107] rfl (by decide +kernel)
set_option maxRecDepth 20000 in
theorem gX4_best_X4_bestSet : GoodIn wsX4_best (wsV RX4 141 RX4 yX4_bestSet wsX4_bestSet) := goodIn_app (goodIn_r _ [7, 8, 9, 5] rfl (by decide +kernel)) ggX4_best_X4_bestSet
set_option maxRecDepth 20000 in
theorem ggX4_best_X4_gather : GoodIn wsX4_best wsX4_gather := goodIn_r _ [16, 1, 11, 17, 18, 19, 20, 21, 22, 23, 24, 25, 26, 27, 28, 29, 30, 31, 32, 33, 34, 5, 35, 36, 37, 38, 39, 40, 41, 42, 43, 44, 45, 46, 47, 48, 49, 50, 51, 52, 53, 54, 55, 56, 57, 58, 59, 60, 61, 62, 83, 84, 85, 86, 87, 88, 89, 90, 91, 99, 100, 101, 102, 103, 104, 105, 106, 92, 93, 94, 95, 96, 97, 98] rfl (by decide +kernel)
set_option maxRecDepth 20000 in
theorem gX4_best_X4_gather : GoodIn wsX4_best (wsV RX4 114 RX4 yX4_gather wsX4_gather) := goodIn_app (goodIn_r _ [13, 14, 15, 5] rfl (by decide +kernel)) ggX4_best_X4_gather
set_option maxRecDepth 20000 in
theorem ggX4_lasts_X4_isWithin : GoodIn wsX4_lasts wsX4_isWithin := goodIn_r _ [9] rfl (by decide +kernel)
set_option maxRecDepth 20000 in
theorem gX4_lasts_X4_isWithin : GoodIn wsX4_lasts (va_wsS RX4 55 yX4_isWithin wsX4_isWithin) := goodIn_app (goodIn_r _ [6, 7, 8] rfl (by decide +kernel)) ggX4_lasts_X4_isWithin
set_option maxRecDepth 20000 in
theorem ggX4_lasts_X4_takeAhead : GoodIn wsX4_lasts wsX4_takeAhead := goodIn_r _ [13, 1, 3, 2, 14, 15, 16, 17, 18, 19, 20, 21, 22, 23, 46, 47, 48, 49, 50, 51, 52, 53, 54, 55, 56, 57, 58, 59, 60, 61, 62] rfl (by decide +kernel)
set_option maxRecDepth 20000 in
theorem gX4_lasts_X4_takeAhead : GoodIn wsX4_lasts (wsV RX4 145 RX4 yX4_takeAhead wsX4_takeAhead) := goodIn_app (goodIn_r _ [10, 11, 12, 8] rfl (by decide +kernel)) ggX4_lasts_X4_takeAhead
set_option maxRecDepth 20000 in
theorem ggX4_lasts_X4_passYearAhead : GoodIn wsX4_lasts wsX4_passYearAhead := goodIn_r _ [27, 1, 2, 3, 28, 29, 30, 21, 31, 32, 33, 34, 19, 20, 22, 23, 35, 8, 36, 37, 38, 16, 39, 40, 41, 42, 43, 44, 45, 46, 47, 48, 49, 50, 51, 52, 53, 54, 55, 56, 57, 58, 59, 60, 61, 62] rfl (by decide +kernel)
set_option maxRecDepth 20000 in
theorem gX4_lasts_X4_passYearAhead : GoodIn wsX4_lasts (wsV RX4 148 RX4 yX4_passYearAhead wsX4_passYearAhead) := goodIn_app (goodIn_r _ [24, 25, 26, 8] rfl (by decide +kernel)) ggX4_lasts_X4_passYearAhead
set_option maxRecDepth 20000 in
theorem ggX4_cut_X4_isCask : GoodIn wsX4_cut wsX4_isCask := goodIn_r _ [12, 13, 14, 15, 11, 16, 20, 21, 22, 23, 24, 25, 26, 27, 28] rfl (by decide +kernel)
set_option maxRecDepth 20000 in
theorem gX4_cut_X4_isCask : GoodIn wsX4_cut (wsV RX4 66 RX4 yX4_isCask wsX4_isCask) := goodIn_app (goodIn_r _ [8, 9, 10, 11] rfl (by decide +kernel)) ggX4_cut_X4_isCask
set_option maxRecDepth 20000 in
theorem ggX4_cut_X4_isWithin : GoodIn wsX4_cut wsX4_isWithin := goodIn_r _ [16] rfl (by decide +kernel)
set_option maxRecDepth 20000 in
theorem gX4_cut_X4_isWithin : GoodIn wsX4_cut (va_wsS RX4 55 yX4_isWithin wsX4_isWithin) := goodIn_app (goodIn_r _ [14, 15, 11] rfl (by decide +kernel)) ggX4_cut_X4_isWithin
set_option maxRecDepth 20000 in
theorem ggX4_cut_X4_dividedUp : GoodIn wsX4_cut wsX4_dividedUp := goodIn_r _ [19] rfl (by decide +kernel)
set_option maxRecDepth 20000 in
theorem gX4_cut_X4_dividedUp : GoodIn wsX4_cut (va_wsS RX4 158 yX4_dividedUp wsX4_dividedUp) := goodIn_app (goodIn_r _ [17, 18, 11] rfl (by decide +kernel)) ggX4_cut_X4_dividedUp
set_option maxRecDepth 20000 in
theorem ggX4_rate_X4_isWithin : GoodIn wsX4_rate wsX4_isWithin := goodIn_r _ [5] rfl (by decide +kernel)
set_option maxRecDepth 20000 in
theorem gX4_rate_X4_isWithin : GoodIn wsX4_rate (va_wsS RX4 55 yX4_isWithin wsX4_isWithin) := goodIn_app (goodIn_r _ [2, 3, 4] rfl (by decide +kernel)) ggX4_rate_X4_isWithin
set_option maxRecDepth 20000 in
theorem ggX4_duty_X4_isSet : GoodIn wsX4_duty wsX4_isSet := goodIn_r _ [10, 1, 11, 12, 9, 13, 17, 18, 19, 20, 21, 22, 23, 24, 25] rfl (by decide +kernel)
set_option maxRecDepth 20000 in
theorem gX4_duty_X4_isSet : GoodIn wsX4_duty (wsV RX4 111 RX4 yX4_isSet wsX4_isSet) := goodIn_app (goodIn_r _ [6, 7, 8, 9] rfl (by decide +kernel)) ggX4_duty_X4_isSet
set_option maxRecDepth 20000 in
theorem ggX4_duty_X4_holds : GoodIn wsX4_duty wsX4_holds := goodIn_r _ [16] rfl (by decide +kernel)
set_option maxRecDepth 20000 in
theorem gX4_duty_X4_holds : GoodIn wsX4_duty (va_wsS RX4 161 yX4_holds wsX4_holds) := goodIn_app (goodIn_r _ [14, 15, 9] rfl (by decide +kernel)) ggX4_duty_X4_holds
set_option maxRecDepth 20000 in
theorem ggX4_odds_X4_isTriangle : GoodIn wsX4_odds wsX4_isTriangle := goodIn_r _ [5, 6, 7, 4, 8] rfl (by decide +kernel)
set_option maxRecDepth 20000 in
theorem gX4_odds_X4_isTriangle : GoodIn wsX4_odds (va_wsS RX4 165 yX4_isTriangle wsX4_isTriangle) := goodIn_app (goodIn_r _ [2, 3, 4] rfl (by decide +kernel)) ggX4_odds_X4_isTriangle
set_option maxRecDepth 20000 in
theorem ggX4_odds_X4_ways : GoodIn wsX4_odds wsX4_ways := goodIn_r _ [11, 12] rfl (by decide +kernel)
set_option maxRecDepth 20000 in
theorem gX4_odds_X4_ways : GoodIn wsX4_odds (va_wsS RX4 168 yX4_ways wsX4_ways) := goodIn_app (goodIn_r _ [9, 10, 4] rfl (by decide +kernel)) ggX4_odds_X4_ways
set_option maxRecDepth 20000 in
theorem ggX4_apart_X4_isTriangle : GoodIn wsX4_apart wsX4_isTriangle := goodIn_r _ [5, 6, 7, 4, 8] rfl (by decide +kernel)
set_option maxRecDepth 20000 in
theorem gX4_apart_X4_isTriangle : GoodIn wsX4_apart (va_wsS RX4 165 yX4_isTriangle wsX4_isTriangle) := goodIn_app (goodIn_r _ [2, 3, 4] rfl (by decide +kernel)) ggX4_apart_X4_isTriangle
set_option maxRecDepth 20000 in
theorem ggX4_apart_X4_ways : GoodIn wsX4_apart wsX4_ways := goodIn_r _ [11, 12] rfl (by decide +kernel)
set_option maxRecDepth 20000 in
theorem gX4_apart_X4_ways : GoodIn wsX4_apart (va_wsS RX4 168 yX4_ways wsX4_ways) := goodIn_app (goodIn_r _ [9, 10, 4] rfl (by decide +kernel)) ggX4_apart_X4_ways
set_option maxRecDepth 20000 in
theorem ggX4_read_X4_isNose : GoodIn wsX4_read wsX4_isNose := goodIn_r _ [6, 7, 8, 5, 9] rfl (by decide +kernel)
set_option maxRecDepth 20000 in
theorem gX4_read_X4_isNose : GoodIn wsX4_read (va_wsS RX4 176 yX4_isNose wsX4_isNose) := goodIn_app (goodIn_r _ [3, 4, 5] rfl (by decide +kernel)) ggX4_read_X4_isNose
set_option maxRecDepth 20000 in
theorem ggX4_read_X4_isWithin : GoodIn wsX4_read wsX4_isWithin := goodIn_r _ [9] rfl (by decide +kernel)
set_option maxRecDepth 20000 in
theorem gX4_read_X4_isWithin : GoodIn wsX4_read (va_wsS RX4 55 yX4_isWithin wsX4_isWithin) := goodIn_app (goodIn_r _ [7, 8, 5] rfl (by decide +kernel)) ggX4_read_X4_isWithin
set_option maxRecDepth 20000 in
theorem ggX4_read_X2_take : GoodIn wsX4_read wsX2_take := goodIn_r _ [14, 15, 16, 17, 18, 19, 13, 20, 21, 22, 23, 24, 25, 26, 27, 28, 29, 30, 40, 41, 42, 43] rfl (by decide +kernel)
set_option maxRecDepth 20000 in
theorem gX4_read_X2_take : GoodIn wsX4_read (wsV RX4 182 RX2 yX2_take wsX2_take) := goodIn_app (goodIn_r _ [10, 11, 12, 13] rfl (by decide +kernel)) ggX4_read_X2_take
set_option maxRecDepth 20000 in
theorem ggX4_clear_X2_reset : GoodIn wsX4_clear wsX2_reset := goodIn_r _ [7, 8, 9, 10, 11, 21, 22, 23, 24] rfl (by decide +kernel)
set_option maxRecDepth 20000 in
theorem gX4_clear_X2_reset : GoodIn wsX4_clear (wsV RX4 186 RX2 yX2_reset wsX2_reset) := goodIn_app (goodIn_r _ [3, 4, 5, 6] rfl (by decide +kernel)) ggX4_clear_X2_reset
set_option maxRecDepth 20000 in
theorem ggX4_hang_X4_isNose : GoodIn wsX4_hang wsX4_isNose := goodIn_r _ [8, 9, 10, 7, 11] rfl (by decide +kernel)
set_option maxRecDepth 20000 in
theorem gX4_hang_X4_isNose : GoodIn wsX4_hang (va_wsS RX4 176 yX4_isNose wsX4_isNose) := goodIn_app (goodIn_r _ [5, 6, 7] rfl (by decide +kernel)) ggX4_hang_X4_isNose
set_option maxRecDepth 20000 in
theorem ggX4_hang_X4_isWithin : GoodIn wsX4_hang wsX4_isWithin := goodIn_r _ [11] rfl (by decide +kernel)
set_option maxRecDepth 20000 in
theorem gX4_hang_X4_isWithin : GoodIn wsX4_hang (va_wsS RX4 55 yX4_isWithin wsX4_isWithin) := goodIn_app (goodIn_r _ [9, 10, 7] rfl (by decide +kernel)) ggX4_hang_X4_isWithin
set_option maxRecDepth 20000 in
theorem ggX4_hang_X2_ties : GoodIn wsX4_hang wsX2_ties := goodIn_r _ [16, 17, 27, 28, 29, 30] rfl (by decide +kernel)
set_option maxRecDepth 20000 in
theorem gX4_hang_X2_ties : GoodIn wsX4_hang (wsV RX4 193 RX2 yX2_ties wsX2_ties) := goodIn_app (goodIn_r _ [12, 13, 14, 15] rfl (by decide +kernel)) ggX4_hang_X2_ties
set_option maxRecDepth 20000 in
theorem ggX4_count_X4_notEmpty : GoodIn wsX4_count wsX4_notEmpty := goodIn_r _ [10, 2, 11, 12, 17, 18, 19, 20, 21, 22, 23, 24, 25, 30, 31, 32, 33, 34, 35, 36, 37] rfl (by decide +kernel)
set_option maxRecDepth 20000 in
theorem gX4_count_X4_notEmpty : GoodIn wsX4_count (wsV RX4 200 RX4 yX4_notEmpty wsX4_notEmpty) := goodIn_app (goodIn_r _ [6, 7, 8, 9] rfl (by decide +kernel)) ggX4_count_X4_notEmpty
set_option maxRecDepth 20000 in
theorem ggX4_count_X4_allDrops : GoodIn wsX4_count wsX4_allDrops := goodIn_r _ [16, 2, 11, 12, 17, 18, 19, 20, 21, 22, 23, 24, 25, 30, 31, 32, 33, 34, 35, 36, 37] rfl (by decide +kernel)
set_option maxRecDepth 20000 in
theorem gX4_count_X4_allDrops : GoodIn wsX4_count (wsV RX4 203 RX4 yX4_allDrops wsX4_allDrops) := goodIn_app (goodIn_r _ [13, 14, 15, 9] rfl (by decide +kernel)) ggX4_count_X4_allDrops
set_option maxRecDepth 20000 in
theorem ggX4_isCask_X4_isWithin : GoodIn wsX4_isCask wsX4_isWithin := goodIn_r _ [5] rfl (by decide +kernel)
set_option maxRecDepth 20000 in
theorem gX4_isCask_X4_isWithin : GoodIn wsX4_isCask (va_wsS RX4 55 yX4_isWithin wsX4_isWithin) := goodIn_app (goodIn_r _ [2, 3, 4] rfl (by decide +kernel)) ggX4_isCask_X4_isWithin
set_option maxRecDepth 20000 in
theorem ggX4_isSet_X4_isWithin : GoodIn wsX4_isSet wsX4_isWithin := goodIn_r _ [5] rfl (by decide +kernel)
set_option maxRecDepth 20000 in
theorem gX4_isSet_X4_isWithin : GoodIn wsX4_isSet (va_wsS RX4 55 yX4_isWithin wsX4_isWithin) := goodIn_app (goodIn_r _ [2, 3, 4] rfl (by decide +kernel)) ggX4_isSet_X4_isWithin
set_option maxRecDepth 20000 in
theorem ggX4_isNose_X4_isWithin : GoodIn wsX4_isNose wsX4_isWithin := goodIn_r _ [4] rfl (by decide +kernel)
set_option maxRecDepth 20000 in
theorem gX4_isNose_X4_isWithin : GoodIn wsX4_isNose (va_wsS RX4 55 yX4_isWithin wsX4_isWithin) := goodIn_app (goodIn_r _ [1, 2, 3] rfl (by decide +kernel)) ggX4_isNose_X4_isWithin
set_option maxRecDepth 20000 in
theorem ggX4_isTriangle_X4_isWithin : GoodIn wsX4_isTriangle wsX4_isWithin := goodIn_r _ [4] rfl (by decide +kernel)
set_option maxRecDepth 20000 in
theorem gX4_isTriangle_X4_isWithin : GoodIn wsX4_isTriangle (va_wsS RX4 55 yX4_isWithin wsX4_isWithin) := goodIn_app (goodIn_r _ [1, 2, 3] rfl (by decide +kernel)) ggX4_isTriangle_X4_isWithin
set_option maxRecDepth 20000 in
theorem ggX4_lostOf_X4_dividedUp : GoodIn wsX4_lostOf wsX4_dividedUp := goodIn_r _ [4] rfl (by decide +kernel)
set_option maxRecDepth 20000 in
theorem gX4_lostOf_X4_dividedUp : GoodIn wsX4_lostOf (va_wsS RX4 158 yX4_dividedUp wsX4_dividedUp) := goodIn_app (goodIn_r _ [1, 2, 3] rfl (by decide +kernel)) ggX4_lostOf_X4_dividedUp
set_option maxRecDepth 20000 in
theorem ggX4_passYear_X0_passYear : GoodIn wsX4_passYear wsX0_passYear := goodIn_r _ [9, 10, 11, 12, 13, 14, 15, 16, 17, 18, 19, 20, 21, 22, 8, 23, 24, 25, 26, 27, 28, 29, 30, 31, 32, 33, 34, 35, 36, 37, 38, 48, 49, 50, 51, 52, 53, 54, 55] rfl (by decide +kernel)
set_option maxRecDepth 20000 in
theorem gX4_passYear_X0_passYear : GoodIn wsX4_passYear (wsV RX4 206 RX0 yX0_passYear wsX0_passYear) := goodIn_app (goodIn_r _ [5, 6, 7, 8] rfl (by decide +kernel)) ggX4_passYear_X0_passYear
set_option maxRecDepth 20000 in
theorem ggX4_gather_X1_start : GoodIn wsX4_gather wsX1_start := goodIn_r _ [11, 12, 13, 14, 15, 16, 17, 18, 67, 68, 69, 70, 71, 72, 73] rfl (by decide +kernel)
set_option maxRecDepth 20000 in
theorem gX4_gather_X1_start : GoodIn wsX4_gather (wsV RX4 208 RX1 yX1_start wsX1_start) := goodIn_app (goodIn_r _ [7, 8, 9, 10] rfl (by decide +kernel)) ggX4_gather_X1_start
set_option maxRecDepth 20000 in
theorem ggX4_gather_X4_holds : GoodIn wsX4_gather wsX4_holds := goodIn_r _ [22] rfl (by decide +kernel)
set_option maxRecDepth 20000 in
theorem gX4_gather_X4_holds : GoodIn wsX4_gather (va_wsS RX4 161 yX4_holds wsX4_holds) := goodIn_app (goodIn_r _ [19, 20, 21] rfl (by decide +kernel)) ggX4_gather_X4_holds
set_option maxRecDepth 20000 in
theorem ggX4_gather_X1_add : GoodIn wsX4_gather wsX1_add := goodIn_r _ [26, 12, 27, 13, 28, 14, 29, 15, 30, 16, 31, 17, 18, 32, 33, 34, 35, 36, 37, 38, 39, 40, 41, 42, 43, 44, 45, 46, 47, 21, 48, 49, 67, 68, 69, 70, 71, 72, 73, 59, 60, 61, 62, 63, 64, 65, 66] rfl (by decide +kernel)
set_option maxRecDepth 20000 in
theorem gX4_gather_X1_add : GoodIn wsX4_gather (wsV RX4 211 RX1 yX1_add wsX1_add) := goodIn_app (goodIn_r _ [23, 24, 25, 10] rfl (by decide +kernel)) ggX4_gather_X1_add
set_option maxRecDepth 20000 in
theorem ggX4_bestSet_X4_gather : GoodIn wsX4_bestSet wsX4_gather := goodIn_r _ [9, 2, 1, 10, 11, 12, 13, 14, 15, 16, 17, 18, 19, 20, 21, 22, 23, 24, 25, 26, 27, 8, 28, 29, 30, 31, 32, 33, 34, 35, 36, 37, 38, 39, 40, 41, 42, 43, 44, 45, 46, 47, 48, 49, 50, 51, 52, 53, 54, 55, 78, 79, 80, 81, 82, 83, 84, 85, 86, 94, 95, 96, 97, 98, 99, 100, 101, 87, 88, 89, 90, 91, 92, 93] rfl (by decide +kernel)
set_option maxRecDepth 20000 in
theorem gX4_bestSet_X4_gather : GoodIn wsX4_bestSet (wsV RX4 114 RX4 yX4_gather wsX4_gather) := goodIn_app (goodIn_r _ [5, 6, 7, 8] rfl (by decide +kernel)) ggX4_bestSet_X4_gather
set_option maxRecDepth 20000 in
theorem ggX4_bestSet_X3_isOldEnough : GoodIn wsX4_bestSet wsX3_isOldEnough := goodIn_r _ [60, 61, 62, 87, 88, 89, 90, 91, 92, 93, 102] rfl (by decide +kernel)
set_option maxRecDepth 20000 in
theorem gX4_bestSet_X3_isOldEnough : GoodIn wsX4_bestSet (wsV RX4 215 RX3 yX3_isOldEnough wsX3_isOldEnough) := goodIn_app (goodIn_r _ [56, 57, 58, 59] rfl (by decide +kernel)) ggX4_bestSet_X3_isOldEnough
set_option maxRecDepth 20000 in
theorem ggX4_bestSet_X3_isMetBy : GoodIn wsX4_bestSet wsX3_isMetBy := goodIn_r _ [66, 67, 62, 68, 69, 70, 71, 57, 58, 59, 60, 61, 72, 73, 74, 17, 75, 19, 76, 8, 77, 87, 88, 89, 90, 91, 92, 93, 102] rfl (by decide +kernel)
set_option maxRecDepth 20000 in
theorem gX4_bestSet_X3_isMetBy : GoodIn wsX4_bestSet (wsV RX4 137 RX3 yX3_isMetBy wsX3_isMetBy) := goodIn_app (goodIn_r _ [63, 64, 65, 59] rfl (by decide +kernel)) ggX4_bestSet_X3_isMetBy
set_option maxRecDepth 20000 in
theorem ggX4_takeAhead_X0_age : GoodIn wsX4_takeAhead wsX0_age := goodIn_r _ [12, 13, 23, 24, 25, 26, 27, 28, 29, 30] rfl (by decide +kernel)
set_option maxRecDepth 20000 in
theorem gX4_takeAhead_X0_age : GoodIn wsX4_takeAhead (wsV RX4 86 RX0 yX0_age wsX0_age) := goodIn_app (goodIn_r _ [8, 9, 10, 11] rfl (by decide +kernel)) ggX4_takeAhead_X0_age
set_option maxRecDepth 20000 in
theorem ggX4_passYearAhead_X0_lossIn : GoodIn wsX4_passYearAhead wsX0_lossIn := goodIn_r _ [8, 9, 10, 11, 12, 13, 7, 14, 15, 16, 17, 18, 19, 20, 21, 22, 38, 39, 40, 41, 42, 43, 44, 45] rfl (by decide +kernel)
set_option maxRecDepth 20000 in
theorem gX4_passYearAhead_X0_lossIn : GoodIn wsX4_passYearAhead (wsV RX4 221 RX0 yX0_lossIn wsX0_lossIn) := goodIn_app (goodIn_r _ [4, 5, 6, 7] rfl (by decide +kernel)) ggX4_passYearAhead_X0_lossIn
set_option maxRecDepth 20000 in
theorem ggX4_passYearAhead_X4_lostOf : GoodIn wsX4_passYearAhead wsX4_lostOf := goodIn_r _ [25, 26, 27, 17, 28] rfl (by decide +kernel)
set_option maxRecDepth 20000 in
theorem gX4_passYearAhead_X4_lostOf : GoodIn wsX4_passYearAhead (va_wsS RX4 224 yX4_lostOf wsX4_lostOf) := goodIn_app (goodIn_r _ [23, 24, 17] rfl (by decide +kernel)) ggX4_passYearAhead_X4_lostOf
set_option maxRecDepth 20000 in
theorem ggX5_isCask_X5_in : GoodIn wsX5_isCask wsX5_in := goodIn_r _ [5] rfl (by decide +kernel)
set_option maxRecDepth 20000 in
theorem gX5_isCask_X5_in : GoodIn wsX5_isCask (va_wsS RX5 66 yX5_in wsX5_in) := goodIn_app (goodIn_r _ [2, 3, 4] rfl (by decide +kernel)) ggX5_isCask_X5_in
set_option maxRecDepth 20000 in
theorem ggX5_lay_X5_in : GoodIn wsX5_lay wsX5_in := goodIn_r _ [14] rfl (by decide +kernel)
set_option maxRecDepth 20000 in
theorem gX5_lay_X5_in : GoodIn wsX5_lay (va_wsS RX5 66 yX5_in wsX5_in) := goodIn_app (goodIn_r _ [11, 12, 13] rfl (by decide +kernel)) ggX5_lay_X5_in
set_option maxRecDepth 20000 in
theorem ggX5_oneYear_X5_lossOf : GoodIn wsX5_oneYear wsX5_lossOf := goodIn_r _ [14, 15, 19, 20, 21, 22, 23, 24, 25, 26, 27, 28, 29, 30, 31, 32, 33, 34, 35, 36, 37, 38] rfl (by decide +kernel)
set_option maxRecDepth 20000 in
theorem gX5_oneYear_X5_lossOf : GoodIn wsX5_oneYear (wsV RX5 70 RX5 yX5_lossOf wsX5_lossOf) := goodIn_app (goodIn_r _ [10, 11, 12, 13] rfl (by decide +kernel)) ggX5_oneYear_X5_lossOf
set_option maxRecDepth 20000 in
theorem ggX5_oneYear_X5_lostOf : GoodIn wsX5_oneYear wsX5_lostOf := goodIn_r _ [18] rfl (by decide +kernel)
set_option maxRecDepth 20000 in
theorem gX5_oneYear_X5_lostOf : GoodIn wsX5_oneYear (va_wsS RX5 74 yX5_lostOf wsX5_lostOf) := goodIn_app (goodIn_r _ [16, 17, 13] rfl (by decide +kernel)) ggX5_oneYear_X5_lostOf
set_option maxRecDepth 20000 in
theorem ggX5_years_X5_in : GoodIn wsX5_years wsX5_in := goodIn_r _ [5] rfl (by decide +kernel)
set_option maxRecDepth 20000 in
theorem gX5_years_X5_in : GoodIn wsX5_years (va_wsS RX5 66 yX5_in wsX5_in) := goodIn_app (goodIn_r _ [2, 3, 4] rfl (by decide +kernel)) ggX5_years_X5_in
set_option maxRecDepth 20000 in
theorem ggX5_years_X5_oneYear : GoodIn wsX5_years wsX5_oneYear := goodIn_r _ [9, 10, 11, 12, 1, 13, 14, 15, 16, 17, 18, 19, 20, 4, 21, 22, 23, 24, 25, 26, 27, 28, 29, 30, 31, 32, 33, 34, 35, 36, 37, 38, 39, 40, 41, 42, 43, 44, 45] rfl (by decide +kernel)
set_option maxRecDepth 20000 in
theorem gX5_years_X5_oneYear : GoodIn wsX5_years (wsV RX5 78 RX5 yX5_oneYear wsX5_oneYear) := goodIn_app (goodIn_r _ [6, 7, 8, 4] rfl (by decide +kernel)) ggX5_years_X5_oneYear
set_option maxRecDepth 20000 in
theorem ggX5_loss_X5_isCask : GoodIn wsX5_loss wsX5_isCask := goodIn_r _ [8, 9, 10, 11, 7, 12, 18, 19, 20, 21, 22, 23, 24, 25, 26, 27, 28, 29, 30, 31, 32, 33, 34, 35, 36, 37] rfl (by decide +kernel)
set_option maxRecDepth 20000 in
theorem gX5_loss_X5_isCask : GoodIn wsX5_loss (wsV RX5 81 RX5 yX5_isCask wsX5_isCask) := goodIn_app (goodIn_r _ [4, 5, 6, 7] rfl (by decide +kernel)) ggX5_loss_X5_isCask
set_option maxRecDepth 20000 in
theorem ggX5_loss_X5_in : GoodIn wsX5_loss wsX5_in := goodIn_r _ [12] rfl (by decide +kernel)
set_option maxRecDepth 20000 in
theorem gX5_loss_X5_in : GoodIn wsX5_loss (va_wsS RX5 66 yX5_in wsX5_in) := goodIn_app (goodIn_r _ [10, 11, 7] rfl (by decide +kernel)) ggX5_loss_X5_in
set_option maxRecDepth 20000 in
theorem ggX5_loss_X5_lossOf : GoodIn wsX5_loss wsX5_lossOf := goodIn_r _ [16, 17, 18, 19, 20, 21, 22, 23, 24, 25, 26, 27, 28, 29, 30, 31, 32, 33, 34, 35, 36, 37] rfl (by decide +kernel)
set_option maxRecDepth 20000 in
theorem gX5_loss_X5_lossOf : GoodIn wsX5_loss (wsV RX5 70 RX5 yX5_lossOf wsX5_lossOf) := goodIn_app (goodIn_r _ [13, 14, 15, 7] rfl (by decide +kernel)) ggX5_loss_X5_lossOf
set_option maxRecDepth 20000 in
theorem ggX5_costOf_X5_ageOf : GoodIn wsX5_costOf wsX5_ageOf := goodIn_r _ [6, 7, 8, 9, 10, 11, 12, 13, 14, 15, 16, 17, 18, 19, 20, 21, 22, 23, 24, 25, 26, 27, 28] rfl (by decide +kernel)
set_option maxRecDepth 20000 in
theorem gX5_costOf_X5_ageOf : GoodIn wsX5_costOf (wsV RX5 93 RX5 yX5_ageOf wsX5_ageOf) := goodIn_app (goodIn_r _ [2, 3, 4, 5] rfl (by decide +kernel)) ggX5_costOf_X5_ageOf
set_option maxRecDepth 20000 in
theorem ggX5_about_X5_isCask : GoodIn wsX5_about wsX5_isCask := goodIn_r _ [12, 13, 14, 15, 11, 16, 27, 28, 29, 30, 31, 32, 33, 34, 35, 36, 37, 38, 39, 40, 41, 42, 43, 44, 45, 46] rfl (by decide +kernel)
set_option maxRecDepth 20000 in
theorem gX5_about_X5_isCask : GoodIn wsX5_about (wsV RX5 81 RX5 yX5_isCask wsX5_isCask) := goodIn_app (goodIn_r _ [8, 9, 10, 11] rfl (by decide +kernel)) ggX5_about_X5_isCask
set_option maxRecDepth 20000 in
theorem ggX5_about_X5_ageOf : GoodIn wsX5_about wsX5_ageOf := goodIn_r _ [20, 21, 22, 27, 28, 29, 30, 31, 32, 33, 34, 35, 36, 37, 38, 39, 40, 41, 42, 43, 44, 45, 46] rfl (by decide +kernel)
set_option maxRecDepth 20000 in
theorem gX5_about_X5_ageOf : GoodIn wsX5_about (wsV RX5 93 RX5 yX5_ageOf wsX5_ageOf) := goodIn_app (goodIn_r _ [17, 18, 19, 11] rfl (by decide +kernel)) ggX5_about_X5_ageOf
set_option maxRecDepth 20000 in
theorem ggX5_about_X5_costOf : GoodIn wsX5_about wsX5_costOf := goodIn_r _ [26, 1, 17, 18, 19, 11, 20, 21, 22, 27, 28, 29, 30, 31, 32, 33, 34, 35, 36, 37, 38, 39, 40, 41, 42, 43, 44, 45, 46] rfl (by decide +kernel)
set_option maxRecDepth 20000 in
theorem gX5_about_X5_costOf : GoodIn wsX5_about (wsV RX5 97 RX5 yX5_costOf wsX5_costOf) := goodIn_app (goodIn_r _ [23, 24, 25, 11] rfl (by decide +kernel)) ggX5_about_X5_costOf
set_option maxRecDepth 20000 in
theorem ggX5_move_X5_isCask : GoodIn wsX5_move wsX5_isCask := goodIn_r _ [6, 7, 8, 9, 5, 10, 11, 12, 13, 14, 15, 16, 17, 18, 19, 20, 21, 22, 23, 24, 25, 26, 27, 28, 29, 30] rfl (by decide +kernel)
set_option maxRecDepth 20000 in
theorem gX5_move_X5_isCask : GoodIn wsX5_move (wsV RX5 81 RX5 yX5_isCask wsX5_isCask) := goodIn_app (goodIn_r _ [2, 3, 4, 5] rfl (by decide +kernel)) ggX5_move_X5_isCask
set_option maxRecDepth 20000 in
theorem ggX5_move_X5_in : GoodIn wsX5_move wsX5_in := goodIn_r _ [10] rfl (by decide +kernel)
set_option maxRecDepth 20000 in
theorem gX5_move_X5_in : GoodIn wsX5_move (va_wsS RX5 66 yX5_in wsX5_in) := goodIn_app (goodIn_r _ [8, 9, 5] rfl (by decide +kernel)) ggX5_move_X5_in
set_option maxRecDepth 20000 in
theorem ggX5_draw_X5_isCask : GoodIn wsX5_draw wsX5_isCask := goodIn_r _ [6, 7, 8, 9, 5, 10, 11, 12, 13, 14, 15, 16, 17, 18, 19, 20, 21, 22, 23, 24, 25, 26, 27, 28, 29, 30] rfl (by decide +kernel)
set_option maxRecDepth 20000 in
theorem gX5_draw_X5_isCask : GoodIn wsX5_draw (wsV RX5 81 RX5 yX5_isCask wsX5_isCask) := goodIn_app (goodIn_r _ [2, 3, 4, 5] rfl (by decide +kernel)) ggX5_draw_X5_isCask
set_option maxRecDepth 20000 in
theorem ggX5_draw_X5_in : GoodIn wsX5_draw wsX5_in := goodIn_r _ [10] rfl (by decide +kernel)
set_option maxRecDepth 20000 in
theorem gX5_draw_X5_in : GoodIn wsX5_draw (va_wsS RX5 66 yX5_in wsX5_in) := goodIn_app (goodIn_r _ [8, 9, 5] rfl (by decide +kernel)) ggX5_draw_X5_in
set_option maxRecDepth 20000 in
theorem ggX5_want_X5_in : GoodIn wsX5_want wsX5_in := goodIn_r _ [6] rfl (by decide +kernel)
set_option maxRecDepth 20000 in
theorem gX5_want_X5_in : GoodIn wsX5_want (va_wsS RX5 66 yX5_in wsX5_in) := goodIn_app (goodIn_r _ [3, 4, 5] rfl (by decide +kernel)) ggX5_want_X5_in
set_option maxRecDepth 20000 in
theorem ggX5_isBlend_X5_in : GoodIn wsX5_isBlend wsX5_in := goodIn_r _ [6] rfl (by decide +kernel)
set_option maxRecDepth 20000 in
theorem gX5_isBlend_X5_in : GoodIn wsX5_isBlend (va_wsS RX5 66 yX5_in wsX5_in) := goodIn_app (goodIn_r _ [3, 4, 5] rfl (by decide +kernel)) ggX5_isBlend_X5_in
set_option maxRecDepth 20000 in
theorem ggX5_isBlend_X5_has : GoodIn wsX5_isBlend wsX5_has := goodIn_r _ [9] rfl (by decide +kernel)
set_option maxRecDepth 20000 in
theorem gX5_isBlend_X5_has : GoodIn wsX5_isBlend (va_wsS RX5 101 yX5_has wsX5_has) := goodIn_app (goodIn_r _ [7, 8, 5] rfl (by decide +kernel)) ggX5_isBlend_X5_has
set_option maxRecDepth 20000 in
theorem ggX5_dropsOf_X5_has : GoodIn wsX5_dropsOf wsX5_has := goodIn_r _ [6] rfl (by decide +kernel)
set_option maxRecDepth 20000 in
theorem gX5_dropsOf_X5_has : GoodIn wsX5_dropsOf (va_wsS RX5 101 yX5_has wsX5_has) := goodIn_app (goodIn_r _ [3, 4, 5] rfl (by decide +kernel)) ggX5_dropsOf_X5_has
set_option maxRecDepth 20000 in
theorem ggX5_partOf_X5_has : GoodIn wsX5_partOf wsX5_has := goodIn_r _ [10] rfl (by decide +kernel)
set_option maxRecDepth 20000 in
theorem gX5_partOf_X5_has : GoodIn wsX5_partOf (va_wsS RX5 101 yX5_has wsX5_has) := goodIn_app (goodIn_r _ [7, 8, 9] rfl (by decide +kernel)) ggX5_partOf_X5_has
set_option maxRecDepth 20000 in
theorem ggX5_partOf_X5_dropsOf : GoodIn wsX5_partOf wsX5_dropsOf := goodIn_r _ [14, 1, 6, 7, 8, 9, 10, 15, 16, 17, 18, 19, 20, 21, 22, 23, 24, 25, 26, 27, 28, 29, 30, 31, 32, 33, 34] rfl (by decide +kernel)
set_option maxRecDepth 20000 in
theorem gX5_partOf_X5_dropsOf : GoodIn wsX5_partOf (wsV RX5 105 RX5 yX5_dropsOf wsX5_dropsOf) := goodIn_app (goodIn_r _ [11, 12, 13, 9] rfl (by decide +kernel)) ggX5_partOf_X5_dropsOf
set_option maxRecDepth 20000 in
theorem ggX5_youngest_X5_has : GoodIn wsX5_youngest wsX5_has := goodIn_r _ [5] rfl (by decide +kernel)
set_option maxRecDepth 20000 in
theorem gX5_youngest_X5_has : GoodIn wsX5_youngest (va_wsS RX5 101 yX5_has wsX5_has) := goodIn_app (goodIn_r _ [2, 3, 4] rfl (by decide +kernel)) ggX5_youngest_X5_has
set_option maxRecDepth 20000 in
theorem ggX5_youngest_X5_ageOf : GoodIn wsX5_youngest wsX5_ageOf := goodIn_r _ [9, 10, 11, 12, 13, 14, 15, 16, 17, 18, 19, 20, 21, 22, 23, 24, 25, 26, 27, 28, 29, 30, 31] rfl (by decide +kernel)
set_option maxRecDepth 20000 in
theorem gX5_youngest_X5_ageOf : GoodIn wsX5_youngest (wsV RX5 93 RX5 yX5_ageOf wsX5_ageOf) := goodIn_app (goodIn_r _ [6, 7, 8, 4] rfl (by decide +kernel)) ggX5_youngest_X5_ageOf
set_option maxRecDepth 20000 in
theorem ggX5_costs_X5_has : GoodIn wsX5_costs wsX5_has := goodIn_r _ [5] rfl (by decide +kernel)
set_option maxRecDepth 20000 in
theorem gX5_costs_X5_has : GoodIn wsX5_costs (va_wsS RX5 101 yX5_has wsX5_has) := goodIn_app (goodIn_r _ [2, 3, 4] rfl (by decide +kernel)) ggX5_costs_X5_has
set_option maxRecDepth 20000 in
theorem ggX5_costs_X5_costOf : GoodIn wsX5_costs wsX5_costOf := goodIn_r _ [9, 10, 11, 12, 13, 4, 14, 15, 16, 17, 18, 19, 20, 21, 22, 23, 24, 25, 26, 27, 28, 29, 30, 31, 32, 33, 34, 35, 36] rfl (by decide +kernel)
set_option maxRecDepth 20000 in
theorem gX5_costs_X5_costOf : GoodIn wsX5_costs (wsV RX5 97 RX5 yX5_costOf wsX5_costOf) := goodIn_app (goodIn_r _ [6, 7, 8, 4] rfl (by decide +kernel)) ggX5_costs_X5_costOf
set_option maxRecDepth 20000 in
theorem ggX5_isRight_X5_dropsOf : GoodIn wsX5_isRight wsX5_dropsOf := goodIn_r _ [6, 7, 8, 9, 10, 5, 11, 33, 34, 35, 36, 37, 38, 39, 40, 41, 42, 43, 44, 45, 46, 47, 48, 49, 50, 51, 52] rfl (by decide +kernel)
set_option maxRecDepth 20000 in
theorem gX5_isRight_X5_dropsOf : GoodIn wsX5_isRight (wsV RX5 105 RX5 yX5_dropsOf wsX5_dropsOf) := goodIn_app (goodIn_r _ [2, 3, 4, 5] rfl (by decide +kernel)) ggX5_isRight_X5_dropsOf
set_option maxRecDepth 20000 in
theorem ggX5_isRight_X5_youngest : GoodIn wsX5_isRight wsX5_youngest := goodIn_r _ [15, 7, 9, 10, 5, 11, 16, 17, 18, 19, 20, 21, 33, 34, 35, 36, 37, 38, 39, 40, 41, 42, 43, 44, 45, 46, 47, 48, 49, 50, 51, 52] rfl (by decide +kernel)
set_option maxRecDepth 20000 in
theorem gX5_isRight_X5_youngest : GoodIn wsX5_isRight (wsV RX5 108 RX5 yX5_youngest wsX5_youngest) := goodIn_app (goodIn_r _ [12, 13, 14, 5] rfl (by decide +kernel)) ggX5_isRight_X5_youngest
set_option maxRecDepth 20000 in
theorem ggX5_isRight_X5_partOf : GoodIn wsX5_isRight wsX5_partOf := goodIn_r _ [25, 7, 26, 27, 28, 29, 8, 9, 10, 5, 11, 2, 3, 4, 6, 33, 34, 35, 36, 37, 38, 39, 40, 41, 42, 43, 44, 45, 46, 47, 48, 49, 50, 51, 52] rfl (by decide +kernel)
set_option maxRecDepth 20000 in
theorem gX5_isRight_X5_partOf : GoodIn wsX5_isRight (wsV RX5 111 RX5 yX5_partOf wsX5_partOf) := goodIn_app (goodIn_r _ [22, 23, 24, 5] rfl (by decide +kernel)) ggX5_isRight_X5_partOf
set_option maxRecDepth 20000 in
theorem ggX5_isRight_X5_in : GoodIn wsX5_isRight wsX5_in := goodIn_r _ [32] rfl (by decide +kernel)
set_option maxRecDepth 20000 in
theorem gX5_isRight_X5_in : GoodIn wsX5_isRight (va_wsS RX5 66 yX5_in wsX5_in) := goodIn_app (goodIn_r _ [30, 31, 5] rfl (by decide +kernel)) ggX5_isRight_X5_in
set_option maxRecDepth 20000 in
theorem ggX5_blend_X5_isBlend : GoodIn wsX5_blend wsX5_isBlend := goodIn_r _ [5, 6, 7, 8, 9, 4, 10, 11, 12, 13, 49, 50, 51, 52, 53, 54, 55, 56, 57, 58, 59, 60, 61, 62, 63, 64, 65, 66, 67, 68] rfl (by decide +kernel)
set_option maxRecDepth 20000 in
theorem gX5_blend_X5_isBlend : GoodIn wsX5_blend (wsV RX5 114 RX5 yX5_isBlend wsX5_isBlend) := goodIn_app (goodIn_r _ [1, 2, 3, 4] rfl (by decide +kernel)) ggX5_blend_X5_isBlend
set_option maxRecDepth 20000 in
theorem ggX5_blend_X5_dropsOf : GoodIn wsX5_blend wsX5_dropsOf := goodIn_r _ [17, 6, 7, 11, 12, 4, 13, 49, 50, 51, 52, 53, 54, 55, 56, 57, 58, 59, 60, 61, 62, 63, 64, 65, 66, 67, 68] rfl (by decide +kernel)
set_option maxRecDepth 20000 in
theorem gX5_blend_X5_dropsOf : GoodIn wsX5_blend (wsV RX5 105 RX5 yX5_dropsOf wsX5_dropsOf) := goodIn_app (goodIn_r _ [14, 15, 16, 4] rfl (by decide +kernel)) ggX5_blend_X5_dropsOf
set_option maxRecDepth 20000 in
theorem ggX5_blend_X5_partOf : GoodIn wsX5_blend wsX5_partOf := goodIn_r _ [21, 6, 22, 23, 24, 25, 7, 11, 12, 4, 13, 14, 15, 16, 17, 49, 50, 51, 52, 53, 54, 55, 56, 57, 58, 59, 60, 61, 62, 63, 64, 65, 66, 67, 68] rfl (by decide +kernel)
set_option maxRecDepth 20000 in
theorem gX5_blend_X5_partOf : GoodIn wsX5_blend (wsV RX5 111 RX5 yX5_partOf wsX5_partOf) := goodIn_app (goodIn_r _ [18, 19, 20, 4] rfl (by decide +kernel)) ggX5_blend_X5_partOf
set_option maxRecDepth 20000 in
theorem ggX5_blend_X5_youngest : GoodIn wsX5_blend wsX5_youngest := goodIn_r _ [29, 6, 11, 12, 4, 13, 30, 31, 32, 33, 34, 35, 49, 50, 51, 52, 53, 54, 55, 56, 57, 58, 59, 60, 61, 62, 63, 64, 65, 66, 67, 68] rfl (by decide +kernel)
set_option maxRecDepth 20000 in
theorem gX5_blend_X5_youngest : GoodIn wsX5_blend (wsV RX5 108 RX5 yX5_youngest wsX5_youngest) := goodIn_app (goodIn_r _ [26, 27, 28, 4] rfl (by decide +kernel)) ggX5_blend_X5_youngest
set_option maxRecDepth 20000 in
theorem ggX5_blend_X5_costs : GoodIn wsX5_blend wsX5_costs := goodIn_r _ [39, 6, 11, 12, 4, 13, 40, 41, 42, 43, 7, 30, 31, 32, 33, 34, 35, 49, 50, 51, 52, 53, 54, 55, 56, 57, 58, 59, 60, 61, 62, 63, 64, 65, 66, 67, 68] rfl (by decide +kernel)
set_option maxRecDepth 20000 in
theorem gX5_blend_X5_costs : GoodIn wsX5_blend (wsV RX5 117 RX5 yX5_costs wsX5_costs) := goodIn_app (goodIn_r _ [36, 37, 38, 4] rfl (by decide +kernel)) ggX5_blend_X5_costs
set_option maxRecDepth 20000 in
theorem ggX5_blend_X5_isRight : GoodIn wsX5_blend wsX5_isRight := goodIn_r _ [47, 48, 14, 15, 16, 4, 17, 6, 7, 11, 12, 13, 26, 27, 28, 29, 30, 31, 32, 33, 34, 35, 18, 19, 20, 21, 22, 23, 24, 25, 8, 9, 10, 49, 50, 51, 52, 53, 54, 55, 56, 57, 58, 59, 60, 61, 62, 63, 64, 65, 66, 67, 68] rfl (by decide +kernel)
set_option maxRecDepth 20000 in
theorem gX5_blend_X5_isRight : GoodIn wsX5_blend (wsV RX5 120 RX5 yX5_isRight wsX5_isRight) := goodIn_app (goodIn_r _ [44, 45, 46, 4] rfl (by decide +kernel)) ggX5_blend_X5_isRight
set_option maxRecDepth 20000 in
theorem ggX5_best_X5_in : GoodIn wsX5_best wsX5_in := goodIn_r _ [5] rfl (by decide +kernel)
set_option maxRecDepth 20000 in
theorem gX5_best_X5_in : GoodIn wsX5_best (va_wsS RX5 66 yX5_in wsX5_in) := goodIn_app (goodIn_r _ [2, 3, 4] rfl (by decide +kernel)) ggX5_best_X5_in
set_option maxRecDepth 20000 in
theorem ggX5_best_X5_isBlend : GoodIn wsX5_best wsX5_isBlend := goodIn_r _ [9, 1, 10, 2, 3, 4, 5, 11, 12, 13, 49, 50, 51, 52, 53, 54, 55, 56, 57, 58, 59, 60, 61, 62, 63, 64, 65, 66, 67, 68] rfl (by decide +kernel)
set_option maxRecDepth 20000 in
theorem gX5_best_X5_isBlend : GoodIn wsX5_best (wsV RX5 114 RX5 yX5_isBlend wsX5_isBlend) := goodIn_app (goodIn_r _ [6, 7, 8, 4] rfl (by decide +kernel)) ggX5_best_X5_isBlend
set_option maxRecDepth 20000 in
theorem ggX5_best_X5_costs : GoodIn wsX5_best wsX5_costs := goodIn_r _ [17, 1, 11, 12, 4, 13, 18, 19, 20, 21, 10, 22, 23, 24, 25, 26, 27, 49, 50, 51, 52, 53, 54, 55, 56, 57, 58, 59, 60, 61, 62, 63, 64, 65, 66, 67, 68] rfl (by decide +kernel)
set_option maxRecDepth 20000 in
theorem gX5_best_X5_costs : GoodIn wsX5_best (wsV RX5 117 RX5 yX5_costs wsX5_costs) := goodIn_app (goodIn_r _ [14, 15, 16, 4] rfl (by decide +kernel)) ggX5_best_X5_costs
set_option maxRecDepth 20000 in
theorem ggX5_best_X5_isRight : GoodIn wsX5_best wsX5_isRight := goodIn_r _ [31, 32, 33, 34, 35, 4, 36, 1, 10, 11, 12, 13, 37, 38, 39, 40, 22, 23, 24, 25, 26, 27, 41, 42, 43, 44, 45, 46, 47, 48, 2, 3, 5, 49, 50, 51, 52, 53, 54, 55, 56, 57, 58, 59, 60, 61, 62, 63, 64, 65, 66, 67, 68] rfl (by decide +kernel)
set_option maxRecDepth 20000 in
theorem gX5_best_X5_isRight : GoodIn wsX5_best (wsV RX5 120 RX5 yX5_isRight wsX5_isRight) := goodIn_app (goodIn_r _ [28, 29, 30, 4] rfl (by decide +kernel)) ggX5_best_X5_isRight
set_option maxRecDepth 20000 in
theorem ggX5_lasts_X5_in : GoodIn wsX5_lasts wsX5_in := goodIn_r _ [9] rfl (by decide +kernel)
set_option maxRecDepth 20000 in
theorem gX5_lasts_X5_in : GoodIn wsX5_lasts (va_wsS RX5 66 yX5_in wsX5_in) := goodIn_app (goodIn_r _ [6, 7, 8] rfl (by decide +kernel)) ggX5_lasts_X5_in
set_option maxRecDepth 20000 in
theorem ggX5_lasts_X5_ageOf : GoodIn wsX5_lasts wsX5_ageOf := goodIn_r _ [13, 14, 4, 23, 24, 25, 26, 27, 28, 29, 30, 31, 32, 33, 34, 35, 36, 37, 38, 39, 40, 41, 42] rfl (by decide +kernel)
set_option maxRecDepth 20000 in
theorem gX5_lasts_X5_ageOf : GoodIn wsX5_lasts (wsV RX5 93 RX5 yX5_ageOf wsX5_ageOf) := goodIn_app (goodIn_r _ [10, 11, 12, 8] rfl (by decide +kernel)) ggX5_lasts_X5_ageOf
set_option maxRecDepth 20000 in
theorem ggX5_lasts_X5_lossOf : GoodIn wsX5_lasts wsX5_lossOf := goodIn_r _ [18, 19, 23, 24, 25, 26, 27, 28, 29, 30, 31, 32, 33, 34, 35, 36, 37, 38, 39, 40, 41, 42] rfl (by decide +kernel)
set_option maxRecDepth 20000 in
theorem gX5_lasts_X5_lossOf : GoodIn wsX5_lasts (wsV RX5 70 RX5 yX5_lossOf wsX5_lossOf) := goodIn_app (goodIn_r _ [15, 16, 17, 8] rfl (by decide +kernel)) ggX5_lasts_X5_lossOf
set_option maxRecDepth 20000 in
theorem ggX5_lasts_X5_lostOf : GoodIn wsX5_lasts wsX5_lostOf := goodIn_r _ [22] rfl (by decide +kernel)
set_option maxRecDepth 20000 in
theorem gX5_lasts_X5_lostOf : GoodIn wsX5_lasts (va_wsS RX5 74 yX5_lostOf wsX5_lostOf) := goodIn_app (goodIn_r _ [20, 21, 8] rfl (by decide +kernel)) ggX5_lasts_X5_lostOf
set_option maxRecDepth 20000 in
theorem ggX5_cut_X5_isCask : GoodIn wsX5_cut wsX5_isCask := goodIn_r _ [7, 8, 9, 10, 6, 11, 12, 13, 14, 15, 16, 17, 18, 19, 20, 21, 22, 23, 24, 25, 26, 27, 28, 29, 30, 31] rfl (by decide +kernel)
set_option maxRecDepth 20000 in
theorem gX5_cut_X5_isCask : GoodIn wsX5_cut (wsV RX5 81 RX5 yX5_isCask wsX5_isCask) := goodIn_app (goodIn_r _ [3, 4, 5, 6] rfl (by decide +kernel)) ggX5_cut_X5_isCask
set_option maxRecDepth 20000 in
theorem ggX5_cut_X5_in : GoodIn wsX5_cut wsX5_in := goodIn_r _ [11] rfl (by decide +kernel)
set_option maxRecDepth 20000 in
theorem gX5_cut_X5_in : GoodIn wsX5_cut (va_wsS RX5 66 yX5_in wsX5_in) := goodIn_app (goodIn_r _ [9, 10, 6] rfl (by decide +kernel)) ggX5_cut_X5_in
set_option maxRecDepth 20000 in
theorem ggX5_rate_X5_in : GoodIn wsX5_rate wsX5_in := goodIn_r _ [5] rfl (by decide +kernel)
set_option maxRecDepth 20000 in
theorem gX5_rate_X5_in : GoodIn wsX5_rate (va_wsS RX5 66 yX5_in wsX5_in) := goodIn_app (goodIn_r _ [2, 3, 4] rfl (by decide +kernel)) ggX5_rate_X5_in
set_option maxRecDepth 20000 in
theorem ggX5_duty_X5_in : GoodIn wsX5_duty wsX5_in := goodIn_r _ [8] rfl (by decide +kernel)
set_option maxRecDepth 20000 in
theorem gX5_duty_X5_in : GoodIn wsX5_duty (va_wsS RX5 66 yX5_in wsX5_in) := goodIn_app (goodIn_r _ [5, 6, 7] rfl (by decide +kernel)) ggX5_duty_X5_in
set_option maxRecDepth 20000 in
theorem ggX5_duty_X5_has : GoodIn wsX5_duty wsX5_has := goodIn_r _ [11] rfl (by decide +kernel)
set_option maxRecDepth 20000 in
theorem gX5_duty_X5_has : GoodIn wsX5_duty (va_wsS RX5 101 yX5_has wsX5_has) := goodIn_app (goodIn_r _ [9, 10, 7] rfl (by decide +kernel)) ggX5_duty_X5_has
set_option maxRecDepth 20000 in
theorem ggX5_odds_X5_in : GoodIn wsX5_odds wsX5_in := goodIn_r _ [5] rfl (by decide +kernel)
set_option maxRecDepth 20000 in
theorem gX5_odds_X5_in : GoodIn wsX5_odds (va_wsS RX5 66 yX5_in wsX5_in) := goodIn_app (goodIn_r _ [2, 3, 4] rfl (by decide +kernel)) ggX5_odds_X5_in
set_option maxRecDepth 20000 in
theorem ggX5_odds_X5_ways : GoodIn wsX5_odds wsX5_ways := goodIn_r _ [8] rfl (by decide +kernel)
set_option maxRecDepth 20000 in
theorem gX5_odds_X5_ways : GoodIn wsX5_odds (va_wsS RX5 123 yX5_ways wsX5_ways) := goodIn_app (goodIn_r _ [6, 7, 4] rfl (by decide +kernel)) ggX5_odds_X5_ways
set_option maxRecDepth 20000 in
theorem ggX5_apart_X5_in : GoodIn wsX5_apart wsX5_in := goodIn_r _ [5] rfl (by decide +kernel)
set_option maxRecDepth 20000 in
theorem gX5_apart_X5_in : GoodIn wsX5_apart (va_wsS RX5 66 yX5_in wsX5_in) := goodIn_app (goodIn_r _ [2, 3, 4] rfl (by decide +kernel)) ggX5_apart_X5_in
set_option maxRecDepth 20000 in
theorem ggX5_apart_X5_ways : GoodIn wsX5_apart wsX5_ways := goodIn_r _ [8] rfl (by decide +kernel)
set_option maxRecDepth 20000 in
theorem gX5_apart_X5_ways : GoodIn wsX5_apart (va_wsS RX5 123 yX5_ways wsX5_ways) := goodIn_app (goodIn_r _ [6, 7, 4] rfl (by decide +kernel)) ggX5_apart_X5_ways
set_option maxRecDepth 20000 in
theorem ggX5_read_X5_in : GoodIn wsX5_read wsX5_in := goodIn_r _ [8] rfl (by decide +kernel)
set_option maxRecDepth 20000 in
theorem gX5_read_X5_in : GoodIn wsX5_read (va_wsS RX5 66 yX5_in wsX5_in) := goodIn_app (goodIn_r _ [5, 6, 7] rfl (by decide +kernel)) ggX5_read_X5_in
set_option maxRecDepth 20000 in
theorem ggX5_firstWrong_X5_lead : GoodIn wsX5_firstWrong wsX5_lead := goodIn_r _ [11, 4, 5, 2, 3, 6, 12, 13, 14, 15, 16, 17, 18, 19, 20, 21, 22, 23, 24, 25, 26, 27, 28, 29, 30, 31] rfl (by decide +kernel)
set_option maxRecDepth 20000 in
theorem gX5_firstWrong_X5_lead : GoodIn wsX5_firstWrong (wsV RX5 134 RX5 yX5_lead wsX5_lead) := goodIn_app (goodIn_r _ [7, 8, 9, 10] rfl (by decide +kernel)) ggX5_firstWrong_X5_lead
set_option maxRecDepth 20000 in
theorem ggX5_contradicts_X5_firstWrong : GoodIn wsX5_contradicts wsX5_firstWrong := goodIn_r _ [5, 6, 7, 8, 9, 10, 11, 12, 13, 14, 4, 15, 16, 17, 18, 19, 20, 21, 22, 23, 24, 25, 26, 27, 28, 29, 30, 31, 32, 33, 34, 35] rfl (by decide +kernel)
set_option maxRecDepth 20000 in
theorem gX5_contradicts_X5_firstWrong : GoodIn wsX5_contradicts (wsV RX5 138 RX5 yX5_firstWrong wsX5_firstWrong) := goodIn_app (goodIn_r _ [1, 2, 3, 4] rfl (by decide +kernel)) ggX5_contradicts_X5_firstWrong
set_option maxRecDepth 20000 in
theorem ggX5_hang_X5_in : GoodIn wsX5_hang wsX5_in := goodIn_r _ [9] rfl (by decide +kernel)
set_option maxRecDepth 20000 in
theorem gX5_hang_X5_in : GoodIn wsX5_hang (va_wsS RX5 66 yX5_in wsX5_in) := goodIn_app (goodIn_r _ [6, 7, 8] rfl (by decide +kernel)) ggX5_hang_X5_in
set_option maxRecDepth 20000 in
theorem ggX5_hang_X5_firstWrong : GoodIn wsX5_hang wsX5_firstWrong := goodIn_r _ [13, 2, 14, 15, 3, 4, 16, 17, 18, 19, 8, 20, 21, 22, 23, 24, 25, 26, 27, 28, 29, 30, 31, 32, 33, 34, 35, 36, 37, 38, 39, 40] rfl (by decide +kernel)
set_option maxRecDepth 20000 in
theorem gX5_hang_X5_firstWrong : GoodIn wsX5_hang (wsV RX5 138 RX5 yX5_firstWrong wsX5_firstWrong) := goodIn_app (goodIn_r _ [10, 11, 12, 8] rfl (by decide +kernel)) ggX5_hang_X5_firstWrong
set_option maxRecDepth 20000 in
theorem ggX5_hang_X5_lead : GoodIn wsX5_hang wsX5_lead := goodIn_r _ [20, 3, 4, 14, 15, 16, 21, 22, 23, 24, 25, 26, 27, 28, 29, 30, 31, 32, 33, 34, 35, 36, 37, 38, 39, 40] rfl (by decide +kernel)
set_option maxRecDepth 20000 in
theorem gX5_hang_X5_lead : GoodIn wsX5_hang (wsV RX5 134 RX5 yX5_lead wsX5_lead) := goodIn_app (goodIn_r _ [17, 18, 19, 8] rfl (by decide +kernel)) ggX5_hang_X5_lead
set_option maxRecDepth 20000 in
theorem ggL_law_X4_init : GoodIn wsL_law wsX4_init := goodIn_r _ [8, 9, 10, 11, 12, 13, 14, 15, 16, 17, 18, 19, 20, 21, 22, 23, 24, 25, 26, 27, 28, 29, 30, 31, 32, 33, 34, 35, 36, 37, 38, 39, 40, 41, 42, 43, 44, 45, 46, 47, 48, 49, 50, 51, 52, 53, 54, 55, 506, 507, 508, 509, 510, 511, 512, 513, 514, 535, 536, 537, 538, 539, 540, 541, 542, 543, 544, 545, 546, 547, 548, 549, 550, 551, 552, 553, 554] rfl (by decide +kernel)
set_option maxRecDepth 20000 in
theorem gL_law_X4_init : GoodIn wsL_law (wsX4_init) := ggL_law_X4_init
set_option maxRecDepth 20000 in
theorem ggL_law_X5_init : GoodIn wsL_law wsX5_init := goodIn_r _ [58, 59, 10, 11, 14, 60, 61, 62, 63, 64, 65, 66, 67, 68, 69, 70, 71, 72, 73, 74, 75, 76, 77, 515, 516, 517, 518, 519, 520, 521, 522, 523, 524, 525, 526, 527, 528, 529, 530, 531, 532, 533, 534] rfl (by decide +kernel)
set_option maxRecDepth 20000 in
theorem gL_law_X5_init : GoodIn wsL_law (wsX5_init) := ggL_law_X5_init
set_option maxRecDepth 20000 in
theorem ggL_law_X4_lay : GoodIn wsL_law wsX4_lay := goodIn_r _ [81, 28, 13, 29, 82, 83, 2, 84, 85, 86, 87, 33, 88, 89, 90, 91, 92, 93, 94, 506, 507, 508, 509, 510, 511, 512, 513, 514, 547, 548, 549, 550, 551, 552, 553, 554] rfl (by decide +kernel)
set_option maxRecDepth 20000 in
theorem gL_law_X4_lay : GoodIn wsL_law (wsV RL 13 RX4 yX4_lay wsX4_lay) := goodIn_app (goodIn_r _ [78, 79, 80, 2] rfl (by decide +kernel)) ggL_law_X4_lay
set_option maxRecDepth 20000 in
theorem ggL_law_X5_lay : GoodIn wsL_law wsX5_lay := goodIn_r _ [98, 99, 60, 61, 62, 63, 64, 77, 65, 66, 67, 100, 101, 5, 102, 515, 516, 517, 518, 519, 520, 521, 522, 523, 524, 525, 526, 527, 528, 529, 530, 531, 532, 533, 534] rfl (by decide +kernel)
set_option maxRecDepth 20000 in
theorem gL_law_X5_lay : GoodIn wsL_law (wsV RL 17 RX5 yX5_lay wsX5_lay) := goodIn_app (goodIn_r _ [95, 96, 97, 5] rfl (by decide +kernel)) ggL_law_X5_lay
set_option maxRecDepth 20000 in
theorem ggL_law_X4_years : GoodIn wsL_law wsX4_years := goodIn_r _ [106, 29, 82, 83, 2, 84, 107, 108, 109, 110, 28, 13, 111, 112, 113, 114, 33, 115, 90, 116, 117, 118, 119, 120, 93, 121, 89, 91, 122, 123, 124, 125, 92, 126, 127, 128, 129, 94, 130, 131, 132, 133, 134, 135, 136, 137, 506, 507, 508, 509, 510, 511, 512, 513, 514, 547, 548, 549, 550, 551, 552, 553, 554] rfl (by decide +kernel)
set_option maxRecDepth 20000 in
theorem gL_law_X4_years : GoodIn wsL_law (wsV RL 18 RX4 yX4_years wsX4_years) := goodIn_app (goodIn_r _ [103, 104, 105, 2] rfl (by decide +kernel)) ggL_law_X4_years
set_option maxRecDepth 20000 in
theorem ggL_law_X5_years : GoodIn wsL_law wsX5_years := goodIn_r _ [141, 77, 100, 101, 5, 102, 142, 143, 144, 145, 99, 61, 60, 64, 65, 66, 67, 62, 146, 147, 148, 149, 63, 150, 151, 152, 515, 516, 517, 518, 519, 520, 521, 522, 523, 524, 525, 526, 527, 528, 529, 530, 531, 532, 533, 534] rfl (by decide +kernel)
set_option maxRecDepth 20000 in
theorem gL_law_X5_years : GoodIn wsL_law (wsV RL 22 RX5 yX5_years wsX5_years) := goodIn_app (goodIn_r _ [138, 139, 140, 5] rfl (by decide +kernel)) ggL_law_X5_years
set_option maxRecDepth 20000 in
theorem ggL_law_X4_loss : GoodIn wsL_law wsX4_loss := goodIn_r _ [156, 31, 157, 13, 158, 159, 160, 161, 2, 162, 28, 82, 83, 84, 163, 130, 131, 132, 118, 119, 120, 506, 507, 508, 509, 510, 511, 512, 513, 514, 547, 548, 549, 550, 551, 552, 553, 554] rfl (by decide +kernel)
set_option maxRecDepth 20000 in
theorem gL_law_X4_loss : GoodIn wsL_law (wsV RL 23 RX4 yX4_loss wsX4_loss) := goodIn_app (goodIn_r _ [153, 154, 155, 2] rfl (by decide +kernel)) ggL_law_X4_loss
set_option maxRecDepth 20000 in
theorem ggL_law_X5_loss : GoodIn wsL_law wsX5_loss := goodIn_r _ [167, 168, 169, 170, 171, 172, 173, 5, 174, 99, 100, 101, 102, 146, 147, 148, 149, 63, 515, 516, 517, 518, 519, 520, 521, 522, 523, 524, 525, 526, 527, 528, 529, 530, 531, 532, 533, 534] rfl (by decide +kernel)
set_option maxRecDepth 20000 in
theorem gL_law_X5_loss : GoodIn wsL_law (wsV RL 27 RX5 yX5_loss wsX5_loss) := goodIn_app (goodIn_r _ [164, 165, 166, 5] rfl (by decide +kernel)) ggL_law_X5_loss
set_option maxRecDepth 20000 in
theorem ggL_law_X4_about : GoodIn wsL_law wsX4_about := goodIn_r _ [178, 13, 111, 179, 29, 180, 181, 182, 183, 158, 159, 160, 161, 2, 162, 28, 82, 83, 84, 184, 127, 128, 33, 129, 94, 185, 186, 187, 188, 90, 126, 136, 137, 506, 507, 508, 509, 510, 511, 512, 513, 514, 547, 548, 549, 550, 551, 552, 553, 554] rfl (by decide +kernel)
set_option maxRecDepth 20000 in
theorem gL_law_X4_about : GoodIn wsL_law (wsV RL 28 RX4 yX4_about wsX4_about) := goodIn_app (goodIn_r _ [175, 176, 177, 2] rfl (by decide +kernel)) ggL_law_X4_about
set_option maxRecDepth 20000 in
theorem ggL_law_X5_about : GoodIn wsL_law wsX5_about := goodIn_r _ [192, 61, 62, 65, 66, 67, 60, 63, 171, 172, 173, 5, 174, 99, 100, 101, 102, 193, 194, 195, 196, 77, 64, 197, 198, 199, 200, 515, 516, 517, 518, 519, 520, 521, 522, 523, 524, 525, 526, 527, 528, 529, 530, 531, 532, 533, 534] rfl (by decide +kernel)
set_option maxRecDepth 20000 in
theorem gL_law_X5_about : GoodIn wsL_law (wsV RL 32 RX5 yX5_about wsX5_about) := goodIn_app (goodIn_r _ [189, 190, 191, 5] rfl (by decide +kernel)) ggL_law_X5_about
set_option maxRecDepth 20000 in
theorem ggL_law_X4_move : GoodIn wsL_law wsX4_move := goodIn_r _ [204, 13, 158, 159, 160, 161, 2, 162, 28, 82, 83, 84, 506, 507, 508, 509, 510, 511, 512, 513, 514, 547, 548, 549, 550, 551, 552, 553, 554] rfl (by decide +kernel)
set_option maxRecDepth 20000 in
theorem gL_law_X4_move : GoodIn wsL_law (wsV RL 33 RX4 yX4_move wsX4_move) := goodIn_app (goodIn_r _ [201, 202, 203, 2] rfl (by decide +kernel)) ggL_law_X4_move
set_option maxRecDepth 20000 in
theorem ggL_law_X5_move : GoodIn wsL_law wsX5_move := goodIn_r _ [208, 63, 171, 172, 173, 5, 174, 99, 100, 101, 102, 515, 516, 517, 518, 519, 520, 521, 522, 523, 524, 525, 526, 527, 528, 529, 530, 531, 532, 533, 534] rfl (by decide +kernel)
set_option maxRecDepth 20000 in
theorem gL_law_X5_move : GoodIn wsL_law (wsV RL 36 RX5 yX5_move wsX5_move) := goodIn_app (goodIn_r _ [205, 206, 207, 5] rfl (by decide +kernel)) ggL_law_X5_move
set_option maxRecDepth 20000 in
theorem ggL_law_X4_draw : GoodIn wsL_law wsX4_draw := goodIn_r _ [212, 13, 111, 159, 160, 161, 2, 162, 28, 82, 83, 84, 506, 507, 508, 509, 510, 511, 512, 513, 514, 547, 548, 549, 550, 551, 552, 553, 554] rfl (by decide +kernel)
set_option maxRecDepth 20000 in
theorem gL_law_X4_draw : GoodIn wsL_law (wsV RL 37 RX4 yX4_draw wsX4_draw) := goodIn_app (goodIn_r _ [209, 210, 211, 2] rfl (by decide +kernel)) ggL_law_X4_draw
set_option maxRecDepth 20000 in
theorem ggL_law_X5_draw : GoodIn wsL_law wsX5_draw := goodIn_r _ [216, 61, 171, 172, 173, 5, 174, 99, 100, 101, 102, 515, 516, 517, 518, 519, 520, 521, 522, 523, 524, 525, 526, 527, 528, 529, 530, 531, 532, 533, 534] rfl (by decide +kernel)
set_option maxRecDepth 20000 in
theorem gL_law_X5_draw : GoodIn wsL_law (wsV RL 40 RX5 yX5_draw wsX5_draw) := goodIn_app (goodIn_r _ [213, 214, 215, 5] rfl (by decide +kernel)) ggL_law_X5_draw
set_option maxRecDepth 20000 in
theorem ggL_law_X4_want : GoodIn wsL_law wsX4_want := goodIn_r _ [220, 19, 221, 82, 83, 2, 84, 222, 223, 18, 224, 225, 506, 507, 508, 509, 510, 511, 512, 513, 514, 535] rfl (by decide +kernel)
set_option maxRecDepth 20000 in
theorem gL_law_X4_want : GoodIn wsL_law (wsV RL 41 RX4 yX4_want wsX4_want) := goodIn_app (goodIn_r _ [217, 218, 219, 2] rfl (by decide +kernel)) ggL_law_X4_want
set_option maxRecDepth 20000 in
theorem ggL_law_X5_want : GoodIn wsL_law wsX5_want := goodIn_r _ [229, 230, 68, 100, 101, 5, 102, 515, 516, 517, 518, 519, 520, 521, 522, 523, 524, 525, 526, 527, 528, 529, 530, 531, 532, 533, 534] rfl (by decide +kernel)
set_option maxRecDepth 20000 in
theorem gL_law_X5_want : GoodIn wsL_law (wsV RL 44 RX5 yX5_want wsX5_want) := goodIn_app (goodIn_r _ [226, 227, 228, 5] rfl (by decide +kernel)) ggL_law_X5_want
set_option maxRecDepth 20000 in
theorem ggL_law_X4_blend : GoodIn wsL_law wsX4_blend := goodIn_r _ [234, 23, 235, 236, 237, 238, 239, 240, 241, 19, 242, 243, 244, 2, 245, 28, 82, 83, 84, 246, 247, 248, 249, 13, 111, 29, 250, 251, 252, 22, 253, 254, 255, 256, 257, 258, 259, 260, 261, 262, 263, 264, 265, 266, 267, 268, 269, 270, 271, 272, 273, 274, 119, 275, 276, 186, 187, 33, 188, 90, 126, 127, 128, 129, 94, 136, 137, 277, 278, 279, 280, 281, 282, 283, 284, 18, 285, 286, 37, 287, 288, 289, 290, 291, 292, 293, 294, 295, 506, 507, 508, 509, 510, 511, 512, 513, 514, 536, 537, 538, 539, 540, 541, 542, 547, 548, 549, 550, 551, 552, 553, 554, 535] rfl (by decide +kernel)
set_option maxRecDepth 20000 in
theorem gL_law_X4_blend : GoodIn wsL_law (wsV RL 45 RX4 yX4_blend wsX4_blend) := goodIn_app (goodIn_r _ [231, 232, 233, 2] rfl (by decide +kernel)) ggL_law_X4_blend
set_option maxRecDepth 20000 in
theorem ggL_law_X5_blend : GoodIn wsL_law wsX5_blend := goodIn_r _ [299, 300, 301, 302, 5, 303, 99, 61, 100, 101, 102, 304, 305, 306, 307, 308, 309, 310, 311, 312, 313, 314, 65, 66, 67, 62, 315, 316, 317, 318, 193, 194, 195, 196, 77, 64, 319, 320, 321, 322, 197, 198, 199, 200, 323, 324, 325, 326, 68, 515, 516, 517, 518, 519, 520, 521, 522, 523, 524, 525, 526, 527, 528, 529, 530, 531, 532, 533, 534] rfl (by decide +kernel)
set_option maxRecDepth 20000 in
theorem gL_law_X5_blend : GoodIn wsL_law (wsV RL 48 RX5 yX5_blend wsX5_blend) := goodIn_app (goodIn_r _ [296, 297, 298, 5] rfl (by decide +kernel)) ggL_law_X5_blend
set_option maxRecDepth 20000 in
theorem ggL_law_X4_best : GoodIn wsL_law wsX4_best := goodIn_r _ [330, 23, 241, 82, 83, 2, 84, 331, 332, 333, 334, 28, 19, 246, 247, 248, 249, 13, 111, 29, 235, 250, 251, 252, 22, 253, 254, 255, 256, 257, 258, 259, 260, 261, 262, 263, 264, 265, 266, 267, 268, 269, 270, 271, 272, 273, 274, 119, 275, 276, 186, 187, 33, 188, 90, 126, 127, 128, 129, 94, 136, 137, 277, 335, 291, 292, 18, 293, 294, 37, 282, 283, 284, 285, 286, 287, 288, 289, 290, 295, 279, 280, 281, 506, 507, 508, 509, 510, 511, 512, 513, 514, 536, 537, 538, 539, 540, 541, 542, 547, 548, 549, 550, 551, 552, 553, 554, 535] rfl (by decide +kernel)
set_option maxRecDepth 20000 in
theorem gL_law_X4_best : GoodIn wsL_law (wsV RL 49 RX4 yX4_best wsX4_best) := goodIn_app (goodIn_r _ [327, 328, 329, 2] rfl (by decide +kernel)) ggL_law_X4_best
set_option maxRecDepth 20000 in
theorem ggL_law_X5_best : GoodIn wsL_law wsX5_best := goodIn_r _ [339, 99, 100, 101, 5, 102, 300, 301, 302, 303, 61, 304, 305, 306, 319, 320, 321, 322, 197, 198, 199, 200, 193, 194, 195, 196, 77, 64, 323, 324, 325, 326, 68, 307, 308, 309, 310, 315, 316, 317, 318, 311, 312, 313, 314, 65, 66, 67, 62, 515, 516, 517, 518, 519, 520, 521, 522, 523, 524, 525, 526, 527, 528, 529, 530, 531, 532, 533, 534] rfl (by decide +kernel)
set_option maxRecDepth 20000 in
theorem gL_law_X5_best : GoodIn wsL_law (wsV RL 52 RX5 yX5_best wsX5_best) := goodIn_app (goodIn_r _ [336, 337, 338, 5] rfl (by decide +kernel)) ggL_law_X5_best
set_option maxRecDepth 20000 in
theorem ggL_law_X4_lasts : GoodIn wsL_law wsX4_lasts := goodIn_r _ [343, 28, 15, 13, 111, 29, 82, 83, 2, 84, 344, 345, 346, 347, 348, 274, 119, 275, 184, 127, 128, 33, 129, 94, 349, 350, 351, 352, 353, 123, 124, 125, 89, 92, 126, 130, 131, 132, 118, 120, 354, 133, 134, 135, 136, 137, 506, 507, 508, 509, 510, 511, 512, 513, 514, 547, 548, 549, 550, 551, 552, 553, 554] rfl (by decide +kernel)
set_option maxRecDepth 20000 in
theorem gL_law_X4_lasts : GoodIn wsL_law (wsV RL 53 RX4 yX4_lasts wsX4_lasts) := goodIn_app (goodIn_r _ [340, 341, 342, 2] rfl (by decide +kernel)) ggL_law_X4_lasts
set_option maxRecDepth 20000 in
theorem ggL_law_X5_lasts : GoodIn wsL_law wsX5_lasts := goodIn_r _ [358, 99, 73, 61, 64, 60, 100, 101, 5, 102, 193, 194, 195, 196, 77, 146, 147, 148, 149, 63, 150, 151, 152, 515, 516, 517, 518, 519, 520, 521, 522, 523, 524, 525, 526, 527, 528, 529, 530, 531, 532, 533, 534] rfl (by decide +kernel)
set_option maxRecDepth 20000 in
theorem gL_law_X5_lasts : GoodIn wsL_law (wsV RL 56 RX5 yX5_lasts wsX5_lasts) := goodIn_app (goodIn_r _ [355, 356, 357, 5] rfl (by decide +kernel)) ggL_law_X5_lasts
set_option maxRecDepth 20000 in
theorem ggL_law_X4_cut : GoodIn wsL_law wsX4_cut := goodIn_r _ [362, 13, 179, 132, 118, 119, 120, 111, 159, 160, 161, 2, 162, 28, 82, 83, 84, 135, 136, 137, 506, 507, 508, 509, 510, 511, 512, 513, 514, 547, 548, 549, 550, 551, 552, 553, 554] rfl (by decide +kernel)
set_option maxRecDepth 20000 in
theorem gL_law_X4_cut : GoodIn wsL_law (wsV RL 57 RX4 yX4_cut wsX4_cut) := goodIn_app (goodIn_r _ [359, 360, 361, 2] rfl (by decide +kernel)) ggL_law_X4_cut
set_option maxRecDepth 20000 in
theorem ggL_law_X5_cut : GoodIn wsL_law wsX5_cut := goodIn_r _ [366, 62, 61, 171, 172, 173, 5, 174, 99, 100, 101, 102, 515, 516, 517, 518, 519, 520, 521, 522, 523, 524, 525, 526, 527, 528, 529, 530, 531, 532, 533, 534] rfl (by decide +kernel)
set_option maxRecDepth 20000 in
theorem gL_law_X5_cut : GoodIn wsL_law (wsV RL 60 RX5 yX5_cut wsX5_cut) := goodIn_app (goodIn_r _ [363, 364, 365, 5] rfl (by decide +kernel)) ggL_law_X5_cut
set_option maxRecDepth 20000 in
theorem ggL_law_X4_rate : GoodIn wsL_law wsX4_rate := goodIn_r _ [370, 30, 82, 83, 2, 84, 506, 507, 508, 509, 510, 511, 512, 513, 514] rfl (by decide +kernel)
set_option maxRecDepth 20000 in
theorem gL_law_X4_rate : GoodIn wsL_law (wsV RL 61 RX4 yX4_rate wsX4_rate) := goodIn_app (goodIn_r _ [367, 368, 369, 2] rfl (by decide +kernel)) ggL_law_X4_rate
set_option maxRecDepth 20000 in
theorem ggL_law_X5_rate : GoodIn wsL_law wsX5_rate := goodIn_r _ [374, 69, 100, 101, 5, 102, 515, 516, 517, 518, 519, 520, 521, 522, 523, 524, 525, 526, 527, 528, 529, 530, 531, 532, 533, 534] rfl (by decide +kernel)
set_option maxRecDepth 20000 in
theorem gL_law_X5_rate : GoodIn wsL_law (wsV RL 64 RX5 yX5_rate wsX5_rate) := goodIn_app (goodIn_r _ [371, 372, 373, 5] rfl (by decide +kernel)) ggL_law_X5_rate
set_option maxRecDepth 20000 in
theorem ggL_law_X4_duty : GoodIn wsL_law wsX4_duty := goodIn_r _ [378, 28, 13, 111, 179, 30, 242, 243, 244, 2, 245, 82, 83, 84, 261, 262, 263, 506, 507, 508, 509, 510, 511, 512, 513, 514, 547, 548, 549, 550, 551, 552, 553, 554] rfl (by decide +kernel)
set_option maxRecDepth 20000 in
theorem gL_law_X4_duty : GoodIn wsL_law (wsV RL 65 RX4 yX4_duty wsX4_duty) := goodIn_app (goodIn_r _ [375, 376, 377, 2] rfl (by decide +kernel)) ggL_law_X4_duty
set_option maxRecDepth 20000 in
theorem ggL_law_X5_duty : GoodIn wsL_law wsX5_duty := goodIn_r _ [382, 99, 61, 62, 69, 100, 101, 5, 102, 304, 305, 306, 515, 516, 517, 518, 519, 520, 521, 522, 523, 524, 525, 526, 527, 528, 529, 530, 531, 532, 533, 534] rfl (by decide +kernel)
set_option maxRecDepth 20000 in
theorem gL_law_X5_duty : GoodIn wsL_law (wsV RL 68 RX5 yX5_duty wsX5_duty) := goodIn_app (goodIn_r _ [379, 380, 381, 5] rfl (by decide +kernel)) ggL_law_X5_duty
set_option maxRecDepth 20000 in
theorem ggL_law_X4_odds : GoodIn wsL_law wsX4_odds := goodIn_r _ [386, 387, 388, 389, 2, 390, 82, 83, 84, 391, 392, 393, 394] rfl (by decide +kernel)
set_option maxRecDepth 20000 in
theorem gL_law_X4_odds : GoodIn wsL_law (wsV RL 69 RX4 yX4_odds wsX4_odds) := goodIn_app (goodIn_r _ [383, 384, 385, 2] rfl (by decide +kernel)) ggL_law_X4_odds
set_option maxRecDepth 20000 in
theorem ggL_law_X5_odds : GoodIn wsL_law wsX5_odds := goodIn_r _ [398, 399, 100, 101, 5, 102, 400, 401, 402] rfl (by decide +kernel)
set_option maxRecDepth 20000 in
theorem gL_law_X5_odds : GoodIn wsL_law (wsV RL 73 RX5 yX5_odds wsX5_odds) := goodIn_app (goodIn_r _ [395, 396, 397, 5] rfl (by decide +kernel)) ggL_law_X5_odds
set_option maxRecDepth 20000 in
theorem ggL_law_X4_apart : GoodIn wsL_law wsX4_apart := goodIn_r _ [406, 407, 388, 389, 2, 390, 82, 83, 84, 391, 392, 393, 394] rfl (by decide +kernel)
set_option maxRecDepth 20000 in
theorem gL_law_X4_apart : GoodIn wsL_law (wsV RL 74 RX4 yX4_apart wsX4_apart) := goodIn_app (goodIn_r _ [403, 404, 405, 2] rfl (by decide +kernel)) ggL_law_X4_apart
set_option maxRecDepth 20000 in
theorem ggL_law_X5_apart : GoodIn wsL_law wsX5_apart := goodIn_r _ [411, 412, 100, 101, 5, 102, 400, 401, 402] rfl (by decide +kernel)
set_option maxRecDepth 20000 in
theorem gL_law_X5_apart : GoodIn wsL_law (wsV RL 77 RX5 yX5_apart wsX5_apart) := goodIn_app (goodIn_r _ [408, 409, 410, 5] rfl (by decide +kernel)) ggL_law_X5_apart
set_option maxRecDepth 20000 in
theorem ggL_law_X4_read : GoodIn wsL_law wsX4_read := goodIn_r _ [416, 27, 417, 418, 419, 2, 420, 82, 83, 84, 421, 422, 423, 26, 424, 52, 51, 425, 426, 427, 428, 46, 45, 429, 430, 431, 432, 433, 434, 435, 436, 506, 507, 508, 509, 510, 511, 512, 513, 514, 543, 544, 545, 546] rfl (by decide +kernel)
set_option maxRecDepth 20000 in
theorem gL_law_X4_read : GoodIn wsL_law (wsV RL 78 RX4 yX4_read wsX4_read) := goodIn_app (goodIn_r _ [413, 414, 415, 2] rfl (by decide +kernel)) ggL_law_X4_read
set_option maxRecDepth 20000 in
theorem ggL_law_X5_read : GoodIn wsL_law wsX5_read := goodIn_r _ [440, 441, 70, 71, 72, 100, 101, 5, 102, 515, 516, 517, 518, 519, 520, 521, 522, 523, 524, 525, 526, 527, 528, 529, 530, 531, 532, 533, 534] rfl (by decide +kernel)
set_option maxRecDepth 20000 in
theorem gL_law_X5_read : GoodIn wsL_law (wsV RL 81 RX5 yX5_read wsX5_read) := goodIn_app (goodIn_r _ [437, 438, 439, 5] rfl (by decide +kernel)) ggL_law_X5_read
set_option maxRecDepth 20000 in
theorem ggL_law_X4_clear : GoodIn wsL_law wsX4_clear := goodIn_r _ [445, 27, 417, 446, 48, 49, 26, 50, 45, 46, 51, 52, 506, 507, 508, 509, 510, 511, 512, 513, 514, 543, 544, 545, 546] rfl (by decide +kernel)
set_option maxRecDepth 20000 in
theorem gL_law_X4_clear : GoodIn wsL_law (wsV RL 82 RX4 yX4_clear wsX4_clear) := goodIn_app (goodIn_r _ [442, 443, 444, 2] rfl (by decide +kernel)) ggL_law_X4_clear
set_option maxRecDepth 20000 in
theorem ggL_law_X5_clear : GoodIn wsL_law wsX5_clear := goodIn_r _ [450, 441, 515, 516, 517, 518, 519, 520, 521, 522, 523, 524, 525, 526, 527, 528, 529, 530, 531, 532, 533, 534] rfl (by decide +kernel)
set_option maxRecDepth 20000 in
theorem gL_law_X5_clear : GoodIn wsL_law (wsV RL 86 RX5 yX5_clear wsX5_clear) := goodIn_app (goodIn_r _ [447, 448, 449, 5] rfl (by decide +kernel)) ggL_law_X5_clear
set_option maxRecDepth 20000 in
theorem ggL_law_X4_contradicts : GoodIn wsL_law wsX4_contradicts := goodIn_r _ [454, 27, 455, 506, 507, 508, 509, 510, 511, 512, 513, 514, 543, 544, 545, 546] rfl (by decide +kernel)
set_option maxRecDepth 20000 in
theorem gL_law_X4_contradicts : GoodIn wsL_law (wsV RL 87 RX4 yX4_contradicts wsX4_contradicts) := goodIn_app (goodIn_r _ [451, 452, 453, 2] rfl (by decide +kernel)) ggL_law_X4_contradicts
set_option maxRecDepth 20000 in
theorem ggL_law_X5_contradicts : GoodIn wsL_law wsX5_contradicts := goodIn_r _ [459, 460, 461, 462, 5, 463, 441, 70, 71, 75, 76, 72, 464, 465, 466, 467, 515, 516, 517, 518, 519, 520, 521, 522, 523, 524, 525, 526, 527, 528, 529, 530, 531, 532, 533, 534] rfl (by decide +kernel)
set_option maxRecDepth 20000 in
theorem gL_law_X5_contradicts : GoodIn wsL_law (wsV RL 90 RX5 yX5_contradicts wsX5_contradicts) := goodIn_app (goodIn_r _ [456, 457, 458, 5] rfl (by decide +kernel)) ggL_law_X5_contradicts
set_option maxRecDepth 20000 in
theorem ggL_law_X4_hang : GoodIn wsL_law wsX4_hang := goodIn_r _ [471, 472, 27, 473, 474, 418, 419, 2, 420, 82, 83, 84, 475, 430, 431, 26, 432, 45, 506, 507, 508, 509, 510, 511, 512, 513, 514, 543, 544, 545, 546] rfl (by decide +kernel)
set_option maxRecDepth 20000 in
theorem gL_law_X4_hang : GoodIn wsL_law (wsV RL 91 RX4 yX4_hang wsX4_hang) := goodIn_app (goodIn_r _ [468, 469, 470, 2] rfl (by decide +kernel)) ggL_law_X4_hang
set_option maxRecDepth 20000 in
theorem ggL_law_X5_hang : GoodIn wsL_law wsX5_hang := goodIn_r _ [479, 480, 441, 75, 76, 481, 100, 101, 5, 102, 460, 461, 462, 463, 70, 71, 72, 464, 465, 466, 467, 515, 516, 517, 518, 519, 520, 521, 522, 523, 524, 525, 526, 527, 528, 529, 530, 531, 532, 533, 534] rfl (by decide +kernel)
set_option maxRecDepth 20000 in
theorem gL_law_X5_hang : GoodIn wsL_law (wsV RL 94 RX5 yX5_hang wsX5_hang) := goodIn_app (goodIn_r _ [476, 477, 478, 5] rfl (by decide +kernel)) ggL_law_X5_hang
set_option maxRecDepth 20000 in
theorem ggL_law_X4_count : GoodIn wsL_law wsX4_count := goodIn_r _ [485, 29, 28, 27, 417, 30, 486, 487, 488, 2, 489, 13, 111, 490, 491, 492, 493, 506, 507, 508, 509, 510, 511, 512, 513, 514, 543, 544, 545, 546, 547, 548, 549, 550, 551, 552, 553, 554] rfl (by decide +kernel)
set_option maxRecDepth 20000 in
theorem gL_law_X4_count : GoodIn wsL_law (wsV RL 95 RX4 yX4_count wsX4_count) := goodIn_app (goodIn_r _ [482, 483, 484, 2] rfl (by decide +kernel)) ggL_law_X4_count
set_option maxRecDepth 20000 in
theorem ggL_law_X5_count : GoodIn wsL_law wsX5_count := goodIn_r _ [497, 77, 99, 61, 441, 69, 515, 516, 517, 518, 519, 520, 521, 522, 523, 524, 525, 526, 527, 528, 529, 530, 531, 532, 533, 534] rfl (by decide +kernel)
set_option maxRecDepth 20000 in
theorem gL_law_X5_count : GoodIn wsL_law (wsV RL 98 RX5 yX5_count wsX5_count) := goodIn_app (goodIn_r _ [494, 495, 496, 5] rfl (by decide +kernel)) ggL_law_X5_count
set_option maxRecDepth 20000 in
theorem ggL_law_X4_trace : GoodIn wsL_law wsX4_trace := goodIn_r _ [501, 31, 506, 507, 508, 509, 510, 511, 512, 513, 514] rfl (by decide +kernel)
set_option maxRecDepth 20000 in
theorem gL_law_X4_trace : GoodIn wsL_law (wsV RL 99 RX4 yX4_trace wsX4_trace) := goodIn_app (goodIn_r _ [498, 499, 500, 2] rfl (by decide +kernel)) ggL_law_X4_trace
set_option maxRecDepth 20000 in
theorem ggL_law_X5_trace : GoodIn wsL_law wsX5_trace := goodIn_r _ [505, 168, 515, 516, 517, 518, 519, 520, 521, 522, 523, 524, 525, 526, 527, 528, 529, 530, 531, 532, 533, 534] rfl (by decide +kernel)
set_option maxRecDepth 20000 in
theorem gL_law_X5_trace : GoodIn wsL_law (wsV RL 103 RX5 yX5_trace wsX5_trace) := goodIn_app (goodIn_r _ [502, 503, 504, 5] rfl (by decide +kernel)) ggL_law_X5_trace
