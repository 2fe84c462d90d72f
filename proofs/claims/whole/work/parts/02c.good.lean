set_option maxRecDepth 20000 in
theorem ggX0_init_X2_init : GoodIn wsX0_init wsX2_init := goodIn_r _ [17, 18, 2, 3, 19, 20, 21, 30, 31] (by decide +kernel) (by decide +kernel)
set_option maxRecDepth 20000 in
theorem gX0_init_X2_init_n27 : GoodIn wsX0_init (wsX2_init) := ggX0_init_X2_init
set_option maxRecDepth 20000 in
theorem ggX0_reads_X2_forgetAll : GoodIn wsX0_reads wsX2_forgetAll := goodIn_r _ [11, 12, 93, 94] (by decide +kernel) (by decide +kernel)
set_option maxRecDepth 20000 in
theorem gX0_reads_X2_forgetAll : GoodIn wsX0_reads (wsV RX0 43 RX2 yX2_forgetAll wsX2_forgetAll) := goodIn_app (goodIn_of _ (by decide +kernel)) ggX0_reads_X2_forgetAll
set_option maxRecDepth 20000 in
theorem ggX0_reads_X0_await : GoodIn wsX0_reads wsX0_await := goodIn_r _ [17, 3, 6, 85, 86, 87, 88, 89, 90, 91, 92] (by decide +kernel) (by decide +kernel)
set_option maxRecDepth 20000 in
theorem gX0_reads_X0_await : GoodIn wsX0_reads (wsV RX0 46 RX0 yX0_await wsX0_await) := goodIn_app (goodIn_of _ (by decide +kernel)) ggX0_reads_X0_await
set_option maxRecDepth 20000 in
theorem ggX0_reads_X0_visit : GoodIn wsX0_reads wsX0_visit := goodIn_r _ [21, 22, 23, 24, 25, 26, 27, 28, 29, 30, 31, 32, 33, 34, 35, 36, 37, 16, 38, 2, 39, 40, 41, 42, 43, 44, 45, 46, 47, 48, 49, 50, 51, 52, 53, 54, 13, 14, 15, 17, 3, 6, 55, 56, 57, 58, 59, 60, 61, 62, 63, 1, 64, 65, 66, 67, 68, 69, 70, 71, 72, 73, 74, 75, 76, 10, 77, 12, 78, 79, 80, 81, 82, 83, 84, 85, 86, 87, 88, 89, 90, 91, 92, 95, 96, 97, 98, 99, 100, 101, 102, 103, 104, 105, 106, 107, 108, 109, 110, 111, 112, 93, 94] (by decide +kernel) (by decide +kernel)
set_option maxRecDepth 20000 in
theorem gX0_reads_X0_visit : GoodIn wsX0_reads (wsV RX0 51 RX0 yX0_visit wsX0_visit) := goodIn_app (goodIn_of _ (by decide +kernel)) ggX0_reads_X0_visit
set_option maxRecDepth 20000 in
theorem ggX0_reads_X6_size : GoodIn wsX0_reads wsX6_size := goodIn_r _ [43, 44, 102, 103] (by decide +kernel) (by decide +kernel)
set_option maxRecDepth 20000 in
theorem gX0_reads_X6_size : GoodIn wsX0_reads (wsV RX0 55 RX6 yX6_size wsX6_size) := goodIn_app (goodIn_of _ (by decide +kernel)) ggX0_reads_X6_size
set_option maxRecDepth 20000 in
theorem ggX0_visit_X4_kind : GoodIn wsX0_visit wsX4_kind := goodIn_r _ [7, 8, 83, 84, 85, 86, 87, 88, 89] (by decide +kernel) (by decide +kernel)
set_option maxRecDepth 20000 in
theorem gX0_visit_X4_kind : GoodIn wsX0_visit (wsV RX0 61 RX4 yX4_kind wsX4_kind) := goodIn_app (goodIn_of _ (by decide +kernel)) ggX0_visit_X4_kind
set_option maxRecDepth 20000 in
theorem ggX0_visit_X4_value : GoodIn wsX0_visit wsX4_value := goodIn_r _ [12, 13, 83, 84, 85, 86, 87, 88, 89] (by decide +kernel) (by decide +kernel)
set_option maxRecDepth 20000 in
theorem gX0_visit_X4_value : GoodIn wsX0_visit (wsV RX0 67 RX4 yX4_value wsX4_value) := goodIn_app (goodIn_of _ (by decide +kernel)) ggX0_visit_X4_value
set_option maxRecDepth 20000 in
theorem ggX0_visit_X0_readLetter : GoodIn wsX0_visit wsX0_readLetter := goodIn_r _ [18, 19, 20, 21, 22, 23, 24, 25, 26, 27, 28, 29, 30, 75, 76, 77, 78, 79, 80, 81, 82, 90, 91] (by decide +kernel) (by decide +kernel)
set_option maxRecDepth 20000 in
theorem gX0_visit_X0_readLetter : GoodIn wsX0_visit (wsV RX0 70 RX0 yX0_readLetter wsX0_readLetter) := goodIn_app (goodIn_of _ (by decide +kernel)) ggX0_visit_X0_readLetter
set_option maxRecDepth 20000 in
theorem ggX0_visit_X4_right : GoodIn wsX0_visit wsX4_right := goodIn_r _ [34, 35, 83, 84, 85, 86, 87, 88, 89] (by decide +kernel) (by decide +kernel)
set_option maxRecDepth 20000 in
theorem gX0_visit_X4_right : GoodIn wsX0_visit (wsV RX0 73 RX4 yX4_right wsX4_right) := goodIn_app (goodIn_of _ (by decide +kernel)) ggX0_visit_X4_right
set_option maxRecDepth 20000 in
theorem ggX0_visit_X0_await : GoodIn wsX0_visit wsX0_await := goodIn_r _ [39, 40, 41, 75, 76, 77, 78, 79, 80, 81, 82] (by decide +kernel) (by decide +kernel)
set_option maxRecDepth 20000 in
theorem gX0_visit_X0_await : GoodIn wsX0_visit (wsV RX0 46 RX0 yX0_await wsX0_await) := goodIn_app (goodIn_of _ (by decide +kernel)) ggX0_visit_X0_await
set_option maxRecDepth 20000 in
theorem ggX0_visit_X4_left : GoodIn wsX0_visit wsX4_left := goodIn_r _ [45, 46, 83, 84, 85, 86, 87, 88, 89] (by decide +kernel) (by decide +kernel)
set_option maxRecDepth 20000 in
theorem gX0_visit_X4_left : GoodIn wsX0_visit (wsV RX0 76 RX4 yX4_left wsX4_left) := goodIn_app (goodIn_of _ (by decide +kernel)) ggX0_visit_X4_left
set_option maxRecDepth 20000 in
theorem ggX0_visit_X0_choose : GoodIn wsX0_visit wsX0_choose := goodIn_r _ [50, 19, 2, 51, 1, 20, 21, 22, 23, 24, 25, 26, 27, 28, 29, 30, 52, 53, 54, 55, 56, 57, 58, 59, 60, 43, 44, 6, 45, 46, 61, 32, 33, 34, 35, 62, 63, 64, 65, 66, 67, 68, 69, 42, 31, 36, 37, 38, 17, 39, 40, 41, 75, 76, 77, 78, 79, 80, 81, 82, 90, 91, 92, 93, 94, 95, 96, 97, 98, 99, 100, 83, 84, 85, 86, 87, 88, 89, 101, 102] (by decide +kernel) (by decide +kernel)
set_option maxRecDepth 20000 in
theorem gX0_visit_X0_choose : GoodIn wsX0_visit (wsV RX0 79 RX0 yX0_choose wsX0_choose) := goodIn_app (goodIn_of _ (by decide +kernel)) ggX0_visit_X0_choose
set_option maxRecDepth 20000 in
theorem ggX0_visit_X5_binder : GoodIn wsX0_visit wsX5_binder := goodIn_r _ [73, 74, 92, 93, 94, 95, 96, 97, 98, 99, 100] (by decide +kernel) (by decide +kernel)
set_option maxRecDepth 20000 in
theorem gX0_visit_X5_binder : GoodIn wsX0_visit (wsV RX0 82 RX5 yX5_binder wsX5_binder) := goodIn_app (goodIn_of _ (by decide +kernel)) ggX0_visit_X5_binder
set_option maxRecDepth 20000 in
theorem ggX0_readLetter_X6_size : GoodIn wsX0_readLetter wsX6_size := goodIn_r _ [6, 7, 21, 22] (by decide +kernel) (by decide +kernel)
set_option maxRecDepth 20000 in
theorem gX0_readLetter_X6_size : GoodIn wsX0_readLetter (wsV RX0 55 RX6 yX6_size wsX6_size) := goodIn_app (goodIn_of _ (by decide +kernel)) ggX0_readLetter_X6_size
set_option maxRecDepth 20000 in
theorem ggX0_readLetter_X6_at : GoodIn wsX0_readLetter wsX6_at := goodIn_r _ [11, 12, 21, 22] (by decide +kernel) (by decide +kernel)
set_option maxRecDepth 20000 in
theorem gX0_readLetter_X6_at : GoodIn wsX0_readLetter (wsV RX0 87 RX6 yX6_at wsX6_at) := goodIn_app (goodIn_of _ (by decide +kernel)) ggX0_readLetter_X6_at
set_option maxRecDepth 20000 in
theorem ggX0_choose_X6_size : GoodIn wsX0_choose wsX6_size := goodIn_r _ [9, 10, 60, 61] (by decide +kernel) (by decide +kernel)
set_option maxRecDepth 20000 in
theorem gX0_choose_X6_size : GoodIn wsX0_choose (wsV RX0 55 RX6 yX6_size wsX6_size) := goodIn_app (goodIn_of _ (by decide +kernel)) ggX0_choose_X6_size
set_option maxRecDepth 20000 in
theorem ggX0_choose_X6_at : GoodIn wsX0_choose wsX6_at := goodIn_r _ [14, 15, 60, 61] (by decide +kernel) (by decide +kernel)
set_option maxRecDepth 20000 in
theorem gX0_choose_X6_at : GoodIn wsX0_choose (wsV RX0 87 RX6 yX6_at wsX6_at) := goodIn_app (goodIn_of _ (by decide +kernel)) ggX0_choose_X6_at
set_option maxRecDepth 20000 in
theorem ggX0_choose_X5_side : GoodIn wsX0_choose wsX5_side := goodIn_r _ [20, 21, 22, 23, 24, 25, 26, 27, 28, 29, 30, 31, 32, 33, 34, 62, 63, 64, 65, 66, 67, 68, 69, 70, 71, 72, 73, 74, 75, 76, 77] (by decide +kernel) (by decide +kernel)
set_option maxRecDepth 20000 in
theorem gX0_choose_X5_side : GoodIn wsX0_choose (wsV RX0 90 RX5 yX5_side wsX5_side) := goodIn_app (goodIn_of _ (by decide +kernel)) ggX0_choose_X5_side
set_option maxRecDepth 20000 in
theorem ggX0_choose_X2_add : GoodIn wsX0_choose wsX2_add := goodIn_r _ [39, 40, 41, 42, 78, 79] (by decide +kernel) (by decide +kernel)
set_option maxRecDepth 20000 in
theorem gX0_choose_X2_add : GoodIn wsX0_choose (wsV RX0 94 RX2 yX2_add wsX2_add) := goodIn_app (goodIn_of _ (by decide +kernel)) ggX0_choose_X2_add
set_option maxRecDepth 20000 in
theorem ggX0_choose_X4_left : GoodIn wsX0_choose wsX4_left := goodIn_r _ [28, 29, 71, 72, 73, 74, 75, 76, 77] (by decide +kernel) (by decide +kernel)
set_option maxRecDepth 20000 in
theorem gX0_choose_X4_left : GoodIn wsX0_choose (wsV RX0 76 RX4 yX4_left wsX4_left) := goodIn_app (goodIn_of _ (by decide +kernel)) ggX0_choose_X4_left
set_option maxRecDepth 20000 in
theorem ggX0_choose_X4_right : GoodIn wsX0_choose wsX4_right := goodIn_r _ [33, 34, 71, 72, 73, 74, 75, 76, 77] (by decide +kernel) (by decide +kernel)
set_option maxRecDepth 20000 in
theorem gX0_choose_X4_right : GoodIn wsX0_choose (wsV RX0 73 RX4 yX4_right wsX4_right) := goodIn_app (goodIn_of _ (by decide +kernel)) ggX0_choose_X4_right
set_option maxRecDepth 20000 in
theorem ggX0_choose_X0_await : GoodIn wsX0_choose wsX0_await := goodIn_r _ [49, 50, 51, 52, 53, 54, 55, 56, 57, 58, 59] (by decide +kernel) (by decide +kernel)
set_option maxRecDepth 20000 in
theorem gX0_choose_X0_await : GoodIn wsX0_choose (wsV RX0 46 RX0 yX0_await wsX0_await) := goodIn_app (goodIn_of _ (by decide +kernel)) ggX0_choose_X0_await
set_option maxRecDepth 20000 in
theorem ggX1_spell_X6_keep : GoodIn wsX1_spell wsX6_keep := goodIn_r _ [5, 6, 103, 104] (by decide +kernel) (by decide +kernel)
set_option maxRecDepth 20000 in
theorem gX1_spell_X6_keep : GoodIn wsX1_spell (wsV RX1 44 RX6 yX6_keep wsX6_keep) := goodIn_app (goodIn_of _ (by decide +kernel)) ggX1_spell_X6_keep
set_option maxRecDepth 20000 in
theorem ggX1_spell_X1_startPile : GoodIn wsX1_spell wsX1_startPile := goodIn_r _ [11, 12, 13, 14, 15, 16, 10, 17, 18, 19, 20, 21, 22, 23, 24, 25, 26, 27, 28, 29, 105, 106, 107, 108, 109, 110, 111, 112, 113, 114, 115, 116] (by decide +kernel) (by decide +kernel)
set_option maxRecDepth 20000 in
theorem gX1_spell_X1_startPile : GoodIn wsX1_spell (wsV RX1 50 RX1 yX1_startPile wsX1_startPile) := goodIn_app (goodIn_of _ (by decide +kernel)) ggX1_spell_X1_startPile
set_option maxRecDepth 20000 in
theorem ggX1_spell_X1_spellNext : GoodIn wsX1_spell wsX1_spellNext := goodIn_r _ [33, 23, 34, 35, 36, 10, 37, 13, 38, 39, 40, 41, 42, 43, 44, 45, 46, 47, 48, 49, 50, 51, 52, 53, 54, 55, 56, 57, 58, 59, 60, 61, 62, 63, 64, 65, 66, 67, 68, 69, 70, 71, 72, 73, 74, 75, 76, 77, 78, 79, 80, 81, 82, 83, 84, 85, 86, 87, 88, 89, 90, 91, 92, 12, 93, 18, 19, 20, 21, 22, 24, 25, 26, 27, 28, 29, 94, 95, 96, 97, 14, 15, 16, 17, 98, 99, 100, 4, 101, 102, 6, 105, 106, 107, 108, 109, 110, 111, 112, 113, 117, 118, 119, 120, 121, 122, 123, 124, 125, 126, 127, 128, 129, 130, 131, 132, 114, 115, 116, 103, 104] (by decide +kernel) (by decide +kernel)
set_option maxRecDepth 20000 in
theorem gX1_spell_X1_spellNext : GoodIn wsX1_spell (wsV RX1 54 RX1 yX1_spellNext wsX1_spellNext) := goodIn_app (goodIn_of _ (by decide +kernel)) ggX1_spell_X1_spellNext
set_option maxRecDepth 20000 in
theorem ggX1_startPile_X1_pileUp : GoodIn wsX1_startPile wsX1_pileUp := goodIn_r _ [7, 2, 1, 8, 9, 10, 11, 12, 13, 14, 15, 16, 17, 18, 19, 20, 21, 22, 23, 24, 25, 26, 27, 28, 29, 30, 31] (by decide +kernel) (by decide +kernel)
set_option maxRecDepth 20000 in
theorem gX1_startPile_X1_pileUp : GoodIn wsX1_startPile (wsV RX1 58 RX1 yX1_pileUp wsX1_pileUp) := goodIn_app (goodIn_of _ (by decide +kernel)) ggX1_startPile_X1_pileUp
set_option maxRecDepth 20000 in
theorem ggX1_spellNext_X1_readerOf : GoodIn wsX1_spellNext wsX1_readerOf := goodIn_r _ [6, 7, 8, 1, 9, 10, 11, 12, 13, 14, 15, 16, 17, 18, 19, 91, 92, 93, 94, 95, 96, 97, 98, 99, 100, 101, 102, 103, 104, 105, 106, 107, 108] (by decide +kernel) (by decide +kernel)
set_option maxRecDepth 20000 in
theorem gX1_spellNext_X1_readerOf : GoodIn wsX1_spellNext (wsV RX1 61 RX1 yX1_readerOf wsX1_readerOf) := goodIn_app (goodIn_of _ (by decide +kernel)) ggX1_spellNext_X1_readerOf
set_option maxRecDepth 20000 in
theorem ggX1_spellNext_X1_goDown : GoodIn wsX1_spellNext wsX1_goDown := goodIn_r _ [23, 24, 25, 26, 27, 28, 29, 30, 31, 32, 33, 34, 35, 36, 37, 38, 39, 40, 5, 41, 8, 42, 43, 44, 12, 45, 46, 47, 48, 49, 50, 51, 14, 19, 52, 53, 54, 55, 56, 57, 58, 91, 92, 93, 94, 95, 96, 97, 98, 99, 109, 110, 111, 112, 113, 114, 115, 100, 101, 102, 103, 104, 105, 106, 107, 108] (by decide +kernel) (by decide +kernel)
set_option maxRecDepth 20000 in
theorem gX1_spellNext_X1_goDown : GoodIn wsX1_spellNext (wsV RX1 65 RX1 yX1_goDown wsX1_goDown) := goodIn_app (goodIn_of _ (by decide +kernel)) ggX1_spellNext_X1_goDown
set_option maxRecDepth 20000 in
theorem ggX1_spellNext_X1_wordsAhead : GoodIn wsX1_spellNext wsX1_wordsAhead := goodIn_r _ [62, 63, 64, 65, 66, 67, 68, 24, 69, 26, 70, 71, 72, 73, 74, 75, 91, 92, 93, 94, 95, 96, 97, 98, 99, 116, 117, 118] (by decide +kernel) (by decide +kernel)
set_option maxRecDepth 20000 in
theorem gX1_spellNext_X1_wordsAhead : GoodIn wsX1_spellNext (wsV RX1 68 RX1 yX1_wordsAhead wsX1_wordsAhead) := goodIn_app (goodIn_of _ (by decide +kernel)) ggX1_spellNext_X1_wordsAhead
set_option maxRecDepth 20000 in
theorem ggX1_spellNext_X1_takeFresh : GoodIn wsX1_spellNext wsX1_takeFresh := goodIn_r _ [79, 7, 24, 26, 80, 81, 82, 5, 83, 63, 65, 66, 67, 68, 69, 1, 70, 71, 72, 73, 74, 75, 91, 92, 93, 94, 95, 96, 97, 98, 99, 116, 117, 118] (by decide +kernel) (by decide +kernel)
set_option maxRecDepth 20000 in
theorem gX1_spellNext_X1_takeFresh : GoodIn wsX1_spellNext (wsV RX1 72 RX1 yX1_takeFresh wsX1_takeFresh) := goodIn_app (goodIn_of _ (by decide +kernel)) ggX1_spellNext_X1_takeFresh
set_option maxRecDepth 20000 in
theorem ggX1_spellNext_X6_add : GoodIn wsX1_spellNext wsX6_add := goodIn_r _ [88, 89, 90, 119, 120] (by decide +kernel) (by decide +kernel)
set_option maxRecDepth 20000 in
theorem gX1_spellNext_X6_add : GoodIn wsX1_spellNext (wsV RX1 75 RX6 yX6_add wsX6_add) := goodIn_app (goodIn_of _ (by decide +kernel)) ggX1_spellNext_X6_add
set_option maxRecDepth 20000 in
theorem ggX1_readerOf_X5_firstOf : GoodIn wsX1_readerOf wsX5_firstOf := goodIn_r _ [8, 9, 24, 25, 26, 27, 28, 29, 30, 31, 32] (by decide +kernel) (by decide +kernel)
set_option maxRecDepth 20000 in
theorem gX1_readerOf_X5_firstOf : GoodIn wsX1_readerOf (wsV RX1 78 RX5 yX5_firstOf wsX5_firstOf) := goodIn_app (goodIn_of _ (by decide +kernel)) ggX1_readerOf_X5_firstOf
set_option maxRecDepth 20000 in
theorem ggX1_readerOf_X5_isNullable : GoodIn wsX1_readerOf wsX5_isNullable := goodIn_r _ [13, 14, 24, 25, 26, 27, 28, 29, 30, 31, 32] (by decide +kernel) (by decide +kernel)
set_option maxRecDepth 20000 in
theorem gX1_readerOf_X5_isNullable : GoodIn wsX1_readerOf (wsV RX1 83 RX5 yX5_isNullable wsX5_isNullable) := goodIn_app (goodIn_of _ (by decide +kernel)) ggX1_readerOf_X5_isNullable
set_option maxRecDepth 20000 in
theorem ggX1_goDown_X4_kind : GoodIn wsX1_goDown wsX4_kind := goodIn_r _ [8, 9, 50, 51, 52, 53, 54, 55, 56] (by decide +kernel) (by decide +kernel)
set_option maxRecDepth 20000 in
theorem gX1_goDown_X4_kind : GoodIn wsX1_goDown (wsV RX1 87 RX4 yX4_kind wsX4_kind) := goodIn_app (goodIn_of _ (by decide +kernel)) ggX1_goDown_X4_kind
set_option maxRecDepth 20000 in
theorem ggX1_goDown_X4_right : GoodIn wsX1_goDown wsX4_right := goodIn_r _ [13, 14, 50, 51, 52, 53, 54, 55, 56] (by decide +kernel) (by decide +kernel)
set_option maxRecDepth 20000 in
theorem gX1_goDown_X4_right : GoodIn wsX1_goDown (wsV RX1 92 RX4 yX4_right wsX4_right) := goodIn_app (goodIn_of _ (by decide +kernel)) ggX1_goDown_X4_right
set_option maxRecDepth 20000 in
theorem ggX1_goDown_X1_below : GoodIn wsX1_goDown wsX1_below := goodIn_r _ [19, 2, 20, 4, 5, 6, 7, 8, 9, 21, 22, 23, 24, 25, 26, 27, 28, 29, 30, 31, 32, 33, 34, 35, 36, 37, 38, 39, 11, 12, 13, 14, 10, 40, 41, 42, 43, 44, 45, 46, 47, 48, 49, 50, 51, 52, 53, 54, 55, 56, 57, 58, 59, 60, 61, 62, 63, 64, 65] (by decide +kernel) (by decide +kernel)
set_option maxRecDepth 20000 in
theorem gX1_goDown_X1_below : GoodIn wsX1_goDown (wsV RX1 95 RX1 yX1_below wsX1_below) := goodIn_app (goodIn_of _ (by decide +kernel)) ggX1_goDown_X1_below
set_option maxRecDepth 20000 in
theorem ggX1_below_X4_kind : GoodIn wsX1_below wsX4_kind := goodIn_r _ [7, 8, 43, 44, 45, 46, 47, 48, 49] (by decide +kernel) (by decide +kernel)
set_option maxRecDepth 20000 in
theorem gX1_below_X4_kind : GoodIn wsX1_below (wsV RX1 87 RX4 yX4_kind wsX4_kind) := goodIn_app (goodIn_of _ (by decide +kernel)) ggX1_below_X4_kind
set_option maxRecDepth 20000 in
theorem ggX1_below_X5_binder : GoodIn wsX1_below wsX5_binder := goodIn_r _ [13, 14, 50, 51, 52, 53, 54, 55, 56, 57, 58] (by decide +kernel) (by decide +kernel)
set_option maxRecDepth 20000 in
theorem gX1_below_X5_binder : GoodIn wsX1_below (wsV RX1 99 RX5 yX5_binder wsX5_binder) := goodIn_app (goodIn_of _ (by decide +kernel)) ggX1_below_X5_binder
set_option maxRecDepth 20000 in
theorem ggX1_below_X5_side : GoodIn wsX1_below wsX5_side := goodIn_r _ [18, 19, 20, 21, 22, 23, 24, 6, 25, 26, 27, 28, 29, 30, 31, 50, 51, 52, 53, 54, 55, 56, 57, 58, 43, 44, 45, 46, 47, 48, 49] (by decide +kernel) (by decide +kernel)
set_option maxRecDepth 20000 in
theorem gX1_below_X5_side : GoodIn wsX1_below (wsV RX1 102 RX5 yX5_side wsX5_side) := goodIn_app (goodIn_of _ (by decide +kernel)) ggX1_below_X5_side
set_option maxRecDepth 20000 in
theorem ggX1_below_X4_right : GoodIn wsX1_below wsX4_right := goodIn_r _ [30, 31, 43, 44, 45, 46, 47, 48, 49] (by decide +kernel) (by decide +kernel)
set_option maxRecDepth 20000 in
theorem gX1_below_X4_right : GoodIn wsX1_below (wsV RX1 92 RX4 yX4_right wsX4_right) := goodIn_app (goodIn_of _ (by decide +kernel)) ggX1_below_X4_right
set_option maxRecDepth 20000 in
theorem ggX1_below_X4_left : GoodIn wsX1_below wsX4_left := goodIn_r _ [25, 26, 43, 44, 45, 46, 47, 48, 49] (by decide +kernel) (by decide +kernel)
set_option maxRecDepth 20000 in
theorem gX1_below_X4_left : GoodIn wsX1_below (wsV RX1 105 RX4 yX4_left wsX4_left) := goodIn_app (goodIn_of _ (by decide +kernel)) ggX1_below_X4_left
set_option maxRecDepth 20000 in
theorem ggX1_wordsAhead_X3_lengthen : GoodIn wsX1_wordsAhead wsX3_lengthen := goodIn_r _ [14, 15, 25, 26, 27] (by decide +kernel) (by decide +kernel)
set_option maxRecDepth 20000 in
theorem gX1_wordsAhead_X3_lengthen : GoodIn wsX1_wordsAhead (wsV RX1 114 RX3 yX3_lengthen wsX3_lengthen) := goodIn_app (goodIn_of _ (by decide +kernel)) ggX1_wordsAhead_X3_lengthen
set_option maxRecDepth 20000 in
theorem ggX1_takeFresh_X1_pileUp : GoodIn wsX1_takeFresh wsX1_pileUp := goodIn_r _ [8, 1, 9, 10, 11, 12, 13, 14, 15, 16, 17, 18, 19, 20, 21, 22, 23, 24, 25, 26, 27, 28, 29, 30, 31, 32, 33] (by decide +kernel) (by decide +kernel)
set_option maxRecDepth 20000 in
theorem gX1_takeFresh_X1_pileUp : GoodIn wsX1_takeFresh (wsV RX1 58 RX1 yX1_pileUp wsX1_pileUp) := goodIn_app (goodIn_of _ (by decide +kernel)) ggX1_takeFresh_X1_pileUp
set_option maxRecDepth 20000 in
theorem ggX1_pileUp_X3_lengthen : GoodIn wsX1_pileUp wsX3_lengthen := goodIn_r _ [13, 14, 24, 25, 26] (by decide +kernel) (by decide +kernel)
set_option maxRecDepth 20000 in
theorem gX1_pileUp_X3_lengthen : GoodIn wsX1_pileUp (wsV RX1 114 RX3 yX3_lengthen wsX3_lengthen) := goodIn_app (goodIn_of _ (by decide +kernel)) ggX1_pileUp_X3_lengthen
set_option maxRecDepth 20000 in
theorem ggX3_countTo_X3_countLength : GoodIn wsX3_countTo wsX3_countLength := goodIn_r _ [5, 6, 7, 8, 9, 10, 11, 12, 13, 14, 15, 16, 17, 18, 19, 20, 21, 4, 22, 23, 24, 25, 26, 27, 28, 29, 30, 31, 32, 33, 34, 35, 36, 37, 38, 39, 40, 41, 42, 43, 44, 45, 46, 47, 48, 49, 50, 51, 52, 53, 54, 55, 56, 57, 58, 59, 60, 61, 62, 63, 64, 65, 66, 67] (by decide +kernel) (by decide +kernel)
set_option maxRecDepth 20000 in
theorem gX3_countTo_X3_countLength : GoodIn wsX3_countTo (wsV RX3 24 RX3 yX3_countLength wsX3_countLength) := goodIn_app (goodIn_of _ (by decide +kernel)) ggX3_countTo_X3_countLength
set_option maxRecDepth 20000 in
theorem ggX3_countLength_X5_size : GoodIn wsX3_countLength wsX5_size := goodIn_r _ [7, 8, 48, 49, 50, 51, 52, 53, 54, 55, 56] (by decide +kernel) (by decide +kernel)
set_option maxRecDepth 20000 in
theorem gX3_countLength_X5_size : GoodIn wsX3_countLength (wsV RX3 28 RX5 yX5_size wsX5_size) := goodIn_app (goodIn_of _ (by decide +kernel)) ggX3_countLength_X5_size
set_option maxRecDepth 20000 in
theorem ggX3_countLength_X5_inOrder : GoodIn wsX3_countLength wsX5_inOrder := goodIn_r _ [12, 13, 8, 48, 49, 50, 51, 52, 53, 54, 55, 56] (by decide +kernel) (by decide +kernel)
set_option maxRecDepth 20000 in
theorem gX3_countLength_X5_inOrder : GoodIn wsX3_countLength (wsV RX3 34 RX5 yX5_inOrder wsX5_inOrder) := goodIn_app (goodIn_of _ (by decide +kernel)) ggX3_countLength_X5_inOrder
set_option maxRecDepth 20000 in
theorem ggX3_countLength_X3_wordsByParts : GoodIn wsX3_countLength wsX3_wordsByParts := goodIn_r _ [18, 19, 2, 1, 20, 21, 22, 23, 24, 25, 26, 27, 28, 29, 30, 31, 32, 33, 34, 35, 36, 37, 38, 17, 39, 40, 41, 42, 6, 43, 44, 45, 46, 47, 57, 58, 59, 60, 61, 62, 63, 48, 49, 50, 51, 52, 53, 54, 55, 56] (by decide +kernel) (by decide +kernel)
set_option maxRecDepth 20000 in
theorem gX3_countLength_X3_wordsByParts : GoodIn wsX3_countLength (wsV RX3 38 RX3 yX3_wordsByParts wsX3_wordsByParts) := goodIn_app (goodIn_of _ (by decide +kernel)) ggX3_countLength_X3_wordsByParts
set_option maxRecDepth 20000 in
theorem ggX3_wordsByParts_X4_kind : GoodIn wsX3_wordsByParts wsX4_kind := goodIn_r _ [8, 9, 34, 35, 36, 37, 38, 39, 40] (by decide +kernel) (by decide +kernel)
set_option maxRecDepth 20000 in
theorem gX3_wordsByParts_X4_kind : GoodIn wsX3_wordsByParts (wsV RX3 42 RX4 yX4_kind wsX4_kind) := goodIn_app (goodIn_of _ (by decide +kernel)) ggX3_wordsByParts_X4_kind
set_option maxRecDepth 20000 in
theorem ggX3_wordsByParts_X4_left : GoodIn wsX3_wordsByParts wsX4_left := goodIn_r _ [13, 14, 34, 35, 36, 37, 38, 39, 40] (by decide +kernel) (by decide +kernel)
set_option maxRecDepth 20000 in
theorem gX3_wordsByParts_X4_left : GoodIn wsX3_wordsByParts (wsV RX3 47 RX4 yX4_left wsX4_left) := goodIn_app (goodIn_of _ (by decide +kernel)) ggX3_wordsByParts_X4_left
set_option maxRecDepth 20000 in
theorem ggX3_wordsByParts_X4_right : GoodIn wsX3_wordsByParts wsX4_right := goodIn_r _ [18, 19, 34, 35, 36, 37, 38, 39, 40] (by decide +kernel) (by decide +kernel)
set_option maxRecDepth 20000 in
theorem gX3_wordsByParts_X4_right : GoodIn wsX3_wordsByParts (wsV RX3 50 RX4 yX4_right wsX4_right) := goodIn_app (goodIn_of _ (by decide +kernel)) ggX3_wordsByParts_X4_right
set_option maxRecDepth 20000 in
theorem ggX3_wordsByParts_X3_wordsOfPair : GoodIn wsX3_wordsByParts wsX3_wordsOfPair := goodIn_r _ [24, 2, 31, 32, 33] (by decide +kernel) (by decide +kernel)
set_option maxRecDepth 20000 in
theorem gX3_wordsByParts_X3_wordsOfPair : GoodIn wsX3_wordsByParts (wsV RX3 53 RX3 yX3_wordsOfPair wsX3_wordsOfPair) := goodIn_app (goodIn_of _ (by decide +kernel)) ggX3_wordsByParts_X3_wordsOfPair
set_option maxRecDepth 20000 in
theorem ggX3_wordsByParts_X5_binder : GoodIn wsX3_wordsByParts wsX5_binder := goodIn_r _ [29, 30, 41, 42, 43, 44, 45, 46, 47, 48, 49] (by decide +kernel) (by decide +kernel)
set_option maxRecDepth 20000 in
theorem gX3_wordsByParts_X5_binder : GoodIn wsX3_wordsByParts (wsV RX3 57 RX5 yX5_binder wsX5_binder) := goodIn_app (goodIn_of _ (by decide +kernel)) ggX3_wordsByParts_X5_binder
set_option maxRecDepth 20000 in
theorem ggX4_add_X4_knotsIn : GoodIn wsX4_add wsX4_knotsIn := goodIn_r _ [16, 7, 21, 22, 23, 24, 25, 26, 27] (by decide +kernel) (by decide +kernel)
set_option maxRecDepth 20000 in
theorem gX4_add_X4_knotsIn : GoodIn wsX4_add (wsV RX4 34 RX4 yX4_knotsIn wsX4_knotsIn) := goodIn_app (goodIn_of _ (by decide +kernel)) ggX4_add_X4_knotsIn
set_option maxRecDepth 20000 in
theorem ggX4_add_X4_makePart : GoodIn wsX4_add wsX4_makePart := goodIn_r _ [20, 6, 21, 22, 23, 24, 25, 26, 27] (by decide +kernel) (by decide +kernel)
set_option maxRecDepth 20000 in
theorem gX4_add_X4_makePart : GoodIn wsX4_add (wsV RX4 44 RX4 yX4_makePart wsX4_makePart) := goodIn_app (goodIn_of _ (by decide +kernel)) ggX4_add_X4_makePart
set_option maxRecDepth 20000 in
theorem ggX5_study_X5_lineUp : GoodIn wsX5_study wsX5_lineUp := goodIn_r _ [7, 1, 8, 2, 9, 10, 11, 12, 13, 14, 15, 16, 17, 18, 19, 20, 65, 66, 67, 68, 69, 70, 71, 72, 73, 74, 75, 76, 77, 78, 79, 80] (by decide +kernel) (by decide +kernel)
set_option maxRecDepth 20000 in
theorem gX5_study_X5_lineUp : GoodIn wsX5_study (wsV RX5 42 RX5 yX5_lineUp wsX5_lineUp) := goodIn_app (goodIn_of _ (by decide +kernel)) ggX5_study_X5_lineUp
set_option maxRecDepth 20000 in
theorem ggX5_study_X5_bind : GoodIn wsX5_study wsX5_bind := goodIn_r _ [24, 25, 26, 9, 27, 28, 29, 13, 30, 31, 32, 33, 34, 35, 36, 16, 17, 18, 19, 20, 37, 38, 39, 40, 41, 65, 66, 67, 68, 69, 70, 71, 72, 73, 74, 75, 76, 77, 78, 79, 80] (by decide +kernel) (by decide +kernel)
set_option maxRecDepth 20000 in
theorem gX5_study_X5_bind : GoodIn wsX5_study (wsV RX5 46 RX5 yX5_bind wsX5_bind) := goodIn_app (goodIn_of _ (by decide +kernel)) ggX5_study_X5_bind
set_option maxRecDepth 20000 in
theorem ggX5_study_X5_inferTypes : GoodIn wsX5_study wsX5_inferTypes := goodIn_r _ [45, 1, 2, 46, 47, 48, 49, 50, 51, 6, 52, 9, 25, 27, 28, 29, 13, 30, 31, 53, 54, 55, 56, 37, 38, 39, 40, 41, 10, 11, 12, 14, 15, 16, 17, 18, 19, 20, 57, 58, 59, 60, 61, 62, 63, 64, 65, 66, 67, 68, 69, 70, 71, 72, 73, 74, 75, 76, 77, 78, 79, 80] (by decide +kernel) (by decide +kernel)
set_option maxRecDepth 20000 in
theorem gX5_study_X5_inferTypes : GoodIn wsX5_study (wsV RX5 50 RX5 yX5_inferTypes wsX5_inferTypes) := goodIn_app (goodIn_of _ (by decide +kernel)) ggX5_study_X5_inferTypes
set_option maxRecDepth 20000 in
theorem ggX5_side_X4_left : GoodIn wsX5_side wsX4_left := goodIn_r _ [8, 9, 24, 25, 26, 27, 28, 29, 30] (by decide +kernel) (by decide +kernel)
set_option maxRecDepth 20000 in
theorem gX5_side_X4_left : GoodIn wsX5_side (wsV RX5 53 RX4 yX4_left wsX4_left) := goodIn_app (goodIn_of _ (by decide +kernel)) ggX5_side_X4_left
set_option maxRecDepth 20000 in
theorem ggX5_side_X4_right : GoodIn wsX5_side wsX4_right := goodIn_r _ [13, 14, 24, 25, 26, 27, 28, 29, 30] (by decide +kernel) (by decide +kernel)
set_option maxRecDepth 20000 in
theorem gX5_side_X4_right : GoodIn wsX5_side (wsV RX5 59 RX4 yX4_right wsX4_right) := goodIn_app (goodIn_of _ (by decide +kernel)) ggX5_side_X4_right
set_option maxRecDepth 20000 in
theorem ggX5_firstFault_X5_faultAt : GoodIn wsX5_firstFault wsX5_faultAt := goodIn_r _ [7, 8, 9, 10, 11, 12, 13, 14, 15, 16, 17, 18, 19, 20, 21, 22, 23, 24, 25, 26, 27, 28, 29, 6, 30, 31, 32, 33, 34, 35, 36, 37, 38, 39, 40, 41, 42, 43, 44, 45, 46, 47, 48, 49, 50, 51, 52, 53] (by decide +kernel) (by decide +kernel)
set_option maxRecDepth 20000 in
theorem gX5_firstFault_X5_faultAt : GoodIn wsX5_firstFault (wsV RX5 62 RX5 yX5_faultAt wsX5_faultAt) := goodIn_app (goodIn_of _ (by decide +kernel)) ggX5_firstFault_X5_faultAt
set_option maxRecDepth 20000 in
theorem ggX5_lineUp_X4_left : GoodIn wsX5_lineUp wsX4_left := goodIn_r _ [9, 10, 25, 26, 27, 28, 29, 30, 31] (by decide +kernel) (by decide +kernel)
set_option maxRecDepth 20000 in
theorem gX5_lineUp_X4_left : GoodIn wsX5_lineUp (wsV RX5 53 RX4 yX4_left wsX4_left) := goodIn_app (goodIn_of _ (by decide +kernel)) ggX5_lineUp_X4_left
set_option maxRecDepth 20000 in
theorem ggX5_lineUp_X4_right : GoodIn wsX5_lineUp wsX4_right := goodIn_r _ [14, 15, 25, 26, 27, 28, 29, 30, 31] (by decide +kernel) (by decide +kernel)
set_option maxRecDepth 20000 in
theorem gX5_lineUp_X4_right : GoodIn wsX5_lineUp (wsV RX5 59 RX4 yX4_right wsX4_right) := goodIn_app (goodIn_of _ (by decide +kernel)) ggX5_lineUp_X4_right
set_option maxRecDepth 20000 in
theorem ggX5_bind_X4_kind : GoodIn wsX5_bind wsX4_kind := goodIn_r _ [8, 9, 34, 35, 36, 37, 38, 39, 40] (by decide +kernel) (by decide +kernel)
set_option maxRecDepth 20000 in
theorem gX5_bind_X4_kind : GoodIn wsX5_bind (wsV RX5 65 RX4 yX4_kind wsX4_kind) := goodIn_app (goodIn_of _ (by decide +kernel)) ggX5_bind_X4_kind
set_option maxRecDepth 20000 in
theorem ggX5_bind_X4_whole : GoodIn wsX5_bind wsX4_whole := goodIn_r _ [13, 14, 34, 35, 36, 37, 38, 39, 40] (by decide +kernel) (by decide +kernel)
set_option maxRecDepth 20000 in
theorem gX5_bind_X4_whole : GoodIn wsX5_bind (wsV RX5 68 RX4 yX4_whole wsX4_whole) := goodIn_app (goodIn_of _ (by decide +kernel)) ggX5_bind_X4_whole
set_option maxRecDepth 20000 in
theorem ggX5_bind_X4_right : GoodIn wsX5_bind wsX4_right := goodIn_r _ [18, 19, 34, 35, 36, 37, 38, 39, 40] (by decide +kernel) (by decide +kernel)
set_option maxRecDepth 20000 in
theorem gX5_bind_X4_right : GoodIn wsX5_bind (wsV RX5 59 RX4 yX4_right wsX4_right) := goodIn_app (goodIn_of _ (by decide +kernel)) ggX5_bind_X4_right
set_option maxRecDepth 20000 in
theorem ggX5_bind_X4_value : GoodIn wsX5_bind wsX4_value := goodIn_r _ [23, 24, 34, 35, 36, 37, 38, 39, 40] (by decide +kernel) (by decide +kernel)
set_option maxRecDepth 20000 in
theorem gX5_bind_X4_value : GoodIn wsX5_bind (wsV RX5 71 RX4 yX4_value wsX4_value) := goodIn_app (goodIn_of _ (by decide +kernel)) ggX5_bind_X4_value
set_option maxRecDepth 20000 in
theorem ggX5_inferTypes_X5_widen : GoodIn wsX5_inferTypes wsX5_widen := goodIn_r _ [10, 11, 12, 13, 14, 15, 16, 17, 18, 19, 20, 21, 9, 22, 3, 4, 5, 23, 24, 25, 26, 27, 28, 29, 30, 31, 32, 33, 34, 35, 36, 37, 38, 39, 40, 41, 42, 43, 44, 45, 46, 47, 48, 49, 50, 51, 52, 53, 54, 55, 56, 57, 58, 59, 60, 61] (by decide +kernel) (by decide +kernel)
set_option maxRecDepth 20000 in
theorem gX5_inferTypes_X5_widen : GoodIn wsX5_inferTypes (wsV RX5 74 RX5 yX5_widen wsX5_widen) := goodIn_app (goodIn_of _ (by decide +kernel)) ggX5_inferTypes_X5_widen
set_option maxRecDepth 20000 in
theorem ggX5_widen_X4_kind : GoodIn wsX5_widen wsX4_kind := goodIn_r _ [7, 8, 49, 50, 51, 52, 53, 54, 55] (by decide +kernel) (by decide +kernel)
set_option maxRecDepth 20000 in
theorem gX5_widen_X4_kind : GoodIn wsX5_widen (wsV RX5 65 RX4 yX4_kind wsX4_kind) := goodIn_app (goodIn_of _ (by decide +kernel)) ggX5_widen_X4_kind
set_option maxRecDepth 20000 in
theorem ggX5_widen_X5_addToType : GoodIn wsX5_widen wsX5_addToType := goodIn_r _ [13, 14, 15, 16, 40, 41, 42, 43, 44, 45, 46, 47, 48] (by decide +kernel) (by decide +kernel)
set_option maxRecDepth 20000 in
theorem gX5_widen_X5_addToType : GoodIn wsX5_widen (wsV RX5 78 RX5 yX5_addToType wsX5_addToType) := goodIn_app (goodIn_of _ (by decide +kernel)) ggX5_widen_X5_addToType
set_option maxRecDepth 20000 in
theorem ggX5_widen_X4_value : GoodIn wsX5_widen wsX4_value := goodIn_r _ [20, 21, 49, 50, 51, 52, 53, 54, 55] (by decide +kernel) (by decide +kernel)
set_option maxRecDepth 20000 in
theorem gX5_widen_X4_value : GoodIn wsX5_widen (wsV RX5 71 RX4 yX4_value wsX4_value) := goodIn_app (goodIn_of _ (by decide +kernel)) ggX5_widen_X4_value
set_option maxRecDepth 20000 in
theorem ggX5_widen_X4_left : GoodIn wsX5_widen wsX4_left := goodIn_r _ [25, 26, 49, 50, 51, 52, 53, 54, 55] (by decide +kernel) (by decide +kernel)
set_option maxRecDepth 20000 in
theorem gX5_widen_X4_left : GoodIn wsX5_widen (wsV RX5 53 RX4 yX4_left wsX4_left) := goodIn_app (goodIn_of _ (by decide +kernel)) ggX5_widen_X4_left
set_option maxRecDepth 20000 in
theorem ggX5_widen_X4_right : GoodIn wsX5_widen wsX4_right := goodIn_r _ [30, 31, 49, 50, 51, 52, 53, 54, 55] (by decide +kernel) (by decide +kernel)
set_option maxRecDepth 20000 in
theorem gX5_widen_X4_right : GoodIn wsX5_widen (wsV RX5 59 RX4 yX4_right wsX4_right) := goodIn_app (goodIn_of _ (by decide +kernel)) ggX5_widen_X4_right
set_option maxRecDepth 20000 in
theorem ggX5_widen_X5_widenPair : GoodIn wsX5_widen wsX5_widenPair := goodIn_r _ [35, 15, 14, 16, 9, 10, 11, 12, 13, 40, 41, 42, 43, 44, 45, 46, 47, 48] (by decide +kernel) (by decide +kernel)
set_option maxRecDepth 20000 in
theorem gX5_widen_X5_widenPair : GoodIn wsX5_widen (wsV RX5 82 RX5 yX5_widenPair wsX5_widenPair) := goodIn_app (goodIn_of _ (by decide +kernel)) ggX5_widen_X5_widenPair
set_option maxRecDepth 20000 in
theorem ggX5_widen_X5_addTypeOf : GoodIn wsX5_widen wsX5_addTypeOf := goodIn_r _ [39, 14, 15, 16, 9, 10, 11, 12, 13, 40, 41, 42, 43, 44, 45, 46, 47, 48] (by decide +kernel) (by decide +kernel)
set_option maxRecDepth 20000 in
theorem gX5_widen_X5_addTypeOf : GoodIn wsX5_widen (wsV RX5 86 RX5 yX5_addTypeOf wsX5_addTypeOf) := goodIn_app (goodIn_of _ (by decide +kernel)) ggX5_widen_X5_addTypeOf
set_option maxRecDepth 20000 in
theorem ggX5_widenPair_X5_addToType : GoodIn wsX5_widenPair wsX5_addToType := goodIn_r _ [8, 2, 1, 3, 9, 10, 11, 12, 13, 14, 15, 16, 17] (by decide +kernel) (by decide +kernel)
set_option maxRecDepth 20000 in
theorem gX5_widenPair_X5_addToType : GoodIn wsX5_widenPair (wsV RX5 78 RX5 yX5_addToType wsX5_addToType) := goodIn_app (goodIn_of _ (by decide +kernel)) ggX5_widenPair_X5_addToType
set_option maxRecDepth 20000 in
theorem ggX5_addTypeOf_X5_addToType : GoodIn wsX5_addTypeOf wsX5_addToType := goodIn_r _ [8, 1, 2, 3, 9, 10, 11, 12, 13, 14, 15, 16, 17] (by decide +kernel) (by decide +kernel)
set_option maxRecDepth 20000 in
theorem gX5_addTypeOf_X5_addToType : GoodIn wsX5_addTypeOf (wsV RX5 78 RX5 yX5_addToType wsX5_addToType) := goodIn_app (goodIn_of _ (by decide +kernel)) ggX5_addTypeOf_X5_addToType
set_option maxRecDepth 20000 in
theorem ggX5_faultAt_X4_kind : GoodIn wsX5_faultAt wsX4_kind := goodIn_r _ [8, 9, 41, 42, 43, 44, 45, 46, 47] (by decide +kernel) (by decide +kernel)
set_option maxRecDepth 20000 in
theorem gX5_faultAt_X4_kind : GoodIn wsX5_faultAt (wsV RX5 65 RX4 yX4_kind wsX4_kind) := goodIn_app (goodIn_of _ (by decide +kernel)) ggX5_faultAt_X4_kind
set_option maxRecDepth 20000 in
theorem ggX5_faultAt_X4_left : GoodIn wsX5_faultAt wsX4_left := goodIn_r _ [13, 14, 41, 42, 43, 44, 45, 46, 47] (by decide +kernel) (by decide +kernel)
set_option maxRecDepth 20000 in
theorem gX5_faultAt_X4_left : GoodIn wsX5_faultAt (wsV RX5 53 RX4 yX4_left wsX4_left) := goodIn_app (goodIn_of _ (by decide +kernel)) ggX5_faultAt_X4_left
set_option maxRecDepth 20000 in
theorem ggX5_faultAt_X4_right : GoodIn wsX5_faultAt wsX4_right := goodIn_r _ [18, 19, 41, 42, 43, 44, 45, 46, 47] (by decide +kernel) (by decide +kernel)
set_option maxRecDepth 20000 in
theorem gX5_faultAt_X4_right : GoodIn wsX5_faultAt (wsV RX5 59 RX4 yX4_right wsX4_right) := goodIn_app (goodIn_of _ (by decide +kernel)) ggX5_faultAt_X4_right
set_option maxRecDepth 20000 in
theorem ggX5_faultAt_X5_isLoose : GoodIn wsX5_faultAt wsX5_isLoose := goodIn_r _ [24, 25, 26, 27, 32, 33, 34, 35, 36, 37, 38, 39, 40] (by decide +kernel) (by decide +kernel)
set_option maxRecDepth 20000 in
theorem gX5_faultAt_X5_isLoose : GoodIn wsX5_faultAt (wsV RX5 90 RX5 yX5_isLoose wsX5_isLoose) := goodIn_app (goodIn_of _ (by decide +kernel)) ggX5_faultAt_X5_isLoose
set_option maxRecDepth 20000 in
theorem ggX5_faultAt_X5_isDouble : GoodIn wsX5_faultAt wsX5_isDouble := goodIn_r _ [31, 25, 27, 32, 33, 34, 35, 36, 37, 38, 39, 40] (by decide +kernel) (by decide +kernel)
set_option maxRecDepth 20000 in
theorem gX5_faultAt_X5_isDouble : GoodIn wsX5_faultAt (wsV RX5 93 RX5 yX5_isDouble wsX5_isDouble) := goodIn_app (goodIn_of _ (by decide +kernel)) ggX5_faultAt_X5_isDouble
set_option maxRecDepth 20000 in
theorem ggX7_init_X4_init : GoodIn wsX7_init wsX4_init := goodIn_r _ [30, 31, 2, 3, 32, 33, 34, 35, 36, 37, 38, 39, 101, 102, 103, 104, 105, 106, 107] (by decide +kernel) (by decide +kernel)
set_option maxRecDepth 20000 in
theorem gX7_init_X4_init_n11 : GoodIn wsX7_init (wsX4_init) := ggX7_init_X4_init
set_option maxRecDepth 20000 in
theorem ggX7_init_X5_init : GoodIn wsX7_init wsX5_init := goodIn_r _ [42, 43, 2, 3, 32, 44, 45, 46, 47, 48, 49, 50, 51, 52, 53, 115, 116, 117, 118, 119, 120, 121, 122, 123] (by decide +kernel) (by decide +kernel)
set_option maxRecDepth 20000 in
theorem gX7_init_X5_init : GoodIn wsX7_init (wsX5_init) := ggX7_init_X5_init
set_option maxRecDepth 20000 in
theorem ggX7_init_X6_init : GoodIn wsX7_init wsX6_init := goodIn_r _ [55, 56, 2, 3, 32, 57, 58, 124, 125] (by decide +kernel) (by decide +kernel)
set_option maxRecDepth 20000 in
theorem gX7_init_X6_init_n27 : GoodIn wsX7_init (wsX6_init) := ggX7_init_X6_init
set_option maxRecDepth 20000 in
theorem ggX7_init_X0_init : GoodIn wsX7_init wsX0_init := goodIn_r _ [61, 62, 2, 3, 32, 63, 64, 65, 66, 67, 68, 69, 70, 71, 72, 73, 74, 75, 76, 77, 78, 79, 126, 127, 128, 129, 130, 131, 132, 133, 146, 147] (by decide +kernel) (by decide +kernel)
set_option maxRecDepth 20000 in
theorem gX7_init_X0_init : GoodIn wsX7_init (wsX0_init) := ggX7_init_X0_init
set_option maxRecDepth 20000 in
theorem ggX7_init_X3_init : GoodIn wsX7_init wsX3_init := goodIn_r _ [82, 83, 2, 3, 84, 77, 85, 86, 87, 134, 135, 136] (by decide +kernel) (by decide +kernel)
set_option maxRecDepth 20000 in
theorem gX7_init_X3_init : GoodIn wsX7_init (wsX3_init) := ggX7_init_X3_init
set_option maxRecDepth 20000 in
theorem ggX7_init_X1_init : GoodIn wsX7_init wsX1_init := goodIn_r _ [90, 91, 2, 3, 32, 92, 93, 77, 94, 95, 96, 97, 98, 99, 100, 137, 138, 139, 140, 141, 142, 143, 144, 145] (by decide +kernel) (by decide +kernel)
set_option maxRecDepth 20000 in
theorem gX7_init_X1_init : GoodIn wsX7_init (wsX1_init) := ggX7_init_X1_init
set_option maxRecDepth 20000 in
theorem ggX7_leaf_X7_needRoom : GoodIn wsX7_leaf wsX7_needRoom := goodIn_ca (goodIn_r _ [8, 9, 10, 3, 11, 12, 13, 14, 15, 16, 39, 40, 41, 42, 43, 44, 45, 46, 47, 48, 49, 50, 51, 52] (by decide +kernel) (by decide +kernel)) (goodIn_sub (fun _ h => List.mem_cons_of_mem _ (List.mem_append_right _ h)) (by decide +kernel))
set_option maxRecDepth 20000 in
theorem gX7_leaf_X7_needRoom : GoodIn wsX7_leaf (wsV RX7 64 RX7 yX7_needRoom wsX7_needRoom) := goodIn_app (goodIn_of _ (by decide +kernel)) ggX7_leaf_X7_needRoom
set_option maxRecDepth 20000 in
theorem ggX7_leaf_X4_add : GoodIn wsX7_leaf wsX4_add := goodIn_r _ [20, 16, 21, 22, 23, 24, 25, 26, 27, 28, 29, 30, 31, 32, 33, 14, 34, 35, 36, 37, 38, 46, 47, 48, 49, 50, 51, 52] (by decide +kernel) (by decide +kernel)
set_option maxRecDepth 20000 in
theorem gX7_leaf_X4_add : GoodIn wsX7_leaf (wsV RX7 67 RX4 yX4_add wsX4_add) := goodIn_app (goodIn_of _ (by decide +kernel)) ggX7_leaf_X4_add
set_option maxRecDepth 20000 in
theorem ggX7_variable_X7_needVariable : GoodIn wsX7_variable wsX7_needVariable := goodIn_ca (goodIn_r _ [6, 7, 8] (by decide +kernel) (by decide +kernel)) (goodIn_sub (fun _ h => List.mem_cons_of_mem _ (List.mem_append_left _ (List.mem_append_right _ h))) (by decide +kernel))
set_option maxRecDepth 20000 in
theorem gX7_variable_X7_needVariable : GoodIn wsX7_variable (wsV RX7 71 RX7 yX7_needVariable wsX7_needVariable) := goodIn_app (goodIn_of _ (by decide +kernel)) ggX7_variable_X7_needVariable
set_option maxRecDepth 20000 in
theorem ggX7_variable_X7_needRoom : GoodIn wsX7_variable wsX7_needRoom := goodIn_ca (goodIn_r _ [12, 13, 14, 1, 15, 16, 17, 18, 19, 20, 43, 44, 45, 46, 47, 48, 49, 50, 51, 52, 53, 54, 55, 56] (by decide +kernel) (by decide +kernel)) (goodIn_sub (fun _ h => List.mem_cons_of_mem _ (List.mem_append_right _ h)) (by decide +kernel))
set_option maxRecDepth 20000 in
theorem gX7_variable_X7_needRoom : GoodIn wsX7_variable (wsV RX7 64 RX7 yX7_needRoom wsX7_needRoom) := goodIn_app (goodIn_of _ (by decide +kernel)) ggX7_variable_X7_needRoom
set_option maxRecDepth 20000 in
theorem ggX7_variable_X4_add : GoodIn wsX7_variable wsX4_add := goodIn_r _ [24, 20, 25, 26, 27, 28, 29, 30, 31, 32, 33, 34, 35, 36, 37, 18, 38, 39, 40, 41, 42, 50, 51, 52, 53, 54, 55, 56] (by decide +kernel) (by decide +kernel)
set_option maxRecDepth 20000 in
theorem gX7_variable_X4_add : GoodIn wsX7_variable (wsV RX7 67 RX4 yX4_add wsX4_add) := goodIn_app (goodIn_of _ (by decide +kernel)) ggX7_variable_X4_add
set_option maxRecDepth 20000 in
theorem ggX7_join_X7_needTerm : GoodIn wsX7_join wsX7_needTerm := goodIn_ca (goodIn_r _ [8, 9, 10, 3, 11, 12, 13, 14, 15, 16, 53, 54, 55, 56, 57, 58, 59, 60, 61, 62, 63, 64, 65, 66] (by decide +kernel) (by decide +kernel)) (goodIn_sub (fun _ h => List.mem_cons_of_mem _ (List.mem_append_left _ (List.mem_append_right _ h))) (by decide +kernel))
set_option maxRecDepth 20000 in
theorem gX7_join_X7_needTerm : GoodIn wsX7_join (wsV RX7 75 RX7 yX7_needTerm wsX7_needTerm) := goodIn_app (goodIn_of _ (by decide +kernel)) ggX7_join_X7_needTerm
set_option maxRecDepth 20000 in
theorem ggX7_join_X4_isPart : GoodIn wsX7_join wsX4_isPart := goodIn_r _ [20, 21, 60, 61, 62, 63, 64, 65, 66] (by decide +kernel) (by decide +kernel)
set_option maxRecDepth 20000 in
theorem gX7_join_X4_isPart : GoodIn wsX7_join (wsV RX7 78 RX4 yX4_isPart wsX4_isPart) := goodIn_app (goodIn_of _ (by decide +kernel)) ggX7_join_X4_isPart
set_option maxRecDepth 20000 in
theorem ggX7_join_X7_needRoom : GoodIn wsX7_join wsX7_needRoom := goodIn_ca (goodIn_r _ [25, 26, 27, 3, 28, 29, 30, 14, 31, 16, 53, 54, 55, 56, 57, 58, 59, 60, 61, 62, 63, 64, 65, 66] (by decide +kernel) (by decide +kernel)) (goodIn_sub (fun _ h => List.mem_cons_of_mem _ (List.mem_append_right _ h)) (by decide +kernel))
set_option maxRecDepth 20000 in
theorem gX7_join_X7_needRoom : GoodIn wsX7_join (wsV RX7 64 RX7 yX7_needRoom wsX7_needRoom) := goodIn_app (goodIn_of _ (by decide +kernel)) ggX7_join_X7_needRoom
set_option maxRecDepth 20000 in
theorem ggX7_join_X4_add : GoodIn wsX7_join wsX4_add := goodIn_r _ [35, 16, 36, 37, 38, 39, 21, 40, 41, 42, 43, 44, 45, 46, 47, 14, 48, 49, 50, 51, 52, 60, 61, 62, 63, 64, 65, 66] (by decide +kernel) (by decide +kernel)
set_option maxRecDepth 20000 in
theorem gX7_join_X4_add : GoodIn wsX7_join (wsV RX7 67 RX4 yX4_add wsX4_add) := goodIn_app (goodIn_of _ (by decide +kernel)) ggX7_join_X4_add
set_option maxRecDepth 20000 in
theorem ggX7_knot_X7_needTerm : GoodIn wsX7_knot wsX7_needTerm := goodIn_ca (goodIn_r _ [10, 11, 12, 5, 13, 14, 15, 16, 17, 18, 60, 61, 62, 63, 64, 65, 66, 67, 68, 69, 70, 71, 72, 73] (by decide +kernel) (by decide +kernel)) (goodIn_sub (fun _ h => List.mem_cons_of_mem _ (List.mem_append_left _ (List.mem_append_right _ h))) (by decide +kernel))
set_option maxRecDepth 20000 in
theorem gX7_knot_X7_needTerm : GoodIn wsX7_knot (wsV RX7 75 RX7 yX7_needTerm wsX7_needTerm) := goodIn_app (goodIn_of _ (by decide +kernel)) ggX7_knot_X7_needTerm
set_option maxRecDepth 20000 in
theorem ggX7_knot_X4_isPart : GoodIn wsX7_knot wsX4_isPart := goodIn_r _ [22, 23, 67, 68, 69, 70, 71, 72, 73] (by decide +kernel) (by decide +kernel)
set_option maxRecDepth 20000 in
theorem gX7_knot_X4_isPart : GoodIn wsX7_knot (wsV RX7 78 RX4 yX4_isPart wsX4_isPart) := goodIn_app (goodIn_of _ (by decide +kernel)) ggX7_knot_X4_isPart
set_option maxRecDepth 20000 in
theorem ggX7_knot_X7_needVariable : GoodIn wsX7_knot wsX7_needVariable := goodIn_ca (goodIn_r _ [27, 28, 29] (by decide +kernel) (by decide +kernel)) (goodIn_sub (fun _ h => List.mem_cons_of_mem _ (List.mem_append_right _ h)) (by decide +kernel))
set_option maxRecDepth 20000 in
theorem gX7_knot_X7_needVariable : GoodIn wsX7_knot (wsV RX7 71 RX7 yX7_needVariable wsX7_needVariable) := goodIn_app (goodIn_of _ (by decide +kernel)) ggX7_knot_X7_needVariable
set_option maxRecDepth 20000 in
theorem ggX7_knot_X7_needRoom : GoodIn wsX7_knot wsX7_needRoom := goodIn_ca (goodIn_r _ [33, 3, 4, 5, 34, 35, 36, 16, 37, 18, 60, 61, 62, 63, 64, 65, 66, 67, 68, 69, 70, 71, 72, 73] (by decide +kernel) (by decide +kernel)) (goodIn_sub (fun _ h => List.mem_cons_of_mem _ (List.mem_append_left _ (List.mem_append_left _ (List.mem_append_right _ h)))) (by decide +kernel))
set_option maxRecDepth 20000 in
theorem gX7_knot_X7_needRoom : GoodIn wsX7_knot (wsV RX7 64 RX7 yX7_needRoom wsX7_needRoom) := goodIn_app (goodIn_of _ (by decide +kernel)) ggX7_knot_X7_needRoom
set_option maxRecDepth 20000 in
theorem ggX7_knot_X4_knotsIn : GoodIn wsX7_knot wsX4_knotsIn := goodIn_r _ [41, 42, 67, 68, 69, 70, 71, 72, 73] (by decide +kernel) (by decide +kernel)
set_option maxRecDepth 20000 in
theorem gX7_knot_X4_knotsIn : GoodIn wsX7_knot (wsV RX7 85 RX4 yX4_knotsIn wsX4_knotsIn) := goodIn_app (goodIn_of _ (by decide +kernel)) ggX7_knot_X4_knotsIn
set_option maxRecDepth 20000 in
theorem ggX7_knot_X4_add : GoodIn wsX7_knot wsX4_add := goodIn_r _ [46, 18, 47, 48, 49, 50, 23, 42, 51, 52, 53, 54, 55, 39, 40, 16, 41, 56, 57, 58, 59, 67, 68, 69, 70, 71, 72, 73] (by decide +kernel) (by decide +kernel)
set_option maxRecDepth 20000 in
theorem gX7_knot_X4_add : GoodIn wsX7_knot (wsV RX7 67 RX4 yX4_add wsX4_add) := goodIn_app (goodIn_of _ (by decide +kernel)) ggX7_knot_X4_add
set_option maxRecDepth 20000 in
theorem ggX7_clear_X4_forgetAll : GoodIn wsX7_clear wsX4_forgetAll := goodIn_r _ [6, 7, 15, 16, 17, 18, 19, 20, 21] (by decide +kernel) (by decide +kernel)
set_option maxRecDepth 20000 in
theorem gX7_clear_X4_forgetAll : GoodIn wsX7_clear (wsV RX7 92 RX4 yX4_forgetAll wsX4_forgetAll) := goodIn_app (goodIn_of _ (by decide +kernel)) ggX7_clear_X4_forgetAll
set_option maxRecDepth 20000 in
theorem ggX7_terms_X4_size : GoodIn wsX7_terms wsX4_size := goodIn_r _ [6, 7, 15, 16, 17, 18, 19, 20, 21] (by decide +kernel) (by decide +kernel)
set_option maxRecDepth 20000 in
theorem gX7_terms_X4_size : GoodIn wsX7_terms (wsV RX7 95 RX4 yX4_size wsX4_size) := goodIn_app (goodIn_of _ (by decide +kernel)) ggX7_terms_X4_size
set_option maxRecDepth 20000 in
theorem ggX7_fault_X7_needTerm : GoodIn wsX7_fault wsX7_needTerm := goodIn_ca (goodIn_r _ [6, 7, 8, 9, 10, 11, 12, 13, 14, 15, 99, 100, 101, 102, 103, 104, 105, 106, 107, 108, 109, 110, 111, 112] (by decide +kernel) (by decide +kernel)) (goodIn_sub (fun _ h => List.mem_cons_of_mem _ (List.mem_append_right _ h)) (by decide +kernel))
set_option maxRecDepth 20000 in
theorem gX7_fault_X7_needTerm : GoodIn wsX7_fault (wsV RX7 75 RX7 yX7_needTerm wsX7_needTerm) := goodIn_app (goodIn_of _ (by decide +kernel)) ggX7_fault_X7_needTerm
set_option maxRecDepth 20000 in
theorem ggX7_fault_X5_study : GoodIn wsX7_fault wsX5_study := goodIn_r _ [20, 21, 22, 23, 24, 25, 19, 26, 27, 28, 29, 30, 31, 13, 32, 33, 34, 35, 36, 37, 38, 39, 40, 41, 42, 43, 44, 45, 46, 47, 48, 49, 50, 51, 52, 53, 54, 55, 56, 57, 58, 59, 60, 61, 62, 63, 64, 65, 66, 67, 68, 69, 70, 71, 72, 73, 74, 75, 76, 77, 78, 79, 80, 81, 82, 113, 114, 115, 116, 117, 118, 119, 120, 121, 106, 107, 108, 109, 110, 111, 112] (by decide +kernel) (by decide +kernel)
set_option maxRecDepth 20000 in
theorem gX7_fault_X5_study : GoodIn wsX7_fault (wsV RX7 99 RX5 yX5_study wsX5_study) := goodIn_app (goodIn_of _ (by decide +kernel)) ggX7_fault_X5_study
set_option maxRecDepth 20000 in
theorem ggX7_fault_X5_firstFault : GoodIn wsX7_fault wsX5_firstFault := goodIn_r _ [86, 21, 22, 87, 88, 89, 19, 90, 28, 43, 44, 45, 46, 47, 13, 48, 49, 29, 30, 31, 32, 33, 34, 35, 36, 37, 38, 91, 92, 93, 94, 64, 66, 65, 95, 96, 97, 98, 113, 114, 115, 116, 117, 118, 119, 120, 121, 106, 107, 108, 109, 110, 111, 112] (by decide +kernel) (by decide +kernel)
set_option maxRecDepth 20000 in
theorem gX7_fault_X5_firstFault : GoodIn wsX7_fault (wsV RX7 102 RX5 yX5_firstFault wsX5_firstFault) := goodIn_app (goodIn_of _ (by decide +kernel)) ggX7_fault_X5_firstFault
set_option maxRecDepth 20000 in
theorem ggX7_type_X7_needTerm : GoodIn wsX7_type wsX7_needTerm := goodIn_ca (goodIn_r _ [8, 1, 2, 9, 10, 11, 12, 13, 14, 15, 117, 118, 119, 120, 121, 122, 123, 124, 125, 126, 127, 128, 129, 130] (by decide +kernel) (by decide +kernel)) (goodIn_sub (fun _ h => List.mem_cons_of_mem _ (List.mem_append_left _ (List.mem_append_right _ h))) (by decide +kernel))
set_option maxRecDepth 20000 in
theorem gX7_type_X7_needTerm : GoodIn wsX7_type (wsV RX7 75 RX7 yX7_needTerm wsX7_needTerm) := goodIn_app (goodIn_of _ (by decide +kernel)) ggX7_type_X7_needTerm
set_option maxRecDepth 20000 in
theorem ggX7_type_X7_needTyped : GoodIn wsX7_type wsX7_needTyped := goodIn_ca (goodIn_r _ [19, 20, 21, 3, 22, 23, 24, 25, 26, 27, 28, 29, 30, 31, 32, 33, 34, 35, 36, 37, 13, 38, 39, 40, 41, 42, 43, 44, 45, 46, 47, 48, 49, 50, 51, 52, 53, 54, 55, 56, 57, 58, 59, 60, 61, 62, 63, 64, 65, 66, 67, 68, 69, 70, 71, 72, 73, 74, 75, 76, 77, 78, 79, 80, 81, 82, 83, 84, 85, 86, 87, 88, 89, 90, 91, 92, 93, 94, 95, 96, 97, 98, 99, 100, 101, 102, 103, 104, 117, 118, 119, 120, 121, 122, 123, 131, 132, 133, 134, 135, 136, 137, 138, 139, 124, 125, 126, 127, 128, 129, 130] (by decide +kernel) (by decide +kernel)) (goodIn_sub (fun _ h => List.mem_cons_of_mem _ (List.mem_append_right _ h)) (by decide +kernel))
set_option maxRecDepth 20000 in
theorem gX7_type_X7_needTyped : GoodIn wsX7_type (wsV RX7 108 RX7 yX7_needTyped wsX7_needTyped) := goodIn_app (goodIn_of _ (by decide +kernel)) ggX7_type_X7_needTyped
set_option maxRecDepth 20000 in
theorem ggX7_type_X5_isNullable : GoodIn wsX7_type wsX5_isNullable := goodIn_r _ [108, 70, 131, 132, 133, 134, 135, 136, 137, 138, 139] (by decide +kernel) (by decide +kernel)
set_option maxRecDepth 20000 in
theorem gX7_type_X5_isNullable : GoodIn wsX7_type (wsV RX7 111 RX5 yX5_isNullable wsX5_isNullable) := goodIn_app (goodIn_of _ (by decide +kernel)) ggX7_type_X5_isNullable
set_option maxRecDepth 20000 in
theorem ggX7_type_X5_firstOf : GoodIn wsX7_type wsX5_firstOf := goodIn_r _ [112, 71, 131, 132, 133, 134, 135, 136, 137, 138, 139] (by decide +kernel) (by decide +kernel)
set_option maxRecDepth 20000 in
theorem gX7_type_X5_firstOf : GoodIn wsX7_type (wsV RX7 114 RX5 yX5_firstOf wsX5_firstOf) := goodIn_app (goodIn_of _ (by decide +kernel)) ggX7_type_X5_firstOf
set_option maxRecDepth 20000 in
theorem ggX7_type_X5_afterOf : GoodIn wsX7_type wsX5_afterOf := goodIn_r _ [116, 72, 131, 132, 133, 134, 135, 136, 137, 138, 139] (by decide +kernel) (by decide +kernel)
set_option maxRecDepth 20000 in
theorem gX7_type_X5_afterOf : GoodIn wsX7_type (wsV RX7 117 RX5 yX5_afterOf wsX5_afterOf) := goodIn_app (goodIn_of _ (by decide +kernel)) ggX7_type_X5_afterOf
set_option maxRecDepth 20000 in
theorem ggX7_put_X6_isFull : GoodIn wsX7_put wsX6_isFull := goodIn_r _ [6, 7, 20, 21] (by decide +kernel) (by decide +kernel)
set_option maxRecDepth 20000 in
theorem gX7_put_X6_isFull : GoodIn wsX7_put (wsV RX7 120 RX6 yX6_isFull wsX6_isFull) := goodIn_app (goodIn_of _ (by decide +kernel)) ggX7_put_X6_isFull
set_option maxRecDepth 20000 in
theorem ggX7_put_X6_add : GoodIn wsX7_put wsX6_add := goodIn_r _ [11, 12, 7, 20, 21] (by decide +kernel) (by decide +kernel)
set_option maxRecDepth 20000 in
theorem gX7_put_X6_add : GoodIn wsX7_put (wsV RX7 124 RX6 yX6_add wsX6_add) := goodIn_app (goodIn_of _ (by decide +kernel)) ggX7_put_X6_add
set_option maxRecDepth 20000 in
theorem ggX7_cut_X6_size : GoodIn wsX7_cut wsX6_size := goodIn_r _ [6, 7, 19, 20] (by decide +kernel) (by decide +kernel)
set_option maxRecDepth 20000 in
theorem gX7_cut_X6_size : GoodIn wsX7_cut (wsV RX7 126 RX6 yX6_size wsX6_size) := goodIn_app (goodIn_of _ (by decide +kernel)) ggX7_cut_X6_size
set_option maxRecDepth 20000 in
theorem ggX7_cut_X6_keep : GoodIn wsX7_cut wsX6_keep := goodIn_r _ [11, 7, 19, 20] (by decide +kernel) (by decide +kernel)
set_option maxRecDepth 20000 in
theorem gX7_cut_X6_keep : GoodIn wsX7_cut (wsV RX7 127 RX6 yX6_keep wsX6_keep) := goodIn_app (goodIn_of _ (by decide +kernel)) ggX7_cut_X6_keep
set_option maxRecDepth 20000 in
theorem ggX7_length_X6_size : GoodIn wsX7_length wsX6_size := goodIn_r _ [6, 7, 15, 16] (by decide +kernel) (by decide +kernel)
set_option maxRecDepth 20000 in
theorem gX7_length_X6_size : GoodIn wsX7_length (wsV RX7 126 RX6 yX6_size wsX6_size) := goodIn_app (goodIn_of _ (by decide +kernel)) ggX7_length_X6_size
set_option maxRecDepth 20000 in
theorem ggX7_letter_X6_size : GoodIn wsX7_letter wsX6_size := goodIn_r _ [8, 9, 22, 23] (by decide +kernel) (by decide +kernel)
set_option maxRecDepth 20000 in
theorem gX7_letter_X6_size : GoodIn wsX7_letter (wsV RX7 126 RX6 yX6_size wsX6_size) := goodIn_app (goodIn_of _ (by decide +kernel)) ggX7_letter_X6_size
set_option maxRecDepth 20000 in
theorem ggX7_letter_X6_at : GoodIn wsX7_letter wsX6_at := goodIn_r _ [13, 14, 22, 23] (by decide +kernel) (by decide +kernel)
set_option maxRecDepth 20000 in
theorem gX7_letter_X6_at : GoodIn wsX7_letter (wsV RX7 130 RX6 yX6_at wsX6_at) := goodIn_app (goodIn_of _ (by decide +kernel)) ggX7_letter_X6_at
set_option maxRecDepth 20000 in
theorem ggX7_read_X7_needTerm : GoodIn wsX7_read wsX7_needTerm := goodIn_ca (goodIn_r _ [10, 11, 12, 13, 14, 15, 16, 17, 18, 19, 187, 188, 189, 190, 191, 192, 193, 194, 195, 196, 197, 198, 199, 200] (by decide +kernel) (by decide +kernel)) (goodIn_sub (fun _ h => List.mem_cons_of_mem _ (List.mem_append_left _ (List.mem_append_right _ h))) (by decide +kernel))
set_option maxRecDepth 20000 in
theorem gX7_read_X7_needTerm : GoodIn wsX7_read (wsV RX7 75 RX7 yX7_needTerm wsX7_needTerm) := goodIn_app (goodIn_of _ (by decide +kernel)) ggX7_read_X7_needTerm
set_option maxRecDepth 20000 in
theorem ggX7_read_X7_needTyped : GoodIn wsX7_read wsX7_needTyped := goodIn_ca (goodIn_r _ [23, 24, 25, 26, 27, 28, 29, 30, 31, 32, 33, 34, 35, 36, 37, 38, 39, 40, 41, 42, 17, 43, 44, 45, 46, 47, 48, 49, 50, 51, 52, 53, 54, 55, 56, 57, 58, 59, 60, 61, 62, 63, 64, 65, 66, 67, 68, 69, 70, 71, 72, 73, 74, 75, 76, 77, 78, 79, 80, 81, 82, 83, 84, 85, 86, 87, 88, 89, 90, 91, 92, 93, 94, 95, 96, 97, 98, 99, 100, 101, 102, 103, 104, 105, 106, 107, 108, 109, 187, 188, 189, 190, 191, 192, 193, 201, 202, 203, 204, 205, 206, 207, 208, 209, 194, 195, 196, 197, 198, 199, 200] (by decide +kernel) (by decide +kernel)) (goodIn_sub (fun _ h => List.mem_cons_of_mem _ (List.mem_append_right _ h)) (by decide +kernel))
set_option maxRecDepth 20000 in
theorem gX7_read_X7_needTyped : GoodIn wsX7_read (wsV RX7 108 RX7 yX7_needTyped wsX7_needTyped) := goodIn_app (goodIn_of _ (by decide +kernel)) ggX7_read_X7_needTyped
set_option maxRecDepth 20000 in
theorem ggX7_read_X0_reads : GoodIn wsX7_read wsX0_reads := goodIn_r _ [114, 115, 116, 117, 118, 119, 120, 121, 122, 123, 124, 125, 126, 127, 128, 129, 113, 130, 131, 132, 133, 134, 135, 136, 137, 57, 58, 17, 59, 60, 138, 67, 68, 69, 70, 139, 140, 141, 142, 143, 144, 145, 146, 147, 148, 149, 150, 151, 152, 153, 154, 46, 47, 48, 49, 155, 41, 42, 43, 44, 156, 157, 158, 159, 160, 161, 162, 30, 163, 39, 76, 75, 40, 45, 164, 165, 166, 167, 168, 169, 170, 171, 172, 173, 54, 210, 211, 212, 213, 214, 215, 216, 217, 218, 219, 194, 195, 196, 197, 198, 199, 200, 220, 221, 201, 202, 203, 204, 205, 206, 207, 208, 209] (by decide +kernel) (by decide +kernel)
set_option maxRecDepth 20000 in
theorem gX7_read_X0_reads : GoodIn wsX7_read (wsV RX7 133 RX0 yX0_reads wsX0_reads) := goodIn_app (goodIn_of _ (by decide +kernel)) ggX7_read_X0_reads
set_option maxRecDepth 20000 in
theorem ggX7_read_X0_place : GoodIn wsX7_read wsX0_place := goodIn_r _ [177, 116, 210, 211, 212, 213, 214, 215, 216, 217] (by decide +kernel) (by decide +kernel)
set_option maxRecDepth 20000 in
theorem gX7_read_X0_place : GoodIn wsX7_read (wsV RX7 137 RX0 yX0_place wsX0_place) := goodIn_app (goodIn_of _ (by decide +kernel)) ggX7_read_X0_place
set_option maxRecDepth 20000 in
theorem ggX7_read_X0_keepSteps : GoodIn wsX7_read wsX0_keepSteps := goodIn_r _ [181, 182, 115, 210, 211, 212, 213, 214, 215, 216, 217] (by decide +kernel) (by decide +kernel)
set_option maxRecDepth 20000 in
theorem gX7_read_X0_keepSteps : GoodIn wsX7_read (wsV RX7 140 RX0 yX0_keepSteps wsX0_keepSteps) := goodIn_app (goodIn_of _ (by decide +kernel)) ggX7_read_X0_keepSteps
set_option maxRecDepth 20000 in
theorem ggX7_read_X0_visits : GoodIn wsX7_read wsX0_visits := goodIn_r _ [186, 118, 210, 211, 212, 213, 214, 215, 216, 217] (by decide +kernel) (by decide +kernel)
set_option maxRecDepth 20000 in
theorem gX7_read_X0_visits : GoodIn wsX7_read (wsV RX7 143 RX0 yX0_visits wsX0_visits) := goodIn_app (goodIn_of _ (by decide +kernel)) ggX7_read_X0_visits
set_option maxRecDepth 20000 in
theorem ggX7_trace_X0_kept : GoodIn wsX7_trace wsX0_kept := goodIn_r _ [6, 7, 21, 22, 23, 24, 25, 26, 27, 28] (by decide +kernel) (by decide +kernel)
set_option maxRecDepth 20000 in
theorem gX7_trace_X0_kept : GoodIn wsX7_trace (wsV RX7 146 RX0 yX0_kept wsX0_kept) := goodIn_app (goodIn_of _ (by decide +kernel)) ggX7_trace_X0_kept
set_option maxRecDepth 20000 in
theorem ggX7_trace_X2_size : GoodIn wsX7_trace wsX2_size := goodIn_r _ [12, 13, 29, 30] (by decide +kernel) (by decide +kernel)
set_option maxRecDepth 20000 in
theorem gX7_trace_X2_size : GoodIn wsX7_trace (wsV RX7 150 RX2 yX2_size wsX2_size) := goodIn_app (goodIn_of _ (by decide +kernel)) ggX7_trace_X2_size
set_option maxRecDepth 20000 in
theorem ggX7_step_X0_kept : GoodIn wsX7_step wsX0_kept := goodIn_r _ [8, 9, 28, 29, 30, 31, 32, 33, 34, 35] (by decide +kernel) (by decide +kernel)
set_option maxRecDepth 20000 in
theorem gX7_step_X0_kept : GoodIn wsX7_step (wsV RX7 146 RX0 yX0_kept wsX0_kept) := goodIn_app (goodIn_of _ (by decide +kernel)) ggX7_step_X0_kept
set_option maxRecDepth 20000 in
theorem ggX7_step_X2_size : GoodIn wsX7_step wsX2_size := goodIn_r _ [14, 15, 36, 37] (by decide +kernel) (by decide +kernel)
set_option maxRecDepth 20000 in
theorem gX7_step_X2_size : GoodIn wsX7_step (wsV RX7 150 RX2 yX2_size wsX2_size) := goodIn_app (goodIn_of _ (by decide +kernel)) ggX7_step_X2_size
set_option maxRecDepth 20000 in
theorem ggX7_step_X2_at : GoodIn wsX7_step wsX2_at := goodIn_r _ [19, 20, 36, 37] (by decide +kernel) (by decide +kernel)
set_option maxRecDepth 20000 in
theorem gX7_step_X2_at : GoodIn wsX7_step (wsV RX7 153 RX2 yX2_at wsX2_at) := goodIn_app (goodIn_of _ (by decide +kernel)) ggX7_step_X2_at
set_option maxRecDepth 20000 in
theorem ggX7_count_X7_countTo : GoodIn wsX7_count wsX7_countTo := goodIn_ca (goodIn_ca (goodIn_ca (goodIn_r _ [6, 7, 8, 1, 9, 10, 11, 5, 12, 13, 14, 15, 16, 17, 18, 19, 20, 21, 22, 23, 24, 25, 26, 27, 28, 29, 30, 31, 32, 33, 34, 35, 36, 37, 38, 39, 40, 41, 42, 43, 44, 45, 46, 47, 48, 49, 50, 51, 52, 53, 54, 55, 56, 57, 58, 59, 60, 61, 62, 63, 64, 65, 66, 67, 68, 69, 70, 71, 72, 73, 74, 75, 76, 77, 78, 79, 80, 81, 82, 83, 84, 85, 86, 87, 88, 89, 90, 91, 92, 93, 94, 95, 96, 97, 98, 99, 100, 101, 102, 103, 104, 105, 106, 107, 108, 109, 110, 111, 112, 113, 114, 115, 116, 117, 118, 119, 120, 121, 122, 123, 124, 125, 126, 127, 128, 129, 130, 131, 132, 133, 134, 135, 136, 137, 138, 139, 140, 141, 142, 143, 144, 145, 146, 151, 152, 153, 154, 155, 156, 157, 158, 159, 160, 161, 162, 163, 164, 165, 166, 167, 168, 169, 170, 171, 172, 173, 174, 175, 176] (by decide +kernel) (by decide +kernel)) (goodIn_sub (fun _ h => List.mem_cons_of_mem _ (List.mem_append_left _ (List.mem_append_left _ (List.mem_append_right _ h)))) (by decide +kernel))) (goodIn_sub (fun _ h => List.mem_cons_of_mem _ (List.mem_append_left _ (List.mem_append_right _ h))) (by decide +kernel))) (goodIn_sub (fun _ h => List.mem_cons_of_mem _ (List.mem_append_right _ h)) (by decide +kernel))
set_option maxRecDepth 20000 in
theorem gX7_count_X7_countTo : GoodIn wsX7_count (wsV RX7 154 RX7 yX7_countTo wsX7_countTo) := goodIn_app (goodIn_of _ (by decide +kernel)) ggX7_count_X7_countTo
set_option maxRecDepth 20000 in
theorem ggX7_count_X3_words : GoodIn wsX7_count wsX3_words := goodIn_r _ [150, 122, 174, 175, 176] (by decide +kernel) (by decide +kernel)
set_option maxRecDepth 20000 in
theorem gX7_count_X3_words : GoodIn wsX7_count (wsV RX7 158 RX3 yX3_words wsX3_words) := goodIn_app (goodIn_of _ (by decide +kernel)) ggX7_count_X3_words
set_option maxRecDepth 20000 in
theorem ggX7_find_X7_countTo : GoodIn wsX7_find wsX7_countTo := goodIn_ca (goodIn_ca (goodIn_ca (goodIn_r _ [10, 11, 12, 3, 13, 14, 15, 9, 16, 17, 18, 19, 20, 21, 22, 23, 24, 25, 26, 27, 28, 29, 30, 31, 32, 33, 34, 35, 36, 37, 38, 39, 40, 41, 42, 43, 44, 45, 46, 47, 48, 49, 50, 51, 52, 53, 54, 55, 56, 57, 58, 59, 60, 61, 62, 63, 64, 65, 66, 67, 68, 69, 70, 71, 72, 73, 74, 75, 76, 77, 78, 79, 80, 81, 82, 83, 84, 85, 86, 87, 88, 89, 90, 91, 92, 93, 94, 95, 96, 97, 98, 99, 100, 101, 102, 103, 104, 105, 106, 107, 108, 109, 110, 111, 112, 113, 114, 115, 116, 117, 118, 119, 120, 121, 122, 123, 124, 125, 126, 127, 128, 129, 130, 131, 132, 133, 134, 135, 136, 137, 138, 139, 140, 141, 142, 143, 144, 145, 146, 147, 148, 149, 150, 236, 237, 238, 239, 240, 241, 242, 243, 244, 245, 246, 247, 248, 249, 250, 251, 252, 253, 254, 255, 256, 257, 258, 259, 260, 261] (by decide +kernel) (by decide +kernel)) (goodIn_sub (fun _ h => List.mem_cons_of_mem _ (List.mem_append_left _ (List.mem_append_left _ (List.mem_append_right _ h)))) (by decide +kernel))) (goodIn_sub (fun _ h => List.mem_cons_of_mem _ (List.mem_append_left _ (List.mem_append_right _ h))) (by decide +kernel))) (goodIn_sub (fun _ h => List.mem_cons_of_mem _ (List.mem_append_right _ h)) (by decide +kernel))
set_option maxRecDepth 20000 in
theorem gX7_find_X7_countTo : GoodIn wsX7_find (wsV RX7 154 RX7 yX7_countTo wsX7_countTo) := goodIn_app (goodIn_of _ (by decide +kernel)) ggX7_find_X7_countTo
set_option maxRecDepth 20000 in
theorem ggX7_find_X3_words : GoodIn wsX7_find wsX3_words := goodIn_r _ [154, 126, 259, 260, 261] (by decide +kernel) (by decide +kernel)
set_option maxRecDepth 20000 in
theorem gX7_find_X3_words : GoodIn wsX7_find (wsV RX7 158 RX3 yX3_words wsX3_words) := goodIn_app (goodIn_of _ (by decide +kernel)) ggX7_find_X3_words
set_option maxRecDepth 20000 in
theorem ggX7_find_X1_spell : GoodIn wsX7_find wsX1_spell := goodIn_r _ [159, 160, 161, 162, 163, 164, 165, 166, 167, 168, 158, 169, 170, 171, 172, 173, 174, 175, 176, 177, 178, 179, 180, 181, 182, 183, 184, 119, 185, 126, 186, 187, 188, 189, 190, 191, 192, 193, 194, 195, 196, 197, 36, 198, 82, 199, 200, 201, 202, 81, 203, 204, 205, 206, 207, 208, 209, 210, 63, 64, 23, 65, 66, 211, 52, 53, 54, 55, 212, 213, 214, 215, 216, 148, 149, 150, 60, 217, 218, 219, 220, 45, 46, 47, 48, 49, 50, 51, 221, 222, 223, 224, 225, 226, 227, 228, 229, 230, 231, 232, 233, 234, 235, 262, 263, 264, 265, 266, 267, 268, 269, 270, 271, 272, 259, 260, 261, 250, 251, 252, 253, 254, 255, 256, 257, 258, 243, 244, 245, 246, 247, 248, 249] (by decide +kernel) (by decide +kernel)
set_option maxRecDepth 20000 in
theorem gX7_find_X1_spell : GoodIn wsX7_find (wsV RX7 165 RX1 yX1_spell wsX1_spell) := goodIn_app (goodIn_of _ (by decide +kernel)) ggX7_find_X1_spell
set_option maxRecDepth 20000 in
theorem ggX7_countTo_X7_needTerm : GoodIn wsX7_countTo wsX7_needTerm := goodIn_ca (goodIn_r _ [8, 9, 10, 11, 12, 13, 14, 15, 16, 17, 143, 144, 145, 146, 147, 148, 149, 150, 151, 152, 153, 154, 155, 156] (by decide +kernel) (by decide +kernel)) (goodIn_sub (fun _ h => List.mem_cons_of_mem _ (List.mem_append_left _ (List.mem_append_right _ h))) (by decide +kernel))
set_option maxRecDepth 20000 in
theorem gX7_countTo_X7_needTerm : GoodIn wsX7_countTo (wsV RX7 75 RX7 yX7_needTerm wsX7_needTerm) := goodIn_app (goodIn_of _ (by decide +kernel)) ggX7_countTo_X7_needTerm
set_option maxRecDepth 20000 in
theorem ggX7_countTo_X7_needTyped : GoodIn wsX7_countTo wsX7_needTyped := goodIn_ca (goodIn_r _ [21, 22, 23, 24, 25, 26, 27, 28, 29, 30, 31, 32, 33, 34, 35, 36, 37, 38, 39, 40, 15, 41, 42, 43, 44, 45, 46, 47, 48, 49, 50, 51, 52, 53, 54, 55, 56, 57, 58, 59, 60, 61, 62, 63, 64, 65, 66, 67, 68, 69, 70, 71, 72, 73, 74, 75, 76, 77, 78, 79, 80, 81, 82, 83, 84, 85, 86, 87, 88, 89, 90, 91, 92, 93, 94, 95, 96, 97, 98, 99, 100, 101, 102, 103, 104, 105, 106, 107, 143, 144, 145, 146, 147, 148, 149, 157, 158, 159, 160, 161, 162, 163, 164, 165, 150, 151, 152, 153, 154, 155, 156] (by decide +kernel) (by decide +kernel)) (goodIn_sub (fun _ h => List.mem_cons_of_mem _ (List.mem_append_right _ h)) (by decide +kernel))
set_option maxRecDepth 20000 in
theorem gX7_countTo_X7_needTyped : GoodIn wsX7_countTo (wsV RX7 108 RX7 yX7_needTyped wsX7_needTyped) := goodIn_app (goodIn_of _ (by decide +kernel)) ggX7_countTo_X7_needTyped
set_option maxRecDepth 20000 in
theorem ggX7_countTo_X3_countTo : GoodIn wsX7_countTo wsX3_countTo := goodIn_r _ [112, 113, 114, 115, 111, 116, 117, 118, 119, 120, 121, 28, 122, 30, 123, 124, 125, 126, 31, 127, 128, 129, 130, 131, 132, 55, 56, 15, 57, 58, 133, 39, 40, 41, 42, 134, 44, 45, 46, 47, 135, 136, 137, 138, 139, 140, 141, 142, 52, 166, 167, 168, 157, 158, 159, 160, 161, 162, 163, 164, 165, 150, 151, 152, 153, 154, 155, 156] (by decide +kernel) (by decide +kernel)
set_option maxRecDepth 20000 in
theorem gX7_countTo_X3_countTo : GoodIn wsX7_countTo (wsV RX7 169 RX3 yX3_countTo wsX3_countTo) := goodIn_app (goodIn_of _ (by decide +kernel)) ggX7_countTo_X3_countTo
set_option maxRecDepth 20000 in
theorem ggX7_needTerm_X4_has : GoodIn wsX7_needTerm wsX4_has := goodIn_r _ [8, 9, 17, 18, 19, 20, 21, 22, 23] (by decide +kernel) (by decide +kernel)
set_option maxRecDepth 20000 in
theorem gX7_needTerm_X4_has : GoodIn wsX7_needTerm (wsV RX7 171 RX4 yX4_has wsX4_has) := goodIn_app (goodIn_of _ (by decide +kernel)) ggX7_needTerm_X4_has
set_option maxRecDepth 20000 in
theorem ggX7_needTyped_X5_study : GoodIn wsX7_needTyped wsX5_study := goodIn_r _ [8, 9, 10, 11, 12, 13, 7, 14, 15, 16, 17, 18, 19, 20, 21, 22, 23, 24, 25, 26, 27, 28, 29, 30, 31, 32, 33, 34, 35, 36, 37, 38, 39, 40, 41, 42, 43, 44, 45, 46, 47, 48, 49, 50, 51, 52, 53, 54, 55, 56, 57, 58, 59, 60, 61, 62, 63, 64, 65, 66, 67, 68, 69, 70, 71, 95, 96, 97, 98, 99, 100, 101, 102, 103, 104, 105, 106, 107, 108, 109, 110] (by decide +kernel) (by decide +kernel)
set_option maxRecDepth 20000 in
theorem gX7_needTyped_X5_study : GoodIn wsX7_needTyped (wsV RX7 99 RX5 yX5_study wsX5_study) := goodIn_app (goodIn_of _ (by decide +kernel)) ggX7_needTyped_X5_study
set_option maxRecDepth 20000 in
theorem ggX7_needTyped_X5_firstFault : GoodIn wsX7_needTyped wsX5_firstFault := goodIn_r _ [75, 9, 10, 76, 77, 78, 7, 79, 16, 32, 33, 34, 35, 36, 20, 37, 38, 17, 18, 19, 21, 22, 23, 24, 25, 26, 27, 80, 81, 82, 83, 53, 55, 54, 84, 85, 86, 87, 95, 96, 97, 98, 99, 100, 101, 102, 103, 104, 105, 106, 107, 108, 109, 110] (by decide +kernel) (by decide +kernel)
set_option maxRecDepth 20000 in
theorem gX7_needTyped_X5_firstFault : GoodIn wsX7_needTyped (wsV RX7 102 RX5 yX5_firstFault wsX5_firstFault) := goodIn_app (goodIn_of _ (by decide +kernel)) ggX7_needTyped_X5_firstFault
set_option maxRecDepth 20000 in
theorem ggX7_needRoom_X4_isFull : GoodIn wsX7_needRoom wsX4_isFull := goodIn_r _ [8, 9, 17, 18, 19, 20, 21, 22, 23] (by decide +kernel) (by decide +kernel)
set_option maxRecDepth 20000 in
theorem gX7_needRoom_X4_isFull : GoodIn wsX7_needRoom (wsV RX7 174 RX4 yX4_isFull wsX4_isFull) := goodIn_app (goodIn_of _ (by decide +kernel)) ggX7_needRoom_X4_isFull
set_option maxRecDepth 20000 in
theorem ggX8_leaf_X8_add : GoodIn wsX8_leaf wsX8_add := goodIn_r _ [7, 8, 1, 9, 10, 11, 12, 13, 14, 15, 16, 17, 18, 19, 20, 21, 22, 23, 24, 25, 26, 27, 28, 29, 30, 31, 32, 33, 34, 35, 36, 37, 38, 39, 40, 41] (by decide +kernel) (by decide +kernel)
set_option maxRecDepth 20000 in
theorem gX8_leaf_X8_add : GoodIn wsX8_leaf (wsV RX8 79 RX8 yX8_add wsX8_add) := goodIn_app (goodIn_of _ (by decide +kernel)) ggX8_leaf_X8_add
set_option maxRecDepth 20000 in
theorem ggX8_variable_X8_add : GoodIn wsX8_variable wsX8_add := goodIn_r _ [7, 8, 1, 9, 10, 11, 12, 13, 14, 15, 16, 17, 18, 19, 20, 21, 22, 23, 24, 25, 26, 27, 28, 29, 30, 31, 32, 33, 34, 35, 36, 37, 38, 39, 40, 41] (by decide +kernel) (by decide +kernel)
set_option maxRecDepth 20000 in
theorem gX8_variable_X8_add : GoodIn wsX8_variable (wsV RX8 79 RX8 yX8_add wsX8_add) := goodIn_app (goodIn_of _ (by decide +kernel)) ggX8_variable_X8_add
set_option maxRecDepth 20000 in
theorem ggX8_join_X8_isTerm : GoodIn wsX8_join wsX8_isTerm := goodIn_r _ [7, 1, 22, 23, 24, 25, 26, 27, 28, 29, 30, 31, 32, 33, 34, 35, 36, 37, 38, 39, 40, 41, 42, 43, 44, 45, 46, 47, 48, 49] (by decide +kernel) (by decide +kernel)
set_option maxRecDepth 20000 in
theorem gX8_join_X8_isTerm : GoodIn wsX8_join (wsV RX8 83 RX8 yX8_isTerm wsX8_isTerm) := goodIn_app (goodIn_of _ (by decide +kernel)) ggX8_join_X8_isTerm
set_option maxRecDepth 20000 in
theorem ggX8_join_X8_isPart : GoodIn wsX8_join wsX8_isPart := goodIn_r _ [11, 12, 22, 23, 24, 25, 26, 27, 28, 29, 30, 31, 32, 33, 34, 35, 36, 37, 38, 39, 40, 41, 42, 43, 44, 45, 46, 47, 48, 49] (by decide +kernel) (by decide +kernel)
set_option maxRecDepth 20000 in
theorem gX8_join_X8_isPart : GoodIn wsX8_join (wsV RX8 87 RX8 yX8_isPart wsX8_isPart) := goodIn_app (goodIn_of _ (by decide +kernel)) ggX8_join_X8_isPart
set_option maxRecDepth 20000 in
theorem ggX8_join_X8_add : GoodIn wsX8_join wsX8_add := goodIn_r _ [16, 17, 1, 18, 19, 20, 12, 21, 22, 23, 24, 25, 26, 27, 28, 29, 30, 31, 32, 33, 34, 35, 36, 37, 38, 39, 40, 41, 42, 43, 44, 45, 46, 47, 48, 49] (by decide +kernel) (by decide +kernel)
set_option maxRecDepth 20000 in
theorem gX8_join_X8_add : GoodIn wsX8_join (wsV RX8 79 RX8 yX8_add wsX8_add) := goodIn_app (goodIn_of _ (by decide +kernel)) ggX8_join_X8_add
set_option maxRecDepth 20000 in
theorem ggX8_knot_X8_isTerm : GoodIn wsX8_knot wsX8_isTerm := goodIn_r _ [8, 1, 22, 23, 24, 25, 26, 27, 28, 29, 30, 31, 32, 33, 34, 35, 36, 37, 38, 39, 40, 41, 42, 43, 44, 45, 46, 47, 48, 49] (by decide +kernel) (by decide +kernel)
set_option maxRecDepth 20000 in
theorem gX8_knot_X8_isTerm : GoodIn wsX8_knot (wsV RX8 83 RX8 yX8_isTerm wsX8_isTerm) := goodIn_app (goodIn_of _ (by decide +kernel)) ggX8_knot_X8_isTerm
set_option maxRecDepth 20000 in
theorem ggX8_knot_X8_isPart : GoodIn wsX8_knot wsX8_isPart := goodIn_r _ [12, 13, 22, 23, 24, 25, 26, 27, 28, 29, 30, 31, 32, 33, 34, 35, 36, 37, 38, 39, 40, 41, 42, 43, 44, 45, 46, 47, 48, 49] (by decide +kernel) (by decide +kernel)
set_option maxRecDepth 20000 in
theorem gX8_knot_X8_isPart : GoodIn wsX8_knot (wsV RX8 87 RX8 yX8_isPart wsX8_isPart) := goodIn_app (goodIn_of _ (by decide +kernel)) ggX8_knot_X8_isPart
set_option maxRecDepth 20000 in
theorem ggX8_knot_X8_add : GoodIn wsX8_knot wsX8_add := goodIn_r _ [17, 18, 1, 19, 20, 21, 13, 2, 22, 23, 24, 25, 26, 27, 28, 29, 30, 31, 32, 33, 34, 35, 36, 37, 38, 39, 40, 41, 42, 43, 44, 45, 46, 47, 48, 49] (by decide +kernel) (by decide +kernel)
set_option maxRecDepth 20000 in
theorem gX8_knot_X8_add : GoodIn wsX8_knot (wsV RX8 79 RX8 yX8_add wsX8_add) := goodIn_app (goodIn_of _ (by decide +kernel)) ggX8_knot_X8_add
set_option maxRecDepth 20000 in
theorem ggX8_typeAll_X8_gather : GoodIn wsX8_typeAll wsX8_gather := goodIn_r _ [7, 1, 8, 9, 10, 11, 2, 12, 13, 14, 21, 22, 23, 24, 25, 26, 27, 28, 29, 30, 31, 32, 33, 34, 35, 36, 37, 38, 39, 40, 41, 42, 43, 44, 45, 46, 47, 48] (by decide +kernel) (by decide +kernel)
set_option maxRecDepth 20000 in
theorem gX8_typeAll_X8_gather : GoodIn wsX8_typeAll (wsV RX8 90 RX8 yX8_gather wsX8_gather) := goodIn_app (goodIn_of _ (by decide +kernel)) ggX8_typeAll_X8_gather
set_option maxRecDepth 20000 in
theorem ggX8_typeAll_X8_grow : GoodIn wsX8_typeAll wsX8_grow := goodIn_r _ [18, 10, 11, 19, 20, 12, 13, 14, 8, 21, 22, 23, 24, 25, 26, 27, 28, 29, 30, 31, 32, 33, 34, 35, 36, 37, 38, 39, 40, 41, 42, 43, 44, 45, 46, 47, 48] (by decide +kernel) (by decide +kernel)
set_option maxRecDepth 20000 in
theorem gX8_typeAll_X8_grow : GoodIn wsX8_typeAll (wsV RX8 94 RX8 yX8_grow wsX8_grow) := goodIn_app (goodIn_of _ (by decide +kernel)) ggX8_typeAll_X8_grow
set_option maxRecDepth 20000 in
theorem ggX8_faultAt_X8_isGuarded : GoodIn wsX8_faultAt wsX8_isGuarded := goodIn_r _ [12, 4, 13, 3, 2, 14, 15, 16, 17, 18, 19, 20, 21, 22, 23, 24, 25, 26, 27, 28, 29, 30, 31, 32, 33, 34, 35, 36, 37, 38, 39, 40, 41] (by decide +kernel) (by decide +kernel)
set_option maxRecDepth 20000 in
theorem gX8_faultAt_X8_isGuarded : GoodIn wsX8_faultAt (wsV RX8 97 RX8 yX8_isGuarded wsX8_isGuarded) := goodIn_app (goodIn_of _ (by decide +kernel)) ggX8_faultAt_X8_isGuarded
set_option maxRecDepth 20000 in
theorem ggX8_faultOf_X8_typeAll : GoodIn wsX8_faultOf wsX8_typeAll := goodIn_r _ [7, 8, 9, 10, 11, 12, 6, 13, 14, 1, 15, 16, 17, 18, 19, 20, 21, 22, 23, 24, 2, 37, 38, 39, 40, 41, 42, 43, 44, 45, 46, 47, 48, 49, 50, 51, 52, 53, 54, 55, 56, 57, 58, 59, 60, 61, 62, 63, 64] (by decide +kernel) (by decide +kernel)
set_option maxRecDepth 20000 in
theorem gX8_faultOf_X8_typeAll : GoodIn wsX8_faultOf (wsV RX8 100 RX8 yX8_typeAll wsX8_typeAll) := goodIn_app (goodIn_of _ (by decide +kernel)) ggX8_faultOf_X8_typeAll
set_option maxRecDepth 20000 in
theorem ggX8_faultOf_X8_leftmost : GoodIn wsX8_faultOf wsX8_leftmost := goodIn_r _ [28, 24, 37, 38, 39, 40, 41, 42, 43, 44, 45, 46, 47, 48, 49, 50, 51, 52, 53, 54, 55, 56, 57, 58, 59, 60, 61, 62, 63, 64] (by decide +kernel) (by decide +kernel)
set_option maxRecDepth 20000 in
theorem gX8_faultOf_X8_leftmost : GoodIn wsX8_faultOf (wsV RX8 103 RX8 yX8_leftmost wsX8_leftmost) := goodIn_app (goodIn_of _ (by decide +kernel)) ggX8_faultOf_X8_leftmost
set_option maxRecDepth 20000 in
theorem ggX8_faultOf_X8_faultAt : GoodIn wsX8_faultOf wsX8_faultAt := goodIn_r _ [32, 24, 2, 15, 14, 17, 19, 18, 33, 34, 35, 6, 36, 1, 37, 38, 39, 40, 41, 42, 43, 44, 45, 46, 47, 48, 49, 50, 51, 52, 53, 54, 55, 56, 57, 58, 59, 60, 61, 62, 63, 64] (by decide +kernel) (by decide +kernel)
set_option maxRecDepth 20000 in
theorem gX8_faultOf_X8_faultAt : GoodIn wsX8_faultOf (wsV RX8 107 RX8 yX8_faultAt wsX8_faultAt) := goodIn_app (goodIn_of _ (by decide +kernel)) ggX8_faultOf_X8_faultAt
set_option maxRecDepth 20000 in
theorem ggX8_fault_X8_isTerm : GoodIn wsX8_fault wsX8_isTerm := goodIn_r _ [6, 7, 46, 47, 48, 49, 50, 51, 52, 53, 54, 55, 56, 57, 58, 59, 60, 61, 62, 63, 64, 65, 66, 67, 68, 69, 70, 71, 72, 73] (by decide +kernel) (by decide +kernel)
set_option maxRecDepth 20000 in
theorem gX8_fault_X8_isTerm : GoodIn wsX8_fault (wsV RX8 83 RX8 yX8_isTerm wsX8_isTerm) := goodIn_app (goodIn_of _ (by decide +kernel)) ggX8_fault_X8_isTerm
set_option maxRecDepth 20000 in
theorem ggX8_fault_X8_faultOf : GoodIn wsX8_fault wsX8_faultOf := goodIn_r _ [11, 12, 13, 14, 15, 16, 5, 17, 7, 18, 19, 20, 21, 22, 23, 24, 25, 26, 27, 28, 29, 30, 31, 32, 33, 34, 35, 36, 37, 38, 39, 40, 41, 42, 43, 44, 45, 46, 47, 48, 49, 50, 51, 52, 53, 54, 55, 56, 57, 58, 59, 60, 61, 62, 63, 64, 65, 66, 67, 68, 69, 70, 71, 72, 73] (by decide +kernel) (by decide +kernel)
set_option maxRecDepth 20000 in
theorem gX8_fault_X8_faultOf : GoodIn wsX8_fault (wsV RX8 110 RX8 yX8_faultOf wsX8_faultOf) := goodIn_app (goodIn_of _ (by decide +kernel)) ggX8_fault_X8_faultOf
set_option maxRecDepth 20000 in
theorem ggX8_type_X8_isTerm : GoodIn wsX8_type wsX8_isTerm := goodIn_r _ [9, 10, 46, 47, 48, 49, 50, 51, 52, 53, 54, 55, 56, 57, 58, 59, 60, 61, 62, 63, 64, 65, 66, 67, 68, 69, 70, 71, 72, 73] (by decide +kernel) (by decide +kernel)
set_option maxRecDepth 20000 in
theorem gX8_type_X8_isTerm : GoodIn wsX8_type (wsV RX8 83 RX8 yX8_isTerm wsX8_isTerm) := goodIn_app (goodIn_of _ (by decide +kernel)) ggX8_type_X8_isTerm
set_option maxRecDepth 20000 in
theorem ggX8_type_X8_faultOf : GoodIn wsX8_type wsX8_faultOf := goodIn_r _ [14, 15, 16, 17, 18, 19, 8, 20, 10, 21, 22, 23, 24, 25, 26, 27, 28, 4, 2, 3, 29, 30, 31, 32, 33, 34, 35, 36, 37, 38, 39, 40, 41, 42, 43, 44, 45, 46, 47, 48, 49, 50, 51, 52, 53, 54, 55, 56, 57, 58, 59, 60, 61, 62, 63, 64, 65, 66, 67, 68, 69, 70, 71, 72, 73] (by decide +kernel) (by decide +kernel)
set_option maxRecDepth 20000 in
theorem gX8_type_X8_faultOf : GoodIn wsX8_type (wsV RX8 110 RX8 yX8_faultOf wsX8_faultOf) := goodIn_app (goodIn_of _ (by decide +kernel)) ggX8_type_X8_faultOf
set_option maxRecDepth 20000 in
theorem ggX8_go_X8_choice : GoodIn wsX8_go wsX8_choice := goodIn_r _ [15, 7, 6, 16, 17, 18, 19, 20, 21, 22, 23, 24, 25, 26, 27, 28, 29, 30, 31, 32, 33, 34, 35, 36, 37, 38, 39, 40, 41, 42, 43, 44, 45] (by decide +kernel) (by decide +kernel)
set_option maxRecDepth 20000 in
theorem gX8_go_X8_choice : GoodIn wsX8_go (wsV RX8 122 RX8 yX8_choice wsX8_choice) := goodIn_app (goodIn_of _ (by decide +kernel)) ggX8_go_X8_choice
set_option maxRecDepth 20000 in
theorem ggX8_read_X8_isTerm : GoodIn wsX8_read wsX8_isTerm := goodIn_r _ [14, 15, 72, 73, 74, 75, 76, 77, 78, 79, 80, 81, 82, 83, 84, 85, 86, 87, 88, 89, 90, 91, 92, 93, 94, 95, 96, 97, 98, 99] (by decide +kernel) (by decide +kernel)
set_option maxRecDepth 20000 in
theorem gX8_read_X8_isTerm : GoodIn wsX8_read (wsV RX8 83 RX8 yX8_isTerm wsX8_isTerm) := goodIn_app (goodIn_of _ (by decide +kernel)) ggX8_read_X8_isTerm
set_option maxRecDepth 20000 in
theorem ggX8_read_X8_faultOf : GoodIn wsX8_read wsX8_faultOf := goodIn_r _ [19, 20, 21, 22, 23, 24, 13, 25, 15, 26, 27, 28, 29, 30, 31, 32, 33, 34, 35, 36, 37, 38, 39, 40, 41, 42, 43, 44, 45, 46, 47, 48, 49, 50, 51, 52, 53, 72, 73, 74, 75, 76, 77, 78, 79, 80, 81, 82, 83, 84, 85, 86, 87, 88, 89, 90, 91, 92, 93, 94, 95, 96, 97, 98, 99] (by decide +kernel) (by decide +kernel)
set_option maxRecDepth 20000 in
theorem gX8_read_X8_faultOf : GoodIn wsX8_read (wsV RX8 110 RX8 yX8_faultOf wsX8_faultOf) := goodIn_app (goodIn_of _ (by decide +kernel)) ggX8_read_X8_faultOf
set_option maxRecDepth 20000 in
theorem ggX8_read_X8_beginAt : GoodIn wsX8_read wsX8_beginAt := goodIn_r _ [57, 58, 59, 9, 5, 72, 73, 74, 75, 76, 77, 78, 79, 80, 81, 82, 83, 84, 85, 86, 87, 88, 89, 90, 91, 92, 93, 94, 95, 96, 97, 98, 99] (by decide +kernel) (by decide +kernel)
set_option maxRecDepth 20000 in
theorem gX8_read_X8_beginAt : GoodIn wsX8_read (wsV RX8 129 RX8 yX8_beginAt wsX8_beginAt) := goodIn_app (goodIn_of _ (by decide +kernel)) ggX8_read_X8_beginAt
set_option maxRecDepth 20000 in
theorem ggX8_read_X8_go : GoodIn wsX8_read wsX8_go := goodIn_r _ [63, 59, 58, 9, 32, 33, 21, 41, 31, 8, 5, 64, 65, 66, 13, 67, 35, 34, 72, 73, 74, 75, 76, 77, 78, 79, 80, 81, 82, 83, 84, 85, 86, 87, 88, 89, 90, 91, 92, 93, 94, 95, 96, 97, 98, 99] (by decide +kernel) (by decide +kernel)
set_option maxRecDepth 20000 in
theorem gX8_read_X8_go : GoodIn wsX8_read (wsV RX8 132 RX8 yX8_go wsX8_go) := goodIn_app (goodIn_of _ (by decide +kernel)) ggX8_read_X8_go
set_option maxRecDepth 20000 in
theorem ggX8_read_X8_fail : GoodIn wsX8_read wsX8_fail := goodIn_r _ [71, 1, 72, 73, 74, 75, 76, 77, 78, 79, 80, 81, 82, 83, 84, 85, 86, 87, 88, 89, 90, 91, 92, 93, 94, 95, 96, 97, 98, 99] (by decide +kernel) (by decide +kernel)
set_option maxRecDepth 20000 in
theorem gX8_read_X8_fail : GoodIn wsX8_read (wsV RX8 135 RX8 yX8_fail wsX8_fail) := goodIn_app (goodIn_of _ (by decide +kernel)) ggX8_read_X8_fail
set_option maxRecDepth 20000 in
theorem ggX8_countAll_X8_countAt : GoodIn wsX8_countAll wsX8_countAt := goodIn_r _ [10, 11, 12, 4, 2, 13, 14, 15, 16, 17, 18, 19, 20, 21, 22, 23, 24, 25, 26, 27, 28, 29, 30, 31, 32, 33, 34, 35, 36, 37, 38, 39, 40] (by decide +kernel) (by decide +kernel)
set_option maxRecDepth 20000 in
theorem gX8_countAll_X8_countAt : GoodIn wsX8_countAll (wsV RX8 141 RX8 yX8_countAt wsX8_countAt) := goodIn_app (goodIn_of _ (by decide +kernel)) ggX8_countAll_X8_countAt
set_option maxRecDepth 20000 in
theorem ggX8_wrongCount_X8_isTerm : GoodIn wsX8_wrongCount wsX8_isTerm := goodIn_r _ [5, 6, 45, 46, 47, 48, 49, 50, 51, 52, 53, 54, 55, 56, 57, 58, 59, 60, 61, 62, 63, 64, 65, 66, 67, 68, 69, 70, 71, 72] (by decide +kernel) (by decide +kernel)
set_option maxRecDepth 20000 in
theorem gX8_wrongCount_X8_isTerm : GoodIn wsX8_wrongCount (wsV RX8 83 RX8 yX8_isTerm wsX8_isTerm) := goodIn_app (goodIn_of _ (by decide +kernel)) ggX8_wrongCount_X8_isTerm
set_option maxRecDepth 20000 in
theorem ggX8_wrongCount_X8_faultOf : GoodIn wsX8_wrongCount wsX8_faultOf := goodIn_r _ [10, 11, 12, 13, 14, 15, 4, 16, 6, 17, 18, 19, 20, 21, 22, 23, 24, 25, 26, 27, 28, 29, 30, 31, 32, 33, 34, 35, 36, 37, 38, 39, 40, 41, 42, 43, 44, 45, 46, 47, 48, 49, 50, 51, 52, 53, 54, 55, 56, 57, 58, 59, 60, 61, 62, 63, 64, 65, 66, 67, 68, 69, 70, 71, 72] (by decide +kernel) (by decide +kernel)
set_option maxRecDepth 20000 in
theorem gX8_wrongCount_X8_faultOf : GoodIn wsX8_wrongCount (wsV RX8 110 RX8 yX8_faultOf wsX8_faultOf) := goodIn_app (goodIn_of _ (by decide +kernel)) ggX8_wrongCount_X8_faultOf
set_option maxRecDepth 20000 in
theorem ggX8_count_X8_wrongCount : GoodIn wsX8_count wsX8_wrongCount := goodIn_r _ [7, 8, 9, 10, 6, 11, 12, 13, 14, 15, 16, 17, 18, 19, 20, 21, 22, 23, 24, 25, 26, 27, 28, 29, 30, 31, 32, 33, 34, 35, 36, 37, 38, 39, 40, 41, 42, 43, 44, 45, 46, 47, 48, 49, 50, 59, 60, 61, 62, 63, 64, 65, 66, 67, 68, 69, 70, 71, 72, 73, 74, 75, 76, 77, 78, 79, 80, 81, 82, 83, 84, 85, 86] (by decide +kernel) (by decide +kernel)
set_option maxRecDepth 20000 in
theorem gX8_count_X8_wrongCount : GoodIn wsX8_count (wsV RX8 145 RX8 yX8_wrongCount wsX8_wrongCount) := goodIn_app (goodIn_of _ (by decide +kernel)) ggX8_count_X8_wrongCount
set_option maxRecDepth 20000 in
theorem ggX8_count_X8_countAll : GoodIn wsX8_count wsX8_countAll := goodIn_r _ [54, 12, 2, 23, 29, 28, 55, 56, 57, 6, 58, 38, 18, 59, 60, 61, 62, 63, 64, 65, 66, 67, 68, 69, 70, 71, 72, 73, 74, 75, 76, 77, 78, 79, 80, 81, 82, 83, 84, 85, 86] (by decide +kernel) (by decide +kernel)
set_option maxRecDepth 20000 in
theorem gX8_count_X8_countAll : GoodIn wsX8_count (wsV RX8 148 RX8 yX8_countAll wsX8_countAll) := goodIn_app (goodIn_of _ (by decide +kernel)) ggX8_count_X8_countAll
set_option maxRecDepth 20000 in
theorem ggX8_find_X8_wrongCount : GoodIn wsX8_find wsX8_wrongCount := goodIn_r _ [10, 11, 12, 13, 9, 14, 15, 16, 17, 18, 19, 20, 21, 22, 23, 24, 25, 26, 27, 28, 29, 30, 31, 32, 33, 34, 35, 36, 37, 38, 39, 40, 41, 42, 43, 44, 45, 46, 47, 48, 49, 50, 51, 52, 53, 94, 95, 96, 97, 98, 99, 100, 101, 102, 103, 104, 105, 106, 107, 108, 109, 110, 111, 112, 113, 114, 115, 116, 117, 118, 119, 120, 121] (by decide +kernel) (by decide +kernel)
set_option maxRecDepth 20000 in
theorem gX8_find_X8_wrongCount : GoodIn wsX8_find (wsV RX8 145 RX8 yX8_wrongCount wsX8_wrongCount) := goodIn_app (goodIn_of _ (by decide +kernel)) ggX8_find_X8_wrongCount
set_option maxRecDepth 20000 in
theorem ggX8_find_X8_countAll : GoodIn wsX8_find wsX8_countAll := goodIn_r _ [57, 15, 2, 26, 32, 31, 58, 59, 60, 9, 61, 41, 21, 94, 95, 96, 97, 98, 99, 100, 101, 102, 103, 104, 105, 106, 107, 108, 109, 110, 111, 112, 113, 114, 115, 116, 117, 118, 119, 120, 121] (by decide +kernel) (by decide +kernel)
set_option maxRecDepth 20000 in
theorem gX8_find_X8_countAll : GoodIn wsX8_find (wsV RX8 148 RX8 yX8_countAll wsX8_countAll) := goodIn_app (goodIn_of _ (by decide +kernel)) ggX8_find_X8_countAll
set_option maxRecDepth 20000 in
theorem ggX8_find_X8_beginAt : GoodIn wsX8_find wsX8_beginAt := goodIn_r _ [65, 66, 67, 68, 4, 94, 95, 96, 97, 98, 99, 100, 101, 102, 103, 104, 105, 106, 107, 108, 109, 110, 111, 112, 113, 114, 115, 116, 117, 118, 119, 120, 121] (by decide +kernel) (by decide +kernel)
set_option maxRecDepth 20000 in
theorem gX8_find_X8_beginAt : GoodIn wsX8_find (wsV RX8 129 RX8 yX8_beginAt wsX8_beginAt) := goodIn_app (goodIn_of _ (by decide +kernel)) ggX8_find_X8_beginAt
set_option maxRecDepth 20000 in
theorem ggX8_find_X8_keep : GoodIn wsX8_find wsX8_keep := goodIn_r _ [72, 67, 73, 74, 66, 94, 95, 96, 97, 98, 99, 100, 101, 102, 103, 104, 105, 106, 107, 108, 109, 110, 111, 112, 113, 114, 115, 116, 117, 118, 119, 120, 121] (by decide +kernel) (by decide +kernel)
set_option maxRecDepth 20000 in
theorem gX8_find_X8_keep : GoodIn wsX8_find (wsV RX8 154 RX8 yX8_keep wsX8_keep) := goodIn_app (goodIn_of _ (by decide +kernel)) ggX8_find_X8_keep
set_option maxRecDepth 20000 in
theorem ggX8_find_X8_go : GoodIn wsX8_find wsX8_go := goodIn_r _ [78, 67, 66, 68, 32, 33, 21, 41, 31, 79, 4, 80, 81, 82, 9, 83, 35, 34, 94, 95, 96, 97, 98, 99, 100, 101, 102, 103, 104, 105, 106, 107, 108, 109, 110, 111, 112, 113, 114, 115, 116, 117, 118, 119, 120, 121] (by decide +kernel) (by decide +kernel)
set_option maxRecDepth 20000 in
theorem gX8_find_X8_go : GoodIn wsX8_find (wsV RX8 132 RX8 yX8_go wsX8_go) := goodIn_app (goodIn_of _ (by decide +kernel)) ggX8_find_X8_go
set_option maxRecDepth 20000 in
theorem ggX8_find_X8_countOpen : GoodIn wsX8_find wsX8_countOpen := goodIn_r _ [87, 88, 67, 89, 2, 66, 94, 95, 96, 97, 98, 99, 100, 101, 102, 103, 104, 105, 106, 107, 108, 109, 110, 111, 112, 113, 114, 115, 116, 117, 118, 119, 120, 121] (by decide +kernel) (by decide +kernel)
set_option maxRecDepth 20000 in
theorem gX8_find_X8_countOpen : GoodIn wsX8_find (wsV RX8 157 RX8 yX8_countOpen wsX8_countOpen) := goodIn_app (goodIn_of _ (by decide +kernel)) ggX8_find_X8_countOpen
set_option maxRecDepth 20000 in
theorem ggX8_find_X8_back : GoodIn wsX8_find wsX8_back := goodIn_r _ [93, 4, 73, 67, 66, 74, 94, 95, 96, 97, 98, 99, 100, 101, 102, 103, 104, 105, 106, 107, 108, 109, 110, 111, 112, 113, 114, 115, 116, 117, 118, 119, 120, 121] (by decide +kernel) (by decide +kernel)
set_option maxRecDepth 20000 in
theorem gX8_find_X8_back : GoodIn wsX8_find (wsV RX8 161 RX8 yX8_back wsX8_back) := goodIn_app (goodIn_of _ (by decide +kernel)) ggX8_find_X8_back
set_option maxRecDepth 20000 in
theorem ggL_leaf_X7_leaf : GoodIn wsL_leaf wsX7_leaf := goodIn_ca (goodIn_ca (goodIn_r _ [7, 8, 9, 10, 11, 12, 13, 6, 14, 15, 16, 17, 18, 19, 20, 21, 22, 23, 24, 25, 26, 27, 28, 29, 30, 31, 32, 33, 34, 35, 36, 37, 38, 39, 40, 41, 42, 43, 44, 45, 46, 47, 48, 49, 50, 51, 52, 53, 54, 55, 56, 57, 58] (by decide +kernel) (by decide +kernel)) (goodIn_sub (fun _ h => List.mem_cons_of_mem _ (List.mem_append_left _ (List.mem_append_right _ h))) (by decide +kernel))) (goodIn_sub (fun _ h => List.mem_cons_of_mem _ (List.mem_append_right _ h)) (by decide +kernel))
set_option maxRecDepth 20000 in
theorem gL_leaf_X7_leaf : GoodIn wsL_leaf (wsV RL 7 RX7 yX7_leaf wsX7_leaf) := goodIn_app (goodIn_of _ (by decide +kernel)) ggL_leaf_X7_leaf
set_option maxRecDepth 20000 in
theorem ggL_variable_X7_variable : GoodIn wsL_variable wsX7_variable := goodIn_ca (goodIn_ca (goodIn_r _ [7, 8, 9, 10, 11, 6, 12, 13, 14, 15, 16, 17, 18, 19, 20, 21, 22, 23, 24, 25, 26, 27, 28, 29, 30, 31, 32, 33, 34, 35, 36, 37, 38, 39, 40, 41, 42, 43, 44, 45, 46, 47, 48, 49, 50, 51, 52, 53, 54, 55, 56, 57, 58, 59, 60, 61, 62] (by decide +kernel) (by decide +kernel)) (goodIn_sub (fun _ h => List.mem_cons_of_mem _ (List.mem_append_left _ (List.mem_append_right _ h))) (by decide +kernel))) (goodIn_sub (fun _ h => List.mem_cons_of_mem _ (List.mem_append_right _ h)) (by decide +kernel))
set_option maxRecDepth 20000 in
theorem gL_variable_X7_variable : GoodIn wsL_variable (wsV RL 17 RX7 yX7_variable wsX7_variable) := goodIn_app (goodIn_of _ (by decide +kernel)) ggL_variable_X7_variable
set_option maxRecDepth 20000 in
theorem ggL_join_X7_join : GoodIn wsL_join wsX7_join := goodIn_ca (goodIn_ca (goodIn_ca (goodIn_r _ [8, 9, 10, 11, 12, 13, 14, 7, 15, 16, 17, 18, 19, 20, 21, 22, 23, 24, 25, 26, 27, 28, 29, 30, 31, 32, 33, 34, 35, 36, 37, 38, 39, 40, 41, 42, 43, 44, 45, 46, 47, 48, 49, 50, 51, 52, 53, 54, 55, 56, 57, 58, 59, 60, 61, 62, 63, 64, 65, 66, 67, 68, 69, 70, 71, 72, 73] (by decide +kernel) (by decide +kernel)) (goodIn_sub (fun _ h => List.mem_cons_of_mem _ (List.mem_append_left _ (List.mem_append_left _ (List.mem_append_right _ h)))) (by decide +kernel))) (goodIn_sub (fun _ h => List.mem_cons_of_mem _ (List.mem_append_left _ (List.mem_append_right _ h))) (by decide +kernel))) (goodIn_sub (fun _ h => List.mem_cons_of_mem _ (List.mem_append_right _ h)) (by decide +kernel))
set_option maxRecDepth 20000 in
theorem gL_join_X7_join : GoodIn wsL_join (wsV RL 20 RX7 yX7_join wsX7_join) := goodIn_app (goodIn_of _ (by decide +kernel)) ggL_join_X7_join
set_option maxRecDepth 20000 in
theorem ggL_knot_X7_knot : GoodIn wsL_knot wsX7_knot := goodIn_ca (goodIn_ca (goodIn_ca (goodIn_ca (goodIn_r _ [9, 10, 11, 12, 13, 14, 15, 16, 17, 8, 18, 19, 20, 21, 22, 23, 24, 25, 26, 27, 28, 29, 30, 31, 32, 33, 34, 35, 36, 37, 38, 39, 40, 41, 42, 43, 44, 45, 46, 47, 48, 49, 50, 51, 52, 53, 54, 55, 56, 57, 58, 59, 60, 61, 62, 63, 64, 65, 66, 67, 68, 69, 70, 71, 72, 73, 74, 75, 76, 77, 78, 79, 80, 81] (by decide +kernel) (by decide +kernel)) (goodIn_sub (fun _ h => List.mem_cons_of_mem _ (List.mem_append_left _ (List.mem_append_left _ (List.mem_append_left _ (List.mem_append_right _ h))))) (by decide +kernel))) (goodIn_sub (fun _ h => List.mem_cons_of_mem _ (List.mem_append_left _ (List.mem_append_left _ (List.mem_append_right _ h)))) (by decide +kernel))) (goodIn_sub (fun _ h => List.mem_cons_of_mem _ (List.mem_append_left _ (List.mem_append_right _ h))) (by decide +kernel))) (goodIn_sub (fun _ h => List.mem_cons_of_mem _ (List.mem_append_right _ h)) (by decide +kernel))
set_option maxRecDepth 20000 in
theorem gL_knot_X7_knot : GoodIn wsL_knot (wsV RL 28 RX7 yX7_knot wsX7_knot) := goodIn_app (goodIn_of _ (by decide +kernel)) ggL_knot_X7_knot
set_option maxRecDepth 20000 in
theorem ggL_fault_X7_fault : GoodIn wsL_fault wsX7_fault := goodIn_ca (goodIn_r _ [6, 7, 8, 9, 10, 5, 11, 12, 13, 14, 15, 16, 17, 18, 19, 20, 21, 22, 23, 24, 25, 26, 27, 28, 29, 30, 31, 32, 33, 34, 35, 36, 37, 38, 39, 40, 41, 42, 43, 44, 45, 46, 47, 48, 49, 50, 51, 52, 53, 54, 55, 56, 57, 58, 59, 60, 61, 62, 63, 64, 65, 66, 67, 68, 69, 70, 71, 72, 73, 74, 75, 76, 77, 78, 79, 80, 81, 82, 83, 84, 85, 86, 87, 88, 89, 90, 91, 92, 93, 94, 95, 96, 97, 98, 99, 100, 101, 102, 103, 104, 105, 106, 107, 108, 109, 110, 111, 112, 113, 114, 115, 116, 117, 118, 119, 120, 121, 122, 123, 124, 125, 126] (by decide +kernel) (by decide +kernel)) (goodIn_sub (fun _ h => List.mem_cons_of_mem _ (List.mem_append_right _ h)) (by decide +kernel))
set_option maxRecDepth 20000 in
theorem gL_fault_X7_fault : GoodIn wsL_fault (wsV RL 32 RX7 yX7_fault wsX7_fault) := goodIn_app (goodIn_of _ (by decide +kernel)) ggL_fault_X7_fault
set_option maxRecDepth 20000 in
theorem ggL_type_X7_type : GoodIn wsL_type wsX7_type := goodIn_ca (goodIn_ca (goodIn_r _ [7, 8, 9, 10, 11, 12, 13, 6, 14, 15, 16, 17, 18, 19, 20, 21, 22, 23, 24, 25, 26, 27, 28, 29, 30, 31, 32, 33, 34, 35, 36, 37, 38, 39, 40, 41, 42, 43, 44, 45, 46, 47, 48, 49, 50, 51, 52, 53, 54, 55, 56, 57, 58, 59, 60, 61, 62, 63, 64, 65, 66, 67, 68, 69, 70, 71, 72, 73, 74, 75, 76, 77, 78, 79, 80, 81, 82, 83, 84, 85, 86, 87, 88, 89, 90, 91, 92, 93, 94, 95, 96, 97, 98, 99, 100, 101, 102, 103, 104, 105, 106, 107, 108, 109, 110, 111, 112, 113, 114, 115, 116, 117, 118, 119, 120, 121, 122, 123, 124, 125, 126, 127, 128, 129, 130, 131, 132, 133, 134, 135, 136, 137, 138, 139, 140, 141, 142, 143, 144, 145] (by decide +kernel) (by decide +kernel)) (goodIn_sub (fun _ h => List.mem_cons_of_mem _ (List.mem_append_left _ (List.mem_append_right _ h))) (by decide +kernel))) (goodIn_sub (fun _ h => List.mem_cons_of_mem _ (List.mem_append_right _ h)) (by decide +kernel))
set_option maxRecDepth 20000 in
theorem gL_type_X7_type : GoodIn wsL_type (wsV RL 35 RX7 yX7_type wsX7_type) := goodIn_app (goodIn_of _ (by decide +kernel)) ggL_type_X7_type
set_option maxRecDepth 20000 in
theorem ggL_letter_X7_letter : GoodIn wsL_letter wsX7_letter := goodIn_ca (goodIn_r _ [6, 7, 8, 9, 10, 11, 12, 13, 14, 15, 16, 17, 18, 19, 20, 21, 22, 23, 24, 25, 26, 27, 28, 29] (by decide +kernel) (by decide +kernel)) (goodIn_sub (fun _ h => List.mem_cons_of_mem _ (List.mem_append_right _ h)) (by decide +kernel))
set_option maxRecDepth 20000 in
theorem gL_letter_X7_letter : GoodIn wsL_letter (wsV RL 38 RX7 yX7_letter wsX7_letter) := goodIn_app (goodIn_of _ (by decide +kernel)) ggL_letter_X7_letter
set_option maxRecDepth 20000 in
theorem ggL_read_X7_read : GoodIn wsL_read wsX7_read := goodIn_ca (goodIn_ca (goodIn_ca (goodIn_r _ [8, 9, 10, 11, 12, 13, 14, 15, 16, 7, 17, 18, 19, 20, 21, 22, 23, 24, 25, 26, 27, 28, 29, 30, 31, 32, 33, 34, 35, 36, 37, 38, 39, 40, 41, 42, 43, 44, 45, 46, 47, 48, 49, 50, 51, 52, 53, 54, 55, 56, 57, 58, 59, 60, 61, 62, 63, 64, 65, 66, 67, 68, 69, 70, 71, 72, 73, 74, 75, 76, 77, 78, 79, 80, 81, 82, 83, 84, 85, 86, 87, 88, 89, 90, 91, 92, 93, 94, 95, 96, 97, 98, 99, 100, 101, 102, 103, 104, 105, 106, 107, 108, 109, 110, 111, 112, 113, 114, 115, 116, 117, 118, 119, 120, 121, 122, 123, 124, 125, 126, 127, 128, 129, 130, 131, 132, 133, 134, 135, 136, 137, 138, 139, 140, 141, 142, 143, 144, 145, 146, 147, 148, 149, 150, 151, 152, 153, 154, 155, 156, 157, 158, 159, 160, 161, 162, 163, 164, 165, 166, 167, 168, 169, 170, 171, 172, 173, 174, 175, 176, 177, 178, 179, 180, 181, 182, 183, 184, 185, 186, 187, 188, 189, 190, 191, 192, 193, 194, 195, 196, 197, 198, 199, 200, 201, 202, 203, 204, 205, 206, 207, 208, 209, 210, 211, 212, 213, 214, 215, 216, 217, 218, 219, 220, 221, 222, 223, 224, 225, 226, 227, 228] (by decide +kernel) (by decide +kernel)) (goodIn_sub (fun _ h => List.mem_cons_of_mem _ (List.mem_append_left _ (List.mem_append_left _ (List.mem_append_right _ h)))) (by decide +kernel))) (goodIn_sub (fun _ h => List.mem_cons_of_mem _ (List.mem_append_left _ (List.mem_append_right _ h))) (by decide +kernel))) (goodIn_sub (fun _ h => List.mem_cons_of_mem _ (List.mem_append_right _ h)) (by decide +kernel))
set_option maxRecDepth 20000 in
theorem gL_read_X7_read : GoodIn wsL_read (wsV RL 41 RX7 yX7_read wsX7_read) := goodIn_app (goodIn_of _ (by decide +kernel)) ggL_read_X7_read
set_option maxRecDepth 20000 in
theorem ggL_step_X7_step : GoodIn wsL_step wsX7_step := goodIn_ca (goodIn_r _ [6, 7, 8, 9, 10, 11, 12, 13, 14, 15, 16, 17, 18, 19, 20, 21, 22, 23, 24, 25, 26, 27, 28, 29, 30, 31, 32, 33, 34, 35, 36, 37, 38, 39, 40, 41, 42, 43] (by decide +kernel) (by decide +kernel)) (goodIn_sub (fun _ h => List.mem_cons_of_mem _ (List.mem_append_right _ h)) (by decide +kernel))
set_option maxRecDepth 20000 in
theorem gL_step_X7_step : GoodIn wsL_step (wsV RL 44 RX7 yX7_step wsX7_step) := goodIn_app (goodIn_of _ (by decide +kernel)) ggL_step_X7_step
set_option maxRecDepth 20000 in
theorem ggL_count_X7_count : GoodIn wsL_count wsX7_count := goodIn_ca (goodIn_ca (goodIn_ca (goodIn_r _ [8, 9, 10, 11, 12, 7, 13, 14, 15, 16, 17, 18, 19, 20, 21, 22, 23, 24, 25, 26, 27, 28, 29, 30, 31, 32, 33, 34, 35, 36, 37, 38, 39, 40, 41, 42, 43, 44, 45, 46, 47, 48, 49, 50, 51, 52, 53, 54, 55, 56, 57, 58, 59, 60, 61, 62, 63, 64, 65, 66, 67, 68, 69, 70, 71, 72, 73, 74, 75, 76, 77, 78, 79, 80, 81, 82, 83, 84, 85, 86, 87, 88, 89, 90, 91, 92, 93, 94, 95, 96, 97, 98, 99, 100, 101, 102, 103, 104, 105, 106, 107, 108, 109, 110, 111, 112, 113, 114, 115, 116, 117, 118, 119, 120, 121, 122, 123, 124, 125, 126, 127, 128, 129, 130, 131, 132, 133, 134, 135, 136, 137, 138, 139, 140, 141, 142, 143, 144, 145, 146, 147, 148, 149, 150, 151, 152, 153, 154, 155, 156, 157, 158, 159, 160, 161, 162, 163, 164, 165, 166, 167, 168, 169, 170, 171, 172, 173, 174, 175, 176, 177, 178, 179, 180, 181, 182, 183] (by decide +kernel) (by decide +kernel)) (goodIn_sub (fun _ h => List.mem_cons_of_mem _ (List.mem_append_left _ (List.mem_append_left _ (List.mem_append_right _ h)))) (by decide +kernel))) (goodIn_sub (fun _ h => List.mem_cons_of_mem _ (List.mem_append_left _ (List.mem_append_right _ h))) (by decide +kernel))) (goodIn_sub (fun _ h => List.mem_cons_of_mem _ (List.mem_append_right _ h)) (by decide +kernel))
set_option maxRecDepth 20000 in
theorem gL_count_X7_count : GoodIn wsL_count (wsV RL 47 RX7 yX7_count wsX7_count) := goodIn_app (goodIn_of _ (by decide +kernel)) ggL_count_X7_count
set_option maxRecDepth 20000 in
theorem ggL_find_X7_find : GoodIn wsL_find wsX7_find := goodIn_ca (goodIn_ca (goodIn_ca (goodIn_ca (goodIn_r _ [9, 10, 11, 12, 13, 14, 15, 16, 17, 8, 18, 19, 20, 21, 22, 23, 24, 25, 26, 27, 28, 29, 30, 31, 32, 33, 34, 35, 36, 37, 38, 39, 40, 41, 42, 43, 44, 45, 46, 47, 48, 49, 50, 51, 52, 53, 54, 55, 56, 57, 58, 59, 60, 61, 62, 63, 64, 65, 66, 67, 68, 69, 70, 71, 72, 73, 74, 75, 76, 77, 78, 79, 80, 81, 82, 83, 84, 85, 86, 87, 88, 89, 90, 91, 92, 93, 94, 95, 96, 97, 98, 99, 100, 101, 102, 103, 104, 105, 106, 107, 108, 109, 110, 111, 112, 113, 114, 115, 116, 117, 118, 119, 120, 121, 122, 123, 124, 125, 126, 127, 128, 129, 130, 131, 132, 133, 134, 135, 136, 137, 138, 139, 140, 141, 142, 143, 144, 145, 146, 147, 148, 149, 150, 151, 152, 153, 154, 155, 156, 157, 158, 159, 160, 161, 162, 163, 164, 165, 166, 167, 168, 169, 170, 171, 172, 173, 174, 175, 176, 177, 178, 179, 180, 181, 182, 183, 184, 185, 186, 187, 188, 189, 190, 191, 192, 193, 194, 195, 196, 197, 198, 199, 200, 201, 202, 203, 204, 205, 206, 207, 208, 209, 210, 211, 212, 213, 214, 215, 216, 217, 218, 219, 220, 221, 222, 223, 224, 225, 226, 227, 228, 229, 230, 231, 232, 233, 234, 235, 236, 237, 238, 239, 240, 241, 242, 243, 244, 245, 246, 247, 248, 249, 250, 251, 252, 253, 254, 255, 256, 257, 258, 259, 260, 261, 262, 263, 264, 265, 266, 267, 268, 269, 270, 271, 272, 273, 274, 275, 276, 277, 278, 279, 280] (by decide +kernel) (by decide +kernel)) (goodIn_sub (fun _ h => List.mem_cons_of_mem _ (List.mem_append_left _ (List.mem_append_left _ (List.mem_append_left _ (List.mem_append_right _ h))))) (by decide +kernel))) (goodIn_sub (fun _ h => List.mem_cons_of_mem _ (List.mem_append_left _ (List.mem_append_left _ (List.mem_append_right _ h)))) (by decide +kernel))) (goodIn_sub (fun _ h => List.mem_cons_of_mem _ (List.mem_append_left _ (List.mem_append_right _ h))) (by decide +kernel))) (goodIn_sub (fun _ h => List.mem_cons_of_mem _ (List.mem_append_right _ h)) (by decide +kernel))
set_option maxRecDepth 20000 in
theorem gL_find_X7_find : GoodIn wsL_find (wsV RL 51 RX7 yX7_find wsX7_find) := goodIn_app (goodIn_of _ (by decide +kernel)) ggL_find_X7_find
set_option maxRecDepth 20000 in
theorem ggL_law_X7_init : GoodIn wsL_law wsX7_init := goodIn_r _ [10, 11, 12, 13, 14, 15, 16, 17, 18, 19, 20, 21, 22, 23, 24, 25, 26, 27, 28, 29, 30, 31, 32, 33, 34, 35, 36, 37, 38, 39, 40, 41, 42, 43, 44, 45, 46, 47, 48, 49, 50, 51, 52, 53, 54, 55, 56, 57, 58, 59, 60, 61, 62, 63, 64, 65, 66, 67, 68, 69, 70, 71, 72, 73, 74, 75, 76, 77, 78, 79, 80, 81, 82, 83, 84, 85, 86, 6, 87, 88, 89, 90, 91, 92, 93, 94, 95, 96, 97, 98, 99, 100, 101, 102, 103, 104, 105, 106, 107, 108, 109, 764, 765, 766, 767, 768, 769, 770, 729, 730, 731, 732, 733, 734, 735, 771, 772, 773, 774, 775, 776, 777, 778, 779, 780, 781, 782, 783, 784, 785, 786, 787, 788, 789, 790, 791, 792, 793, 794, 795, 796, 797, 798, 799, 800, 801, 802, 803] (by decide +kernel) (by decide +kernel)
set_option maxRecDepth 20000 in
theorem gL_law_X7_init : GoodIn wsL_law (wsX7_init) := ggL_law_X7_init
set_option maxRecDepth 20000 in
theorem ggL_law_X8_init : GoodIn wsL_law wsX8_init := goodIn_r _ [112, 113, 12, 13, 42, 114, 115, 116, 117, 118, 119, 57, 120, 121, 122, 123, 124, 125, 126, 127, 128, 129, 130, 6, 131, 132, 133, 736, 737, 738, 739, 740, 741, 742, 743, 744, 745, 746, 747, 748, 749, 750, 751, 752, 753, 754, 755, 756, 757, 758, 759, 760, 761, 762, 763] (by decide +kernel) (by decide +kernel)
set_option maxRecDepth 20000 in
theorem gL_law_X8_init : GoodIn wsL_law (wsX8_init) := ggL_law_X8_init
set_option maxRecDepth 20000 in
theorem ggL_law_L_leaf : GoodIn wsL_law wsL_leaf := goodIn_ca (goodIn_ca (goodIn_r _ [137, 138, 139, 140, 141, 142, 2, 143, 144, 145, 17, 146, 147, 148, 149, 150, 151, 152, 153, 154, 16, 155, 49, 156, 157, 158, 159, 43, 44, 45, 46, 47, 48, 160, 161, 162, 163, 164, 165, 166, 167, 168, 169, 170, 171, 729, 730, 731, 732, 733, 734, 735, 764, 765, 766, 767, 768, 769, 770] (by decide +kernel) (by decide +kernel)) (goodIn_sub (fun _ h => List.mem_append_left _ (List.mem_append_left _ (List.mem_append_left _ (List.mem_append_left _ (List.mem_append_right _ h))))) (by decide +kernel))) (goodIn_sub (fun _ h => List.mem_append_left _ (List.mem_append_left _ (List.mem_append_left _ (List.mem_append_right _ h)))) (by decide +kernel))
set_option maxRecDepth 20000 in
theorem gL_law_L_leaf : GoodIn wsL_law (va_wsS RL 61 yL_leaf wsL_leaf) := goodIn_app (goodIn_of _ (by decide +kernel)) ggL_law_L_leaf
set_option maxRecDepth 20000 in
theorem ggL_law_X8_leaf : GoodIn wsL_law wsX8_leaf := goodIn_r _ [175, 176, 177, 178, 179, 180, 5, 181, 114, 115, 116, 117, 118, 119, 736, 737, 738, 739, 740, 741, 742, 743, 744, 745, 746, 747, 748, 749, 750, 751, 752, 753, 754, 755, 756, 757, 758, 759, 760, 761, 762, 763] (by decide +kernel) (by decide +kernel)
set_option maxRecDepth 20000 in
theorem gL_law_X8_leaf : GoodIn wsL_law (wsV RL 66 RX8 yX8_leaf wsX8_leaf) := goodIn_app (goodIn_of _ (by decide +kernel)) ggL_law_X8_leaf
set_option maxRecDepth 20000 in
theorem ggL_law_X8_thrown : GoodIn wsL_law wsX8_thrown := goodIn_r _ [185, 177, 736, 737, 738, 739, 740, 741, 742, 743, 744, 745, 746, 747, 748, 749, 750, 751, 752, 753, 754, 755, 756, 757, 758, 759, 760, 761, 762, 763] (by decide +kernel) (by decide +kernel)
set_option maxRecDepth 20000 in
theorem gL_law_X8_thrown : GoodIn wsL_law (wsV RL 67 RX8 yX8_thrown wsX8_thrown) := goodIn_app (goodIn_of _ (by decide +kernel)) ggL_law_X8_thrown
set_option maxRecDepth 20000 in
theorem ggL_law_L_variable : GoodIn wsL_law wsL_variable := goodIn_ca (goodIn_ca (goodIn_r _ [188, 138, 139, 189, 190, 191, 2, 192, 17, 193, 194, 195, 196, 144, 145, 146, 147, 148, 149, 150, 151, 152, 153, 154, 16, 155, 49, 156, 157, 158, 159, 43, 44, 45, 46, 47, 48, 160, 161, 162, 163, 164, 165, 166, 167, 168, 169, 170, 171, 729, 730, 731, 732, 733, 734, 735, 764, 765, 766, 767, 768, 769, 770] (by decide +kernel) (by decide +kernel)) (goodIn_sub (fun _ h => List.mem_append_left _ (List.mem_append_left _ (List.mem_append_left _ (List.mem_append_left _ (List.mem_append_right _ h))))) (by decide +kernel))) (goodIn_sub (fun _ h => List.mem_append_left _ (List.mem_append_left _ (List.mem_append_left _ (List.mem_append_right _ h)))) (by decide +kernel))
set_option maxRecDepth 20000 in
theorem gL_law_L_variable : GoodIn wsL_law (va_wsS RL 71 yL_variable wsL_variable) := goodIn_app (goodIn_of _ (by decide +kernel)) ggL_law_L_variable
set_option maxRecDepth 20000 in
theorem ggL_law_X8_variable : GoodIn wsL_law wsX8_variable := goodIn_r _ [200, 176, 177, 178, 179, 180, 5, 181, 114, 115, 116, 117, 118, 119, 736, 737, 738, 739, 740, 741, 742, 743, 744, 745, 746, 747, 748, 749, 750, 751, 752, 753, 754, 755, 756, 757, 758, 759, 760, 761, 762, 763] (by decide +kernel) (by decide +kernel)
set_option maxRecDepth 20000 in
theorem gL_law_X8_variable : GoodIn wsL_law (wsV RL 73 RX8 yX8_variable wsX8_variable) := goodIn_app (goodIn_of _ (by decide +kernel)) ggL_law_X8_variable
set_option maxRecDepth 20000 in
theorem ggL_law_L_join : GoodIn wsL_law wsL_join := goodIn_ca (goodIn_ca (goodIn_ca (goodIn_r _ [203, 204, 205, 139, 206, 207, 208, 2, 209, 210, 211, 17, 212, 213, 214, 215, 216, 217, 218, 219, 220, 16, 221, 49, 222, 223, 224, 225, 47, 146, 147, 148, 149, 150, 151, 152, 153, 154, 155, 156, 157, 158, 159, 43, 44, 45, 46, 48, 160, 161, 162, 163, 164, 165, 166, 167, 168, 169, 170, 171, 729, 730, 731, 732, 733, 734, 735, 764, 765, 766, 767, 768, 769, 770] (by decide +kernel) (by decide +kernel)) (goodIn_sub (fun _ h => List.mem_append_left _ (List.mem_append_left _ (List.mem_append_right _ h))) (by decide +kernel))) (goodIn_sub (fun _ h => List.mem_append_left _ (List.mem_append_right _ h)) (by decide +kernel))) (goodIn_sub (fun _ h => List.mem_append_left _ (List.mem_append_left _ (List.mem_append_left _ (List.mem_append_right _ h)))) (by decide +kernel))
set_option maxRecDepth 20000 in
theorem gL_law_L_join : GoodIn wsL_law (va_wsS RL 74 yL_join wsL_join) := goodIn_app (goodIn_of _ (by decide +kernel)) ggL_law_L_join
set_option maxRecDepth 20000 in
theorem ggL_law_X8_join : GoodIn wsL_law wsX8_join := goodIn_r _ [229, 176, 177, 230, 231, 232, 5, 233, 234, 235, 236, 237, 118, 178, 179, 180, 181, 114, 115, 116, 117, 119, 736, 737, 738, 739, 740, 741, 742, 743, 744, 745, 746, 747, 748, 749, 750, 751, 752, 753, 754, 755, 756, 757, 758, 759, 760, 761, 762, 763] (by decide +kernel) (by decide +kernel)
set_option maxRecDepth 20000 in
theorem gL_law_X8_join : GoodIn wsL_law (wsV RL 77 RX8 yX8_join wsX8_join) := goodIn_app (goodIn_of _ (by decide +kernel)) ggL_law_X8_join
set_option maxRecDepth 20000 in
theorem ggL_law_L_knot : GoodIn wsL_law wsL_knot := goodIn_ca (goodIn_ca (goodIn_ca (goodIn_ca (goodIn_r _ [240, 204, 205, 138, 139, 241, 242, 243, 2, 244, 210, 211, 150, 151, 17, 212, 213, 214, 215, 216, 217, 218, 219, 220, 16, 221, 49, 222, 223, 224, 225, 47, 193, 194, 195, 196, 144, 145, 146, 147, 148, 149, 152, 153, 154, 155, 245, 165, 166, 167, 48, 156, 157, 158, 159, 43, 44, 45, 46, 160, 161, 162, 163, 164, 168, 169, 170, 171, 729, 730, 731, 732, 733, 734, 735, 764, 765, 766, 767, 768, 769, 770] (by decide +kernel) (by decide +kernel)) (goodIn_sub (fun _ h => List.mem_append_left _ (List.mem_append_left _ (List.mem_append_right _ h))) (by decide +kernel))) (goodIn_sub (fun _ h => List.mem_append_left _ (List.mem_append_left _ (List.mem_append_left _ (List.mem_append_right _ h)))) (by decide +kernel))) (goodIn_sub (fun _ h => List.mem_append_left _ (List.mem_append_right _ h)) (by decide +kernel))) (goodIn_sub (fun _ h => List.mem_append_left _ (List.mem_append_left _ (List.mem_append_left _ (List.mem_append_left _ (List.mem_append_right _ h))))) (by decide +kernel))
set_option maxRecDepth 20000 in
theorem gL_law_L_knot : GoodIn wsL_law (va_wsS RL 78 yL_knot wsL_knot) := goodIn_app (goodIn_of _ (by decide +kernel)) ggL_law_L_knot
set_option maxRecDepth 20000 in
theorem ggL_law_X8_knot : GoodIn wsL_law wsX8_knot := goodIn_r _ [249, 176, 119, 177, 230, 231, 232, 5, 233, 234, 235, 236, 237, 118, 178, 179, 180, 181, 114, 115, 116, 117, 736, 737, 738, 739, 740, 741, 742, 743, 744, 745, 746, 747, 748, 749, 750, 751, 752, 753, 754, 755, 756, 757, 758, 759, 760, 761, 762, 763] (by decide +kernel) (by decide +kernel)
set_option maxRecDepth 20000 in
theorem gL_law_X8_knot : GoodIn wsL_law (wsV RL 81 RX8 yX8_knot wsX8_knot) := goodIn_app (goodIn_of _ (by decide +kernel)) ggL_law_X8_knot
set_option maxRecDepth 20000 in
theorem ggL_law_X7_clear : GoodIn wsL_law wsX7_clear := goodIn_r _ [253, 17, 254, 255, 256, 16, 257, 49, 729, 730, 731, 732, 733, 734, 735, 764, 765, 766, 767, 768, 769, 770] (by decide +kernel) (by decide +kernel)
set_option maxRecDepth 20000 in
theorem gL_law_X7_clear : GoodIn wsL_law (wsV RL 82 RX7 yX7_clear wsX7_clear) := goodIn_app (goodIn_of _ (by decide +kernel)) ggL_law_X7_clear
set_option maxRecDepth 20000 in
theorem ggL_law_X8_clear : GoodIn wsL_law wsX8_clear := goodIn_r _ [261, 177, 176, 736, 737, 738, 739, 740, 741, 742, 743, 744, 745, 746, 747, 748, 749, 750, 751, 752, 753, 754, 755, 756, 757, 758, 759, 760, 761, 762, 763] (by decide +kernel) (by decide +kernel)
set_option maxRecDepth 20000 in
theorem gL_law_X8_clear : GoodIn wsL_law (wsV RL 85 RX8 yX8_clear wsX8_clear) := goodIn_app (goodIn_of _ (by decide +kernel)) ggL_law_X8_clear
set_option maxRecDepth 20000 in
theorem ggL_law_X7_terms : GoodIn wsL_law wsX7_terms := goodIn_r _ [265, 17, 266, 267, 268, 16, 269, 49, 729, 730, 731, 732, 733, 734, 735, 764, 765, 766, 767, 768, 769, 770] (by decide +kernel) (by decide +kernel)
set_option maxRecDepth 20000 in
theorem gL_law_X7_terms : GoodIn wsL_law (wsV RL 86 RX7 yX7_terms wsX7_terms) := goodIn_app (goodIn_of _ (by decide +kernel)) ggL_law_X7_terms
set_option maxRecDepth 20000 in
theorem ggL_law_X8_terms : GoodIn wsL_law wsX8_terms := goodIn_r _ [273, 177, 176, 736, 737, 738, 739, 740, 741, 742, 743, 744, 745, 746, 747, 748, 749, 750, 751, 752, 753, 754, 755, 756, 757, 758, 759, 760, 761, 762, 763] (by decide +kernel) (by decide +kernel)
set_option maxRecDepth 20000 in
theorem gL_law_X8_terms : GoodIn wsL_law (wsV RL 89 RX8 yX8_terms wsX8_terms) := goodIn_app (goodIn_of _ (by decide +kernel)) ggL_law_X8_terms
set_option maxRecDepth 20000 in
theorem ggL_law_L_fault : GoodIn wsL_law wsL_fault := goodIn_ca (goodIn_r _ [276, 204, 277, 278, 279, 2, 280, 21, 212, 213, 214, 215, 216, 217, 17, 218, 219, 220, 16, 221, 49, 281, 282, 283, 20, 284, 62, 54, 285, 286, 287, 288, 55, 63, 289, 290, 291, 292, 45, 293, 294, 295, 296, 46, 297, 298, 299, 300, 56, 58, 301, 302, 303, 304, 43, 305, 306, 307, 308, 47, 309, 310, 311, 312, 44, 313, 314, 315, 316, 59, 60, 61, 317, 318, 319, 320, 321, 322, 323, 324, 325, 326, 327, 328, 329, 330, 331, 332, 333, 334, 335, 336, 337, 338, 339, 340, 341, 342, 343, 344, 345, 346, 347, 348, 729, 730, 731, 732, 733, 734, 735, 764, 765, 766, 767, 768, 769, 770, 771, 772, 773, 774, 775, 776, 777, 778, 779] (by decide +kernel) (by decide +kernel)) (goodIn_sub (fun _ h => List.mem_append_left _ (List.mem_append_right _ h)) (by decide +kernel))
set_option maxRecDepth 20000 in
theorem gL_law_L_fault : GoodIn wsL_law (va_wsS RL 90 yL_fault wsL_fault) := goodIn_app (goodIn_of _ (by decide +kernel)) ggL_law_L_fault
set_option maxRecDepth 20000 in
theorem ggL_law_X8_fault : GoodIn wsL_law wsX8_fault := goodIn_r _ [352, 177, 230, 231, 232, 5, 233, 176, 353, 354, 355, 356, 118, 117, 357, 358, 359, 360, 123, 361, 362, 363, 364, 124, 114, 115, 120, 121, 122, 365, 366, 367, 368, 116, 369, 370, 371, 372, 373, 374, 375, 376, 377, 378, 379, 380, 736, 737, 738, 739, 740, 741, 742, 743, 744, 745, 746, 747, 748, 749, 750, 751, 752, 753, 754, 755, 756, 757, 758, 759, 760, 761, 762, 763] (by decide +kernel) (by decide +kernel)
set_option maxRecDepth 20000 in
theorem gL_law_X8_fault : GoodIn wsL_law (wsV RL 92 RX8 yX8_fault wsX8_fault) := goodIn_app (goodIn_of _ (by decide +kernel)) ggL_law_X8_fault
set_option maxRecDepth 20000 in
theorem ggL_law_L_type : GoodIn wsL_law wsL_type := goodIn_ca (goodIn_ca (goodIn_r _ [383, 204, 205, 384, 385, 386, 2, 387, 216, 217, 21, 212, 213, 214, 215, 17, 218, 219, 220, 16, 221, 49, 388, 389, 390, 391, 210, 211, 281, 282, 283, 20, 284, 62, 54, 285, 286, 287, 288, 55, 63, 289, 290, 291, 292, 45, 293, 294, 295, 296, 46, 297, 298, 299, 300, 56, 58, 301, 302, 303, 304, 43, 305, 306, 307, 308, 47, 309, 310, 311, 312, 44, 313, 314, 315, 316, 59, 60, 61, 317, 318, 319, 320, 321, 322, 323, 324, 325, 326, 327, 328, 329, 330, 331, 332, 333, 334, 335, 336, 337, 338, 339, 340, 341, 342, 343, 344, 345, 346, 347, 348, 392, 393, 394, 395, 396, 397, 398, 399, 400, 401, 402, 403, 729, 730, 731, 732, 733, 734, 735, 764, 765, 766, 767, 768, 769, 770, 771, 772, 773, 774, 775, 776, 777, 778, 779] (by decide +kernel) (by decide +kernel)) (goodIn_sub (fun _ h => List.mem_append_left _ (List.mem_append_right _ h)) (by decide +kernel))) (goodIn_sub (fun _ h => List.mem_append_left _ (List.mem_append_left _ (List.mem_append_right _ h))) (by decide +kernel))
set_option maxRecDepth 20000 in
theorem gL_law_L_type : GoodIn wsL_law (va_wsS RL 93 yL_type wsL_type) := goodIn_app (goodIn_of _ (by decide +kernel)) ggL_law_L_type
set_option maxRecDepth 20000 in
theorem ggL_law_X8_type : GoodIn wsL_law wsX8_type := goodIn_r _ [407, 177, 121, 122, 120, 230, 231, 232, 5, 233, 176, 353, 354, 355, 356, 118, 117, 357, 358, 359, 360, 123, 361, 362, 363, 364, 124, 114, 115, 365, 366, 367, 368, 116, 369, 370, 371, 372, 373, 374, 375, 376, 377, 378, 379, 380, 736, 737, 738, 739, 740, 741, 742, 743, 744, 745, 746, 747, 748, 749, 750, 751, 752, 753, 754, 755, 756, 757, 758, 759, 760, 761, 762, 763] (by decide +kernel) (by decide +kernel)
set_option maxRecDepth 20000 in
theorem gL_law_X8_type : GoodIn wsL_law (wsV RL 95 RX8 yX8_type wsX8_type) := goodIn_app (goodIn_of _ (by decide +kernel)) ggL_law_X8_type
set_option maxRecDepth 20000 in
theorem ggL_law_X7_put : GoodIn wsL_law wsX7_put := goodIn_r _ [411, 25, 412, 413, 414, 24, 415, 68, 416, 417, 418, 419, 67, 729, 730, 731, 732, 733, 734, 735, 780, 781] (by decide +kernel) (by decide +kernel)
set_option maxRecDepth 20000 in
theorem gL_law_X7_put : GoodIn wsL_law (wsV RL 96 RX7 yX7_put wsX7_put) := goodIn_app (goodIn_of _ (by decide +kernel)) ggL_law_X7_put
set_option maxRecDepth 20000 in
theorem ggL_law_X8_put : GoodIn wsL_law wsX8_put := goodIn_r _ [423, 177, 424, 125, 736, 737, 738, 739, 740, 741, 742, 743, 744, 745, 746, 747, 748, 749, 750, 751, 752, 753, 754, 755, 756, 757, 758, 759, 760, 761, 762, 763] (by decide +kernel) (by decide +kernel)
set_option maxRecDepth 20000 in
theorem gL_law_X8_put : GoodIn wsL_law (wsV RL 100 RX8 yX8_put wsX8_put) := goodIn_app (goodIn_of _ (by decide +kernel)) ggL_law_X8_put
set_option maxRecDepth 20000 in
theorem ggL_law_X7_cut : GoodIn wsL_law wsX7_cut := goodIn_r _ [428, 25, 429, 430, 431, 24, 432, 68, 433, 434, 435, 436, 729, 730, 731, 732, 733, 734, 735, 780, 781] (by decide +kernel) (by decide +kernel)
set_option maxRecDepth 20000 in
theorem gL_law_X7_cut : GoodIn wsL_law (wsV RL 101 RX7 yX7_cut wsX7_cut) := goodIn_app (goodIn_of _ (by decide +kernel)) ggL_law_X7_cut
set_option maxRecDepth 20000 in
theorem ggL_law_X8_cut : GoodIn wsL_law wsX8_cut := goodIn_r _ [440, 177, 424, 736, 737, 738, 739, 740, 741, 742, 743, 744, 745, 746, 747, 748, 749, 750, 751, 752, 753, 754, 755, 756, 757, 758, 759, 760, 761, 762, 763] (by decide +kernel) (by decide +kernel)
set_option maxRecDepth 20000 in
theorem gL_law_X8_cut : GoodIn wsL_law (wsV RL 104 RX8 yX8_cut wsX8_cut) := goodIn_app (goodIn_of _ (by decide +kernel)) ggL_law_X8_cut
set_option maxRecDepth 20000 in
theorem ggL_law_X7_length : GoodIn wsL_law wsX7_length := goodIn_r _ [444, 25, 429, 430, 431, 24, 432, 68, 729, 730, 731, 732, 733, 734, 735, 780, 781] (by decide +kernel) (by decide +kernel)
set_option maxRecDepth 20000 in
theorem gL_law_X7_length : GoodIn wsL_law (wsV RL 105 RX7 yX7_length wsX7_length) := goodIn_app (goodIn_of _ (by decide +kernel)) ggL_law_X7_length
set_option maxRecDepth 20000 in
theorem ggL_law_X8_length : GoodIn wsL_law wsX8_length := goodIn_r _ [448, 177, 424, 736, 737, 738, 739, 740, 741, 742, 743, 744, 745, 746, 747, 748, 749, 750, 751, 752, 753, 754, 755, 756, 757, 758, 759, 760, 761, 762, 763] (by decide +kernel) (by decide +kernel)
set_option maxRecDepth 20000 in
theorem gL_law_X8_length : GoodIn wsL_law (wsV RL 108 RX8 yX8_length wsX8_length) := goodIn_app (goodIn_of _ (by decide +kernel)) ggL_law_X8_length
set_option maxRecDepth 20000 in
theorem ggL_law_L_letter : GoodIn wsL_law wsL_letter := goodIn_ca (goodIn_r _ [451, 204, 452, 453, 454, 2, 455, 216, 217, 25, 429, 430, 431, 24, 432, 68, 456, 457, 458, 459, 67, 729, 730, 731, 732, 733, 734, 735, 780, 781] (by decide +kernel) (by decide +kernel)) (goodIn_sub (fun _ h => List.mem_append_left _ (List.mem_append_right _ h)) (by decide +kernel))
set_option maxRecDepth 20000 in
theorem gL_law_L_letter : GoodIn wsL_law (va_wsS RL 109 yL_letter wsL_letter) := goodIn_app (goodIn_of _ (by decide +kernel)) ggL_law_L_letter
set_option maxRecDepth 20000 in
theorem ggL_law_X8_letter : GoodIn wsL_law wsX8_letter := goodIn_r _ [463, 424, 177, 125, 736, 737, 738, 739, 740, 741, 742, 743, 744, 745, 746, 747, 748, 749, 750, 751, 752, 753, 754, 755, 756, 757, 758, 759, 760, 761, 762, 763] (by decide +kernel) (by decide +kernel)
set_option maxRecDepth 20000 in
theorem gL_law_X8_letter : GoodIn wsL_law (wsV RL 111 RX8 yX8_letter wsX8_letter) := goodIn_app (goodIn_of _ (by decide +kernel)) ggL_law_X8_letter
set_option maxRecDepth 20000 in
theorem ggL_law_L_read : GoodIn wsL_law wsL_read := goodIn_ca (goodIn_ca (goodIn_ca (goodIn_r _ [466, 204, 205, 138, 467, 468, 469, 2, 470, 144, 145, 29, 25, 38, 212, 213, 214, 215, 216, 217, 17, 218, 219, 220, 16, 221, 49, 388, 389, 390, 391, 210, 211, 21, 281, 282, 283, 20, 284, 62, 54, 285, 286, 287, 288, 55, 63, 289, 290, 291, 292, 45, 293, 294, 295, 296, 46, 297, 298, 299, 300, 56, 58, 301, 302, 303, 304, 43, 305, 306, 307, 308, 47, 309, 310, 311, 312, 44, 313, 314, 315, 316, 59, 60, 61, 317, 318, 319, 320, 321, 322, 323, 324, 325, 326, 327, 328, 329, 330, 331, 332, 333, 334, 335, 336, 337, 338, 339, 340, 341, 342, 343, 344, 345, 346, 347, 348, 471, 472, 473, 28, 474, 80, 75, 74, 76, 475, 73, 476, 477, 478, 79, 479, 88, 480, 481, 482, 483, 484, 485, 486, 487, 82, 83, 488, 489, 490, 491, 492, 493, 494, 430, 431, 24, 432, 68, 495, 457, 458, 459, 67, 496, 497, 498, 499, 500, 501, 502, 503, 504, 505, 506, 507, 508, 509, 87, 510, 511, 512, 513, 514, 515, 516, 517, 518, 519, 520, 521, 522, 81, 523, 524, 525, 526, 729, 730, 731, 732, 733, 734, 735, 764, 765, 766, 767, 768, 769, 770, 771, 772, 773, 774, 775, 776, 777, 778, 779, 782, 783, 784, 785, 786, 787, 788, 789, 802, 803, 780, 781] (by decide +kernel) (by decide +kernel)) (goodIn_sub (fun _ h => List.mem_append_left _ (List.mem_append_left _ (List.mem_append_left _ (List.mem_append_left _ (List.mem_append_right _ h))))) (by decide +kernel))) (goodIn_sub (fun _ h => List.mem_append_left _ (List.mem_append_right _ h)) (by decide +kernel))) (goodIn_sub (fun _ h => List.mem_append_left _ (List.mem_append_left _ (List.mem_append_right _ h))) (by decide +kernel))
set_option maxRecDepth 20000 in
theorem gL_law_L_read : GoodIn wsL_law (va_wsS RL 112 yL_read wsL_read) := goodIn_app (goodIn_of _ (by decide +kernel)) ggL_law_L_read
set_option maxRecDepth 20000 in
theorem ggL_law_X8_read : GoodIn wsL_law wsX8_read := goodIn_r _ [530, 177, 424, 125, 126, 531, 532, 127, 128, 533, 230, 231, 232, 5, 233, 176, 353, 354, 355, 356, 118, 117, 357, 358, 359, 360, 123, 361, 362, 363, 364, 124, 114, 115, 120, 121, 122, 365, 366, 367, 368, 116, 369, 370, 371, 372, 373, 374, 375, 376, 377, 378, 379, 380, 534, 535, 536, 537, 129, 538, 539, 540, 541, 542, 543, 544, 545, 546, 547, 548, 549, 550, 736, 737, 738, 739, 740, 741, 742, 743, 744, 745, 746, 747, 748, 749, 750, 751, 752, 753, 754, 755, 756, 757, 758, 759, 760, 761, 762, 763] (by decide +kernel) (by decide +kernel)
set_option maxRecDepth 20000 in
theorem gL_law_X8_read : GoodIn wsL_law (wsV RL 114 RX8 yX8_read wsX8_read) := goodIn_app (goodIn_of _ (by decide +kernel)) ggL_law_X8_read
set_option maxRecDepth 20000 in
theorem ggL_law_X7_stopped : GoodIn wsL_law wsX7_stopped := goodIn_r _ [554, 38, 729, 730, 731, 732, 733, 734, 735] (by decide +kernel) (by decide +kernel)
set_option maxRecDepth 20000 in
theorem gL_law_X7_stopped : GoodIn wsL_law (wsV RL 115 RX7 yX7_stopped wsX7_stopped) := goodIn_app (goodIn_of _ (by decide +kernel)) ggL_law_X7_stopped
set_option maxRecDepth 20000 in
theorem ggL_law_X8_stopped : GoodIn wsL_law wsX8_stopped := goodIn_r _ [558, 177, 126, 736, 737, 738, 739, 740, 741, 742, 743, 744, 745, 746, 747, 748, 749, 750, 751, 752, 753, 754, 755, 756, 757, 758, 759, 760, 761, 762, 763] (by decide +kernel) (by decide +kernel)
set_option maxRecDepth 20000 in
theorem gL_law_X8_stopped : GoodIn wsL_law (wsV RL 118 RX8 yX8_stopped wsX8_stopped) := goodIn_app (goodIn_of _ (by decide +kernel)) ggL_law_X8_stopped
set_option maxRecDepth 20000 in
theorem ggL_law_X7_trace : GoodIn wsL_law wsX7_trace := goodIn_r _ [562, 29, 563, 564, 565, 28, 566, 81, 567, 568, 569, 79, 570, 88, 729, 730, 731, 732, 733, 734, 735, 782, 783, 784, 785, 786, 787, 788, 789, 802, 803] (by decide +kernel) (by decide +kernel)
set_option maxRecDepth 20000 in
theorem gL_law_X7_trace : GoodIn wsL_law (wsV RL 119 RX7 yX7_trace wsX7_trace) := goodIn_app (goodIn_of _ (by decide +kernel)) ggL_law_X7_trace
set_option maxRecDepth 20000 in
theorem ggL_law_X8_trace : GoodIn wsL_law wsX8_trace := goodIn_r _ [574, 177, 532, 736, 737, 738, 739, 740, 741, 742, 743, 744, 745, 746, 747, 748, 749, 750, 751, 752, 753, 754, 755, 756, 757, 758, 759, 760, 761, 762, 763] (by decide +kernel) (by decide +kernel)
set_option maxRecDepth 20000 in
theorem gL_law_X8_trace : GoodIn wsL_law (wsV RL 122 RX8 yX8_trace wsX8_trace) := goodIn_app (goodIn_of _ (by decide +kernel)) ggL_law_X8_trace
set_option maxRecDepth 20000 in
theorem ggL_law_L_step : GoodIn wsL_law wsL_step := goodIn_ca (goodIn_r _ [577, 204, 578, 579, 580, 2, 581, 216, 217, 29, 563, 564, 565, 28, 566, 81, 567, 568, 569, 79, 570, 88, 582, 583, 584, 585, 87, 729, 730, 731, 732, 733, 734, 735, 782, 783, 784, 785, 786, 787, 788, 789, 802, 803] (by decide +kernel) (by decide +kernel)) (goodIn_sub (fun _ h => List.mem_append_left _ (List.mem_append_right _ h)) (by decide +kernel))
set_option maxRecDepth 20000 in
theorem gL_law_L_step : GoodIn wsL_law (va_wsS RL 123 yL_step wsL_step) := goodIn_app (goodIn_of _ (by decide +kernel)) ggL_law_L_step
set_option maxRecDepth 20000 in
theorem ggL_law_X8_step : GoodIn wsL_law wsX8_step := goodIn_r _ [589, 532, 177, 127, 736, 737, 738, 739, 740, 741, 742, 743, 744, 745, 746, 747, 748, 749, 750, 751, 752, 753, 754, 755, 756, 757, 758, 759, 760, 761, 762, 763] (by decide +kernel) (by decide +kernel)
set_option maxRecDepth 20000 in
theorem gL_law_X8_step : GoodIn wsL_law (wsV RL 125 RX8 yX8_step wsX8_step) := goodIn_app (goodIn_of _ (by decide +kernel)) ggL_law_X8_step
set_option maxRecDepth 20000 in
theorem ggL_law_L_count : GoodIn wsL_law wsL_count := goodIn_ca (goodIn_ca (goodIn_ca (goodIn_r _ [592, 204, 205, 138, 593, 594, 595, 2, 596, 33, 597, 598, 599, 600, 144, 145, 212, 213, 214, 215, 216, 217, 17, 218, 219, 220, 16, 221, 49, 388, 389, 390, 391, 210, 211, 21, 281, 282, 283, 20, 284, 62, 54, 285, 286, 287, 288, 55, 63, 289, 290, 291, 292, 45, 293, 294, 295, 296, 46, 297, 298, 299, 300, 56, 58, 301, 302, 303, 304, 43, 305, 306, 307, 308, 47, 309, 310, 311, 312, 44, 313, 314, 315, 316, 59, 60, 61, 317, 318, 319, 320, 321, 322, 323, 324, 325, 326, 327, 328, 329, 330, 331, 332, 333, 334, 335, 336, 337, 338, 339, 340, 341, 342, 343, 344, 345, 346, 347, 348, 601, 602, 603, 32, 604, 605, 606, 607, 608, 96, 94, 609, 610, 611, 612, 613, 614, 615, 616, 617, 618, 619, 620, 95, 621, 622, 623, 624, 625, 626, 627, 628, 512, 513, 514, 629, 630, 631, 632, 729, 730, 731, 732, 733, 734, 735, 764, 765, 766, 767, 768, 769, 770, 771, 772, 773, 774, 775, 776, 777, 778, 779, 790, 791, 792] (by decide +kernel) (by decide +kernel)) (goodIn_sub (fun _ h => List.mem_append_left _ (List.mem_append_left _ (List.mem_append_left _ (List.mem_append_left _ (List.mem_append_right _ h))))) (by decide +kernel))) (goodIn_sub (fun _ h => List.mem_append_left _ (List.mem_append_right _ h)) (by decide +kernel))) (goodIn_sub (fun _ h => List.mem_append_left _ (List.mem_append_left _ (List.mem_append_right _ h))) (by decide +kernel))
set_option maxRecDepth 20000 in
theorem gL_law_L_count : GoodIn wsL_law (va_wsS RL 126 yL_count wsL_count) := goodIn_app (goodIn_of _ (by decide +kernel)) ggL_law_L_count
set_option maxRecDepth 20000 in
theorem ggL_law_X8_count : GoodIn wsL_law wsX8_count := goodIn_r _ [636, 177, 131, 637, 638, 639, 5, 640, 230, 231, 232, 233, 176, 353, 354, 355, 356, 118, 117, 357, 358, 359, 360, 123, 361, 362, 363, 364, 124, 114, 115, 120, 121, 122, 365, 366, 367, 368, 116, 369, 370, 371, 372, 373, 374, 375, 376, 377, 378, 379, 380, 641, 642, 643, 644, 645, 646, 647, 648, 736, 737, 738, 739, 740, 741, 742, 743, 744, 745, 746, 747, 748, 749, 750, 751, 752, 753, 754, 755, 756, 757, 758, 759, 760, 761, 762, 763] (by decide +kernel) (by decide +kernel)
set_option maxRecDepth 20000 in
theorem gL_law_X8_count : GoodIn wsL_law (wsV RL 128 RX8 yX8_count wsX8_count) := goodIn_app (goodIn_of _ (by decide +kernel)) ggL_law_X8_count
set_option maxRecDepth 20000 in
theorem ggL_law_L_find : GoodIn wsL_law wsL_find := goodIn_ca (goodIn_ca (goodIn_ca (goodIn_ca (goodIn_r _ [651, 204, 205, 138, 652, 653, 654, 655, 2, 656, 657, 658, 33, 37, 25, 597, 598, 599, 600, 144, 145, 212, 213, 214, 215, 216, 217, 17, 218, 219, 220, 16, 221, 49, 388, 389, 390, 391, 210, 211, 21, 281, 282, 283, 20, 284, 62, 54, 285, 286, 287, 288, 55, 63, 289, 290, 291, 292, 45, 293, 294, 295, 296, 46, 297, 298, 299, 300, 56, 58, 301, 302, 303, 304, 43, 305, 306, 307, 308, 47, 309, 310, 311, 312, 44, 313, 314, 315, 316, 59, 60, 61, 317, 318, 319, 320, 321, 322, 323, 324, 325, 326, 327, 328, 329, 330, 331, 332, 333, 334, 335, 336, 337, 338, 339, 340, 341, 342, 343, 344, 345, 346, 347, 348, 601, 602, 603, 32, 604, 605, 606, 607, 608, 96, 94, 609, 610, 611, 612, 613, 614, 615, 616, 617, 618, 619, 620, 95, 621, 622, 623, 624, 625, 626, 627, 628, 512, 513, 514, 629, 630, 631, 632, 659, 660, 661, 36, 662, 663, 434, 435, 24, 436, 68, 664, 665, 666, 667, 103, 102, 668, 669, 670, 671, 672, 673, 674, 675, 109, 101, 676, 677, 678, 679, 680, 681, 682, 683, 684, 685, 686, 687, 108, 688, 397, 398, 399, 689, 393, 394, 395, 690, 691, 692, 693, 105, 107, 104, 694, 695, 696, 697, 698, 699, 700, 701, 503, 504, 505, 702, 703, 704, 705, 706, 106, 707, 708, 709, 710, 711, 417, 418, 419, 67, 729, 730, 731, 732, 733, 734, 735, 764, 765, 766, 767, 768, 769, 770, 771, 772, 773, 774, 775, 776, 777, 778, 779, 790, 791, 792, 780, 781, 793, 794, 795, 796, 797, 798, 799, 800, 801] (by decide +kernel) (by decide +kernel)) (goodIn_sub (fun _ h => List.mem_append_right _ h) (by decide +kernel))) (goodIn_sub (fun _ h => List.mem_append_left _ (List.mem_append_left _ (List.mem_append_left _ (List.mem_append_left _ (List.mem_append_right _ h))))) (by decide +kernel))) (goodIn_sub (fun _ h => List.mem_append_left _ (List.mem_append_right _ h)) (by decide +kernel))) (goodIn_sub (fun _ h => List.mem_append_left _ (List.mem_append_left _ (List.mem_append_right _ h))) (by decide +kernel))
set_option maxRecDepth 20000 in
theorem gL_law_L_find : GoodIn wsL_law (va_wsS RL 131 yL_find wsL_find) := goodIn_app (goodIn_of _ (by decide +kernel)) ggL_law_L_find
set_option maxRecDepth 20000 in
theorem ggL_law_X8_find : GoodIn wsL_law wsX8_find := goodIn_r _ [715, 177, 131, 125, 531, 424, 637, 638, 639, 5, 640, 230, 231, 232, 233, 176, 353, 354, 355, 356, 118, 117, 357, 358, 359, 360, 123, 361, 362, 363, 364, 124, 114, 115, 120, 121, 122, 365, 366, 367, 368, 116, 369, 370, 371, 372, 373, 374, 375, 376, 377, 378, 379, 380, 641, 642, 643, 644, 645, 646, 647, 648, 534, 535, 536, 537, 129, 538, 533, 716, 717, 718, 719, 720, 130, 539, 540, 541, 542, 128, 543, 544, 545, 546, 721, 722, 723, 724, 132, 133, 725, 726, 727, 728, 736, 737, 738, 739, 740, 741, 742, 743, 744, 745, 746, 747, 748, 749, 750, 751, 752, 753, 754, 755, 756, 757, 758, 759, 760, 761, 762, 763] (by decide +kernel) (by decide +kernel)
set_option maxRecDepth 20000 in
theorem gL_law_X8_find : GoodIn wsL_law (wsV RL 134 RX8 yX8_find wsX8_find) := goodIn_app (goodIn_of _ (by decide +kernel)) ggL_law_X8_find
