set_option maxRecDepth 20000 in
theorem ggX8_addEqualOnes_X6_addInto : GoodIn wsX8_addEqualOnes wsX6_addInto := goodIn_r _ [58, 59, 60, 61, 62, 63, 12, 64, 65, 66, 67, 68, 40, 69, 42, 43, 70, 38, 39, 41, 44, 71, 72, 73, 10, 74, 75, 76, 77, 78, 79, 80, 81, 116, 117, 118, 119, 134, 135, 136, 137, 138] rfl (by decide +kernel)
set_option maxRecDepth 20000 in
theorem gX8_addEqualOnes_X6_addInto : GoodIn wsX8_addEqualOnes (wsV RX8 252 RX6 yX6_addInto wsX6_addInto) := goodIn_app (goodIn_of _ (by decide +kernel)) ggX8_addEqualOnes_X6_addInto
set_option maxRecDepth 20000 in
theorem ggX8_addEqualOnes_X4_put : GoodIn wsX8_addEqualOnes wsX4_put := goodIn_r _ [85, 18, 23, 120, 121, 122, 123, 124, 125, 126, 127, 128] rfl (by decide +kernel)
set_option maxRecDepth 20000 in
theorem gX8_addEqualOnes_X4_put : GoodIn wsX8_addEqualOnes (wsV RX8 256 RX4 yX4_put wsX4_put) := goodIn_app (goodIn_of _ (by decide +kernel)) ggX8_addEqualOnes_X4_put
set_option maxRecDepth 20000 in
theorem ggX8_addEqualOnes_X4_cut : GoodIn wsX8_addEqualOnes wsX4_cut := goodIn_r _ [89, 18, 90, 80, 61, 81, 91, 60, 62, 120, 121, 122, 123, 124, 125, 126, 127, 128] rfl (by decide +kernel)
set_option maxRecDepth 20000 in
theorem gX8_addEqualOnes_X4_cut : GoodIn wsX8_addEqualOnes (wsV RX8 258 RX4 yX4_cut wsX4_cut) := goodIn_app (goodIn_of _ (by decide +kernel)) ggX8_addEqualOnes_X4_cut
set_option maxRecDepth 20000 in
theorem ggX8_passOut_X1_restart : GoodIn wsX8_passOut wsX1_restart := goodIn_r _ [10, 11, 90, 91, 92] rfl (by decide +kernel)
set_option maxRecDepth 20000 in
theorem gX8_passOut_X1_restart : GoodIn wsX8_passOut (wsV RX8 231 RX1 yX1_restart wsX1_restart) := goodIn_app (goodIn_of _ (by decide +kernel)) ggX8_passOut_X1_restart
set_option maxRecDepth 20000 in
theorem ggX8_passOut_X4_held : GoodIn wsX8_passOut wsX4_held := goodIn_r _ [16, 17, 93, 94, 95, 96, 97, 98, 99, 100, 101] rfl (by decide +kernel)
set_option maxRecDepth 20000 in
theorem gX8_passOut_X4_held : GoodIn wsX8_passOut (wsV RX8 188 RX4 yX4_held wsX4_held) := goodIn_app (goodIn_of _ (by decide +kernel)) ggX8_passOut_X4_held
set_option maxRecDepth 20000 in
theorem ggX8_passOut_X4_at : GoodIn wsX8_passOut wsX4_at := goodIn_r _ [21, 17, 22, 93, 94, 95, 96, 97, 98, 99, 100, 101] rfl (by decide +kernel)
set_option maxRecDepth 20000 in
theorem gX8_passOut_X4_at : GoodIn wsX8_passOut (wsV RX8 189 RX4 yX4_at wsX4_at) := goodIn_app (goodIn_of _ (by decide +kernel)) ggX8_passOut_X4_at
set_option maxRecDepth 20000 in
theorem ggX8_passOut_X1_meet : GoodIn wsX8_passOut wsX1_meet := goodIn_r _ [26, 11, 27, 28, 29, 30, 31, 32, 33, 34, 35, 36, 37, 38, 39, 40, 41, 42, 43, 44, 45, 46, 47, 48, 90, 91, 92, 102, 103, 104, 105, 106] rfl (by decide +kernel)
set_option maxRecDepth 20000 in
theorem gX8_passOut_X1_meet : GoodIn wsX8_passOut (wsV RX8 242 RX1 yX1_meet wsX1_meet) := goodIn_app (goodIn_of _ (by decide +kernel)) ggX8_passOut_X1_meet
set_option maxRecDepth 20000 in
theorem ggX8_passOut_X5_numberOf : GoodIn wsX8_passOut wsX5_numberOf := goodIn_r _ [52, 34, 53, 102, 103, 104, 105, 106] rfl (by decide +kernel)
set_option maxRecDepth 20000 in
theorem gX8_passOut_X5_numberOf : GoodIn wsX8_passOut (wsV RX8 118 RX5 yX5_numberOf wsX5_numberOf) := goodIn_app (goodIn_of _ (by decide +kernel)) ggX8_passOut_X5_numberOf
set_option maxRecDepth 20000 in
theorem ggX8_passOut_X4_put : GoodIn wsX8_passOut wsX4_put := goodIn_r _ [57, 17, 22, 93, 94, 95, 96, 97, 98, 99, 100, 101] rfl (by decide +kernel)
set_option maxRecDepth 20000 in
theorem gX8_passOut_X4_put : GoodIn wsX8_passOut (wsV RX8 256 RX4 yX4_put wsX4_put) := goodIn_app (goodIn_of _ (by decide +kernel)) ggX8_passOut_X4_put
set_option maxRecDepth 20000 in
theorem ggX8_passOut_X4_cut : GoodIn wsX8_passOut wsX4_cut := goodIn_r _ [61, 17, 62, 46, 47, 48, 63, 64, 65, 93, 94, 95, 96, 97, 98, 99, 100, 101] rfl (by decide +kernel)
set_option maxRecDepth 20000 in
theorem gX8_passOut_X4_cut : GoodIn wsX8_passOut (wsV RX8 258 RX4 yX4_cut wsX4_cut) := goodIn_app (goodIn_of _ (by decide +kernel)) ggX8_passOut_X4_cut
set_option maxRecDepth 20000 in
theorem ggX8_copyInputs_X5_clear : GoodIn wsX8_copyInputs wsX5_clear := goodIn_r _ [9, 10, 79, 80, 81, 82, 83] rfl (by decide +kernel)
set_option maxRecDepth 20000 in
theorem gX8_copyInputs_X5_clear : GoodIn wsX8_copyInputs (wsV RX8 229 RX5 yX5_clear wsX5_clear) := goodIn_app (goodIn_of _ (by decide +kernel)) ggX8_copyInputs_X5_clear
set_option maxRecDepth 20000 in
theorem ggX8_copyInputs_X4_clear : GoodIn wsX8_copyInputs wsX4_clear := goodIn_r _ [15, 16, 17, 84, 85, 86, 87, 88, 89, 90, 91, 92] rfl (by decide +kernel)
set_option maxRecDepth 20000 in
theorem gX8_copyInputs_X4_clear : GoodIn wsX8_copyInputs (wsV RX8 230 RX4 yX4_clear wsX4_clear) := goodIn_app (goodIn_of _ (by decide +kernel)) ggX8_copyInputs_X4_clear
set_option maxRecDepth 20000 in
theorem ggX8_copyInputs_X4_beginRun : GoodIn wsX8_copyInputs wsX4_beginRun := goodIn_r _ [21, 17, 22, 16, 84, 85, 86, 87, 88, 89, 90, 91, 92] rfl (by decide +kernel)
set_option maxRecDepth 20000 in
theorem gX8_copyInputs_X4_beginRun : GoodIn wsX8_copyInputs (wsV RX8 261 RX4 yX4_beginRun wsX4_beginRun) := goodIn_app (goodIn_of _ (by decide +kernel)) ggX8_copyInputs_X4_beginRun
set_option maxRecDepth 20000 in
theorem ggX8_copyInputs_X2_held : GoodIn wsX8_copyInputs wsX2_held := goodIn_r _ [27, 28, 93, 94, 95] rfl (by decide +kernel)
set_option maxRecDepth 20000 in
theorem gX8_copyInputs_X2_held : GoodIn wsX8_copyInputs (wsV RX8 264 RX2 yX2_held wsX2_held) := goodIn_app (goodIn_of _ (by decide +kernel)) ggX8_copyInputs_X2_held
set_option maxRecDepth 20000 in
theorem ggX8_copyInputs_X2_at : GoodIn wsX8_copyInputs wsX2_at := goodIn_r _ [32, 33, 34, 24, 25, 26, 27, 28, 93, 94, 95] rfl (by decide +kernel)
set_option maxRecDepth 20000 in
theorem gX8_copyInputs_X2_at : GoodIn wsX8_copyInputs (wsV RX8 266 RX2 yX2_at wsX2_at) := goodIn_app (goodIn_of _ (by decide +kernel)) ggX8_copyInputs_X2_at
set_option maxRecDepth 20000 in
theorem ggX8_copyInputs_X5_addCopy : GoodIn wsX8_copyInputs wsX5_addCopy := goodIn_r _ [38, 10, 39, 40, 41, 42, 43, 44, 45, 46, 47, 48, 8, 49, 50, 79, 80, 81, 82, 83] rfl (by decide +kernel)
set_option maxRecDepth 20000 in
theorem gX8_copyInputs_X5_addCopy : GoodIn wsX8_copyInputs (wsV RX8 238 RX5 yX5_addCopy wsX5_addCopy) := goodIn_app (goodIn_of _ (by decide +kernel)) ggX8_copyInputs_X5_addCopy
set_option maxRecDepth 20000 in
theorem ggX8_copyInputs_X4_append : GoodIn wsX8_copyInputs wsX4_append := goodIn_r _ [54, 16, 55, 84, 85, 86, 87, 88, 89, 90, 91, 92] rfl (by decide +kernel)
set_option maxRecDepth 20000 in
theorem gX8_copyInputs_X4_append : GoodIn wsX8_copyInputs (wsV RX8 248 RX4 yX4_append wsX4_append) := goodIn_app (goodIn_of _ (by decide +kernel)) ggX8_copyInputs_X4_append
set_option maxRecDepth 20000 in
theorem ggX8_copyInputs_X4_endRuns : GoodIn wsX8_copyInputs wsX4_endRuns := goodIn_r _ [59, 22, 17, 16, 84, 85, 86, 87, 88, 89, 90, 91, 92] rfl (by decide +kernel)
set_option maxRecDepth 20000 in
theorem gX8_copyInputs_X4_endRuns : GoodIn wsX8_copyInputs (wsV RX8 268 RX4 yX4_endRuns wsX4_endRuns) := goodIn_app (goodIn_of _ (by decide +kernel)) ggX8_copyInputs_X4_endRuns
set_option maxRecDepth 20000 in
theorem ggX8_beginOutput_X4_held : GoodIn wsX8_beginOutput wsX4_held := goodIn_r _ [9, 10, 30, 31, 32, 33, 34, 35, 36, 37, 38] rfl (by decide +kernel)
set_option maxRecDepth 20000 in
theorem gX8_beginOutput_X4_held : GoodIn wsX8_beginOutput (wsV RX8 188 RX4 yX4_held wsX4_held) := goodIn_app (goodIn_of _ (by decide +kernel)) ggX8_beginOutput_X4_held
set_option maxRecDepth 20000 in
theorem ggX9_key_X9_isPlace : GoodIn wsX9_key wsX9_isPlace := goodIn_r _ [11] rfl (by decide +kernel)
set_option maxRecDepth 20000 in
theorem gX9_key_X9_isPlace : GoodIn wsX9_key (va_wsS RX9 88 yX9_isPlace wsX9_isPlace) := goodIn_app (goodIn_of _ (by decide +kernel)) ggX9_key_X9_isPlace
set_option maxRecDepth 20000 in
theorem ggX9_octet_X9_isRecord : GoodIn wsX9_octet wsX9_isRecord := goodIn_r _ [8, 9, 10, 11, 12, 13, 14, 15, 16, 17, 18, 19, 20, 21, 22, 23, 24, 25, 26, 27, 28, 29, 30, 31, 32, 33, 34, 35, 36, 37, 38, 39, 40, 41, 42, 43, 44, 45] rfl (by decide +kernel)
set_option maxRecDepth 20000 in
theorem gX9_octet_X9_isRecord : GoodIn wsX9_octet (wsV RX9 101 RX9 yX9_isRecord wsX9_isRecord) := goodIn_app (goodIn_of _ (by decide +kernel)) ggX9_octet_X9_isRecord
set_option maxRecDepth 20000 in
theorem ggX9_sum_X9_isPlace : GoodIn wsX9_sum wsX9_isPlace := goodIn_r _ [8] rfl (by decide +kernel)
set_option maxRecDepth 20000 in
theorem gX9_sum_X9_isPlace : GoodIn wsX9_sum (va_wsS RX9 88 yX9_isPlace wsX9_isPlace) := goodIn_app (goodIn_of _ (by decide +kernel)) ggX9_sum_X9_isPlace
set_option maxRecDepth 20000 in
theorem ggX9_release_X9_isRecord : GoodIn wsX9_release wsX9_isRecord := goodIn_r _ [9, 10, 11, 12, 13, 14, 15, 16, 17, 18, 19, 20, 21, 22, 23, 24, 25, 26, 27, 28, 29, 30, 31, 32, 33, 34, 35, 36, 37, 38, 39, 40, 41, 42, 43, 44, 45, 46] rfl (by decide +kernel)
set_option maxRecDepth 20000 in
theorem gX9_release_X9_isRecord : GoodIn wsX9_release (wsV RX9 101 RX9 yX9_isRecord wsX9_isRecord) := goodIn_app (goodIn_of _ (by decide +kernel)) ggX9_release_X9_isRecord
set_option maxRecDepth 20000 in
theorem ggX9_ordered_X9_value : GoodIn wsX9_ordered wsX9_value := goodIn_r _ [9, 10] rfl (by decide +kernel)
set_option maxRecDepth 20000 in
theorem gX9_ordered_X9_value : GoodIn wsX9_ordered (va_wsS RX9 119 yX9_value wsX9_value) := goodIn_app (goodIn_of _ (by decide +kernel)) ggX9_ordered_X9_value
set_option maxRecDepth 20000 in
theorem ggX9_compare_X9_isRecord : GoodIn wsX9_compare wsX9_isRecord := goodIn_r _ [7, 8, 22, 23, 24, 25, 26, 27, 28, 29, 30, 31, 32, 33, 34, 35, 36, 37, 38, 39, 40, 41, 42, 43, 44, 45, 46, 47, 48, 49, 50, 51, 52, 53, 54, 55, 56, 57] rfl (by decide +kernel)
set_option maxRecDepth 20000 in
theorem gX9_compare_X9_isRecord : GoodIn wsX9_compare (wsV RX9 101 RX9 yX9_isRecord wsX9_isRecord) := goodIn_app (goodIn_of _ (by decide +kernel)) ggX9_compare_X9_isRecord
set_option maxRecDepth 20000 in
theorem ggX9_compare_X9_ordered : GoodIn wsX9_compare wsX9_ordered := goodIn_r _ [12, 13, 14, 15, 16, 17, 18, 19, 6, 20, 21, 22, 23, 24, 25, 26, 27, 28, 29, 30, 31, 32, 33, 34, 35, 36, 37, 38, 39, 40, 41, 42, 43, 44, 45, 46, 47, 48, 49, 50, 51, 52, 53, 54, 55, 56, 57] rfl (by decide +kernel)
set_option maxRecDepth 20000 in
theorem gX9_compare_X9_ordered : GoodIn wsX9_compare (wsV RX9 123 RX9 yX9_ordered wsX9_ordered) := goodIn_app (goodIn_of _ (by decide +kernel)) ggX9_compare_X9_ordered
set_option maxRecDepth 20000 in
theorem ggX9_arrange_X9_ordered : GoodIn wsX9_arrange wsX9_ordered := goodIn_r _ [9, 10, 11, 12, 13, 14, 15, 16, 8, 17, 18, 19, 20, 21, 22, 23, 24, 25, 26, 27, 28, 29, 30, 31, 32, 33, 34, 35, 36, 37, 38, 39, 40, 41, 42, 43, 44, 45, 46, 47, 48, 49, 50, 51, 52, 53, 54] rfl (by decide +kernel)
set_option maxRecDepth 20000 in
theorem gX9_arrange_X9_ordered : GoodIn wsX9_arrange (wsV RX9 123 RX9 yX9_ordered wsX9_ordered) := goodIn_app (goodIn_of _ (by decide +kernel)) ggX9_arrange_X9_ordered
set_option maxRecDepth 20000 in
theorem ggX9_isAdded_X9_ordered : GoodIn wsX9_isAdded wsX9_ordered := goodIn_r _ [7, 8, 9, 10, 11, 12, 13, 14, 6, 15, 16, 32, 33, 34, 35, 36, 37, 38, 39, 40, 41, 42, 43, 44, 45, 46, 47, 48, 49, 50, 51, 52, 53, 54, 55, 56, 57, 58, 59, 60, 61, 62, 63, 64, 65, 66, 67] rfl (by decide +kernel)
set_option maxRecDepth 20000 in
theorem gX9_isAdded_X9_ordered : GoodIn wsX9_isAdded (wsV RX9 123 RX9 yX9_ordered wsX9_ordered) := goodIn_app (goodIn_of _ (by decide +kernel)) ggX9_isAdded_X9_ordered
set_option maxRecDepth 20000 in
theorem ggX9_isAdded_X9_has : GoodIn wsX9_isAdded wsX9_has := goodIn_r _ [20, 21, 22, 23, 32, 33, 34, 35, 36, 37, 38, 39, 40, 41, 42, 43, 44, 45, 46, 47, 48, 49, 50, 51, 52, 53, 54, 55, 56, 57, 58, 59, 60, 61, 62, 63, 64, 65, 66, 67] rfl (by decide +kernel)
set_option maxRecDepth 20000 in
theorem gX9_isAdded_X9_has : GoodIn wsX9_isAdded (wsV RX9 133 RX9 yX9_has wsX9_has) := goodIn_app (goodIn_of _ (by decide +kernel)) ggX9_isAdded_X9_has
set_option maxRecDepth 20000 in
theorem ggX9_isAdded_X9_overflows : GoodIn wsX9_isAdded wsX9_overflows := goodIn_r _ [27, 23, 2, 22, 32, 33, 34, 35, 36, 37, 38, 39, 40, 41, 42, 43, 44, 45, 46, 47, 48, 49, 50, 51, 52, 53, 54, 55, 56, 57, 58, 59, 60, 61, 62, 63, 64, 65, 66, 67] rfl (by decide +kernel)
set_option maxRecDepth 20000 in
theorem gX9_isAdded_X9_overflows : GoodIn wsX9_isAdded (wsV RX9 137 RX9 yX9_overflows wsX9_overflows) := goodIn_app (goodIn_of _ (by decide +kernel)) ggX9_isAdded_X9_overflows
set_option maxRecDepth 20000 in
theorem ggX9_isAdded_X9_add : GoodIn wsX9_isAdded wsX9_add := goodIn_r _ [31, 23, 22, 2, 32, 33, 34, 35, 36, 37, 38, 39, 40, 41, 42, 43, 44, 45, 46, 47, 48, 49, 50, 51, 52, 53, 54, 55, 56, 57, 58, 59, 60, 61, 62, 63, 64, 65, 66, 67] rfl (by decide +kernel)
set_option maxRecDepth 20000 in
theorem gX9_isAdded_X9_add : GoodIn wsX9_isAdded (wsV RX9 140 RX9 yX9_add wsX9_add) := goodIn_app (goodIn_of _ (by decide +kernel)) ggX9_isAdded_X9_add
set_option maxRecDepth 20000 in
theorem ggX9_summed_X9_isAdded : GoodIn wsX9_summed wsX9_isAdded := goodIn_r _ [9, 10, 11, 12, 13, 14, 8, 15, 16, 17, 18, 19, 20, 21, 22, 23, 24, 25, 26, 27, 28, 29, 30, 31, 32, 33, 34, 35, 36, 37, 38, 39, 40, 41, 42, 43, 44, 45, 46, 47, 48, 49, 50, 51, 52, 53, 54, 55, 56, 57, 58, 59, 60, 61, 62, 63, 64, 65, 66, 67, 68, 69, 70, 71, 72, 73, 74, 75] rfl (by decide +kernel)
set_option maxRecDepth 20000 in
theorem gX9_summed_X9_isAdded : GoodIn wsX9_summed (wsV RX9 147 RX9 yX9_isAdded wsX9_isAdded) := goodIn_app (goodIn_of _ (by decide +kernel)) ggX9_summed_X9_isAdded
set_option maxRecDepth 20000 in
theorem ggX9_sort_X9_duplicate : GoodIn wsX9_sort wsX9_duplicate := goodIn_r _ [16, 17, 3, 18, 19, 20, 21, 83, 84, 85, 86, 87, 88, 89, 90, 91, 92, 93, 94, 95, 96, 97, 98, 99, 100, 101, 102, 103, 104, 105, 106, 107, 108, 109, 110, 111, 112, 113, 114, 115, 116, 117, 118] rfl (by decide +kernel)
set_option maxRecDepth 20000 in
theorem gX9_sort_X9_duplicate : GoodIn wsX9_sort (wsV RX9 150 RX9 yX9_duplicate wsX9_duplicate) := goodIn_app (goodIn_of _ (by decide +kernel)) ggX9_sort_X9_duplicate
set_option maxRecDepth 20000 in
theorem ggX9_sort_X9_isLet : GoodIn wsX9_sort wsX9_isLet := goodIn_r _ [25, 17, 26, 27, 28, 83, 84, 85, 86, 87, 88, 89, 90, 91, 92, 93, 94, 95, 96, 97, 98, 99, 100, 101, 102, 103, 104, 105, 106, 107, 108, 109, 110, 111, 112, 113, 114, 115, 116, 117, 118] rfl (by decide +kernel)
set_option maxRecDepth 20000 in
theorem gX9_sort_X9_isLet : GoodIn wsX9_sort (wsV RX9 154 RX9 yX9_isLet wsX9_isLet) := goodIn_app (goodIn_of _ (by decide +kernel)) ggX9_sort_X9_isLet
set_option maxRecDepth 20000 in
theorem ggX9_sort_X9_passes : GoodIn wsX9_sort wsX9_passes := goodIn_r _ [32, 4, 33, 21, 34, 35, 19, 17, 83, 84, 85, 86, 87, 88, 89, 90, 91, 92, 93, 94, 95, 96, 97, 98, 99, 100, 101, 102, 103, 104, 105, 106, 107, 108, 109, 110, 111, 112, 113, 114, 115, 116, 117, 118] rfl (by decide +kernel)
set_option maxRecDepth 20000 in
theorem gX9_sort_X9_passes : GoodIn wsX9_sort (wsV RX9 157 RX9 yX9_passes wsX9_passes) := goodIn_app (goodIn_of _ (by decide +kernel)) ggX9_sort_X9_passes
set_option maxRecDepth 20000 in
theorem ggX9_sort_X9_arrange : GoodIn wsX9_sort wsX9_arrange := goodIn_r _ [39, 3, 40, 17, 21, 41, 42, 43, 15, 44, 45, 46, 47, 48, 49, 50, 51, 52, 53, 83, 84, 85, 86, 87, 88, 89, 90, 91, 92, 93, 94, 95, 96, 97, 98, 99, 100, 101, 102, 103, 104, 105, 106, 107, 108, 109, 110, 111, 112, 113, 114, 115, 116, 117, 118] rfl (by decide +kernel)
set_option maxRecDepth 20000 in
theorem gX9_sort_X9_arrange : GoodIn wsX9_sort (wsV RX9 161 RX9 yX9_arrange wsX9_arrange) := goodIn_app (goodIn_of _ (by decide +kernel)) ggX9_sort_X9_arrange
set_option maxRecDepth 20000 in
theorem ggX9_sort_X9_summed : GoodIn wsX9_sort wsX9_summed := goodIn_r _ [57, 7, 3, 8, 40, 58, 59, 60, 15, 61, 62, 17, 41, 42, 43, 44, 45, 46, 47, 48, 49, 50, 51, 52, 53, 63, 64, 65, 66, 19, 67, 68, 69, 70, 71, 72, 73, 74, 75, 76, 83, 84, 85, 86, 87, 88, 89, 90, 91, 92, 93, 94, 95, 96, 97, 98, 99, 100, 101, 102, 103, 104, 105, 106, 107, 108, 109, 110, 111, 112, 113, 114, 115, 116, 117, 118] rfl (by decide +kernel)
set_option maxRecDepth 20000 in
theorem gX9_sort_X9_summed : GoodIn wsX9_sort (wsV RX9 165 RX9 yX9_summed wsX9_summed) := goodIn_app (goodIn_of _ (by decide +kernel)) ggX9_sort_X9_summed
set_option maxRecDepth 20000 in
theorem ggX9_sort_X9_comes : GoodIn wsX9_sort wsX9_comes := goodIn_r _ [80, 2, 81, 82, 7, 83, 84, 85, 86, 87, 88, 89, 90, 91, 92, 93, 94, 95, 96, 97, 98, 99, 100, 101, 102, 103, 104, 105, 106, 107, 108, 109, 110, 111, 112, 113, 114, 115, 116, 117, 118] rfl (by decide +kernel)
set_option maxRecDepth 20000 in
theorem gX9_sort_X9_comes : GoodIn wsX9_sort (wsV RX9 169 RX9 yX9_comes wsX9_comes) := goodIn_app (goodIn_of _ (by decide +kernel)) ggX9_sort_X9_comes
set_option maxRecDepth 20000 in
theorem ggX9_merge_X9_isRecord : GoodIn wsX9_merge wsX9_isRecord := goodIn_r _ [8, 9, 10, 11, 12, 13, 14, 15, 16, 17, 18, 19, 20, 21, 22, 23, 24, 25, 26, 27, 28, 29, 30, 31, 32, 33, 34, 35, 36, 37, 38, 39, 40, 41, 42, 43, 44, 45] rfl (by decide +kernel)
set_option maxRecDepth 20000 in
theorem gX9_merge_X9_isRecord : GoodIn wsX9_merge (wsV RX9 101 RX9 yX9_isRecord wsX9_isRecord) := goodIn_app (goodIn_of _ (by decide +kernel)) ggX9_merge_X9_isRecord
set_option maxRecDepth 20000 in
theorem ggX9_mergeAll_X9_ordered : GoodIn wsX9_mergeAll wsX9_ordered := goodIn_r _ [14, 15, 16, 17, 18, 19, 20, 21, 13, 22, 23, 42, 43, 44, 45, 46, 47, 48, 49, 50, 51, 52, 53, 54, 55, 56, 57, 58, 59, 60, 61, 62, 63, 64, 65, 66, 67, 68, 69, 70, 71, 72, 73, 74, 75, 76, 77] rfl (by decide +kernel)
set_option maxRecDepth 20000 in
theorem gX9_mergeAll_X9_ordered : GoodIn wsX9_mergeAll (wsV RX9 123 RX9 yX9_ordered wsX9_ordered) := goodIn_app (goodIn_of _ (by decide +kernel)) ggX9_mergeAll_X9_ordered
set_option maxRecDepth 20000 in
theorem ggX9_mergeAll_X9_duplicate : GoodIn wsX9_mergeAll wsX9_duplicate := goodIn_r _ [27, 28, 6, 4, 29, 30, 31, 42, 43, 44, 45, 46, 47, 48, 49, 50, 51, 52, 53, 54, 55, 56, 57, 58, 59, 60, 61, 62, 63, 64, 65, 66, 67, 68, 69, 70, 71, 72, 73, 74, 75, 76, 77] rfl (by decide +kernel)
set_option maxRecDepth 20000 in
theorem gX9_mergeAll_X9_duplicate : GoodIn wsX9_mergeAll (wsV RX9 150 RX9 yX9_duplicate wsX9_duplicate) := goodIn_app (goodIn_of _ (by decide +kernel)) ggX9_mergeAll_X9_duplicate
set_option maxRecDepth 20000 in
theorem ggX9_mergeAll_X9_arrange : GoodIn wsX9_mergeAll wsX9_arrange := goodIn_r _ [35, 6, 8, 28, 31, 10, 11, 12, 13, 14, 15, 16, 17, 18, 19, 20, 21, 22, 23, 42, 43, 44, 45, 46, 47, 48, 49, 50, 51, 52, 53, 54, 55, 56, 57, 58, 59, 60, 61, 62, 63, 64, 65, 66, 67, 68, 69, 70, 71, 72, 73, 74, 75, 76, 77] rfl (by decide +kernel)
set_option maxRecDepth 20000 in
theorem gX9_mergeAll_X9_arrange : GoodIn wsX9_mergeAll (wsV RX9 161 RX9 yX9_arrange wsX9_arrange) := goodIn_app (goodIn_of _ (by decide +kernel)) ggX9_mergeAll_X9_arrange
set_option maxRecDepth 20000 in
theorem ggX9_mergeAll_X9_comes : GoodIn wsX9_mergeAll wsX9_comes := goodIn_r _ [39, 2, 40, 41, 9, 42, 43, 44, 45, 46, 47, 48, 49, 50, 51, 52, 53, 54, 55, 56, 57, 58, 59, 60, 61, 62, 63, 64, 65, 66, 67, 68, 69, 70, 71, 72, 73, 74, 75, 76, 77] rfl (by decide +kernel)
set_option maxRecDepth 20000 in
theorem gX9_mergeAll_X9_comes : GoodIn wsX9_mergeAll (wsV RX9 169 RX9 yX9_comes wsX9_comes) := goodIn_app (goodIn_of _ (by decide +kernel)) ggX9_mergeAll_X9_comes
