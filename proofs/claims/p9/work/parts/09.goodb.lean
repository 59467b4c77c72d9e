set_option maxRecDepth 20000 in
theorem gX8_octet_X5_lengthOf : GoodIn wsX8_octet (wsV RX8 129 RX5 yX5_lengthOf wsX5_lengthOf) := goodIn_app (goodIn_of _ (by decide +kernel)) ggX8_octet_X5_lengthOf
set_option maxRecDepth 20000 in
theorem ggX8_include_X0_tell : GoodIn wsX8_include wsX0_tell := goodIn_r _ [6, 7, 8, 9, 29, 30, 31] rfl (by decide +kernel)
set_option maxRecDepth 20000 in
theorem gX8_include_X0_tell : GoodIn wsX8_include (wsV RX8 132 RX0 yX0_tell wsX0_tell) := goodIn_app (goodIn_of _ (by decide +kernel)) ggX8_include_X0_tell
set_option maxRecDepth 20000 in
theorem ggX8_sum_X8_isField : GoodIn wsX8_sum wsX8_isField := goodIn_r _ [5] rfl (by decide +kernel)
set_option maxRecDepth 20000 in
theorem gX8_sum_X8_isField : GoodIn wsX8_sum (va_wsS RX8 134 yX8_isField wsX8_isField) := goodIn_app (goodIn_of _ (by decide +kernel)) ggX8_sum_X8_isField
set_option maxRecDepth 20000 in
theorem ggX8_sum_X6_tell : GoodIn wsX8_sum wsX6_tell := goodIn_r _ [10, 11, 12, 13, 33, 34, 35, 36] rfl (by decide +kernel)
set_option maxRecDepth 20000 in
theorem gX8_sum_X6_tell : GoodIn wsX8_sum (wsV RX8 137 RX6 yX6_tell wsX6_tell) := goodIn_app (goodIn_of _ (by decide +kernel)) ggX8_sum_X6_tell
set_option maxRecDepth 20000 in
theorem ggX8_exit_X1_tell : GoodIn wsX8_exit wsX1_tell := goodIn_r _ [7, 8, 9, 29, 30, 31] rfl (by decide +kernel)
set_option maxRecDepth 20000 in
theorem gX8_exit_X1_tell : GoodIn wsX8_exit (wsV RX8 140 RX1 yX1_tell wsX1_tell) := goodIn_app (goodIn_of _ (by decide +kernel)) ggX8_exit_X1_tell
set_option maxRecDepth 20000 in
theorem ggX8_release_X8_isRecord : GoodIn wsX8_release wsX8_isRecord := goodIn_r _ [8, 9, 10, 11, 12, 13, 14, 15, 16, 17, 18, 19, 20, 21, 22, 23, 24, 25, 26, 27, 28, 29, 30, 31, 32, 33, 34, 35, 36, 37, 38, 39] rfl (by decide +kernel)
set_option maxRecDepth 20000 in
theorem gX8_release_X8_isRecord : GoodIn wsX8_release (wsV RX8 121 RX8 yX8_isRecord wsX8_isRecord) := goodIn_app (goodIn_of _ (by decide +kernel)) ggX8_release_X8_isRecord
set_option maxRecDepth 20000 in
theorem ggX8_sort_X7_clear : GoodIn wsX8_sort wsX7_clear := goodIn_r _ [17, 18, 19, 20, 21, 22, 253, 254, 255, 256, 257] rfl (by decide +kernel)
set_option maxRecDepth 20000 in
theorem gX8_sort_X7_clear : GoodIn wsX8_sort (wsV RX8 146 RX7 yX7_clear wsX7_clear) := goodIn_app (goodIn_of _ (by decide +kernel)) ggX8_sort_X7_clear
set_option maxRecDepth 20000 in
theorem ggX8_sort_X8_takeIn : GoodIn wsX8_sort wsX8_takeIn := goodIn_r _ [27, 28, 5, 29, 12, 30, 31, 32, 4, 33, 34, 35, 36, 37, 38, 39, 40, 41, 42, 43, 44, 45, 46, 47, 48, 49, 50, 51, 52, 53, 54, 55, 56, 57, 58, 59, 60, 61, 62, 63, 64, 65, 66, 67, 68, 69, 70, 71, 72, 73, 74, 75, 76, 77, 78, 79, 80, 81, 82, 83, 84, 85, 86, 87, 88, 89, 90, 91, 92, 93, 94, 95, 96, 97, 98, 99, 100, 101, 102, 103, 104, 105, 106, 107, 108, 234, 235, 236, 237, 238, 239, 240, 241, 242, 243, 244, 245, 246, 247, 248, 249, 250, 251, 252, 253, 254, 255, 256, 257, 258, 259, 260, 261, 262, 263, 264, 265, 266, 267, 268, 269, 270, 271, 272, 273, 274, 275, 276, 277] rfl (by decide +kernel)
set_option maxRecDepth 20000 in
theorem gX8_sort_X8_takeIn : GoodIn wsX8_sort (wsV RX8 149 RX8 yX8_takeIn wsX8_takeIn) := goodIn_app (goodIn_of _ (by decide +kernel)) ggX8_sort_X8_takeIn
set_option maxRecDepth 20000 in
theorem ggX8_sort_X4_orderBy : GoodIn wsX8_sort wsX4_orderBy := goodIn_r _ [112, 113, 263, 264, 265, 266, 267, 268, 269, 270, 271] rfl (by decide +kernel)
set_option maxRecDepth 20000 in
theorem gX8_sort_X4_orderBy : GoodIn wsX8_sort (wsV RX8 152 RX4 yX4_orderBy wsX4_orderBy) := goodIn_app (goodIn_of _ (by decide +kernel)) ggX8_sort_X4_orderBy
set_option maxRecDepth 20000 in
theorem ggX8_sort_X4_makeRuns : GoodIn wsX8_sort wsX4_makeRuns := goodIn_r _ [117, 118, 97, 98, 99, 46, 45, 119, 120, 121, 122, 123, 124, 125, 43, 126, 108, 127, 73, 74, 75, 128, 129, 130, 131, 132, 133, 113, 134, 135, 136, 137, 138, 139, 140, 141, 142, 143, 144, 145, 146, 147, 62, 63, 37, 64, 39, 65, 66, 148, 149, 150, 151, 152, 153, 154, 155, 156, 157, 158, 159, 160, 161, 71, 162, 163, 164, 165, 263, 264, 265, 266, 267, 268, 269, 270, 271, 278, 279, 280, 281, 282, 258, 259, 260, 261, 262] rfl (by decide +kernel)
set_option maxRecDepth 20000 in
theorem gX8_sort_X4_makeRuns : GoodIn wsX8_sort (wsV RX8 156 RX4 yX4_makeRuns wsX4_makeRuns) := goodIn_app (goodIn_of _ (by decide +kernel)) ggX8_sort_X4_makeRuns
set_option maxRecDepth 20000 in
theorem ggX8_sort_X4_mergeRuns : GoodIn wsX8_sort wsX4_mergeRuns := goodIn_r _ [169, 118, 97, 98, 99, 120, 121, 122, 46, 119, 170, 108, 45, 127, 73, 74, 75, 171, 172, 173, 43, 174, 175, 128, 129, 130, 131, 132, 133, 113, 134, 135, 136, 137, 138, 139, 140, 141, 142, 143, 144, 145, 146, 147, 62, 63, 37, 64, 39, 65, 66, 148, 149, 150, 151, 152, 153, 154, 155, 156, 157, 158, 159, 160, 161, 71, 162, 163, 164, 165, 263, 264, 265, 266, 267, 268, 269, 270, 271, 278, 279, 280, 281, 282, 258, 259, 260, 261, 262] rfl (by decide +kernel)
set_option maxRecDepth 20000 in
theorem gX8_sort_X4_mergeRuns : GoodIn wsX8_sort (wsV RX8 162 RX4 yX4_mergeRuns wsX4_mergeRuns) := goodIn_app (goodIn_of _ (by decide +kernel)) ggX8_sort_X4_mergeRuns
set_option maxRecDepth 20000 in
theorem ggX8_sort_X8_addEqualOnes : GoodIn wsX8_sort wsX8_addEqualOnes := goodIn_r _ [179, 180, 5, 181, 28, 4, 182, 183, 184, 185, 186, 187, 188, 189, 190, 191, 43, 192, 45, 193, 194, 195, 196, 108, 197, 135, 136, 137, 138, 139, 140, 141, 142, 143, 144, 145, 146, 147, 62, 63, 37, 64, 39, 65, 66, 148, 149, 150, 151, 152, 153, 154, 155, 156, 157, 198, 199, 200, 201, 202, 121, 98, 122, 203, 204, 205, 206, 88, 89, 90, 207, 208, 209, 210, 211, 212, 93, 94, 95, 96, 97, 99, 213, 214, 215, 216, 217, 218, 219, 220, 118, 120, 234, 235, 236, 237, 238, 239, 240, 241, 242, 243, 244, 245, 246, 247, 248, 249, 250, 251, 252, 253, 254, 255, 256, 257, 283, 284, 285, 286, 263, 264, 265, 266, 267, 268, 269, 270, 271, 278, 279, 280, 281, 282, 258, 259, 260, 261, 262] rfl (by decide +kernel)
set_option maxRecDepth 20000 in
theorem gX8_sort_X8_addEqualOnes : GoodIn wsX8_sort (wsV RX8 168 RX8 yX8_addEqualOnes wsX8_addEqualOnes) := goodIn_app (goodIn_of _ (by decide +kernel)) ggX8_sort_X8_addEqualOnes
set_option maxRecDepth 20000 in
theorem ggX8_sort_X8_passOut : GoodIn wsX8_sort wsX8_passOut := goodIn_r _ [224, 225, 5, 28, 4, 226, 47, 48, 49, 50, 51, 52, 189, 190, 191, 43, 192, 45, 193, 194, 195, 196, 108, 81, 82, 83, 84, 85, 86, 87, 88, 89, 37, 90, 39, 65, 91, 62, 63, 64, 66, 92, 93, 94, 95, 96, 97, 98, 99, 227, 159, 160, 161, 71, 213, 214, 215, 216, 217, 218, 219, 220, 118, 120, 121, 122, 234, 235, 236, 237, 238, 239, 240, 241, 242, 243, 244, 245, 246, 247, 248, 249, 250, 251, 252, 253, 254, 255, 256, 257, 272, 273, 274, 263, 264, 265, 266, 267, 268, 269, 270, 271, 258, 259, 260, 261, 262] rfl (by decide +kernel)
set_option maxRecDepth 20000 in
theorem gX8_sort_X8_passOut : GoodIn wsX8_sort (wsV RX8 171 RX8 yX8_passOut wsX8_passOut) := goodIn_app (goodIn_of _ (by decide +kernel)) ggX8_sort_X8_passOut
set_option maxRecDepth 20000 in
theorem ggX8_sort_X8_beginOutput : GoodIn wsX8_sort wsX8_beginOutput := goodIn_r _ [231, 3, 232, 233, 5, 189, 190, 191, 43, 192, 45, 234, 235, 236, 237, 238, 239, 240, 241, 242, 243, 244, 245, 246, 247, 248, 249, 250, 251, 252, 263, 264, 265, 266, 267, 268, 269, 270, 271] rfl (by decide +kernel)
set_option maxRecDepth 20000 in
theorem gX8_sort_X8_beginOutput : GoodIn wsX8_sort (wsV RX8 182 RX8 yX8_beginOutput wsX8_beginOutput) := goodIn_app (goodIn_of _ (by decide +kernel)) ggX8_sort_X8_beginOutput
set_option maxRecDepth 20000 in
theorem ggX8_next_X4_held : GoodIn wsX8_next wsX4_held := goodIn_r _ [10, 11, 43, 44, 45, 46, 47, 48, 49, 50, 51] rfl (by decide +kernel)
set_option maxRecDepth 20000 in
theorem gX8_next_X4_held : GoodIn wsX8_next (wsV RX8 188 RX4 yX4_held wsX4_held) := goodIn_app (goodIn_of _ (by decide +kernel)) ggX8_next_X4_held
set_option maxRecDepth 20000 in
theorem ggX8_next_X4_at : GoodIn wsX8_next wsX4_at := goodIn_r _ [15, 11, 16, 43, 44, 45, 46, 47, 48, 49, 50, 51] rfl (by decide +kernel)
set_option maxRecDepth 20000 in
theorem gX8_next_X4_at : GoodIn wsX8_next (wsV RX8 189 RX4 yX4_at wsX4_at) := goodIn_app (goodIn_of _ (by decide +kernel)) ggX8_next_X4_at
set_option maxRecDepth 20000 in
theorem ggX8_next_X5_numberOf : GoodIn wsX8_next wsX5_numberOf := goodIn_r _ [21, 22, 23, 52, 53, 54, 55, 56] rfl (by decide +kernel)
set_option maxRecDepth 20000 in
theorem gX8_next_X5_numberOf : GoodIn wsX8_next (wsV RX8 118 RX5 yX5_numberOf wsX5_numberOf) := goodIn_app (goodIn_of _ (by decide +kernel)) ggX8_next_X5_numberOf
set_option maxRecDepth 20000 in
theorem ggX8_value_X5_lengthOf : GoodIn wsX8_value wsX5_lengthOf := goodIn_r _ [7, 8, 9, 34, 35, 36, 37, 38] rfl (by decide +kernel)
set_option maxRecDepth 20000 in
theorem gX8_value_X5_lengthOf : GoodIn wsX8_value (wsV RX8 129 RX5 yX5_lengthOf wsX5_lengthOf) := goodIn_app (goodIn_of _ (by decide +kernel)) ggX8_value_X5_lengthOf
set_option maxRecDepth 20000 in
theorem ggX8_value_X5_byteAt : GoodIn wsX8_value wsX5_byteAt := goodIn_r _ [13, 8, 9, 14, 34, 35, 36, 37, 38] rfl (by decide +kernel)
set_option maxRecDepth 20000 in
theorem gX8_value_X5_byteAt : GoodIn wsX8_value (wsV RX8 192 RX5 yX5_byteAt wsX5_byteAt) := goodIn_app (goodIn_of _ (by decide +kernel)) ggX8_value_X5_byteAt
set_option maxRecDepth 20000 in
theorem ggX8_merge_X8_isRecord : GoodIn wsX8_merge wsX8_isRecord := goodIn_r _ [6, 7, 8, 9, 10, 11, 12, 13, 22, 23, 24, 25, 26, 27, 28, 29, 30, 31, 32, 33, 34, 35, 36, 37, 38, 39, 40, 41, 42, 43, 44, 45] rfl (by decide +kernel)
set_option maxRecDepth 20000 in
theorem gX8_merge_X8_isRecord : GoodIn wsX8_merge (wsV RX8 121 RX8 yX8_isRecord wsX8_isRecord) := goodIn_app (goodIn_of _ (by decide +kernel)) ggX8_merge_X8_isRecord
set_option maxRecDepth 20000 in
theorem ggX8_merge_X2_add : GoodIn wsX8_merge wsX2_add := goodIn_r _ [18, 19, 20, 21, 46, 47, 48] rfl (by decide +kernel)
set_option maxRecDepth 20000 in
theorem gX8_merge_X2_add : GoodIn wsX8_merge (wsV RX8 195 RX2 yX2_add wsX2_add) := goodIn_app (goodIn_of _ (by decide +kernel)) ggX8_merge_X2_add
set_option maxRecDepth 20000 in
theorem ggX8_mergeAll_X2_firstOutOfOrder : GoodIn wsX8_mergeAll wsX2_firstOutOfOrder := goodIn_r _ [10, 11, 12, 13, 14, 9, 15, 16, 17, 18, 19, 20, 21, 22, 23, 24, 25, 26, 27, 28, 29, 30, 31, 32, 33, 34, 35, 36, 37, 38, 39, 40, 41, 42, 43, 44, 45, 46, 47, 48, 49, 50, 51, 168, 169, 170, 171, 172, 173, 174, 175, 176, 177, 178, 179, 180] rfl (by decide +kernel)
set_option maxRecDepth 20000 in
theorem gX8_mergeAll_X2_firstOutOfOrder : GoodIn wsX8_mergeAll (wsV RX8 197 RX2 yX2_firstOutOfOrder wsX2_firstOutOfOrder) := goodIn_app (goodIn_of _ (by decide +kernel)) ggX8_mergeAll_X2_firstOutOfOrder
set_option maxRecDepth 20000 in
theorem ggX8_mergeAll_X8_copyInputs : GoodIn wsX8_mergeAll wsX8_copyInputs := goodIn_r _ [56, 57, 5, 2, 3, 58, 59, 60, 37, 61, 39, 62, 63, 64, 65, 66, 67, 68, 69, 70, 71, 72, 73, 74, 18, 19, 9, 20, 11, 75, 13, 14, 15, 16, 17, 76, 77, 78, 79, 80, 40, 41, 81, 82, 83, 84, 85, 86, 87, 88, 89, 90, 91, 92, 93, 94, 95, 96, 97, 98, 149, 150, 151, 152, 153, 154, 155, 156, 157, 158, 159, 160, 161, 162, 163, 164, 165, 166, 167, 176, 177, 178, 179, 180, 181, 182, 183, 184, 185, 186, 187, 188, 189, 168, 169, 170] rfl (by decide +kernel)
set_option maxRecDepth 20000 in
theorem gX8_mergeAll_X8_copyInputs : GoodIn wsX8_mergeAll (wsV RX8 201 RX8 yX8_copyInputs wsX8_copyInputs) := goodIn_app (goodIn_of _ (by decide +kernel)) ggX8_mergeAll_X8_copyInputs
set_option maxRecDepth 20000 in
theorem ggX8_mergeAll_X4_orderBy : GoodIn wsX8_mergeAll wsX4_orderBy := goodIn_r _ [102, 103, 181, 182, 183, 184, 185, 186, 187, 188, 189] rfl (by decide +kernel)
set_option maxRecDepth 20000 in
theorem gX8_mergeAll_X4_orderBy : GoodIn wsX8_mergeAll (wsV RX8 152 RX4 yX4_orderBy wsX4_orderBy) := goodIn_app (goodIn_of _ (by decide +kernel)) ggX8_mergeAll_X4_orderBy
set_option maxRecDepth 20000 in
theorem ggX8_mergeAll_X4_mergeRuns : GoodIn wsX8_mergeAll wsX4_mergeRuns := goodIn_r _ [107, 108, 109, 110, 111, 112, 113, 114, 68, 73, 115, 94, 67, 116, 82, 83, 84, 117, 118, 119, 65, 120, 121, 122, 123, 124, 125, 126, 127, 103, 128, 22, 23, 24, 25, 26, 27, 28, 29, 30, 31, 32, 33, 34, 35, 36, 37, 38, 39, 40, 41, 42, 43, 44, 45, 46, 47, 48, 49, 50, 51, 129, 130, 131, 132, 80, 133, 96, 97, 98, 181, 182, 183, 184, 185, 186, 187, 188, 189, 171, 172, 173, 174, 175, 176, 177, 178, 179, 180] rfl (by decide +kernel)
set_option maxRecDepth 20000 in
theorem gX8_mergeAll_X4_mergeRuns : GoodIn wsX8_mergeAll (wsV RX8 162 RX4 yX4_mergeRuns wsX4_mergeRuns) := goodIn_app (goodIn_of _ (by decide +kernel)) ggX8_mergeAll_X4_mergeRuns
set_option maxRecDepth 20000 in
theorem ggX8_mergeAll_X2_clear : GoodIn wsX8_mergeAll wsX2_clear := goodIn_r _ [137, 11, 138, 168, 169, 170] rfl (by decide +kernel)
set_option maxRecDepth 20000 in
theorem gX8_mergeAll_X2_clear : GoodIn wsX8_mergeAll (wsV RX8 204 RX2 yX2_clear wsX2_clear) := goodIn_app (goodIn_of _ (by decide +kernel)) ggX8_mergeAll_X2_clear
set_option maxRecDepth 20000 in
theorem ggX8_mergeAll_X8_beginOutput : GoodIn wsX8_mergeAll wsX8_beginOutput := goodIn_r _ [142, 1, 143, 144, 5, 145, 146, 147, 65, 148, 67, 149, 150, 151, 152, 153, 154, 155, 156, 157, 158, 159, 160, 161, 162, 163, 164, 165, 166, 167, 181, 182, 183, 184, 185, 186, 187, 188, 189] rfl (by decide +kernel)
set_option maxRecDepth 20000 in
theorem gX8_mergeAll_X8_beginOutput : GoodIn wsX8_mergeAll (wsV RX8 182 RX8 yX8_beginOutput wsX8_beginOutput) := goodIn_app (goodIn_of _ (by decide +kernel)) ggX8_mergeAll_X8_beginOutput
set_option maxRecDepth 20000 in
theorem ggX8_compare_X8_isRecord : GoodIn wsX8_compare wsX8_isRecord := goodIn_r _ [9, 4, 10, 11, 12, 13, 14, 15, 45, 46, 47, 48, 49, 50, 51, 52, 53, 54, 55, 56, 57, 58, 59, 60, 61, 62, 63, 64, 65, 66, 67, 68] rfl (by decide +kernel)
set_option maxRecDepth 20000 in
theorem gX8_compare_X8_isRecord : GoodIn wsX8_compare (wsV RX8 121 RX8 yX8_isRecord wsX8_isRecord) := goodIn_app (goodIn_of _ (by decide +kernel)) ggX8_compare_X8_isRecord
set_option maxRecDepth 20000 in
theorem ggX8_compare_X3_order : GoodIn wsX8_compare wsX3_order := goodIn_r _ [20, 21, 22, 23, 24, 25, 26, 27, 19, 28, 29, 30, 31, 13, 32, 15, 33, 34, 35, 36, 37, 38, 39, 40, 41, 42, 43, 44, 69, 70, 71, 72, 73, 64, 65, 66, 67, 68] rfl (by decide +kernel)
set_option maxRecDepth 20000 in
theorem gX8_compare_X3_order : GoodIn wsX8_compare (wsV RX8 210 RX3 yX3_order wsX3_order) := goodIn_app (goodIn_of _ (by decide +kernel)) ggX8_compare_X3_order
set_option maxRecDepth 20000 in
theorem ggX8_count_X3_told : GoodIn wsX8_count wsX3_told := goodIn_r _ [16, 17, 54, 55, 56, 57, 58] rfl (by decide +kernel)
set_option maxRecDepth 20000 in
theorem gX8_count_X3_told : GoodIn wsX8_count (wsV RX8 214 RX3 yX3_told wsX3_told) := goodIn_app (goodIn_of _ (by decide +kernel)) ggX8_count_X3_told
set_option maxRecDepth 20000 in
theorem ggX8_count_X5_held : GoodIn wsX8_count wsX5_held := goodIn_r _ [22, 23, 59, 60, 61, 62, 63] rfl (by decide +kernel)
set_option maxRecDepth 20000 in
theorem gX8_count_X5_held : GoodIn wsX8_count (wsV RX8 110 RX5 yX5_held wsX5_held) := goodIn_app (goodIn_of _ (by decide +kernel)) ggX8_count_X5_held
set_option maxRecDepth 20000 in
theorem ggX8_count_X2_all : GoodIn wsX8_count wsX2_all := goodIn_r _ [28, 29, 64, 65, 66] rfl (by decide +kernel)
set_option maxRecDepth 20000 in
theorem gX8_count_X2_all : GoodIn wsX8_count (wsV RX8 226 RX2 yX2_all wsX2_all) := goodIn_app (goodIn_of _ (by decide +kernel)) ggX8_count_X2_all
set_option maxRecDepth 20000 in
theorem ggX8_isRecord_X5_held : GoodIn wsX8_isRecord wsX5_held := goodIn_r _ [6, 7, 27, 28, 29, 30, 31] rfl (by decide +kernel)
set_option maxRecDepth 20000 in
theorem gX8_isRecord_X5_held : GoodIn wsX8_isRecord (wsV RX8 110 RX5 yX5_held wsX5_held) := goodIn_app (goodIn_of _ (by decide +kernel)) ggX8_isRecord_X5_held
set_option maxRecDepth 20000 in
theorem ggX8_takeIn_X5_clear : GoodIn wsX8_takeIn wsX5_clear := goodIn_r _ [14, 15, 109, 110, 111, 112, 113] rfl (by decide +kernel)
set_option maxRecDepth 20000 in
theorem gX8_takeIn_X5_clear : GoodIn wsX8_takeIn (wsV RX8 229 RX5 yX5_clear wsX5_clear) := goodIn_app (goodIn_of _ (by decide +kernel)) ggX8_takeIn_X5_clear
set_option maxRecDepth 20000 in
theorem ggX8_takeIn_X4_clear : GoodIn wsX8_takeIn wsX4_clear := goodIn_r _ [20, 21, 22, 114, 115, 116, 117, 118, 119, 120, 121, 122] rfl (by decide +kernel)
set_option maxRecDepth 20000 in
theorem gX8_takeIn_X4_clear : GoodIn wsX8_takeIn (wsV RX8 230 RX4 yX4_clear wsX4_clear) := goodIn_app (goodIn_of _ (by decide +kernel)) ggX8_takeIn_X4_clear
set_option maxRecDepth 20000 in
theorem ggX8_takeIn_X1_restart : GoodIn wsX8_takeIn wsX1_restart := goodIn_r _ [27, 28, 123, 124, 125] rfl (by decide +kernel)
set_option maxRecDepth 20000 in
theorem gX8_takeIn_X1_restart : GoodIn wsX8_takeIn (wsV RX8 231 RX1 yX1_restart wsX1_restart) := goodIn_app (goodIn_of _ (by decide +kernel)) ggX8_takeIn_X1_restart
set_option maxRecDepth 20000 in
theorem ggX8_takeIn_X0_letsThrough : GoodIn wsX8_takeIn wsX0_letsThrough := goodIn_r _ [33, 34, 35, 36, 37, 38, 39, 13, 40, 15, 41, 42, 126, 127, 128, 109, 110, 111, 112, 113] rfl (by decide +kernel)
set_option maxRecDepth 20000 in
theorem gX8_takeIn_X0_letsThrough : GoodIn wsX8_takeIn (wsV RX8 234 RX0 yX0_letsThrough wsX0_letsThrough) := goodIn_app (goodIn_of _ (by decide +kernel)) ggX8_takeIn_X0_letsThrough
set_option maxRecDepth 20000 in
theorem ggX8_takeIn_X5_addCopy : GoodIn wsX8_takeIn wsX5_addCopy := goodIn_r _ [46, 15, 47, 41, 42, 48, 49, 50, 51, 52, 53, 54, 13, 55, 56, 109, 110, 111, 112, 113] rfl (by decide +kernel)
set_option maxRecDepth 20000 in
theorem gX8_takeIn_X5_addCopy : GoodIn wsX8_takeIn (wsV RX8 238 RX5 yX5_addCopy wsX5_addCopy) := goodIn_app (goodIn_of _ (by decide +kernel)) ggX8_takeIn_X5_addCopy
set_option maxRecDepth 20000 in
theorem ggX8_takeIn_X1_meet : GoodIn wsX8_takeIn wsX1_meet := goodIn_r _ [60, 28, 61, 62, 63, 64, 65, 13, 66, 15, 41, 67, 38, 39, 40, 42, 68, 69, 70, 71, 72, 73, 74, 75, 123, 124, 125, 109, 110, 111, 112, 113] rfl (by decide +kernel)
set_option maxRecDepth 20000 in
theorem gX8_takeIn_X1_meet : GoodIn wsX8_takeIn (wsV RX8 242 RX1 yX1_meet wsX1_meet) := goodIn_app (goodIn_of _ (by decide +kernel)) ggX8_takeIn_X1_meet
set_option maxRecDepth 20000 in
theorem ggX8_takeIn_X5_removeLast : GoodIn wsX8_takeIn wsX5_removeLast := goodIn_r _ [79, 15, 109, 110, 111, 112, 113] rfl (by decide +kernel)
set_option maxRecDepth 20000 in
theorem gX8_takeIn_X5_removeLast : GoodIn wsX8_takeIn (wsV RX8 245 RX5 yX5_removeLast wsX5_removeLast) := goodIn_app (goodIn_of _ (by decide +kernel)) ggX8_takeIn_X5_removeLast
set_option maxRecDepth 20000 in
theorem ggX8_takeIn_X4_append : GoodIn wsX8_takeIn wsX4_append := goodIn_r _ [83, 21, 84, 114, 115, 116, 117, 118, 119, 120, 121, 122] rfl (by decide +kernel)
set_option maxRecDepth 20000 in
theorem gX8_takeIn_X4_append : GoodIn wsX8_takeIn (wsV RX8 248 RX4 yX4_append wsX4_append) := goodIn_app (goodIn_of _ (by decide +kernel)) ggX8_takeIn_X4_append
set_option maxRecDepth 20000 in
theorem ggX8_addEqualOnes_X6_told : GoodIn wsX8_addEqualOnes wsX6_told := goodIn_r _ [11, 12, 116, 117, 118, 119] rfl (by decide +kernel)
set_option maxRecDepth 20000 in
theorem gX8_addEqualOnes_X6_told : GoodIn wsX8_addEqualOnes (wsV RX8 251 RX6 yX6_told wsX6_told) := goodIn_app (goodIn_of _ (by decide +kernel)) ggX8_addEqualOnes_X6_told
set_option maxRecDepth 20000 in
theorem ggX8_addEqualOnes_X4_held : GoodIn wsX8_addEqualOnes wsX4_held := goodIn_r _ [17, 18, 120, 121, 122, 123, 124, 125, 126, 127, 128] rfl (by decide +kernel)
set_option maxRecDepth 20000 in
theorem gX8_addEqualOnes_X4_held : GoodIn wsX8_addEqualOnes (wsV RX8 188 RX4 yX4_held wsX4_held) := goodIn_app (goodIn_of _ (by decide +kernel)) ggX8_addEqualOnes_X4_held
set_option maxRecDepth 20000 in
theorem ggX8_addEqualOnes_X4_at : GoodIn wsX8_addEqualOnes wsX4_at := goodIn_r _ [22, 18, 23, 120, 121, 122, 123, 124, 125, 126, 127, 128] rfl (by decide +kernel)
set_option maxRecDepth 20000 in
theorem gX8_addEqualOnes_X4_at : GoodIn wsX8_addEqualOnes (wsV RX8 189 RX4 yX4_at wsX4_at) := goodIn_app (goodIn_of _ (by decide +kernel)) ggX8_addEqualOnes_X4_at
set_option maxRecDepth 20000 in
theorem ggX8_addEqualOnes_X3_order : GoodIn wsX8_addEqualOnes wsX3_order := goodIn_r _ [28, 29, 30, 31, 32, 33, 34, 35, 27, 36, 37, 38, 39, 40, 41, 42, 43, 44, 45, 46, 47, 48, 49, 50, 51, 52, 53, 54, 129, 130, 131, 132, 133, 134, 135, 136, 137, 138] rfl (by decide +kernel)
set_option maxRecDepth 20000 in
theorem gX8_addEqualOnes_X3_order : GoodIn wsX8_addEqualOnes (wsV RX8 210 RX3 yX3_order wsX3_order) := goodIn_app (goodIn_of _ (by decide +kernel)) ggX8_addEqualOnes_X3_order
