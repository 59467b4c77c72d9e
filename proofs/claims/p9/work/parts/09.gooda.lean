set_option maxRecDepth 20000 in
theorem ggX0_letsThrough_X5_byteAt : GoodIn wsX0_letsThrough wsX5_byteAt := goodIn_r _ [8, 9, 10, 11, 15, 16, 17, 18, 19] rfl (by decide +kernel)
set_option maxRecDepth 20000 in
theorem gX0_letsThrough_X5_byteAt : GoodIn wsX0_letsThrough (wsV RX0 19 RX5 yX5_byteAt wsX5_byteAt) := goodIn_app (goodIn_of _ (by decide +kernel)) ggX0_letsThrough_X5_byteAt
set_option maxRecDepth 20000 in
theorem ggX1_meet_X5_lengthOf : GoodIn wsX1_meet wsX5_lengthOf := goodIn_r _ [8, 9, 10, 27, 28, 29, 30, 31] rfl (by decide +kernel)
set_option maxRecDepth 20000 in
theorem gX1_meet_X5_lengthOf : GoodIn wsX1_meet (wsV RX1 21 RX5 yX5_lengthOf wsX5_lengthOf) := goodIn_app (goodIn_of _ (by decide +kernel)) ggX1_meet_X5_lengthOf
set_option maxRecDepth 20000 in
theorem ggX1_meet_X5_byteAt : GoodIn wsX1_meet wsX5_byteAt := goodIn_r _ [14, 9, 10, 15, 27, 28, 29, 30, 31] rfl (by decide +kernel)
set_option maxRecDepth 20000 in
theorem gX1_meet_X5_byteAt : GoodIn wsX1_meet (wsV RX1 27 RX5 yX5_byteAt wsX5_byteAt) := goodIn_app (goodIn_of _ (by decide +kernel)) ggX1_meet_X5_byteAt
set_option maxRecDepth 20000 in
theorem ggX1_meet_X5_put : GoodIn wsX1_meet wsX5_put := goodIn_r _ [19, 9, 10, 15, 20, 21, 22, 23, 27, 28, 29, 30, 31] rfl (by decide +kernel)
set_option maxRecDepth 20000 in
theorem gX1_meet_X5_put : GoodIn wsX1_meet (wsV RX1 31 RX5 yX5_put wsX5_put) := goodIn_app (goodIn_of _ (by decide +kernel)) ggX1_meet_X5_put
set_option maxRecDepth 20000 in
theorem ggX2_at_X2_held : GoodIn wsX2_at wsX2_held := goodIn_r _ [6, 7, 8, 9, 10] rfl (by decide +kernel)
set_option maxRecDepth 20000 in
theorem gX2_at_X2_held : GoodIn wsX2_at (wsV RX2 22 RX2 yX2_held wsX2_held) := goodIn_app (goodIn_of _ (by decide +kernel)) ggX2_at_X2_held
set_option maxRecDepth 20000 in
theorem ggX2_firstOutOfOrder_X2_at : GoodIn wsX2_firstOutOfOrder wsX2_at := goodIn_r _ [6, 7, 8, 9, 10, 5, 11, 1, 43, 44, 45] rfl (by decide +kernel)
set_option maxRecDepth 20000 in
theorem gX2_firstOutOfOrder_X2_at : GoodIn wsX2_firstOutOfOrder (wsV RX2 26 RX2 yX2_at wsX2_at) := goodIn_app (goodIn_of _ (by decide +kernel)) ggX2_firstOutOfOrder_X2_at
set_option maxRecDepth 20000 in
theorem ggX2_firstOutOfOrder_X3_order : GoodIn wsX2_firstOutOfOrder wsX3_order := goodIn_r _ [16, 17, 18, 19, 20, 21, 22, 23, 15, 24, 25, 26, 27, 28, 29, 30, 31, 32, 33, 34, 35, 36, 37, 38, 39, 40, 41, 42, 46, 47, 48, 49, 50, 51, 52, 53, 54, 55] rfl (by decide +kernel)
set_option maxRecDepth 20000 in
theorem gX2_firstOutOfOrder_X3_order : GoodIn wsX2_firstOutOfOrder (wsV RX2 30 RX3 yX3_order wsX3_order) := goodIn_app (goodIn_of _ (by decide +kernel)) ggX2_firstOutOfOrder_X3_order
set_option maxRecDepth 20000 in
theorem ggX3_allows_X8_isField : GoodIn wsX3_allows wsX8_isField := goodIn_r _ [4] rfl (by decide +kernel)
set_option maxRecDepth 20000 in
theorem gX3_allows_X8_isField_n28 : GoodIn wsX3_allows (wsX8_isField) := ggX3_allows_X8_isField
set_option maxRecDepth 20000 in
theorem ggX3_order_X3_signed : GoodIn wsX3_order wsX3_signed := goodIn_r _ [9, 10, 11, 12, 13, 14, 15, 16, 17, 33, 34, 35, 36, 37] rfl (by decide +kernel)
set_option maxRecDepth 20000 in
theorem gX3_order_X3_signed : GoodIn wsX3_order (va_wsS RX3 36 yX3_signed wsX3_signed) := goodIn_app (goodIn_of _ (by decide +kernel)) ggX3_order_X3_signed
set_option maxRecDepth 20000 in
theorem ggX3_order_X3_sign : GoodIn wsX3_order wsX3_sign := goodIn_r _ [20] rfl (by decide +kernel)
set_option maxRecDepth 20000 in
theorem gX3_order_X3_sign : GoodIn wsX3_order (va_wsS RX3 40 yX3_sign wsX3_sign) := goodIn_app (goodIn_of _ (by decide +kernel)) ggX3_order_X3_sign
set_option maxRecDepth 20000 in
theorem ggX3_order_X3_digits : GoodIn wsX3_order wsX3_digits := goodIn_r _ [23, 24, 10, 11, 12, 13, 14, 15, 16, 17, 33, 34, 35, 36, 37] rfl (by decide +kernel)
set_option maxRecDepth 20000 in
theorem gX3_order_X3_digits : GoodIn wsX3_order (va_wsS RX3 44 yX3_digits wsX3_digits) := goodIn_app (goodIn_of _ (by decide +kernel)) ggX3_order_X3_digits
set_option maxRecDepth 20000 in
theorem ggX3_order_X3_byBytes : GoodIn wsX3_order wsX3_byBytes := goodIn_r _ [27, 10, 11, 12, 13, 14, 15, 16, 17, 33, 34, 35, 36, 37] rfl (by decide +kernel)
set_option maxRecDepth 20000 in
theorem gX3_order_X3_byBytes : GoodIn wsX3_order (va_wsS RX3 47 yX3_byBytes wsX3_byBytes) := goodIn_app (goodIn_of _ (by decide +kernel)) ggX3_order_X3_byBytes
set_option maxRecDepth 20000 in
theorem ggX3_byBytes_X5_byteAt : GoodIn wsX3_byBytes wsX5_byteAt := goodIn_r _ [5, 6, 7, 8, 9, 10, 11, 12, 13] rfl (by decide +kernel)
set_option maxRecDepth 20000 in
theorem gX3_byBytes_X5_byteAt : GoodIn wsX3_byBytes (wsV RX3 51 RX5 yX5_byteAt wsX5_byteAt) := goodIn_app (goodIn_of _ (by decide +kernel)) ggX3_byBytes_X5_byteAt
set_option maxRecDepth 20000 in
theorem ggX3_signed_X5_byteAt : GoodIn wsX3_signed wsX5_byteAt := goodIn_r _ [5, 6, 7, 8, 9, 10, 11, 12, 13] rfl (by decide +kernel)
set_option maxRecDepth 20000 in
theorem gX3_signed_X5_byteAt : GoodIn wsX3_signed (wsV RX3 51 RX5 yX5_byteAt wsX5_byteAt) := goodIn_app (goodIn_of _ (by decide +kernel)) ggX3_signed_X5_byteAt
set_option maxRecDepth 20000 in
theorem ggX3_digits_X5_byteAt : GoodIn wsX3_digits wsX5_byteAt := goodIn_r _ [6, 7, 8, 9, 10, 11, 12, 13, 14] rfl (by decide +kernel)
set_option maxRecDepth 20000 in
theorem gX3_digits_X5_byteAt : GoodIn wsX3_digits (wsV RX3 51 RX5 yX5_byteAt wsX5_byteAt) := goodIn_app (goodIn_of _ (by decide +kernel)) ggX3_digits_X5_byteAt
set_option maxRecDepth 20000 in
theorem ggX4_makeRuns_X4_insert : GoodIn wsX4_makeRuns wsX4_insert := goodIn_r _ [15, 16, 17, 18, 19, 20, 21, 22, 23, 14, 24, 25, 26, 27, 28, 29, 30, 31, 32, 33, 34, 35, 36, 37, 38, 39, 40, 41, 42, 43, 44, 45, 46, 47, 48, 49, 50, 51, 52, 53, 54, 55, 56, 57, 58, 59, 60, 61, 62, 63, 68, 69, 70, 71, 72, 73, 74, 75, 76, 77, 78, 79, 80, 81, 82, 83, 84, 85, 86] rfl (by decide +kernel)
set_option maxRecDepth 20000 in
theorem gX4_makeRuns_X4_insert : GoodIn wsX4_makeRuns (wsV RX4 52 RX4 yX4_insert wsX4_insert) := goodIn_app (goodIn_of _ (by decide +kernel)) ggX4_makeRuns_X4_insert
set_option maxRecDepth 20000 in
theorem ggX4_makeRuns_X4_endRuns : GoodIn wsX4_makeRuns wsX4_endRuns := goodIn_r _ [67, 7, 5, 6, 68, 69, 70, 71, 72, 73, 74, 75, 76] rfl (by decide +kernel)
set_option maxRecDepth 20000 in
theorem gX4_makeRuns_X4_endRuns : GoodIn wsX4_makeRuns (wsV RX4 56 RX4 yX4_endRuns wsX4_endRuns) := goodIn_app (goodIn_of _ (by decide +kernel)) ggX4_makeRuns_X4_endRuns
set_option maxRecDepth 20000 in
theorem ggX4_insert_X4_before : GoodIn wsX4_insert wsX4_before := goodIn_r _ [10, 11, 12, 13, 14, 15, 16, 17, 18, 19, 20, 21, 22, 23, 24, 25, 26, 27, 28, 29, 30, 31, 32, 33, 34, 35, 36, 37, 38, 39, 40, 41, 42, 43, 44, 45, 46, 47, 48, 49, 50, 51, 52, 53, 54, 55, 56, 57, 58, 59, 60, 61, 62, 63, 64, 65, 66, 67, 68] rfl (by decide +kernel)
set_option maxRecDepth 20000 in
theorem gX4_insert_X4_before : GoodIn wsX4_insert (wsV RX4 59 RX4 yX4_before wsX4_before) := goodIn_app (goodIn_of _ (by decide +kernel)) ggX4_insert_X4_before
set_option maxRecDepth 20000 in
theorem ggX4_mergeRuns_X4_mergeGroup : GoodIn wsX4_mergeRuns wsX4_mergeGroup := goodIn_r _ [21, 22, 9, 11, 10, 23, 24, 25, 20, 26, 27, 28, 29, 30, 31, 32, 33, 34, 35, 36, 37, 38, 39, 40, 41, 42, 43, 44, 45, 46, 47, 48, 49, 50, 51, 52, 53, 54, 55, 56, 57, 58, 59, 60, 61, 62, 63, 64, 65, 70, 71, 72, 73, 74, 75, 76, 77, 78, 79, 80, 81, 82, 83, 84, 85, 86, 87, 88] rfl (by decide +kernel)
set_option maxRecDepth 20000 in
theorem gX4_mergeRuns_X4_mergeGroup : GoodIn wsX4_mergeRuns (wsV RX4 69 RX4 yX4_mergeGroup wsX4_mergeGroup) := goodIn_app (goodIn_of _ (by decide +kernel)) ggX4_mergeRuns_X4_mergeGroup
set_option maxRecDepth 20000 in
theorem ggX4_mergeRuns_X4_endRuns : GoodIn wsX4_mergeRuns wsX4_endRuns := goodIn_r _ [69, 9, 8, 12, 70, 71, 72, 73, 74, 75, 76, 77, 78] rfl (by decide +kernel)
set_option maxRecDepth 20000 in
theorem gX4_mergeRuns_X4_endRuns : GoodIn wsX4_mergeRuns (wsV RX4 56 RX4 yX4_endRuns wsX4_endRuns) := goodIn_app (goodIn_of _ (by decide +kernel)) ggX4_mergeRuns_X4_endRuns
set_option maxRecDepth 20000 in
theorem ggX4_mergeGroup_X4_before : GoodIn wsX4_mergeGroup wsX4_before := goodIn_r _ [9, 10, 11, 12, 13, 14, 15, 16, 17, 18, 19, 20, 21, 22, 23, 24, 25, 26, 27, 28, 29, 30, 31, 32, 33, 34, 35, 36, 37, 38, 39, 40, 41, 42, 43, 44, 45, 46, 47, 48, 49, 50, 51, 52, 53, 54, 55, 56, 57, 58, 59, 60, 61, 62, 63, 64, 65, 66, 67] rfl (by decide +kernel)
set_option maxRecDepth 20000 in
theorem gX4_mergeGroup_X4_before : GoodIn wsX4_mergeGroup (wsV RX4 59 RX4 yX4_before wsX4_before) := goodIn_app (goodIn_of _ (by decide +kernel)) ggX4_mergeGroup_X4_before
set_option maxRecDepth 20000 in
theorem ggX4_before_X3_order : GoodIn wsX4_before wsX3_order := goodIn_r _ [8, 9, 10, 11, 12, 13, 14, 15, 7, 16, 17, 18, 19, 20, 21, 22, 23, 24, 25, 26, 27, 28, 29, 30, 31, 32, 33, 34, 49, 50, 51, 52, 53, 54, 55, 56, 57, 58] rfl (by decide +kernel)
set_option maxRecDepth 20000 in
theorem gX4_before_X3_order : GoodIn wsX4_before (wsV RX4 72 RX3 yX3_order wsX3_order) := goodIn_app (goodIn_of _ (by decide +kernel)) ggX4_before_X3_order
set_option maxRecDepth 20000 in
theorem ggX4_before_X5_numberOf : GoodIn wsX4_before wsX5_numberOf := goodIn_r _ [38, 22, 39, 54, 55, 56, 57, 58] rfl (by decide +kernel)
set_option maxRecDepth 20000 in
theorem gX4_before_X5_numberOf : GoodIn wsX4_before (wsV RX4 78 RX5 yX5_numberOf wsX5_numberOf) := goodIn_app (goodIn_of _ (by decide +kernel)) ggX4_before_X5_numberOf
set_option maxRecDepth 20000 in
theorem ggX5_addCopy_X5_add : GoodIn wsX5_addCopy wsX5_add := goodIn_r _ [13, 1, 14, 2, 3, 15, 16, 17, 18, 19] rfl (by decide +kernel)
set_option maxRecDepth 20000 in
theorem gX5_addCopy_X5_add : GoodIn wsX5_addCopy (wsV RX5 37 RX5 yX5_add wsX5_add) := goodIn_app (goodIn_of _ (by decide +kernel)) ggX5_addCopy_X5_add
set_option maxRecDepth 20000 in
theorem ggX6_addInto_X5_lengthOf : GoodIn wsX6_addInto wsX5_lengthOf := goodIn_r _ [13, 14, 15, 37, 38, 39, 40, 41] rfl (by decide +kernel)
set_option maxRecDepth 20000 in
theorem gX6_addInto_X5_lengthOf : GoodIn wsX6_addInto (wsV RX6 25 RX5 yX5_lengthOf wsX5_lengthOf) := goodIn_app (goodIn_of _ (by decide +kernel)) ggX6_addInto_X5_lengthOf
set_option maxRecDepth 20000 in
theorem ggX6_addInto_X5_byteAt : GoodIn wsX6_addInto wsX5_byteAt := goodIn_r _ [19, 14, 15, 20, 37, 38, 39, 40, 41] rfl (by decide +kernel)
set_option maxRecDepth 20000 in
theorem gX6_addInto_X5_byteAt : GoodIn wsX6_addInto (wsV RX6 37 RX5 yX5_byteAt wsX5_byteAt) := goodIn_app (goodIn_of _ (by decide +kernel)) ggX6_addInto_X5_byteAt
set_option maxRecDepth 20000 in
theorem ggX6_addInto_X6_addField : GoodIn wsX6_addInto wsX6_addField := goodIn_r _ [25, 5, 16, 17, 18, 12, 19, 14, 15, 20, 33, 34, 35, 36, 37, 38, 39, 40, 41] rfl (by decide +kernel)
set_option maxRecDepth 20000 in
theorem gX6_addInto_X6_addField : GoodIn wsX6_addInto (wsV RX6 40 RX6 yX6_addField wsX6_addField) := goodIn_app (goodIn_of _ (by decide +kernel)) ggX6_addInto_X6_addField
set_option maxRecDepth 20000 in
theorem ggX6_addInto_X5_put : GoodIn wsX6_addInto wsX5_put := goodIn_r _ [29, 14, 15, 20, 30, 31, 3, 32, 37, 38, 39, 40, 41] rfl (by decide +kernel)
set_option maxRecDepth 20000 in
theorem gX6_addInto_X5_put : GoodIn wsX6_addInto (wsV RX6 44 RX5 yX5_put wsX5_put) := goodIn_app (goodIn_of _ (by decide +kernel)) ggX6_addInto_X5_put
set_option maxRecDepth 20000 in
theorem ggX6_addField_X5_byteAt : GoodIn wsX6_addField wsX5_byteAt := goodIn_r _ [6, 7, 8, 9, 14, 15, 16, 17, 18] rfl (by decide +kernel)
set_option maxRecDepth 20000 in
theorem gX6_addField_X5_byteAt : GoodIn wsX6_addField (wsV RX6 37 RX5 yX5_byteAt wsX5_byteAt) := goodIn_app (goodIn_of _ (by decide +kernel)) ggX6_addField_X5_byteAt
set_option maxRecDepth 20000 in
theorem ggX8_init_X5_init : GoodIn wsX8_init wsX5_init := goodIn_r _ [47, 48, 2, 3, 49, 50, 51, 52, 53, 54, 55, 56, 34, 57, 58, 59, 99, 100, 101, 102, 103] rfl (by decide +kernel)
set_option maxRecDepth 20000 in
theorem gX8_init_X5_init : GoodIn wsX8_init (wsX5_init) := ggX8_init_X5_init
set_option maxRecDepth 20000 in
theorem ggX8_init_X3_init : GoodIn wsX8_init wsX3_init := goodIn_r _ [61, 62, 2, 3, 34, 63, 64, 65, 66, 67, 104, 105, 106, 107, 108] rfl (by decide +kernel)
set_option maxRecDepth 20000 in
theorem gX8_init_X3_init_n16 : GoodIn wsX8_init (wsX3_init) := ggX8_init_X3_init
set_option maxRecDepth 20000 in
theorem ggX8_init_X4_init : GoodIn wsX8_init wsX4_init := goodIn_r _ [70, 71, 2, 3, 34, 72, 73, 74, 75, 76, 77, 128, 129, 130, 131, 132, 133, 134, 135, 136] rfl (by decide +kernel)
set_option maxRecDepth 20000 in
theorem gX8_init_X4_init : GoodIn wsX8_init (wsX4_init) := ggX8_init_X4_init
set_option maxRecDepth 20000 in
theorem ggX8_init_X0_init : GoodIn wsX8_init wsX0_init := goodIn_r _ [79, 80, 2, 3, 81, 137, 138, 139] rfl (by decide +kernel)
set_option maxRecDepth 20000 in
theorem gX8_init_X0_init_n39 : GoodIn wsX8_init (wsX0_init) := ggX8_init_X0_init
set_option maxRecDepth 20000 in
theorem ggX8_init_X6_init : GoodIn wsX8_init wsX6_init := goodIn_r _ [83, 84, 2, 3, 34, 85, 86, 87, 140, 141, 142, 143] rfl (by decide +kernel)
set_option maxRecDepth 20000 in
theorem gX8_init_X6_init_n46 : GoodIn wsX8_init (wsX6_init) := ggX8_init_X6_init
set_option maxRecDepth 20000 in
theorem ggX8_init_X1_init : GoodIn wsX8_init wsX1_init := goodIn_r _ [89, 90, 2, 3] rfl (by decide +kernel)
set_option maxRecDepth 20000 in
theorem gX8_init_X1_init_n53 : GoodIn wsX8_init (wsX1_init) := ggX8_init_X1_init
set_option maxRecDepth 20000 in
theorem ggX8_init_X2_init : GoodIn wsX8_init wsX2_init := goodIn_r _ [92, 93, 2, 3, 34, 94, 95, 147, 148, 149] rfl (by decide +kernel)
set_option maxRecDepth 20000 in
theorem gX8_init_X2_init_n63 : GoodIn wsX8_init (wsX2_init) := ggX8_init_X2_init
set_option maxRecDepth 20000 in
theorem ggX8_init_X7_init : GoodIn wsX8_init wsX7_init := goodIn_r _ [97, 98, 2, 3] rfl (by decide +kernel)
set_option maxRecDepth 20000 in
theorem gX8_init_X7_init_n87 : GoodIn wsX8_init (wsX7_init) := ggX8_init_X7_init
set_option maxRecDepth 20000 in
theorem ggX8_key_X3_allows : GoodIn wsX8_key wsX3_allows := goodIn_r _ [6, 7, 8, 9, 10] rfl (by decide +kernel)
set_option maxRecDepth 20000 in
theorem gX8_key_X3_allows : GoodIn wsX8_key (va_wsS RX8 102 yX3_allows wsX3_allows) := goodIn_app (goodIn_of _ (by decide +kernel)) ggX8_key_X3_allows
set_option maxRecDepth 20000 in
theorem ggX8_key_X3_tell : GoodIn wsX8_key wsX3_tell := goodIn_r _ [14, 15, 16, 17, 18, 19, 39, 40, 41, 42, 43] rfl (by decide +kernel)
set_option maxRecDepth 20000 in
theorem gX8_key_X3_tell : GoodIn wsX8_key (wsV RX8 106 RX3 yX3_tell wsX3_tell) := goodIn_app (goodIn_of _ (by decide +kernel)) ggX8_key_X3_tell
set_option maxRecDepth 20000 in
theorem ggX8_record_X5_held : GoodIn wsX8_record wsX5_held := goodIn_r _ [6, 7, 38, 39, 40, 41, 42] rfl (by decide +kernel)
set_option maxRecDepth 20000 in
theorem gX8_record_X5_held : GoodIn wsX8_record (wsV RX8 110 RX5 yX5_held wsX5_held) := goodIn_app (goodIn_of _ (by decide +kernel)) ggX8_record_X5_held
set_option maxRecDepth 20000 in
theorem ggX8_record_X5_add : GoodIn wsX8_record wsX5_add := goodIn_r _ [11, 7, 12, 13, 14, 38, 39, 40, 41, 42] rfl (by decide +kernel)
set_option maxRecDepth 20000 in
theorem gX8_record_X5_add : GoodIn wsX8_record (wsV RX8 114 RX5 yX5_add wsX5_add) := goodIn_app (goodIn_of _ (by decide +kernel)) ggX8_record_X5_add
set_option maxRecDepth 20000 in
theorem ggX8_record_X5_numberOf : GoodIn wsX8_record wsX5_numberOf := goodIn_r _ [18, 7, 13, 38, 39, 40, 41, 42] rfl (by decide +kernel)
set_option maxRecDepth 20000 in
theorem gX8_record_X5_numberOf : GoodIn wsX8_record (wsV RX8 118 RX5 yX5_numberOf wsX5_numberOf) := goodIn_app (goodIn_of _ (by decide +kernel)) ggX8_record_X5_numberOf
set_option maxRecDepth 20000 in
theorem ggX8_octet_X8_isRecord : GoodIn wsX8_octet wsX8_isRecord := goodIn_r _ [6, 1, 7, 8, 9, 10, 11, 12, 27, 28, 29, 30, 31, 32, 33, 34, 35, 36, 37, 38, 39, 40, 41, 42, 43, 44, 45, 46, 47, 48, 49, 50] rfl (by decide +kernel)
set_option maxRecDepth 20000 in
theorem gX8_octet_X8_isRecord : GoodIn wsX8_octet (wsV RX8 121 RX8 yX8_isRecord wsX8_isRecord) := goodIn_app (goodIn_of _ (by decide +kernel)) ggX8_octet_X8_isRecord
set_option maxRecDepth 20000 in
theorem ggX8_octet_X5_put : GoodIn wsX8_octet wsX5_put := goodIn_r _ [16, 12, 17, 18, 19, 20, 21, 22, 46, 47, 48, 49, 50] rfl (by decide +kernel)
set_option maxRecDepth 20000 in
theorem gX8_octet_X5_put : GoodIn wsX8_octet (wsV RX8 125 RX5 yX5_put wsX5_put) := goodIn_app (goodIn_of _ (by decide +kernel)) ggX8_octet_X5_put
set_option maxRecDepth 20000 in
theorem ggX8_octet_X5_lengthOf : GoodIn wsX8_octet wsX5_lengthOf := goodIn_r _ [26, 12, 17, 46, 47, 48, 49, 50] rfl (by decide +kernel)
