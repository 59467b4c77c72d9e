set_option maxRecDepth 20000 in
theorem ggL_law_L_compare : GoodIn wsL_law wsL_compare := goodIn_ca (goodIn_r _ [595, 596, 597, 598, 599, 2, 600, 601, 602, 21, 19, 215, 216, 217, 218, 193, 194, 195, 15, 196, 197, 440, 393, 394, 18, 395, 179, 72, 73, 74, 76, 396, 397, 398, 399, 345, 346, 347, 67, 68, 400, 401, 402, 403, 404, 405, 406, 407, 408, 409, 631, 632, 633, 634, 635, 636, 637, 638, 639, 640, 641, 642, 643, 644, 645, 646, 647, 648, 649, 686, 687, 688, 689, 690, 691, 692, 693, 694, 695] (by decide +kernel) (by decide +kernel)) (goodIn_sub (fun _ h => List.mem_append_right _ h) (by decide +kernel))
set_option maxRecDepth 20000 in
theorem gL_law_L_compare : GoodIn wsL_law (va_wsS RL 99 yL_compare wsL_compare) := goodIn_app (goodIn_of _ (by decide +kernel)) ggL_law_L_compare
set_option maxRecDepth 20000 in
theorem ggL_law_X9_compare : GoodIn wsL_law wsX9_compare := goodIn_r _ [606, 152, 118, 231, 232, 233, 5, 234, 210, 494, 495, 496, 497, 185, 114, 116, 115, 117, 498, 499, 500, 501, 650, 651, 652, 653, 654, 655, 656, 657, 658, 659, 660, 661, 662, 663, 664, 665, 666, 667, 668, 669, 670, 671, 672, 673, 674, 675, 676, 677, 678, 679, 680, 681, 682, 683, 684, 685] (by decide +kernel) (by decide +kernel)
set_option maxRecDepth 20000 in
theorem gL_law_X9_compare : GoodIn wsL_law (wsV RL 102 RX9 yX9_compare wsX9_compare) := goodIn_app (goodIn_of _ (by decide +kernel)) ggL_law_X9_compare
set_option maxRecDepth 20000 in
theorem ggL_law_X8_failed : GoodIn wsL_law wsX8_failed := goodIn_r _ [610, 310, 631, 632, 633, 634, 635, 636, 637, 638, 639, 640, 641, 642, 643, 644, 645, 646, 647, 648, 649] (by decide +kernel) (by decide +kernel)
set_option maxRecDepth 20000 in
theorem gL_law_X8_failed : GoodIn wsL_law (wsV RL 103 RX8 yX8_failed wsX8_failed) := goodIn_app (goodIn_of _ (by decide +kernel)) ggL_law_X8_failed
set_option maxRecDepth 20000 in
theorem ggL_law_X9_failed : GoodIn wsL_law wsX9_failed := goodIn_r _ [614, 152, 489, 650, 651, 652, 653, 654, 655, 656, 657, 658, 659, 660, 661, 662, 663, 664, 665, 666, 667, 668, 669, 670, 671, 672, 673, 674, 675, 676, 677, 678, 679, 680, 681, 682, 683, 684, 685] (by decide +kernel) (by decide +kernel)
set_option maxRecDepth 20000 in
theorem gL_law_X9_failed : GoodIn wsL_law (wsV RL 106 RX9 yX9_failed wsX9_failed) := goodIn_app (goodIn_of _ (by decide +kernel)) ggL_law_X9_failed
set_option maxRecDepth 20000 in
theorem ggL_law_X8_count : GoodIn wsL_law wsX8_count := goodIn_r _ [618, 21, 19, 47, 284, 52, 308, 309, 324, 427, 465, 42, 619, 620, 621, 18, 622, 179, 193, 194, 195, 15, 196, 197, 623, 624, 625, 41, 626, 552, 631, 632, 633, 634, 635, 636, 637, 638, 639, 640, 641, 642, 643, 644, 645, 646, 647, 648, 649, 718, 719, 720, 721, 722, 691, 692, 693, 694, 695, 686, 687, 688, 689, 690, 715, 716, 717] (by decide +kernel) (by decide +kernel)
set_option maxRecDepth 20000 in
theorem gL_law_X8_count : GoodIn wsL_law (wsV RL 107 RX8 yX8_count wsX8_count) := goodIn_app (goodIn_of _ (by decide +kernel)) ggL_law_X8_count
set_option maxRecDepth 20000 in
theorem ggL_law_X9_count : GoodIn wsL_law wsX9_count := goodIn_r _ [630, 152, 185, 210, 184, 289, 136, 128, 650, 651, 652, 653, 654, 655, 656, 657, 658, 659, 660, 661, 662, 663, 664, 665, 666, 667, 668, 669, 670, 671, 672, 673, 674, 675, 676, 677, 678, 679, 680, 681, 682, 683, 684, 685] (by decide +kernel) (by decide +kernel)
set_option maxRecDepth 20000 in
theorem gL_law_X9_count : GoodIn wsL_law (wsV RL 110 RX9 yX9_count wsX9_count) := goodIn_app (goodIn_of _ (by decide +kernel)) ggL_law_X9_count
