set_option maxRecDepth 20000 in
theorem ggL_law_X9_sum : GoodIn wsL_law wsX9_sum := goodIn_r _ [260, 152, 261, 121, 122, 182, 183, 5, 184, 646, 647, 648, 649, 650, 651, 652, 653, 654, 655, 656, 657, 658, 659, 660, 661, 662, 663, 664, 665, 666, 667, 668, 669, 670, 671, 672, 673, 674, 675, 676, 677, 678, 679, 680, 681] rfl (by decide +kernel)
set_option maxRecDepth 20000 in
theorem gL_law_X9_sum : GoodIn wsL_law (wsV RL 63 RX9 yX9_sum wsX9_sum) := goodIn_app (goodIn_of _ (by decide +kernel)) ggL_law_X9_sum
set_option maxRecDepth 20000 in
theorem ggL_law_X8_exit : GoodIn wsL_law wsX8_exit := goodIn_r _ [265, 37, 38, 266, 267, 268, 36, 269, 270, 271, 627, 628, 629, 630, 631, 632, 633, 634, 635, 636, 637, 638, 639, 640, 641, 642, 643, 644, 645, 708, 709, 710] rfl (by decide +kernel)
set_option maxRecDepth 20000 in
theorem gL_law_X8_exit : GoodIn wsL_law (wsV RL 64 RX8 yX8_exit wsX8_exit) := goodIn_app (goodIn_of _ (by decide +kernel)) ggL_law_X8_exit
set_option maxRecDepth 20000 in
theorem ggL_law_X9_exit : GoodIn wsL_law wsX9_exit := goodIn_r _ [275, 152, 123, 124, 646, 647, 648, 649, 650, 651, 652, 653, 654, 655, 656, 657, 658, 659, 660, 661, 662, 663, 664, 665, 666, 667, 668, 669, 670, 671, 672, 673, 674, 675, 676, 677, 678, 679, 680, 681] rfl (by decide +kernel)
set_option maxRecDepth 20000 in
theorem gL_law_X9_exit : GoodIn wsL_law (wsV RL 67 RX9 yX9_exit wsX9_exit) := goodIn_app (goodIn_of _ (by decide +kernel)) ggL_law_X9_exit
set_option maxRecDepth 20000 in
theorem ggL_law_X8_begin : GoodIn wsL_law wsX8_begin := goodIn_r _ [279, 47, 280, 48, 627, 628, 629, 630, 631, 632, 633, 634, 635, 636, 637, 638, 639, 640, 641, 642, 643, 644, 645] rfl (by decide +kernel)
set_option maxRecDepth 20000 in
theorem gL_law_X8_begin : GoodIn wsL_law (wsV RL 68 RX8 yX8_begin wsX8_begin) := goodIn_app (goodIn_of _ (by decide +kernel)) ggL_law_X8_begin
set_option maxRecDepth 20000 in
theorem ggL_law_X9_begin : GoodIn wsL_law wsX9_begin := goodIn_r _ [284, 152, 180, 285, 135, 646, 647, 648, 649, 650, 651, 652, 653, 654, 655, 656, 657, 658, 659, 660, 661, 662, 663, 664, 665, 666, 667, 668, 669, 670, 671, 672, 673, 674, 675, 676, 677, 678, 679, 680, 681] rfl (by decide +kernel)
set_option maxRecDepth 20000 in
theorem gL_law_X9_begin : GoodIn wsL_law (wsV RL 71 RX9 yX9_begin wsX9_begin) := goodIn_app (goodIn_of _ (by decide +kernel)) ggL_law_X9_begin
set_option maxRecDepth 20000 in
theorem ggL_law_X8_release : GoodIn wsL_law wsX8_release := goodIn_r _ [289, 47, 280, 44, 211, 212, 213, 2, 214, 19, 189, 190, 191, 15, 192, 193, 627, 628, 629, 630, 631, 632, 633, 634, 635, 636, 637, 638, 639, 640, 641, 642, 643, 644, 645, 682, 683, 684, 685, 686] rfl (by decide +kernel)
set_option maxRecDepth 20000 in
theorem gL_law_X8_release : GoodIn wsL_law (wsV RL 72 RX8 yX8_release wsX8_release) := goodIn_app (goodIn_of _ (by decide +kernel)) ggL_law_X8_release
set_option maxRecDepth 20000 in
theorem ggL_law_X9_release : GoodIn wsL_law wsX9_release := goodIn_r _ [293, 152, 180, 285, 126, 227, 228, 229, 5, 230, 206, 646, 647, 648, 649, 650, 651, 652, 653, 654, 655, 656, 657, 658, 659, 660, 661, 662, 663, 664, 665, 666, 667, 668, 669, 670, 671, 672, 673, 674, 675, 676, 677, 678, 679, 680, 681] rfl (by decide +kernel)
set_option maxRecDepth 20000 in
theorem gL_law_X9_release : GoodIn wsL_law (wsV RL 75 RX9 yX9_release wsX9_release) := goodIn_app (goodIn_of _ (by decide +kernel)) ggL_law_X9_release
