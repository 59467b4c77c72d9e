set_option maxRecDepth 20000 in
theorem ggL_law_L_compare : GoodIn wsL_law wsL_compare := goodIn_ca (goodIn_r _ [591, 592, 593, 594, 595, 2, 596, 597, 598, 21, 19, 211, 212, 213, 214, 189, 190, 191, 15, 192, 193, 436, 389, 390, 18, 391, 175, 72, 73, 74, 76, 392, 393, 394, 395, 341, 342, 343, 67, 68, 396, 397, 398, 399, 400, 401, 402, 403, 404, 405, 627, 628, 629, 630, 631, 632, 633, 634, 635, 636, 637, 638, 639, 640, 641, 642, 643, 644, 645, 682, 683, 684, 685, 686, 687, 688, 689, 690, 691] rfl (by decide +kernel)) (goodIn_sub (fun _ h => List.mem_append_right _ h) (by decide +kernel))
set_option maxRecDepth 20000 in
theorem gL_law_L_compare : GoodIn wsL_law (va_wsS RL 96 yL_compare wsL_compare) := goodIn_app (goodIn_of _ (by decide +kernel)) ggL_law_L_compare
set_option maxRecDepth 20000 in
theorem ggL_law_X9_compare : GoodIn wsL_law wsX9_compare := goodIn_r _ [602, 152, 118, 227, 228, 229, 5, 230, 206, 490, 491, 492, 493, 181, 114, 116, 115, 117, 494, 495, 496, 497, 646, 647, 648, 649, 650, 651, 652, 653, 654, 655, 656, 657, 658, 659, 660, 661, 662, 663, 664, 665, 666, 667, 668, 669, 670, 671, 672, 673, 674, 675, 676, 677, 678, 679, 680, 681] rfl (by decide +kernel)
set_option maxRecDepth 20000 in
theorem gL_law_X9_compare : GoodIn wsL_law (wsV RL 99 RX9 yX9_compare wsX9_compare) := goodIn_app (goodIn_of _ (by decide +kernel)) ggL_law_X9_compare
set_option maxRecDepth 20000 in
theorem ggL_law_X8_failed : GoodIn wsL_law wsX8_failed := goodIn_r _ [606, 306, 627, 628, 629, 630, 631, 632, 633, 634, 635, 636, 637, 638, 639, 640, 641, 642, 643, 644, 645] rfl (by decide +kernel)
set_option maxRecDepth 20000 in
theorem gL_law_X8_failed : GoodIn wsL_law (wsV RL 100 RX8 yX8_failed wsX8_failed) := goodIn_app (goodIn_of _ (by decide +kernel)) ggL_law_X8_failed
set_option maxRecDepth 20000 in
theorem ggL_law_X9_failed : GoodIn wsL_law wsX9_failed := goodIn_r _ [610, 152, 485, 646, 647, 648, 649, 650, 651, 652, 653, 654, 655, 656, 657, 658, 659, 660, 661, 662, 663, 664, 665, 666, 667, 668, 669, 670, 671, 672, 673, 674, 675, 676, 677, 678, 679, 680, 681] rfl (by decide +kernel)
set_option maxRecDepth 20000 in
theorem gL_law_X9_failed : GoodIn wsL_law (wsV RL 103 RX9 yX9_failed wsX9_failed) := goodIn_app (goodIn_of _ (by decide +kernel)) ggL_law_X9_failed
set_option maxRecDepth 20000 in
theorem ggL_law_X8_count : GoodIn wsL_law wsX8_count := goodIn_r _ [614, 21, 19, 47, 280, 52, 304, 305, 320, 423, 461, 42, 615, 616, 617, 18, 618, 175, 189, 190, 191, 15, 192, 193, 619, 620, 621, 41, 622, 548, 627, 628, 629, 630, 631, 632, 633, 634, 635, 636, 637, 638, 639, 640, 641, 642, 643, 644, 645, 714, 715, 716, 717, 718, 687, 688, 689, 690, 691, 682, 683, 684, 685, 686, 711, 712, 713] rfl (by decide +kernel)
set_option maxRecDepth 20000 in
theorem gL_law_X8_count : GoodIn wsL_law (wsV RL 104 RX8 yX8_count wsX8_count) := goodIn_app (goodIn_of _ (by decide +kernel)) ggL_law_X8_count
set_option maxRecDepth 20000 in
theorem ggL_law_X9_count : GoodIn wsL_law wsX9_count := goodIn_r _ [626, 152, 181, 206, 180, 285, 136, 128, 646, 647, 648, 649, 650, 651, 652, 653, 654, 655, 656, 657, 658, 659, 660, 661, 662, 663, 664, 665, 666, 667, 668, 669, 670, 671, 672, 673, 674, 675, 676, 677, 678, 679, 680, 681] rfl (by decide +kernel)
set_option maxRecDepth 20000 in
theorem gL_law_X9_count : GoodIn wsL_law (wsV RL 107 RX9 yX9_count wsX9_count) := goodIn_app (goodIn_of _ (by decide +kernel)) ggL_law_X9_count
