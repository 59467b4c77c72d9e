set_option maxRecDepth 20000 in
theorem ggL_law_X9_sort : GoodIn wsL_law wsX9_sort := goodIn_r _ [470, 152, 180, 471, 125, 285, 126, 472, 134, 136, 112, 113, 473, 474, 475, 5, 476, 130, 118, 131, 119, 132, 477, 478, 479, 480, 245, 120, 246, 481, 482, 483, 484, 124, 485, 123, 486, 487, 488, 489, 133, 490, 491, 492, 493, 181, 114, 116, 115, 117, 494, 495, 496, 497, 498, 499, 500, 501, 502, 503, 504, 505, 261, 506, 507, 508, 509, 121, 122, 510, 511, 512, 513, 514, 515, 516, 517, 518, 519, 520, 521, 522, 135, 646, 647, 648, 649, 650, 651, 652, 653, 654, 655, 656, 657, 658, 659, 660, 661, 662, 663, 664, 665, 666, 667, 668, 669, 670, 671, 672, 673, 674, 675, 676, 677, 678, 679, 680, 681] rfl (by decide +kernel)
set_option maxRecDepth 20000 in
theorem gL_law_X9_sort : GoodIn wsL_law (wsV RL 79 RX9 yX9_sort wsX9_sort) := goodIn_app (goodIn_of _ (by decide +kernel)) ggL_law_X9_sort
set_option maxRecDepth 20000 in
theorem ggL_law_X8_next : GoodIn wsL_law wsX8_next := goodIn_r _ [526, 47, 466, 25, 48, 20, 428, 429, 430, 24, 431, 329, 432, 433, 434, 435, 81, 198, 199, 200, 15, 201, 193, 66, 627, 628, 629, 630, 631, 632, 633, 634, 635, 636, 637, 638, 639, 640, 641, 642, 643, 644, 645, 692, 693, 694, 695, 696, 697, 698, 699, 700, 682, 683, 684, 685, 686] rfl (by decide +kernel)
set_option maxRecDepth 20000 in
theorem gL_law_X8_next : GoodIn wsL_law (wsV RL 80 RX8 yX8_next wsX8_next) := goodIn_app (goodIn_of _ (by decide +kernel)) ggL_law_X8_next
set_option maxRecDepth 20000 in
theorem ggL_law_X9_next : GoodIn wsL_law wsX9_next := goodIn_r _ [530, 152, 180, 522, 472, 134, 135, 132, 646, 647, 648, 649, 650, 651, 652, 653, 654, 655, 656, 657, 658, 659, 660, 661, 662, 663, 664, 665, 666, 667, 668, 669, 670, 671, 672, 673, 674, 675, 676, 677, 678, 679, 680, 681] rfl (by decide +kernel)
set_option maxRecDepth 20000 in
theorem gL_law_X9_next : GoodIn wsL_law (wsV RL 83 RX9 yX9_next wsX9_next) := goodIn_app (goodIn_of _ (by decide +kernel)) ggL_law_X9_next
set_option maxRecDepth 20000 in
theorem ggL_law_X8_value : GoodIn wsL_law wsX8_value := goodIn_r _ [534, 48, 20, 219, 220, 221, 15, 222, 193, 67, 535, 341, 342, 343, 68, 627, 628, 629, 630, 631, 632, 633, 634, 635, 636, 637, 638, 639, 640, 641, 642, 643, 644, 645, 682, 683, 684, 685, 686] rfl (by decide +kernel)
set_option maxRecDepth 20000 in
theorem gL_law_X8_value : GoodIn wsL_law (wsV RL 84 RX8 yX8_value wsX8_value) := goodIn_app (goodIn_of _ (by decide +kernel)) ggL_law_X8_value
set_option maxRecDepth 20000 in
theorem ggL_law_X9_value_ : GoodIn wsL_law wsX9_value_ := goodIn_r _ [539, 152, 135, 131, 130, 646, 647, 648, 649, 650, 651, 652, 653, 654, 655, 656, 657, 658, 659, 660, 661, 662, 663, 664, 665, 666, 667, 668, 669, 670, 671, 672, 673, 674, 675, 676, 677, 678, 679, 680, 681] rfl (by decide +kernel)
set_option maxRecDepth 20000 in
theorem gL_law_X9_value_ : GoodIn wsL_law (wsV RL 87 RX9 yX9_value_ wsX9_value_) := goodIn_app (goodIn_of _ (by decide +kernel)) ggL_law_X9_value_
set_option maxRecDepth 20000 in
theorem ggL_law_X8_merge : GoodIn wsL_law wsX8_merge := goodIn_r _ [543, 42, 211, 212, 213, 2, 214, 19, 189, 190, 191, 15, 192, 193, 544, 545, 546, 41, 547, 104, 103, 548, 627, 628, 629, 630, 631, 632, 633, 634, 635, 636, 637, 638, 639, 640, 641, 642, 643, 644, 645, 682, 683, 684, 685, 686, 711, 712, 713] rfl (by decide +kernel)
set_option maxRecDepth 20000 in
theorem gL_law_X8_merge : GoodIn wsL_law (wsV RL 88 RX8 yX8_merge wsX8_merge) := goodIn_app (goodIn_of _ (by decide +kernel)) ggL_law_X8_merge
set_option maxRecDepth 20000 in
theorem ggL_law_X9_merge : GoodIn wsL_law wsX9_merge := goodIn_r _ [552, 152, 128, 127, 227, 228, 229, 5, 230, 206, 646, 647, 648, 649, 650, 651, 652, 653, 654, 655, 656, 657, 658, 659, 660, 661, 662, 663, 664, 665, 666, 667, 668, 669, 670, 671, 672, 673, 674, 675, 676, 677, 678, 679, 680, 681] rfl (by decide +kernel)
set_option maxRecDepth 20000 in
theorem gL_law_X9_merge : GoodIn wsL_law (wsV RL 91 RX9 yX9_merge wsX9_merge) := goodIn_app (goodIn_of _ (by decide +kernel)) ggL_law_X9_merge
