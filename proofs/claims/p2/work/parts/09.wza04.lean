set_option maxRecDepth 20000 in
theorem ggL_law_X9_sort : GoodIn wsL_law wsX9_sort := goodIn_r _ [474, 152, 184, 475, 125, 289, 126, 476, 134, 136, 112, 113, 477, 478, 479, 5, 480, 130, 118, 131, 119, 132, 481, 482, 483, 484, 249, 120, 250, 485, 486, 487, 488, 124, 489, 123, 490, 491, 492, 493, 133, 494, 495, 496, 497, 185, 114, 116, 115, 117, 498, 499, 500, 501, 502, 503, 504, 505, 506, 507, 508, 509, 265, 510, 511, 512, 513, 121, 122, 514, 515, 516, 517, 518, 519, 520, 521, 522, 523, 524, 525, 526, 135, 650, 651, 652, 653, 654, 655, 656, 657, 658, 659, 660, 661, 662, 663, 664, 665, 666, 667, 668, 669, 670, 671, 672, 673, 674, 675, 676, 677, 678, 679, 680, 681, 682, 683, 684, 685] (by decide +kernel) (by decide +kernel)
set_option maxRecDepth 20000 in
theorem gL_law_X9_sort : GoodIn wsL_law (wsV RL 82 RX9 yX9_sort wsX9_sort) := goodIn_app (goodIn_of _ (by decide +kernel)) ggL_law_X9_sort
set_option maxRecDepth 20000 in
theorem ggL_law_X8_next : GoodIn wsL_law wsX8_next := goodIn_r _ [530, 47, 470, 25, 48, 20, 432, 433, 434, 24, 435, 333, 436, 437, 438, 439, 81, 202, 203, 204, 15, 205, 197, 66, 631, 632, 633, 634, 635, 636, 637, 638, 639, 640, 641, 642, 643, 644, 645, 646, 647, 648, 649, 696, 697, 698, 699, 700, 701, 702, 703, 704, 686, 687, 688, 689, 690] (by decide +kernel) (by decide +kernel)
set_option maxRecDepth 20000 in
theorem gL_law_X8_next : GoodIn wsL_law (wsV RL 83 RX8 yX8_next wsX8_next) := goodIn_app (goodIn_of _ (by decide +kernel)) ggL_law_X8_next
set_option maxRecDepth 20000 in
theorem ggL_law_X9_next : GoodIn wsL_law wsX9_next := goodIn_r _ [534, 152, 184, 526, 476, 134, 135, 132, 650, 651, 652, 653, 654, 655, 656, 657, 658, 659, 660, 661, 662, 663, 664, 665, 666, 667, 668, 669, 670, 671, 672, 673, 674, 675, 676, 677, 678, 679, 680, 681, 682, 683, 684, 685] (by decide +kernel) (by decide +kernel)
set_option maxRecDepth 20000 in
theorem gL_law_X9_next : GoodIn wsL_law (wsV RL 86 RX9 yX9_next wsX9_next) := goodIn_app (goodIn_of _ (by decide +kernel)) ggL_law_X9_next
set_option maxRecDepth 20000 in
theorem ggL_law_X8_value : GoodIn wsL_law wsX8_value := goodIn_r _ [538, 48, 20, 223, 224, 225, 15, 226, 197, 67, 539, 345, 346, 347, 68, 631, 632, 633, 634, 635, 636, 637, 638, 639, 640, 641, 642, 643, 644, 645, 646, 647, 648, 649, 686, 687, 688, 689, 690] (by decide +kernel) (by decide +kernel)
set_option maxRecDepth 20000 in
theorem gL_law_X8_value : GoodIn wsL_law (wsV RL 87 RX8 yX8_value wsX8_value) := goodIn_app (goodIn_of _ (by decide +kernel)) ggL_law_X8_value
set_option maxRecDepth 20000 in
theorem ggL_law_X9_value_ : GoodIn wsL_law wsX9_value_ := goodIn_r _ [543, 152, 135, 131, 130, 650, 651, 652, 653, 654, 655, 656, 657, 658, 659, 660, 661, 662, 663, 664, 665, 666, 667, 668, 669, 670, 671, 672, 673, 674, 675, 676, 677, 678, 679, 680, 681, 682, 683, 684, 685] (by decide +kernel) (by decide +kernel)
set_option maxRecDepth 20000 in
theorem gL_law_X9_value_ : GoodIn wsL_law (wsV RL 90 RX9 yX9_value_ wsX9_value_) := goodIn_app (goodIn_of _ (by decide +kernel)) ggL_law_X9_value_
set_option maxRecDepth 20000 in
theorem ggL_law_X8_merge : GoodIn wsL_law wsX8_merge := goodIn_r _ [547, 42, 215, 216, 217, 2, 218, 19, 193, 194, 195, 15, 196, 197, 548, 549, 550, 41, 551, 104, 103, 552, 631, 632, 633, 634, 635, 636, 637, 638, 639, 640, 641, 642, 643, 644, 645, 646, 647, 648, 649, 686, 687, 688, 689, 690, 715, 716, 717] (by decide +kernel) (by decide +kernel)
set_option maxRecDepth 20000 in
theorem gL_law_X8_merge : GoodIn wsL_law (wsV RL 91 RX8 yX8_merge wsX8_merge) := goodIn_app (goodIn_of _ (by decide +kernel)) ggL_law_X8_merge
set_option maxRecDepth 20000 in
theorem ggL_law_X9_merge : GoodIn wsL_law wsX9_merge := goodIn_r _ [556, 152, 128, 127, 231, 232, 233, 5, 234, 210, 650, 651, 652, 653, 654, 655, 656, 657, 658, 659, 660, 661, 662, 663, 664, 665, 666, 667, 668, 669, 670, 671, 672, 673, 674, 675, 676, 677, 678, 679, 680, 681, 682, 683, 684, 685] (by decide +kernel) (by decide +kernel)
set_option maxRecDepth 20000 in
theorem gL_law_X9_merge : GoodIn wsL_law (wsV RL 94 RX9 yX9_merge wsX9_merge) := goodIn_app (goodIn_of _ (by decide +kernel)) ggL_law_X9_merge
