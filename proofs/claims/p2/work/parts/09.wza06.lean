set_option maxRecDepth 20000 in
theorem ggL_law_X9_mergeAll : GoodIn wsL_law wsX9_mergeAll := goodIn_r _ [592, 152, 184, 128, 118, 127, 475, 134, 133, 476, 494, 495, 496, 5, 497, 185, 114, 116, 115, 117, 498, 499, 500, 501, 477, 478, 479, 480, 130, 131, 119, 132, 490, 491, 492, 493, 522, 523, 524, 525, 526, 135, 650, 651, 652, 653, 654, 655, 656, 657, 658, 659, 660, 661, 662, 663, 664, 665, 666, 667, 668, 669, 670, 671, 672, 673, 674, 675, 676, 677, 678, 679, 680, 681, 682, 683, 684, 685] (by decide +kernel) (by decide +kernel)
set_option maxRecDepth 20000 in
theorem gL_law_X9_mergeAll : GoodIn wsL_law (wsV RL 98 RX9 yX9_mergeAll wsX9_mergeAll) := goodIn_app (goodIn_of _ (by decide +kernel)) ggL_law_X9_mergeAll
