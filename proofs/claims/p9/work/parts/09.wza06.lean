set_option maxRecDepth 20000 in
theorem ggL_law_X9_mergeAll : GoodIn wsL_law wsX9_mergeAll := goodIn_r _ [588, 152, 180, 128, 118, 127, 471, 134, 133, 472, 490, 491, 492, 5, 493, 181, 114, 116, 115, 117, 494, 495, 496, 497, 473, 474, 475, 476, 130, 131, 119, 132, 486, 487, 488, 489, 518, 519, 520, 521, 522, 135, 646, 647, 648, 649, 650, 651, 652, 653, 654, 655, 656, 657, 658, 659, 660, 661, 662, 663, 664, 665, 666, 667, 668, 669, 670, 671, 672, 673, 674, 675, 676, 677, 678, 679, 680, 681] rfl (by decide +kernel)
set_option maxRecDepth 20000 in
theorem gL_law_X9_mergeAll : GoodIn wsL_law (wsV RL 95 RX9 yX9_mergeAll wsX9_mergeAll) := goodIn_app (goodIn_of _ (by decide +kernel)) ggL_law_X9_mergeAll
