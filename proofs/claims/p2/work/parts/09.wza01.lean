set_option maxRecDepth 20000 in
theorem ggL_law_X8_key : GoodIn wsL_law wsX8_key := goodIn_r _ [168, 47, 21, 169, 170, 18, 171, 172, 173, 2, 174, 175, 176, 177, 178, 179, 72, 73, 74, 76, 631, 632, 633, 634, 635, 636, 637, 638, 639, 640, 641, 642, 643, 644, 645, 646, 647, 648, 649, 691, 692, 693, 694, 695] (by decide +kernel) (by decide +kernel)
set_option maxRecDepth 20000 in
theorem gL_law_X8_key : GoodIn wsL_law (wsV RL 45 RX8 yX8_key wsX8_key) := goodIn_app (goodIn_of _ (by decide +kernel)) ggL_law_X8_key
set_option maxRecDepth 20000 in
theorem ggL_law_X9_key : GoodIn wsL_law wsX9_key := goodIn_r _ [183, 152, 184, 185, 114, 115, 116, 117, 186, 187, 5, 188, 650, 651, 652, 653, 654, 655, 656, 657, 658, 659, 660, 661, 662, 663, 664, 665, 666, 667, 668, 669, 670, 671, 672, 673, 674, 675, 676, 677, 678, 679, 680, 681, 682, 683, 684, 685] (by decide +kernel) (by decide +kernel)
set_option maxRecDepth 20000 in
theorem gL_law_X9_key : GoodIn wsL_law (wsV RL 49 RX9 yX9_key wsX9_key) := goodIn_app (goodIn_of _ (by decide +kernel)) ggL_law_X9_key
set_option maxRecDepth 20000 in
theorem ggL_law_X8_record : GoodIn wsL_law wsX8_record := goodIn_r _ [192, 19, 193, 194, 195, 15, 196, 197, 198, 199, 200, 201, 65, 66, 67, 202, 203, 204, 205, 631, 632, 633, 634, 635, 636, 637, 638, 639, 640, 641, 642, 643, 644, 645, 646, 647, 648, 649, 686, 687, 688, 689, 690] (by decide +kernel) (by decide +kernel)
set_option maxRecDepth 20000 in
theorem gL_law_X8_record : GoodIn wsL_law (wsV RL 50 RX8 yX8_record wsX8_record) := goodIn_app (goodIn_of _ (by decide +kernel)) ggL_law_X8_record
set_option maxRecDepth 20000 in
theorem ggL_law_X9_record : GoodIn wsL_law wsX9_record := goodIn_r _ [209, 152, 210, 650, 651, 652, 653, 654, 655, 656, 657, 658, 659, 660, 661, 662, 663, 664, 665, 666, 667, 668, 669, 670, 671, 672, 673, 674, 675, 676, 677, 678, 679, 680, 681, 682, 683, 684, 685] (by decide +kernel) (by decide +kernel)
set_option maxRecDepth 20000 in
theorem gL_law_X9_record : GoodIn wsL_law (wsV RL 53 RX9 yX9_record wsX9_record) := goodIn_app (goodIn_of _ (by decide +kernel)) ggL_law_X9_record
set_option maxRecDepth 20000 in
theorem ggL_law_X8_octet : GoodIn wsL_law wsX8_octet := goodIn_r _ [214, 19, 215, 216, 217, 2, 218, 193, 194, 195, 15, 196, 197, 219, 220, 221, 222, 67, 68, 58, 59, 60, 61, 223, 224, 225, 226, 631, 632, 633, 634, 635, 636, 637, 638, 639, 640, 641, 642, 643, 644, 645, 646, 647, 648, 649, 686, 687, 688, 689, 690] (by decide +kernel) (by decide +kernel)
set_option maxRecDepth 20000 in
theorem gL_law_X8_octet : GoodIn wsL_law (wsV RL 54 RX8 yX8_octet wsX8_octet) := goodIn_app (goodIn_of _ (by decide +kernel)) ggL_law_X8_octet
set_option maxRecDepth 20000 in
theorem ggL_law_X9_octet : GoodIn wsL_law wsX9_octet := goodIn_r _ [230, 152, 118, 119, 231, 232, 233, 5, 234, 210, 650, 651, 652, 653, 654, 655, 656, 657, 658, 659, 660, 661, 662, 663, 664, 665, 666, 667, 668, 669, 670, 671, 672, 673, 674, 675, 676, 677, 678, 679, 680, 681, 682, 683, 684, 685] (by decide +kernel) (by decide +kernel)
set_option maxRecDepth 20000 in
theorem gL_law_X9_octet : GoodIn wsL_law (wsV RL 58 RX9 yX9_octet wsX9_octet) := goodIn_app (goodIn_of _ (by decide +kernel)) ggL_law_X9_octet
set_option maxRecDepth 20000 in
theorem ggL_law_X8_include : GoodIn wsL_law wsX8_include := goodIn_r _ [238, 29, 239, 240, 241, 28, 242, 243, 90, 244, 631, 632, 633, 634, 635, 636, 637, 638, 639, 640, 641, 642, 643, 644, 645, 646, 647, 648, 649, 705, 706, 707] (by decide +kernel) (by decide +kernel)
set_option maxRecDepth 20000 in
theorem gL_law_X8_include : GoodIn wsL_law (wsV RL 59 RX8 yX8_include wsX8_include) := goodIn_app (goodIn_of _ (by decide +kernel)) ggL_law_X8_include
set_option maxRecDepth 20000 in
theorem ggL_law_X9_include : GoodIn wsL_law wsX9_include := goodIn_r _ [248, 152, 249, 120, 250, 650, 651, 652, 653, 654, 655, 656, 657, 658, 659, 660, 661, 662, 663, 664, 665, 666, 667, 668, 669, 670, 671, 672, 673, 674, 675, 676, 677, 678, 679, 680, 681, 682, 683, 684, 685] (by decide +kernel) (by decide +kernel)
set_option maxRecDepth 20000 in
theorem gL_law_X9_include : GoodIn wsL_law (wsV RL 62 RX9 yX9_include wsX9_include) := goodIn_app (goodIn_of _ (by decide +kernel)) ggL_law_X9_include
