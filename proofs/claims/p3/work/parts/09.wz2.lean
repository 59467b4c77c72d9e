set_option maxRecDepth 20000 in
theorem ggL_law_X8_exit : GoodIn wsL_law wsX8_exit := goodIn_r _ [265, 37, 38, 266, 267, 268, 36, 269, 270, 271, 627, 628, 629, 630, 631, 632, 633, 634, 635, 636, 637, 638, 639, 640, 641, 642, 643, 644, 645, 708, 709, 710] (by decide +kernel) (by decide +kernel)
set_option maxRecDepth 20000 in
theorem gL_law_X8_exit : GoodIn wsL_law (wsV RL 64 RX8 yX8_exit wsX8_exit) := goodIn_app (goodIn_of _ (by decide +kernel)) ggL_law_X8_exit
set_option maxRecDepth 20000 in
theorem ggL_law_X9_exit : GoodIn wsL_law wsX9_exit := goodIn_r _ [275, 152, 123, 124, 646, 647, 648, 649, 650, 651, 652, 653, 654, 655, 656, 657, 658, 659, 660, 661, 662, 663, 664, 665, 666, 667, 668, 669, 670, 671, 672, 673, 674, 675, 676, 677, 678, 679, 680, 681] (by decide +kernel) (by decide +kernel)
set_option maxRecDepth 20000 in
theorem gL_law_X9_exit : GoodIn wsL_law (wsV RL 67 RX9 yX9_exit wsX9_exit) := goodIn_app (goodIn_of _ (by decide +kernel)) ggL_law_X9_exit
set_option maxRecDepth 20000 in
theorem ggL_law_X8_begin : GoodIn wsL_law wsX8_begin := goodIn_r _ [279, 47, 280, 48, 627, 628, 629, 630, 631, 632, 633, 634, 635, 636, 637, 638, 639, 640, 641, 642, 643, 644, 645] (by decide +kernel) (by decide +kernel)
set_option maxRecDepth 20000 in
theorem gL_law_X8_begin : GoodIn wsL_law (wsV RL 68 RX8 yX8_begin wsX8_begin) := goodIn_app (goodIn_of _ (by decide +kernel)) ggL_law_X8_begin
set_option maxRecDepth 20000 in
theorem ggL_law_X9_begin : GoodIn wsL_law wsX9_begin := goodIn_r _ [284, 152, 180, 285, 135, 646, 647, 648, 649, 650, 651, 652, 653, 654, 655, 656, 657, 658, 659, 660, 661, 662, 663, 664, 665, 666, 667, 668, 669, 670, 671, 672, 673, 674, 675, 676, 677, 678, 679, 680, 681] (by decide +kernel) (by decide +kernel)
set_option maxRecDepth 20000 in
theorem gL_law_X9_begin : GoodIn wsL_law (wsV RL 71 RX9 yX9_begin wsX9_begin) := goodIn_app (goodIn_of _ (by decide +kernel)) ggL_law_X9_begin
set_option maxRecDepth 20000 in
theorem ggL_law_X8_release : GoodIn wsL_law wsX8_release := goodIn_r _ [289, 47, 280, 44, 211, 212, 213, 2, 214, 19, 189, 190, 191, 15, 192, 193, 627, 628, 629, 630, 631, 632, 633, 634, 635, 636, 637, 638, 639, 640, 641, 642, 643, 644, 645, 682, 683, 684, 685, 686] (by decide +kernel) (by decide +kernel)
set_option maxRecDepth 20000 in
theorem gL_law_X8_release : GoodIn wsL_law (wsV RL 72 RX8 yX8_release wsX8_release) := goodIn_app (goodIn_of _ (by decide +kernel)) ggL_law_X8_release
set_option maxRecDepth 20000 in
theorem ggL_law_X9_release : GoodIn wsL_law wsX9_release := goodIn_r _ [293, 152, 180, 285, 126, 227, 228, 229, 5, 230, 206, 646, 647, 648, 649, 650, 651, 652, 653, 654, 655, 656, 657, 658, 659, 660, 661, 662, 663, 664, 665, 666, 667, 668, 669, 670, 671, 672, 673, 674, 675, 676, 677, 678, 679, 680, 681] (by decide +kernel) (by decide +kernel)
set_option maxRecDepth 20000 in
theorem gL_law_X9_release : GoodIn wsL_law (wsV RL 75 RX9 yX9_release wsX9_release) := goodIn_app (goodIn_of _ (by decide +kernel)) ggL_law_X9_release
set_option maxRecDepth 20000 in
theorem ggL_law_L_sort : GoodIn wsL_law wsL_sort := goodIn_ca (goodIn_r _ [296, 297, 298, 299, 300, 2, 301, 302, 303, 47, 53, 25, 45, 304, 46, 305, 306, 52, 280, 307, 308, 309, 51, 310, 311, 312, 313, 314, 315, 316, 317, 318, 319, 20, 37, 44, 29, 19, 320, 321, 322, 323, 15, 324, 193, 325, 326, 327, 24, 328, 329, 330, 331, 332, 333, 36, 334, 335, 336, 337, 338, 28, 339, 239, 90, 240, 340, 341, 342, 343, 67, 68, 344, 345, 346, 347, 66, 348, 349, 350, 351, 352, 195, 196, 197, 65, 353, 354, 355, 356, 271, 270, 357, 220, 221, 222, 358, 359, 216, 217, 218, 58, 59, 60, 61, 360, 361, 362, 363, 364, 365, 366, 367, 81, 368, 369, 370, 371, 372, 373, 374, 375, 376, 377, 83, 378, 63, 64, 379, 380, 381, 382, 383, 384, 385, 386, 387, 86, 85, 388, 389, 390, 18, 391, 175, 72, 73, 74, 76, 392, 393, 394, 395, 396, 397, 398, 399, 400, 401, 402, 403, 404, 405, 406, 199, 200, 201, 407, 408, 409, 410, 411, 412, 413, 414, 82, 415, 416, 417, 418, 84, 419, 420, 421, 422, 33, 21, 423, 424, 425, 426, 32, 427, 256, 428, 429, 430, 431, 432, 433, 434, 435, 436, 437, 438, 439, 440, 441, 96, 94, 95, 442, 443, 444, 445, 446, 447, 448, 449, 450, 451, 452, 453, 454, 455, 456, 457, 458, 459, 460, 38, 461, 198, 462, 463, 464, 465, 466, 48, 627, 628, 629, 630, 631, 632, 633, 634, 635, 636, 637, 638, 639, 640, 641, 642, 643, 644, 645, 714, 715, 716, 717, 718, 682, 683, 684, 685, 686, 692, 693, 694, 695, 696, 697, 698, 699, 700, 708, 709, 710, 701, 702, 703, 687, 688, 689, 690, 691, 704, 705, 706, 707] (by decide +kernel) (by decide +kernel)) (goodIn_sub (fun _ h => List.mem_append_left _ (List.mem_append_right _ h)) (by decide +kernel))
set_option maxRecDepth 20000 in
theorem gL_law_L_sort : GoodIn wsL_law (va_wsS RL 76 yL_sort wsL_sort) := goodIn_app (goodIn_of _ (by decide +kernel)) ggL_law_L_sort
set_option maxRecDepth 20000 in
theorem ggL_law_X9_sort : GoodIn wsL_law wsX9_sort := goodIn_r _ [470, 152, 180, 471, 125, 285, 126, 472, 134, 136, 112, 113, 473, 474, 475, 5, 476, 130, 118, 131, 119, 132, 477, 478, 479, 480, 245, 120, 246, 481, 482, 483, 484, 124, 485, 123, 486, 487, 488, 489, 133, 490, 491, 492, 493, 181, 114, 116, 115, 117, 494, 495, 496, 497, 498, 499, 500, 501, 502, 503, 504, 505, 261, 506, 507, 508, 509, 121, 122, 510, 511, 512, 513, 514, 515, 516, 517, 518, 519, 520, 521, 522, 135, 646, 647, 648, 649, 650, 651, 652, 653, 654, 655, 656, 657, 658, 659, 660, 661, 662, 663, 664, 665, 666, 667, 668, 669, 670, 671, 672, 673, 674, 675, 676, 677, 678, 679, 680, 681] (by decide +kernel) (by decide +kernel)
set_option maxRecDepth 20000 in
theorem gL_law_X9_sort : GoodIn wsL_law (wsV RL 79 RX9 yX9_sort wsX9_sort) := goodIn_app (goodIn_of _ (by decide +kernel)) ggL_law_X9_sort
set_option maxRecDepth 20000 in
theorem ggL_law_X8_next : GoodIn wsL_law wsX8_next := goodIn_r _ [526, 47, 466, 25, 48, 20, 428, 429, 430, 24, 431, 329, 432, 433, 434, 435, 81, 198, 199, 200, 15, 201, 193, 66, 627, 628, 629, 630, 631, 632, 633, 634, 635, 636, 637, 638, 639, 640, 641, 642, 643, 644, 645, 692, 693, 694, 695, 696, 697, 698, 699, 700, 682, 683, 684, 685, 686] (by decide +kernel) (by decide +kernel)
set_option maxRecDepth 20000 in
theorem gL_law_X8_next : GoodIn wsL_law (wsV RL 80 RX8 yX8_next wsX8_next) := goodIn_app (goodIn_of _ (by decide +kernel)) ggL_law_X8_next
set_option maxRecDepth 20000 in
theorem ggL_law_X9_next : GoodIn wsL_law wsX9_next := goodIn_r _ [530, 152, 180, 522, 472, 134, 135, 132, 646, 647, 648, 649, 650, 651, 652, 653, 654, 655, 656, 657, 658, 659, 660, 661, 662, 663, 664, 665, 666, 667, 668, 669, 670, 671, 672, 673, 674, 675, 676, 677, 678, 679, 680, 681] (by decide +kernel) (by decide +kernel)
set_option maxRecDepth 20000 in
theorem gL_law_X9_next : GoodIn wsL_law (wsV RL 83 RX9 yX9_next wsX9_next) := goodIn_app (goodIn_of _ (by decide +kernel)) ggL_law_X9_next
set_option maxRecDepth 20000 in
theorem ggL_law_X8_value : GoodIn wsL_law wsX8_value := goodIn_r _ [534, 48, 20, 219, 220, 221, 15, 222, 193, 67, 535, 341, 342, 343, 68, 627, 628, 629, 630, 631, 632, 633, 634, 635, 636, 637, 638, 639, 640, 641, 642, 643, 644, 645, 682, 683, 684, 685, 686] (by decide +kernel) (by decide +kernel)
set_option maxRecDepth 20000 in
theorem gL_law_X8_value : GoodIn wsL_law (wsV RL 84 RX8 yX8_value wsX8_value) := goodIn_app (goodIn_of _ (by decide +kernel)) ggL_law_X8_value
set_option maxRecDepth 20000 in
theorem ggL_law_X9_value_ : GoodIn wsL_law wsX9_value_ := goodIn_r _ [539, 152, 135, 131, 130, 646, 647, 648, 649, 650, 651, 652, 653, 654, 655, 656, 657, 658, 659, 660, 661, 662, 663, 664, 665, 666, 667, 668, 669, 670, 671, 672, 673, 674, 675, 676, 677, 678, 679, 680, 681] (by decide +kernel) (by decide +kernel)
set_option maxRecDepth 20000 in
theorem gL_law_X9_value_ : GoodIn wsL_law (wsV RL 87 RX9 yX9_value_ wsX9_value_) := goodIn_app (goodIn_of _ (by decide +kernel)) ggL_law_X9_value_
set_option maxRecDepth 20000 in
theorem ggL_law_X8_merge : GoodIn wsL_law wsX8_merge := goodIn_r _ [543, 42, 211, 212, 213, 2, 214, 19, 189, 190, 191, 15, 192, 193, 544, 545, 546, 41, 547, 104, 103, 548, 627, 628, 629, 630, 631, 632, 633, 634, 635, 636, 637, 638, 639, 640, 641, 642, 643, 644, 645, 682, 683, 684, 685, 686, 711, 712, 713] (by decide +kernel) (by decide +kernel)
set_option maxRecDepth 20000 in
theorem gL_law_X8_merge : GoodIn wsL_law (wsV RL 88 RX8 yX8_merge wsX8_merge) := goodIn_app (goodIn_of _ (by decide +kernel)) ggL_law_X8_merge
set_option maxRecDepth 20000 in
theorem ggL_law_X9_merge : GoodIn wsL_law wsX9_merge := goodIn_r _ [552, 152, 128, 127, 227, 228, 229, 5, 230, 206, 646, 647, 648, 649, 650, 651, 652, 653, 654, 655, 656, 657, 658, 659, 660, 661, 662, 663, 664, 665, 666, 667, 668, 669, 670, 671, 672, 673, 674, 675, 676, 677, 678, 679, 680, 681] (by decide +kernel) (by decide +kernel)
set_option maxRecDepth 20000 in
theorem gL_law_X9_merge : GoodIn wsL_law (wsV RL 91 RX9 yX9_merge wsX9_merge) := goodIn_app (goodIn_of _ (by decide +kernel)) ggL_law_X9_merge
set_option maxRecDepth 20000 in
theorem ggL_law_X8_mergeAll : GoodIn wsL_law wsX8_mergeAll := goodIn_r _ [556, 47, 42, 19, 21, 25, 557, 558, 559, 41, 560, 104, 561, 562, 563, 564, 103, 565, 566, 567, 568, 569, 389, 390, 18, 391, 175, 72, 73, 74, 76, 392, 393, 394, 395, 341, 342, 15, 343, 193, 67, 68, 396, 397, 398, 399, 400, 401, 402, 403, 404, 405, 570, 571, 572, 2, 573, 20, 321, 322, 323, 324, 325, 326, 327, 24, 328, 329, 330, 574, 575, 576, 577, 83, 578, 579, 344, 345, 346, 347, 66, 348, 349, 350, 351, 352, 195, 196, 197, 65, 364, 365, 366, 367, 81, 580, 408, 409, 410, 368, 369, 370, 371, 372, 411, 412, 413, 414, 377, 59, 60, 61, 378, 63, 64, 82, 383, 415, 416, 417, 418, 84, 384, 385, 386, 387, 86, 85, 388, 406, 199, 200, 201, 407, 581, 582, 583, 584, 548, 462, 463, 464, 465, 466, 48, 428, 429, 430, 431, 627, 628, 629, 630, 631, 632, 633, 634, 635, 636, 637, 638, 639, 640, 641, 642, 643, 644, 645, 711, 712, 713, 687, 688, 689, 690, 691, 682, 683, 684, 685, 686, 692, 693, 694, 695, 696, 697, 698, 699, 700] (by decide +kernel) (by decide +kernel)
set_option maxRecDepth 20000 in
theorem gL_law_X8_mergeAll : GoodIn wsL_law (wsV RL 92 RX8 yX8_mergeAll wsX8_mergeAll) := goodIn_app (goodIn_of _ (by decide +kernel)) ggL_law_X8_mergeAll
set_option maxRecDepth 20000 in
theorem ggL_law_X9_mergeAll : GoodIn wsL_law wsX9_mergeAll := goodIn_r _ [588, 152, 180, 128, 118, 127, 471, 134, 133, 472, 490, 491, 492, 5, 493, 181, 114, 116, 115, 117, 494, 495, 496, 497, 473, 474, 475, 476, 130, 131, 119, 132, 486, 487, 488, 489, 518, 519, 520, 521, 522, 135, 646, 647, 648, 649, 650, 651, 652, 653, 654, 655, 656, 657, 658, 659, 660, 661, 662, 663, 664, 665, 666, 667, 668, 669, 670, 671, 672, 673, 674, 675, 676, 677, 678, 679, 680, 681] (by decide +kernel) (by decide +kernel)
set_option maxRecDepth 20000 in
theorem gL_law_X9_mergeAll : GoodIn wsL_law (wsV RL 95 RX9 yX9_mergeAll wsX9_mergeAll) := goodIn_app (goodIn_of _ (by decide +kernel)) ggL_law_X9_mergeAll
set_option maxRecDepth 20000 in
theorem ggL_law_L_compare : GoodIn wsL_law wsL_compare := goodIn_ca (goodIn_r _ [591, 592, 593, 594, 595, 2, 596, 597, 598, 21, 19, 211, 212, 213, 214, 189, 190, 191, 15, 192, 193, 436, 389, 390, 18, 391, 175, 72, 73, 74, 76, 392, 393, 394, 395, 341, 342, 343, 67, 68, 396, 397, 398, 399, 400, 401, 402, 403, 404, 405, 627, 628, 629, 630, 631, 632, 633, 634, 635, 636, 637, 638, 639, 640, 641, 642, 643, 644, 645, 682, 683, 684, 685, 686, 687, 688, 689, 690, 691] (by decide +kernel) (by decide +kernel)) (goodIn_sub (fun _ h => List.mem_append_right _ h) (by decide +kernel))
set_option maxRecDepth 20000 in
theorem gL_law_L_compare : GoodIn wsL_law (va_wsS RL 96 yL_compare wsL_compare) := goodIn_app (goodIn_of _ (by decide +kernel)) ggL_law_L_compare
set_option maxRecDepth 20000 in
theorem ggL_law_X9_compare : GoodIn wsL_law wsX9_compare := goodIn_r _ [602, 152, 118, 227, 228, 229, 5, 230, 206, 490, 491, 492, 493, 181, 114, 116, 115, 117, 494, 495, 496, 497, 646, 647, 648, 649, 650, 651, 652, 653, 654, 655, 656, 657, 658, 659, 660, 661, 662, 663, 664, 665, 666, 667, 668, 669, 670, 671, 672, 673, 674, 675, 676, 677, 678, 679, 680, 681] (by decide +kernel) (by decide +kernel)
set_option maxRecDepth 20000 in
theorem gL_law_X9_compare : GoodIn wsL_law (wsV RL 99 RX9 yX9_compare wsX9_compare) := goodIn_app (goodIn_of _ (by decide +kernel)) ggL_law_X9_compare
set_option maxRecDepth 20000 in
theorem ggL_law_X8_failed : GoodIn wsL_law wsX8_failed := goodIn_r _ [606, 306, 627, 628, 629, 630, 631, 632, 633, 634, 635, 636, 637, 638, 639, 640, 641, 642, 643, 644, 645] (by decide +kernel) (by decide +kernel)
set_option maxRecDepth 20000 in
theorem gL_law_X8_failed : GoodIn wsL_law (wsV RL 100 RX8 yX8_failed wsX8_failed) := goodIn_app (goodIn_of _ (by decide +kernel)) ggL_law_X8_failed
set_option maxRecDepth 20000 in
theorem ggL_law_X9_failed : GoodIn wsL_law wsX9_failed := goodIn_r _ [610, 152, 485, 646, 647, 648, 649, 650, 651, 652, 653, 654, 655, 656, 657, 658, 659, 660, 661, 662, 663, 664, 665, 666, 667, 668, 669, 670, 671, 672, 673, 674, 675, 676, 677, 678, 679, 680, 681] (by decide +kernel) (by decide +kernel)
set_option maxRecDepth 20000 in
theorem gL_law_X9_failed : GoodIn wsL_law (wsV RL 103 RX9 yX9_failed wsX9_failed) := goodIn_app (goodIn_of _ (by decide +kernel)) ggL_law_X9_failed
set_option maxRecDepth 20000 in
theorem ggL_law_X8_count : GoodIn wsL_law wsX8_count := goodIn_r _ [614, 21, 19, 47, 280, 52, 304, 305, 320, 423, 461, 42, 615, 616, 617, 18, 618, 175, 189, 190, 191, 15, 192, 193, 619, 620, 621, 41, 622, 548, 627, 628, 629, 630, 631, 632, 633, 634, 635, 636, 637, 638, 639, 640, 641, 642, 643, 644, 645, 714, 715, 716, 717, 718, 687, 688, 689, 690, 691, 682, 683, 684, 685, 686, 711, 712, 713] (by decide +kernel) (by decide +kernel)
set_option maxRecDepth 20000 in
theorem gL_law_X8_count : GoodIn wsL_law (wsV RL 104 RX8 yX8_count wsX8_count) := goodIn_app (goodIn_of _ (by decide +kernel)) ggL_law_X8_count
set_option maxRecDepth 20000 in
theorem ggL_law_X9_count : GoodIn wsL_law wsX9_count := goodIn_r _ [626, 152, 181, 206, 180, 285, 136, 128, 646, 647, 648, 649, 650, 651, 652, 653, 654, 655, 656, 657, 658, 659, 660, 661, 662, 663, 664, 665, 666, 667, 668, 669, 670, 671, 672, 673, 674, 675, 676, 677, 678, 679, 680, 681] (by decide +kernel) (by decide +kernel)
set_option maxRecDepth 20000 in
theorem gL_law_X9_count : GoodIn wsL_law (wsV RL 107 RX9 yX9_count wsX9_count) := goodIn_app (goodIn_of _ (by decide +kernel)) ggL_law_X9_count
