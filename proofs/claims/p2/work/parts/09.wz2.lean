set_option maxRecDepth 20000 in
theorem ggL_law_X9_sum : GoodIn wsL_law wsX9_sum := goodIn_r _ [264, 152, 265, 121, 122, 186, 187, 5, 188, 650, 651, 652, 653, 654, 655, 656, 657, 658, 659, 660, 661, 662, 663, 664, 665, 666, 667, 668, 669, 670, 671, 672, 673, 674, 675, 676, 677, 678, 679, 680, 681, 682, 683, 684, 685] (by decide +kernel) (by decide +kernel)
set_option maxRecDepth 20000 in
theorem gL_law_X9_sum : GoodIn wsL_law (wsV RL 66 RX9 yX9_sum wsX9_sum) := goodIn_app (goodIn_of _ (by decide +kernel)) ggL_law_X9_sum
set_option maxRecDepth 20000 in
theorem ggL_law_X8_exit : GoodIn wsL_law wsX8_exit := goodIn_r _ [269, 37, 38, 270, 271, 272, 36, 273, 274, 275, 631, 632, 633, 634, 635, 636, 637, 638, 639, 640, 641, 642, 643, 644, 645, 646, 647, 648, 649, 712, 713, 714] (by decide +kernel) (by decide +kernel)
set_option maxRecDepth 20000 in
theorem gL_law_X8_exit : GoodIn wsL_law (wsV RL 67 RX8 yX8_exit wsX8_exit) := goodIn_app (goodIn_of _ (by decide +kernel)) ggL_law_X8_exit
set_option maxRecDepth 20000 in
theorem ggL_law_X9_exit : GoodIn wsL_law wsX9_exit := goodIn_r _ [279, 152, 123, 124, 650, 651, 652, 653, 654, 655, 656, 657, 658, 659, 660, 661, 662, 663, 664, 665, 666, 667, 668, 669, 670, 671, 672, 673, 674, 675, 676, 677, 678, 679, 680, 681, 682, 683, 684, 685] (by decide +kernel) (by decide +kernel)
set_option maxRecDepth 20000 in
theorem gL_law_X9_exit : GoodIn wsL_law (wsV RL 70 RX9 yX9_exit wsX9_exit) := goodIn_app (goodIn_of _ (by decide +kernel)) ggL_law_X9_exit
set_option maxRecDepth 20000 in
theorem ggL_law_X8_begin : GoodIn wsL_law wsX8_begin := goodIn_r _ [283, 47, 284, 48, 631, 632, 633, 634, 635, 636, 637, 638, 639, 640, 641, 642, 643, 644, 645, 646, 647, 648, 649] (by decide +kernel) (by decide +kernel)
set_option maxRecDepth 20000 in
theorem gL_law_X8_begin : GoodIn wsL_law (wsV RL 71 RX8 yX8_begin wsX8_begin) := goodIn_app (goodIn_of _ (by decide +kernel)) ggL_law_X8_begin
set_option maxRecDepth 20000 in
theorem ggL_law_X9_begin : GoodIn wsL_law wsX9_begin := goodIn_r _ [288, 152, 184, 289, 135, 650, 651, 652, 653, 654, 655, 656, 657, 658, 659, 660, 661, 662, 663, 664, 665, 666, 667, 668, 669, 670, 671, 672, 673, 674, 675, 676, 677, 678, 679, 680, 681, 682, 683, 684, 685] (by decide +kernel) (by decide +kernel)
set_option maxRecDepth 20000 in
theorem gL_law_X9_begin : GoodIn wsL_law (wsV RL 74 RX9 yX9_begin wsX9_begin) := goodIn_app (goodIn_of _ (by decide +kernel)) ggL_law_X9_begin
set_option maxRecDepth 20000 in
theorem ggL_law_X8_release : GoodIn wsL_law wsX8_release := goodIn_r _ [293, 47, 284, 44, 215, 216, 217, 2, 218, 19, 193, 194, 195, 15, 196, 197, 631, 632, 633, 634, 635, 636, 637, 638, 639, 640, 641, 642, 643, 644, 645, 646, 647, 648, 649, 686, 687, 688, 689, 690] (by decide +kernel) (by decide +kernel)
set_option maxRecDepth 20000 in
theorem gL_law_X8_release : GoodIn wsL_law (wsV RL 75 RX8 yX8_release wsX8_release) := goodIn_app (goodIn_of _ (by decide +kernel)) ggL_law_X8_release
set_option maxRecDepth 20000 in
theorem ggL_law_X9_release : GoodIn wsL_law wsX9_release := goodIn_r _ [297, 152, 184, 289, 126, 231, 232, 233, 5, 234, 210, 650, 651, 652, 653, 654, 655, 656, 657, 658, 659, 660, 661, 662, 663, 664, 665, 666, 667, 668, 669, 670, 671, 672, 673, 674, 675, 676, 677, 678, 679, 680, 681, 682, 683, 684, 685] (by decide +kernel) (by decide +kernel)
set_option maxRecDepth 20000 in
theorem gL_law_X9_release : GoodIn wsL_law (wsV RL 78 RX9 yX9_release wsX9_release) := goodIn_app (goodIn_of _ (by decide +kernel)) ggL_law_X9_release
set_option maxRecDepth 20000 in
theorem ggL_law_L_sort : GoodIn wsL_law wsL_sort := goodIn_ca (goodIn_r _ [300, 301, 302, 303, 304, 2, 305, 306, 307, 47, 53, 25, 45, 308, 46, 309, 310, 52, 284, 311, 312, 313, 51, 314, 315, 316, 317, 318, 319, 320, 321, 322, 323, 20, 37, 44, 29, 19, 324, 325, 326, 327, 15, 328, 197, 329, 330, 331, 24, 332, 333, 334, 335, 336, 337, 36, 338, 339, 340, 341, 342, 28, 343, 243, 90, 244, 344, 345, 346, 347, 67, 68, 348, 349, 350, 351, 66, 352, 353, 354, 355, 356, 199, 200, 201, 65, 357, 358, 359, 360, 275, 274, 361, 224, 225, 226, 362, 363, 220, 221, 222, 58, 59, 60, 61, 364, 365, 366, 367, 368, 369, 370, 371, 81, 372, 373, 374, 375, 376, 377, 378, 379, 380, 381, 83, 382, 63, 64, 383, 384, 385, 386, 387, 388, 389, 390, 391, 86, 85, 392, 393, 394, 18, 395, 179, 72, 73, 74, 76, 396, 397, 398, 399, 400, 401, 402, 403, 404, 405, 406, 407, 408, 409, 410, 203, 204, 205, 411, 412, 413, 414, 415, 416, 417, 418, 82, 419, 420, 421, 422, 84, 423, 424, 425, 426, 33, 21, 427, 428, 429, 430, 32, 431, 260, 432, 433, 434, 435, 436, 437, 438, 439, 440, 441, 442, 443, 444, 445, 96, 94, 95, 446, 447, 448, 449, 450, 451, 452, 453, 454, 455, 456, 457, 458, 459, 460, 461, 462, 463, 464, 38, 465, 202, 466, 467, 468, 469, 470, 48, 631, 632, 633, 634, 635, 636, 637, 638, 639, 640, 641, 642, 643, 644, 645, 646, 647, 648, 649, 718, 719, 720, 721, 722, 686, 687, 688, 689, 690, 696, 697, 698, 699, 700, 701, 702, 703, 704, 712, 713, 714, 705, 706, 707, 691, 692, 693, 694, 695, 708, 709, 710, 711] (by decide +kernel) (by decide +kernel)) (goodIn_sub (fun _ h => List.mem_append_left _ (List.mem_append_right _ h)) (by decide +kernel))
set_option maxRecDepth 20000 in
theorem gL_law_L_sort : GoodIn wsL_law (va_wsS RL 79 yL_sort wsL_sort) := goodIn_app (goodIn_of _ (by decide +kernel)) ggL_law_L_sort
set_option maxRecDepth 20000 in
theorem ggL_law_X9_sort : GoodIn wsL_law wsX9_sort := goodIn_r _ [474, 152, 184, 475, 125, 289, 126, 476, 134, 136, 112, 113, 477, 478, 479, 5, 480, 130, 118, 131, 119, 132, 481, 482, 483, 484, 249, 120, 250, 485, 486, 487, 488, 124, 489, 123, 490, 491, 492, 493, 133, 494, 495, 496, 497, 185, 114, 116, 115, 117, 498, 499, 500, 501, 502, 503, 504, 505, 506, 507, 508, 509, 265, 510, 511, 512, 513, 121, 122, 514, 515, 516, 517, 518, 519, 520, 521, 522, 523, 524, 525, 526, 135, 650, 651, 652, 653, 654, 655, 656, 657, 658, 659, 660, 661, 662, 663, 664, 665, 666, 667, 668, 669, 670, 671, 672, 673, 674, 675, 676, 677, 678, 679, 680, 681, 682, 683, 684, 685] (by decide +kernel) (by decide +kernel)
set_option maxRecDepth 20000 in
theorem gL_law_X9_sort : GoodIn wsL_law (wsV RL 82 RX9 yX9_sort wsX9_sort) := goodIn_app (goodIn_of _ (by decide +kernel)) ggL_law_X9_sort
set_option maxRecDepth 20000 in
theorem ggL_law_X8_next : GoodIn wsL_law wsX8_next := goodIn_r _ [530, 47, 470, 25, 48, 20, 432, 433, 434, 24, 435, 333, 436, 437, 438, 439, 81, 202, 203, 204, 15, 205, 197, 66, 631, 632, 633, 634, 635, 636, 637, 638, 639, 640, 641, 642, 643, 644, 645, 646, 647, 648, 649, 696, 697, 698, 699, 700, 701, 702, 703, 704, 686, 687, 688, 689, 690] (by decide +kernel) (by decide +kernel)
set_option maxRecDepth 20000 in
theorem gL_law_X8_next : GoodIn wsL_law (wsV RL 83 RX8 yX8_next wsX8_next) := goodIn_app (goodIn_of _ (by decide +kernel)) ggL_law_X8_next
set_option maxRecDepth 20000 in
theorem ggL_law_X9_next : GoodIn wsL_law wsX9_next := goodIn_r _ [534, 152, 184, 526, 476, 134, 135, 132, 650, 651, 652, 653, 654, 655, 656, 657, 658, 659, 660, 661, 662, 663, 664, 665, 666, 667, 668, 669, 670, 671, 672, 673, 674, 675, 676, 677, 678, 679, 680, 681, 682, 683, 684, 685] (by decide +kernel) (by decide +kernel)
set_option maxRecDepth 20000 in
theorem gL_law_X9_next : GoodIn wsL_law (wsV RL 86 RX9 yX9_next wsX9_next) := goodIn_app (goodIn_of _ (by decide +kernel)) ggL_law_X9_next
set_option maxRecDepth 20000 in
theorem ggL_law_X8_value : GoodIn wsL_law wsX8_value := goodIn_r _ [538, 48, 20, 223, 224, 225, 15, 226, 197, 67, 539, 345, 346, 347, 68, 631, 632, 633, 634, 635, 636, 637, 638, 639, 640, 641, 642, 643, 644, 645, 646, 647, 648, 649, 686, 687, 688, 689, 690] (by decide +kernel) (by decide +kernel)
set_option maxRecDepth 20000 in
theorem gL_law_X8_value : GoodIn wsL_law (wsV RL 87 RX8 yX8_value wsX8_value) := goodIn_app (goodIn_of _ (by decide +kernel)) ggL_law_X8_value
set_option maxRecDepth 20000 in
theorem ggL_law_X9_value_ : GoodIn wsL_law wsX9_value_ := goodIn_r _ [543, 152, 135, 131, 130, 650, 651, 652, 653, 654, 655, 656, 657, 658, 659, 660, 661, 662, 663, 664, 665, 666, 667, 668, 669, 670, 671, 672, 673, 674, 675, 676, 677, 678, 679, 680, 681, 682, 683, 684, 685] (by decide +kernel) (by decide +kernel)
set_option maxRecDepth 20000 in
theorem gL_law_X9_value_ : GoodIn wsL_law (wsV RL 90 RX9 yX9_value_ wsX9_value_) := goodIn_app (goodIn_of _ (by decide +kernel)) ggL_law_X9_value_
set_option maxRecDepth 20000 in
theorem ggL_law_X8_merge : GoodIn wsL_law wsX8_merge := goodIn_r _ [547, 42, 215, 216, 217, 2, 218, 19, 193, 194, 195, 15, 196, 197, 548, 549, 550, 41, 551, 104, 103, 552, 631, 632, 633, 634, 635, 636, 637, 638, 639, 640, 641, 642, 643, 644, 645, 646, 647, 648, 649, 686, 687, 688, 689, 690, 715, 716, 717] (by decide +kernel) (by decide +kernel)
set_option maxRecDepth 20000 in
theorem gL_law_X8_merge : GoodIn wsL_law (wsV RL 91 RX8 yX8_merge wsX8_merge) := goodIn_app (goodIn_of _ (by decide +kernel)) ggL_law_X8_merge
set_option maxRecDepth 20000 in
theorem ggL_law_X9_merge : GoodIn wsL_law wsX9_merge := goodIn_r _ [556, 152, 128, 127, 231, 232, 233, 5, 234, 210, 650, 651, 652, 653, 654, 655, 656, 657, 658, 659, 660, 661, 662, 663, 664, 665, 666, 667, 668, 669, 670, 671, 672, 673, 674, 675, 676, 677, 678, 679, 680, 681, 682, 683, 684, 685] (by decide +kernel) (by decide +kernel)
set_option maxRecDepth 20000 in
theorem gL_law_X9_merge : GoodIn wsL_law (wsV RL 94 RX9 yX9_merge wsX9_merge) := goodIn_app (goodIn_of _ (by decide +kernel)) ggL_law_X9_merge
set_option maxRecDepth 20000 in
theorem ggL_law_X8_mergeAll : GoodIn wsL_law wsX8_mergeAll := goodIn_r _ [560, 47, 42, 19, 21, 25, 561, 562, 563, 41, 564, 104, 565, 566, 567, 568, 103, 569, 570, 571, 572, 573, 393, 394, 18, 395, 179, 72, 73, 74, 76, 396, 397, 398, 399, 345, 346, 15, 347, 197, 67, 68, 400, 401, 402, 403, 404, 405, 406, 407, 408, 409, 574, 575, 576, 2, 577, 20, 325, 326, 327, 328, 329, 330, 331, 24, 332, 333, 334, 578, 579, 580, 581, 83, 582, 583, 348, 349, 350, 351, 66, 352, 353, 354, 355, 356, 199, 200, 201, 65, 368, 369, 370, 371, 81, 584, 412, 413, 414, 372, 373, 374, 375, 376, 415, 416, 417, 418, 381, 59, 60, 61, 382, 63, 64, 82, 387, 419, 420, 421, 422, 84, 388, 389, 390, 391, 86, 85, 392, 410, 203, 204, 205, 411, 585, 586, 587, 588, 552, 466, 467, 468, 469, 470, 48, 432, 433, 434, 435, 631, 632, 633, 634, 635, 636, 637, 638, 639, 640, 641, 642, 643, 644, 645, 646, 647, 648, 649, 715, 716, 717, 691, 692, 693, 694, 695, 686, 687, 688, 689, 690, 696, 697, 698, 699, 700, 701, 702, 703, 704] (by decide +kernel) (by decide +kernel)
set_option maxRecDepth 20000 in
theorem gL_law_X8_mergeAll : GoodIn wsL_law (wsV RL 95 RX8 yX8_mergeAll wsX8_mergeAll) := goodIn_app (goodIn_of _ (by decide +kernel)) ggL_law_X8_mergeAll
set_option maxRecDepth 20000 in
theorem ggL_law_X9_mergeAll : GoodIn wsL_law wsX9_mergeAll := goodIn_r _ [592, 152, 184, 128, 118, 127, 475, 134, 133, 476, 494, 495, 496, 5, 497, 185, 114, 116, 115, 117, 498, 499, 500, 501, 477, 478, 479, 480, 130, 131, 119, 132, 490, 491, 492, 493, 522, 523, 524, 525, 526, 135, 650, 651, 652, 653, 654, 655, 656, 657, 658, 659, 660, 661, 662, 663, 664, 665, 666, 667, 668, 669, 670, 671, 672, 673, 674, 675, 676, 677, 678, 679, 680, 681, 682, 683, 684, 685] (by decide +kernel) (by decide +kernel)
set_option maxRecDepth 20000 in
theorem gL_law_X9_mergeAll : GoodIn wsL_law (wsV RL 98 RX9 yX9_mergeAll wsX9_mergeAll) := goodIn_app (goodIn_of _ (by decide +kernel)) ggL_law_X9_mergeAll
set_option maxRecDepth 20000 in
theorem ggL_law_L_compare : GoodIn wsL_law wsL_compare := goodIn_ca (goodIn_r _ [595, 596, 597, 598, 599, 2, 600, 601, 602, 21, 19, 215, 216, 217, 218, 193, 194, 195, 15, 196, 197, 440, 393, 394, 18, 395, 179, 72, 73, 74, 76, 396, 397, 398, 399, 345, 346, 347, 67, 68, 400, 401, 402, 403, 404, 405, 406, 407, 408, 409, 631, 632, 633, 634, 635, 636, 637, 638, 639, 640, 641, 642, 643, 644, 645, 646, 647, 648, 649, 686, 687, 688, 689, 690, 691, 692, 693, 694, 695] (by decide +kernel) (by decide +kernel)) (goodIn_sub (fun _ h => List.mem_append_right _ h) (by decide +kernel))
set_option maxRecDepth 20000 in
theorem gL_law_L_compare : GoodIn wsL_law (va_wsS RL 99 yL_compare wsL_compare) := goodIn_app (goodIn_of _ (by decide +kernel)) ggL_law_L_compare
set_option maxRecDepth 20000 in
theorem ggL_law_X9_compare : GoodIn wsL_law wsX9_compare := goodIn_r _ [606, 152, 118, 231, 232, 233, 5, 234, 210, 494, 495, 496, 497, 185, 114, 116, 115, 117, 498, 499, 500, 501, 650, 651, 652, 653, 654, 655, 656, 657, 658, 659, 660, 661, 662, 663, 664, 665, 666, 667, 668, 669, 670, 671, 672, 673, 674, 675, 676, 677, 678, 679, 680, 681, 682, 683, 684, 685] (by decide +kernel) (by decide +kernel)
set_option maxRecDepth 20000 in
theorem gL_law_X9_compare : GoodIn wsL_law (wsV RL 102 RX9 yX9_compare wsX9_compare) := goodIn_app (goodIn_of _ (by decide +kernel)) ggL_law_X9_compare
set_option maxRecDepth 20000 in
theorem ggL_law_X8_failed : GoodIn wsL_law wsX8_failed := goodIn_r _ [610, 310, 631, 632, 633, 634, 635, 636, 637, 638, 639, 640, 641, 642, 643, 644, 645, 646, 647, 648, 649] (by decide +kernel) (by decide +kernel)
set_option maxRecDepth 20000 in
theorem gL_law_X8_failed : GoodIn wsL_law (wsV RL 103 RX8 yX8_failed wsX8_failed) := goodIn_app (goodIn_of _ (by decide +kernel)) ggL_law_X8_failed
set_option maxRecDepth 20000 in
theorem ggL_law_X9_failed : GoodIn wsL_law wsX9_failed := goodIn_r _ [614, 152, 489, 650, 651, 652, 653, 654, 655, 656, 657, 658, 659, 660, 661, 662, 663, 664, 665, 666, 667, 668, 669, 670, 671, 672, 673, 674, 675, 676, 677, 678, 679, 680, 681, 682, 683, 684, 685] (by decide +kernel) (by decide +kernel)
set_option maxRecDepth 20000 in
theorem gL_law_X9_failed : GoodIn wsL_law (wsV RL 106 RX9 yX9_failed wsX9_failed) := goodIn_app (goodIn_of _ (by decide +kernel)) ggL_law_X9_failed
set_option maxRecDepth 20000 in
theorem ggL_law_X8_count : GoodIn wsL_law wsX8_count := goodIn_r _ [618, 21, 19, 47, 284, 52, 308, 309, 324, 427, 465, 42, 619, 620, 621, 18, 622, 179, 193, 194, 195, 15, 196, 197, 623, 624, 625, 41, 626, 552, 631, 632, 633, 634, 635, 636, 637, 638, 639, 640, 641, 642, 643, 644, 645, 646, 647, 648, 649, 718, 719, 720, 721, 722, 691, 692, 693, 694, 695, 686, 687, 688, 689, 690, 715, 716, 717] (by decide +kernel) (by decide +kernel)
set_option maxRecDepth 20000 in
theorem gL_law_X8_count : GoodIn wsL_law (wsV RL 107 RX8 yX8_count wsX8_count) := goodIn_app (goodIn_of _ (by decide +kernel)) ggL_law_X8_count
set_option maxRecDepth 20000 in
theorem ggL_law_X9_count : GoodIn wsL_law wsX9_count := goodIn_r _ [630, 152, 185, 210, 184, 289, 136, 128, 650, 651, 652, 653, 654, 655, 656, 657, 658, 659, 660, 661, 662, 663, 664, 665, 666, 667, 668, 669, 670, 671, 672, 673, 674, 675, 676, 677, 678, 679, 680, 681, 682, 683, 684, 685] (by decide +kernel) (by decide +kernel)
set_option maxRecDepth 20000 in
theorem gL_law_X9_count : GoodIn wsL_law (wsV RL 110 RX9 yX9_count wsX9_count) := goodIn_app (goodIn_of _ (by decide +kernel)) ggL_law_X9_count
