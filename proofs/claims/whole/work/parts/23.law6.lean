set_option maxRecDepth 20000 in
theorem gL_law_X6_second : GoodIn wsL_law (wsV RL 76 RX6 yX6_second wsX6_second) := goodIn_app (goodIn_of _ (by decide +kernel)) ggL_law_X6_second
set_option maxRecDepth 20000 in
theorem ggL_law_X7_second : GoodIn wsL_law wsX7_second := goodIn_r _ [444, 164, 166, 173, 150, 151, 445, 446, 447, 5, 448, 449, 450, 451, 452, 172, 148, 149, 453, 454, 455, 456, 152, 165, 144, 146, 145, 457, 458, 459, 460, 461, 462, 463, 464, 465, 466, 467, 468, 469, 470, 471, 472, 143, 139, 140, 473, 474, 475, 476, 141, 142, 676, 677, 678, 679, 680, 681, 682, 683, 684, 685, 686, 687, 688, 689, 690, 691, 692, 693, 694, 695, 696, 697, 698, 699, 700, 701, 702, 703, 704, 705, 706] rfl (by decide +kernel)
set_option maxRecDepth 20000 in
theorem gL_law_X7_second : GoodIn wsL_law (wsV RL 79 RX7 yX7_second wsX7_second) := goodIn_app (goodIn_of _ (by decide +kernel)) ggL_law_X7_second
set_option maxRecDepth 20000 in
theorem ggL_law_X6_told : GoodIn wsL_law wsX6_told := goodIn_r _ [480, 17, 332, 111, 34, 29, 481, 482, 483, 28, 484, 63, 127, 126, 125, 124, 123, 122, 485, 486, 487, 33, 488, 78, 489, 490, 491, 492, 493, 75, 494, 495, 496, 497, 64, 128, 394, 395, 396, 397, 129, 130, 131, 16, 132, 44, 669, 670, 671, 672, 673, 674, 675, 707, 708, 709, 710, 711, 712, 713, 714, 715, 716, 726, 727, 728, 729, 730, 731, 732, 733, 734, 735, 736, 737, 738, 739, 740, 741, 742, 743, 744, 745, 746, 747, 748, 749, 750] rfl (by decide +kernel)
set_option maxRecDepth 20000 in
theorem gL_law_X6_told : GoodIn wsL_law (wsV RL 80 RX6 yX6_told wsX6_told) := goodIn_app (goodIn_of _ (by decide +kernel)) ggL_law_X6_told
set_option maxRecDepth 20000 in
theorem ggL_law_X7_told : GoodIn wsL_law wsX7_told := goodIn_r _ [501, 164, 166, 165, 173, 151, 445, 446, 447, 5, 448, 150, 457, 458, 459, 460, 461, 462, 463, 464, 144, 502, 503, 504, 505, 174, 154, 676, 677, 678, 679, 680, 681, 682, 683, 684, 685, 686, 687, 688, 689, 690, 691, 692, 693, 694, 695, 696, 697, 698, 699, 700, 701, 702, 703, 704, 705, 706] rfl (by decide +kernel)
set_option maxRecDepth 20000 in
theorem gL_law_X7_told : GoodIn wsL_law (wsV RL 84 RX7 yX7_told wsX7_told) := goodIn_app (goodIn_of _ (by decide +kernel)) ggL_law_X7_told
set_option maxRecDepth 20000 in
theorem ggL_law_X6_shown : GoodIn wsL_law wsX6_shown := goodIn_r _ [509, 17, 332, 29, 209, 210, 211, 16, 212, 100, 510, 395, 396, 28, 397, 64, 122, 124, 125, 129, 130, 131, 132, 44, 669, 670, 671, 672, 673, 674, 675, 707, 708, 709, 710, 711, 712, 713, 714, 715, 716, 726, 727, 728, 729, 730, 731, 732, 733, 734, 735] rfl (by decide +kernel)
set_option maxRecDepth 20000 in
theorem gL_law_X6_shown : GoodIn wsL_law (wsV RL 85 RX6 yX6_shown wsX6_shown) := goodIn_app (goodIn_of _ (by decide +kernel)) ggL_law_X6_shown
set_option maxRecDepth 20000 in
theorem ggL_law_X7_shown : GoodIn wsL_law wsX7_shown := goodIn_r _ [514, 164, 166, 222, 223, 224, 5, 225, 165, 445, 446, 447, 448, 151, 150, 457, 458, 459, 460, 461, 462, 463, 464, 144, 676, 677, 678, 679, 680, 681, 682, 683, 684, 685, 686, 687, 688, 689, 690, 691, 692, 693, 694, 695, 696, 697, 698, 699, 700, 701, 702, 703, 704, 705, 706] rfl (by decide +kernel)
set_option maxRecDepth 20000 in
theorem gL_law_X7_shown : GoodIn wsL_law (wsV RL 88 RX7 yX7_shown wsX7_shown) := goodIn_app (goodIn_of _ (by decide +kernel)) ggL_law_X7_shown
set_option maxRecDepth 20000 in
theorem ggL_law_X6_prove : GoodIn wsL_law wsX6_prove := goodIn_r _ [518, 17, 332, 34, 112, 113, 114, 33, 115, 116, 78, 69, 117, 103, 104, 105, 519, 520, 521, 522, 82, 80, 523, 70, 74, 75, 524, 525, 119, 120, 28, 121, 122, 123, 124, 125, 126, 127, 64, 63, 128, 129, 130, 131, 16, 132, 44, 133, 526, 482, 483, 484, 527, 528, 529, 530, 76, 77, 489, 490, 491, 492, 493, 531, 532, 533, 534, 535, 536, 537, 538, 539, 540, 541, 100, 101, 542, 543, 544, 545, 546, 547, 548, 549, 383, 384, 385, 386, 387, 388, 293, 294, 295, 389, 390, 391, 392, 393, 210, 211, 212, 394, 395, 396, 397, 398, 367, 368, 369, 399, 400, 401, 402, 403, 404, 405, 406, 407, 408, 409, 410, 411, 412, 413, 414, 46, 45, 415, 416, 417, 418, 43, 419, 420, 421, 422, 423, 424, 425, 426, 427, 428, 429, 40, 430, 431, 432, 433, 434, 435, 436, 437, 438, 439, 440, 550, 551, 552, 553, 554, 79, 555, 486, 487, 488, 556, 557, 558, 73, 559, 86, 560, 561, 562, 563, 87, 89, 88, 564, 565, 566, 567, 568, 569, 570, 571, 572, 573, 574, 669, 670, 671, 672, 673, 674, 675, 707, 708, 709, 710, 711, 712, 713, 714, 715, 716, 736, 737, 738, 739, 740, 741, 742, 743, 744, 745, 746, 747, 748, 749, 750, 726, 727, 728, 729, 730, 731, 732, 733, 734, 735, 751, 752, 753, 754] rfl (by decide +kernel)
set_option maxRecDepth 20000 in
theorem gL_law_X6_prove : GoodIn wsL_law (wsV RL 89 RX6 yX6_prove wsX6_prove) := goodIn_app (goodIn_of _ (by decide +kernel)) ggL_law_X6_prove
set_option maxRecDepth 20000 in
theorem ggL_law_X7_prove : GoodIn wsL_law wsX7_prove := goodIn_r _ [578, 164, 153, 174, 166, 165, 579, 157, 175, 176, 177, 5, 178, 151, 144, 580, 581, 582, 583, 154, 155, 156, 584, 585, 586, 587, 453, 454, 455, 456, 152, 146, 145, 457, 458, 459, 460, 461, 462, 463, 464, 465, 466, 467, 468, 469, 470, 471, 472, 143, 139, 140, 473, 474, 475, 476, 141, 142, 588, 589, 590, 591, 592, 158, 502, 503, 504, 505, 676, 677, 678, 679, 680, 681, 682, 683, 684, 685, 686, 687, 688, 689, 690, 691, 692, 693, 694, 695, 696, 697, 698, 699, 700, 701, 702, 703, 704, 705, 706] rfl (by decide +kernel)
set_option maxRecDepth 20000 in
theorem gL_law_X7_prove : GoodIn wsL_law (wsV RL 92 RX7 yX7_prove wsX7_prove) := goodIn_app (goodIn_of _ (by decide +kernel)) ggL_law_X7_prove
set_option maxRecDepth 20000 in
theorem ggL_law_X6_states : GoodIn wsL_law wsX6_states := goodIn_r _ [596, 34, 597, 669, 670, 671, 672, 673, 674, 675, 736, 737, 738, 739, 740, 741, 742, 743, 744, 745, 746, 747, 748, 749, 750] rfl (by decide +kernel)
set_option maxRecDepth 20000 in
theorem gL_law_X6_states : GoodIn wsL_law (wsV RL 93 RX6 yX6_states wsX6_states) := goodIn_app (goodIn_of _ (by decide +kernel)) ggL_law_X6_states
set_option maxRecDepth 20000 in
theorem ggL_law_X7_states : GoodIn wsL_law wsX7_states := goodIn_r _ [601, 164, 174, 676, 677, 678, 679, 680, 681, 682, 683, 684, 685, 686, 687, 688, 689, 690, 691, 692, 693, 694, 695, 696, 697, 698, 699, 700, 701, 702, 703, 704, 705, 706] rfl (by decide +kernel)
set_option maxRecDepth 20000 in
theorem gL_law_X7_states : GoodIn wsL_law (wsV RL 96 RX7 yX7_states wsX7_states) := goodIn_app (goodIn_of _ (by decide +kernel)) ggL_law_X7_states
set_option maxRecDepth 20000 in
theorem ggL_law_X6_row : GoodIn wsL_law wsX6_row := goodIn_r _ [605, 34, 606, 607, 608, 33, 609, 69, 554, 79, 535, 77, 536, 82, 537, 75, 542, 543, 544, 28, 545, 122, 123, 124, 125, 126, 127, 63, 546, 547, 548, 610, 611, 612, 613, 495, 496, 497, 64, 128, 394, 395, 396, 397, 129, 130, 131, 16, 132, 44, 669, 670, 671, 672, 673, 674, 675, 736, 737, 738, 739, 740, 741, 742, 743, 744, 745, 746, 747, 748, 749, 750, 726, 727, 728, 729, 730, 731, 732, 733, 734, 735, 707, 708, 709, 710, 711, 712, 713, 714, 715, 716] rfl (by decide +kernel)
set_option maxRecDepth 20000 in
theorem gL_law_X6_row : GoodIn wsL_law (wsV RL 97 RX6 yX6_row wsX6_row) := goodIn_app (goodIn_of _ (by decide +kernel)) ggL_law_X6_row
set_option maxRecDepth 20000 in
theorem ggL_law_X7_row : GoodIn wsL_law wsX7_row := goodIn_r _ [617, 164, 153, 592, 158, 151, 175, 176, 177, 5, 178, 165, 166, 144, 453, 454, 455, 456, 152, 146, 145, 457, 458, 459, 460, 461, 462, 463, 464, 465, 466, 467, 468, 469, 470, 471, 472, 143, 139, 140, 473, 474, 475, 476, 141, 142, 676, 677, 678, 679, 680, 681, 682, 683, 684, 685, 686, 687, 688, 689, 690, 691, 692, 693, 694, 695, 696, 697, 698, 699, 700, 701, 702, 703, 704, 705, 706] rfl (by decide +kernel)
set_option maxRecDepth 20000 in
theorem gL_law_X7_row : GoodIn wsL_law (wsV RL 101 RX7 yX7_row wsX7_row) := goodIn_app (goodIn_of _ (by decide +kernel)) ggL_law_X7_row
set_option maxRecDepth 20000 in
theorem ggL_law_X6_longest : GoodIn wsL_law wsX6_longest := goodIn_r _ [621, 34, 622, 17, 623, 209, 210, 211, 16, 212, 100, 669, 670, 671, 672, 673, 674, 675, 736, 737, 738, 739, 740, 741, 742, 743, 744, 745, 746, 747, 748, 749, 750, 707, 708, 709, 710, 711, 712, 713, 714, 715, 716] rfl (by decide +kernel)
set_option maxRecDepth 20000 in
theorem gL_law_X6_longest : GoodIn wsL_law (wsV RL 102 RX6 yX6_longest wsX6_longest) := goodIn_app (goodIn_of _ (by decide +kernel)) ggL_law_X6_longest
set_option maxRecDepth 20000 in
theorem ggL_law_X7_longest : GoodIn wsL_law wsX7_longest := goodIn_r _ [627, 164, 153, 174, 159, 579, 157, 222, 223, 224, 5, 225, 165, 628, 629, 630, 631, 154, 676, 677, 678, 679, 680, 681, 682, 683, 684, 685, 686, 687, 688, 689, 690, 691, 692, 693, 694, 695, 696, 697, 698, 699, 700, 701, 702, 703, 704, 705, 706] rfl (by decide +kernel)
set_option maxRecDepth 20000 in
theorem gL_law_X7_longest : GoodIn wsL_law (wsV RL 105 RX7 yX7_longest wsX7_longest) := goodIn_app (goodIn_of _ (by decide +kernel)) ggL_law_X7_longest
set_option maxRecDepth 20000 in
theorem ggL_law_X6_ring : GoodIn wsL_law wsX6_ring := goodIn_r _ [635, 34, 622, 17, 267, 623, 669, 670, 671, 672, 673, 674, 675, 736, 737, 738, 739, 740, 741, 742, 743, 744, 745, 746, 747, 748, 749, 750, 707, 708, 709, 710, 711, 712, 713, 714, 715, 716] rfl (by decide +kernel)
set_option maxRecDepth 20000 in
theorem gL_law_X6_ring : GoodIn wsL_law (wsV RL 106 RX6 yX6_ring wsX6_ring) := goodIn_app (goodIn_of _ (by decide +kernel)) ggL_law_X6_ring
set_option maxRecDepth 20000 in
theorem ggL_law_X7_ring : GoodIn wsL_law wsX7_ring := goodIn_r _ [639, 164, 165, 640, 625, 626, 5, 627, 153, 174, 159, 579, 157, 222, 223, 224, 225, 628, 629, 630, 631, 154, 676, 677, 678, 679, 680, 681, 682, 683, 684, 685, 686, 687, 688, 689, 690, 691, 692, 693, 694, 695, 696, 697, 698, 699, 700, 701, 702, 703, 704, 705, 706] rfl (by decide +kernel)
set_option maxRecDepth 20000 in
theorem gL_law_X7_ring : GoodIn wsL_law (wsV RL 109 RX7 yX7_ring wsX7_ring) := goodIn_app (goodIn_of _ (by decide +kernel)) ggL_law_X7_ring
set_option maxRecDepth 20000 in
theorem ggL_law_X6_answered : GoodIn wsL_law wsX6_answered := goodIn_r _ [644, 34, 622, 645, 633, 634, 2, 635, 17, 267, 623, 669, 670, 671, 672, 673, 674, 675, 736, 737, 738, 739, 740, 741, 742, 743, 744, 745, 746, 747, 748, 749, 750, 707, 708, 709, 710, 711, 712, 713, 714, 715, 716] rfl (by decide +kernel)
set_option maxRecDepth 20000 in
theorem gL_law_X6_answered : GoodIn wsL_law (wsV RL 110 RX6 yX6_answered wsX6_answered) := goodIn_app (goodIn_of _ (by decide +kernel)) ggL_law_X6_answered
set_option maxRecDepth 20000 in
theorem ggL_law_X7_answered : GoodIn wsL_law wsX7_answered := goodIn_r _ [649, 164, 153, 165, 640, 625, 626, 5, 627, 174, 159, 579, 157, 222, 223, 224, 225, 628, 629, 630, 631, 154, 676, 677, 678, 679, 680, 681, 682, 683, 684, 685, 686, 687, 688, 689, 690, 691, 692, 693, 694, 695, 696, 697, 698, 699, 700, 701, 702, 703, 704, 705, 706] rfl (by decide +kernel)
set_option maxRecDepth 20000 in
theorem gL_law_X7_answered : GoodIn wsL_law (wsV RL 114 RX7 yX7_answered wsX7_answered) := goodIn_app (goodIn_of _ (by decide +kernel)) ggL_law_X7_answered
set_option maxRecDepth 20000 in
theorem ggL_law_X6_same : GoodIn wsL_law wsX6_same := goodIn_r _ [653, 17, 332, 34, 597, 30, 29, 25, 111, 481, 482, 483, 28, 484, 63, 127, 126, 125, 124, 123, 122, 654, 543, 544, 545, 546, 547, 548, 485, 486, 487, 33, 488, 78, 489, 490, 491, 492, 493, 75, 378, 379, 380, 24, 381, 58, 350, 351, 352, 353, 349, 57, 382, 383, 384, 385, 386, 387, 388, 293, 294, 295, 389, 390, 391, 392, 64, 128, 393, 210, 211, 16, 212, 100, 394, 395, 396, 397, 129, 130, 131, 132, 44, 398, 367, 368, 369, 101, 399, 400, 401, 402, 403, 404, 405, 406, 407, 408, 409, 410, 411, 412, 413, 414, 46, 45, 415, 416, 417, 418, 43, 419, 420, 421, 422, 423, 424, 425, 426, 427, 428, 429, 40, 430, 431, 432, 433, 434, 435, 436, 437, 438, 439, 440, 669, 670, 671, 672, 673, 674, 675, 707, 708, 709, 710, 711, 712, 713, 714, 715, 716, 736, 737, 738, 739, 740, 741, 742, 743, 744, 745, 746, 747, 748, 749, 750, 726, 727, 728, 729, 730, 731, 732, 733, 734, 735, 723, 724, 725] rfl (by decide +kernel)
set_option maxRecDepth 20000 in
theorem gL_law_X6_same : GoodIn wsL_law (wsV RL 115 RX6 yX6_same wsX6_same) := goodIn_app (goodIn_of _ (by decide +kernel)) ggL_law_X6_same
set_option maxRecDepth 20000 in
theorem ggL_law_X7_same : GoodIn wsL_law wsX7_same := goodIn_r _ [658, 164, 166, 153, 173, 445, 446, 447, 5, 448, 151, 150, 502, 503, 504, 505, 174, 154, 449, 450, 451, 452, 172, 148, 149, 453, 454, 455, 456, 152, 165, 144, 146, 145, 457, 458, 459, 460, 461, 462, 463, 464, 465, 466, 467, 468, 469, 470, 471, 472, 143, 139, 140, 473, 474, 475, 476, 141, 142, 676, 677, 678, 679, 680, 681, 682, 683, 684, 685, 686, 687, 688, 689, 690, 691, 692, 693, 694, 695, 696, 697, 698, 699, 700, 701, 702, 703, 704, 705, 706] rfl (by decide +kernel)
set_option maxRecDepth 20000 in
theorem gL_law_X7_same : GoodIn wsL_law (wsV RL 118 RX7 yX7_same wsX7_same) := goodIn_app (goodIn_of _ (by decide +kernel)) ggL_law_X7_same
set_option maxRecDepth 20000 in
theorem ggL_law_X6_from : GoodIn wsL_law wsX6_from := goodIn_r _ [662, 663] rfl (by decide +kernel)
set_option maxRecDepth 20000 in
theorem gL_law_X6_from : GoodIn wsL_law (wsV RL 121 RX6 yX6_from wsX6_from) := goodIn_app (goodIn_of _ (by decide +kernel)) ggL_law_X6_from
set_option maxRecDepth 20000 in
theorem ggL_law_X7_from : GoodIn wsL_law wsX7_from := goodIn_r _ [667, 164, 668, 676, 677, 678, 679, 680, 681, 682, 683, 684, 685, 686, 687, 688, 689, 690, 691, 692, 693, 694, 695, 696, 697, 698, 699, 700, 701, 702, 703, 704, 705, 706] rfl (by decide +kernel)
set_option maxRecDepth 20000 in
theorem gL_law_X7_from : GoodIn wsL_law (wsV RL 125 RX7 yX7_from wsX7_from) := goodIn_app (goodIn_of _ (by decide +kernel)) ggL_law_X7_from
