set_option maxRecDepth 20000 in
theorem ggL_law_X6_init : GoodIn wsL_law wsX6_init := goodIn_r _ [10, 11, 12, 13, 14, 15, 16, 17, 18, 19, 20, 21, 22, 23, 24, 25, 26, 27, 28, 29, 30, 31, 32, 33, 34, 35, 36, 37, 38, 39, 40, 41, 42, 43, 44, 45, 46, 47, 48, 49, 50, 51, 52, 53, 54, 55, 56, 57, 58, 59, 60, 61, 62, 63, 64, 65, 66, 67, 68, 69, 70, 71, 72, 73, 74, 6, 75, 76, 77, 78, 79, 80, 81, 82, 83, 84, 85, 86, 87, 88, 89, 90, 91, 92, 93, 2, 94, 95, 96, 97, 98, 99, 100, 101, 102, 103, 104, 105, 106, 107, 108, 109, 110, 111, 112, 113, 114, 115, 116, 117, 118, 119, 120, 121, 122, 123, 124, 125, 126, 127, 128, 129, 130, 131, 132, 133, 707, 708, 709, 710, 711, 712, 713, 714, 715, 716, 669, 670, 671, 672, 673, 674, 675, 717, 718, 719, 720, 721, 722, 723, 724, 725, 726, 727, 728, 729, 730, 731, 732, 733, 734, 735, 736, 737, 738, 739, 740, 741, 742, 743, 744, 745, 746, 747, 748, 749, 750, 751, 752, 753, 754] rfl (by decide +kernel)
set_option maxRecDepth 20000 in
theorem gL_law_X6_init : GoodIn wsL_law (wsX6_init) := ggL_law_X6_init
set_option maxRecDepth 20000 in
theorem ggL_law_X7_init : GoodIn wsL_law wsX7_init := goodIn_r _ [136, 137, 12, 13, 138, 139, 38, 140, 141, 142, 143, 144, 145, 146, 147, 148, 149, 150, 151, 152, 153, 154, 155, 156, 157, 158, 159, 160, 161, 162, 5, 163, 164, 165, 166, 167, 168, 169, 170, 171, 172, 173, 174, 175, 176, 177, 178, 676, 677, 678, 679, 680, 681, 682, 683, 684, 685, 686, 687, 688, 689, 690, 691, 692, 693, 694, 695, 696, 697, 698, 699, 700, 701, 702, 703, 704, 705, 706] rfl (by decide +kernel)
set_option maxRecDepth 20000 in
theorem gL_law_X7_init : GoodIn wsL_law (wsX7_init) := ggL_law_X7_init
set_option maxRecDepth 20000 in
theorem ggL_law_L_begin : GoodIn wsL_law wsL_begin := goodIn_ca (goodIn_r _ [182, 183, 184, 185, 186, 187, 2, 188, 189, 190, 191, 192, 193, 91, 92, 93, 94, 17, 21, 95, 96, 97, 98, 16, 99, 100, 101, 39, 40, 41, 42, 43, 44, 102, 103, 104, 105, 106, 107, 108, 109, 25, 110, 34, 29, 111, 112, 113, 114, 33, 115, 116, 78, 69, 117, 118, 119, 120, 28, 121, 122, 123, 124, 125, 126, 127, 64, 63, 128, 129, 130, 131, 132, 133, 755, 756, 757, 758, 759, 760, 669, 670, 671, 672, 673, 674, 675, 717, 718, 719, 720, 721, 722, 707, 708, 709, 710, 711, 712, 713, 714, 715, 716, 723, 724, 725, 736, 737, 738, 739, 740, 741, 742, 743, 744, 745, 746, 747, 748, 749, 750, 726, 727, 728, 729, 730, 731, 732, 733, 734, 735] rfl (by decide +kernel)) (goodIn_sub (fun _ h => List.mem_append_right _ h) (by decide +kernel))
set_option maxRecDepth 20000 in
theorem gL_law_L_begin : GoodIn wsL_law (va_wsS RL 34 yL_begin wsL_begin) := goodIn_app (goodIn_of _ (by decide +kernel)) ggL_law_L_begin
set_option maxRecDepth 20000 in
theorem ggL_law_X7_begin : GoodIn wsL_law wsX7_begin := goodIn_r _ [163, 164, 165, 139, 140, 141, 142, 166, 167, 168, 169, 170, 5, 171, 172, 173, 153, 174, 150, 151, 175, 176, 177, 178, 144, 676, 677, 678, 679, 680, 681, 682, 683, 684, 685, 686, 687, 688, 689, 690, 691, 692, 693, 694, 695, 696, 697, 698, 699, 700, 701, 702, 703, 704, 705, 706] rfl (by decide +kernel)
set_option maxRecDepth 20000 in
theorem gL_law_X7_begin : GoodIn wsL_law (wsV RL 39 RX7 yX7_begin wsX7_begin) := goodIn_app (goodIn_of _ (by decide +kernel)) ggL_law_X7_begin
set_option maxRecDepth 20000 in
theorem ggL_law_X7_thrown : GoodIn wsL_law wsX7_thrown := goodIn_r _ [198, 164, 676, 677, 678, 679, 680, 681, 682, 683, 684, 685, 686, 687, 688, 689, 690, 691, 692, 693, 694, 695, 696, 697, 698, 699, 700, 701, 702, 703, 704, 705, 706] rfl (by decide +kernel)
set_option maxRecDepth 20000 in
theorem gL_law_X7_thrown : GoodIn wsL_law (wsV RL 40 RX7 yX7_thrown wsX7_thrown) := goodIn_app (goodIn_of _ (by decide +kernel)) ggL_law_X7_thrown
set_option maxRecDepth 20000 in
theorem ggL_law_L_clash : GoodIn wsL_law wsL_clash := goodIn_r _ [201, 202, 203, 204, 2, 205, 17, 206, 207, 208, 209, 210, 211, 16, 212, 100, 213, 214, 215, 216, 39, 40, 217, 106, 107, 108, 109, 25, 110, 34, 29, 111, 112, 113, 114, 33, 115, 116, 78, 69, 117, 103, 104, 105, 118, 119, 120, 28, 121, 122, 123, 124, 125, 126, 127, 64, 63, 128, 129, 130, 131, 132, 44, 133, 669, 670, 671, 672, 673, 674, 675, 761, 762, 763, 764, 765, 766, 707, 708, 709, 710, 711, 712, 713, 714, 715, 716, 723, 724, 725, 736, 737, 738, 739, 740, 741, 742, 743, 744, 745, 746, 747, 748, 749, 750, 726, 727, 728, 729, 730, 731, 732, 733, 734, 735] rfl (by decide +kernel)
set_option maxRecDepth 20000 in
theorem gL_law_L_clash : GoodIn wsL_law (va_wsS RL 44 yL_clash wsL_clash) := goodIn_app (goodIn_of _ (by decide +kernel)) ggL_law_L_clash
set_option maxRecDepth 20000 in
theorem ggL_law_X7_clash : GoodIn wsL_law wsX7_clash := goodIn_r _ [221, 164, 139, 140, 222, 223, 224, 5, 225, 165, 168, 169, 170, 171, 172, 173, 153, 174, 150, 151, 175, 176, 177, 178, 166, 144, 676, 677, 678, 679, 680, 681, 682, 683, 684, 685, 686, 687, 688, 689, 690, 691, 692, 693, 694, 695, 696, 697, 698, 699, 700, 701, 702, 703, 704, 705, 706] rfl (by decide +kernel)
set_option maxRecDepth 20000 in
theorem gL_law_X7_clash : GoodIn wsL_law (wsV RL 47 RX7 yX7_clash wsX7_clash) := goodIn_app (goodIn_of _ (by decide +kernel)) ggL_law_X7_clash
set_option maxRecDepth 20000 in
theorem ggL_law_L_least : GoodIn wsL_law wsL_least := goodIn_r _ [228, 229, 230, 231, 2, 232, 17, 206, 207, 208, 233, 209, 210, 211, 16, 212, 100, 106, 107, 108, 109, 25, 110, 34, 29, 111, 112, 113, 114, 33, 115, 116, 78, 69, 117, 103, 104, 105, 118, 119, 120, 28, 121, 122, 123, 124, 125, 126, 127, 64, 63, 128, 129, 130, 131, 132, 44, 133, 669, 670, 671, 672, 673, 674, 675, 761, 762, 763, 764, 765, 766, 707, 708, 709, 710, 711, 712, 713, 714, 715, 716, 723, 724, 725, 736, 737, 738, 739, 740, 741, 742, 743, 744, 745, 746, 747, 748, 749, 750, 726, 727, 728, 729, 730, 731, 732, 733, 734, 735] rfl (by decide +kernel)
set_option maxRecDepth 20000 in
theorem gL_law_L_least : GoodIn wsL_law (va_wsS RL 48 yL_least wsL_least) := goodIn_app (goodIn_of _ (by decide +kernel)) ggL_law_L_least
set_option maxRecDepth 20000 in
theorem ggL_law_X7_least : GoodIn wsL_law wsX7_least := goodIn_r _ [237, 164, 141, 222, 223, 224, 5, 225, 165, 168, 169, 170, 171, 172, 173, 153, 174, 150, 151, 175, 176, 177, 178, 166, 144, 676, 677, 678, 679, 680, 681, 682, 683, 684, 685, 686, 687, 688, 689, 690, 691, 692, 693, 694, 695, 696, 697, 698, 699, 700, 701, 702, 703, 704, 705, 706] rfl (by decide +kernel)
set_option maxRecDepth 20000 in
theorem gL_law_X7_least : GoodIn wsL_law (wsV RL 51 RX7 yX7_least wsX7_least) := goodIn_app (goodIn_of _ (by decide +kernel)) ggL_law_X7_least
set_option maxRecDepth 20000 in
theorem ggL_law_L_most : GoodIn wsL_law wsL_most := goodIn_r _ [240, 241, 242, 243, 2, 244, 17, 206, 207, 208, 245, 209, 210, 211, 16, 212, 100, 106, 107, 108, 109, 25, 110, 34, 29, 111, 112, 113, 114, 33, 115, 116, 78, 69, 117, 103, 104, 105, 118, 119, 120, 28, 121, 122, 123, 124, 125, 126, 127, 64, 63, 128, 129, 130, 131, 132, 44, 133, 669, 670, 671, 672, 673, 674, 675, 761, 762, 763, 764, 765, 766, 707, 708, 709, 710, 711, 712, 713, 714, 715, 716, 723, 724, 725, 736, 737, 738, 739, 740, 741, 742, 743, 744, 745, 746, 747, 748, 749, 750, 726, 727, 728, 729, 730, 731, 732, 733, 734, 735] rfl (by decide +kernel)
set_option maxRecDepth 20000 in
theorem gL_law_L_most : GoodIn wsL_law (va_wsS RL 52 yL_most wsL_most) := goodIn_app (goodIn_of _ (by decide +kernel)) ggL_law_L_most
set_option maxRecDepth 20000 in
theorem ggL_law_X7_most : GoodIn wsL_law wsX7_most := goodIn_r _ [249, 164, 142, 222, 223, 224, 5, 225, 165, 168, 169, 170, 171, 172, 173, 153, 174, 150, 151, 175, 176, 177, 178, 166, 144, 676, 677, 678, 679, 680, 681, 682, 683, 684, 685, 686, 687, 688, 689, 690, 691, 692, 693, 694, 695, 696, 697, 698, 699, 700, 701, 702, 703, 704, 705, 706] rfl (by decide +kernel)
set_option maxRecDepth 20000 in
theorem gL_law_X7_most : GoodIn wsL_law (wsV RL 54 RX7 yX7_most wsX7_most) := goodIn_app (goodIn_of _ (by decide +kernel)) ggL_law_X7_most
set_option maxRecDepth 20000 in
theorem ggL_law_X6_unit : GoodIn wsL_law wsX6_unit := goodIn_r _ [253, 21, 254, 255, 256, 20, 257, 258, 50, 669, 670, 671, 672, 673, 674, 675, 717, 718, 719, 720, 721, 722] rfl (by decide +kernel)
set_option maxRecDepth 20000 in
theorem gL_law_X6_unit : GoodIn wsL_law (wsV RL 55 RX6 yX6_unit wsX6_unit) := goodIn_app (goodIn_of _ (by decide +kernel)) ggL_law_X6_unit
set_option maxRecDepth 20000 in
theorem ggL_law_X7_unit : GoodIn wsL_law wsX7_unit := goodIn_r _ [262, 164, 167, 147, 676, 677, 678, 679, 680, 681, 682, 683, 684, 685, 686, 687, 688, 689, 690, 691, 692, 693, 694, 695, 696, 697, 698, 699, 700, 701, 702, 703, 704, 705, 706] rfl (by decide +kernel)
set_option maxRecDepth 20000 in
theorem gL_law_X7_unit : GoodIn wsL_law (wsV RL 59 RX7 yX7_unit wsX7_unit) := goodIn_app (goodIn_of _ (by decide +kernel)) ggL_law_X7_unit
set_option maxRecDepth 20000 in
theorem ggL_law_X6_read : GoodIn wsL_law wsX6_read := goodIn_r _ [266, 21, 17, 267, 95, 268, 269, 270, 20, 271, 258, 50, 272, 273, 274, 275, 52, 276, 53, 277, 278, 279, 280, 51, 281, 282, 283, 284, 285, 286, 287, 288, 289, 290, 291, 292, 293, 294, 295, 296, 297, 298, 16, 299, 101, 44, 300, 45, 301, 46, 302, 43, 106, 107, 108, 2, 109, 25, 110, 34, 29, 111, 112, 113, 114, 33, 115, 116, 78, 69, 117, 103, 104, 105, 118, 119, 120, 28, 121, 122, 123, 124, 125, 126, 127, 64, 63, 128, 129, 130, 131, 132, 133, 669, 670, 671, 672, 673, 674, 675, 707, 708, 709, 710, 711, 712, 713, 714, 715, 716, 717, 718, 719, 720, 721, 722, 723, 724, 725, 736, 737, 738, 739, 740, 741, 742, 743, 744, 745, 746, 747, 748, 749, 750, 726, 727, 728, 729, 730, 731, 732, 733, 734, 735] rfl (by decide +kernel)
set_option maxRecDepth 20000 in
theorem gL_law_X6_read : GoodIn wsL_law (wsV RL 60 RX6 yX6_read wsX6_read) := goodIn_app (goodIn_of _ (by decide +kernel)) ggL_law_X6_read
set_option maxRecDepth 20000 in
theorem ggL_law_X7_read : GoodIn wsL_law wsX7_read := goodIn_r _ [306, 164, 167, 166, 144, 145, 146, 307, 143, 308, 309, 310, 5, 311, 165, 312, 313, 314, 315, 147, 316, 317, 318, 319, 320, 321, 322, 323, 324, 325, 326, 327, 168, 169, 170, 171, 172, 173, 153, 174, 150, 151, 175, 176, 177, 178, 676, 677, 678, 679, 680, 681, 682, 683, 684, 685, 686, 687, 688, 689, 690, 691, 692, 693, 694, 695, 696, 697, 698, 699, 700, 701, 702, 703, 704, 705, 706] rfl (by decide +kernel)
set_option maxRecDepth 20000 in
theorem gL_law_X7_read : GoodIn wsL_law (wsV RL 63 RX7 yX7_read wsX7_read) := goodIn_app (goodIn_of _ (by decide +kernel)) ggL_law_X7_read
set_option maxRecDepth 20000 in
theorem ggL_law_X6_program : GoodIn wsL_law wsX6_program := goodIn_r _ [331, 17, 332, 669, 670, 671, 672, 673, 674, 675, 707, 708, 709, 710, 711, 712, 713, 714, 715, 716] rfl (by decide +kernel)
set_option maxRecDepth 20000 in
theorem gL_law_X6_program : GoodIn wsL_law (wsV RL 64 RX6 yX6_program wsX6_program) := goodIn_app (goodIn_of _ (by decide +kernel)) ggL_law_X6_program
set_option maxRecDepth 20000 in
theorem ggL_law_X7_program : GoodIn wsL_law wsX7_program := goodIn_r _ [336, 164, 166, 676, 677, 678, 679, 680, 681, 682, 683, 684, 685, 686, 687, 688, 689, 690, 691, 692, 693, 694, 695, 696, 697, 698, 699, 700, 701, 702, 703, 704, 705, 706] rfl (by decide +kernel)
set_option maxRecDepth 20000 in
theorem gL_law_X7_program : GoodIn wsL_law (wsV RL 67 RX7 yX7_program wsX7_program) := goodIn_app (goodIn_of _ (by decide +kernel)) ggL_law_X7_program
set_option maxRecDepth 20000 in
theorem ggL_law_X6_call : GoodIn wsL_law wsX6_call := goodIn_r _ [340, 17, 209, 210, 211, 16, 212, 100, 341, 342, 343, 2, 344, 111, 25, 345, 346, 347, 24, 348, 349, 57, 58, 350, 351, 352, 353, 669, 670, 671, 672, 673, 674, 675, 707, 708, 709, 710, 711, 712, 713, 714, 715, 716, 723, 724, 725] rfl (by decide +kernel)
set_option maxRecDepth 20000 in
theorem gL_law_X6_call : GoodIn wsL_law (wsV RL 68 RX6 yX6_call wsX6_call) := goodIn_app (goodIn_of _ (by decide +kernel)) ggL_law_X6_call
set_option maxRecDepth 20000 in
theorem ggL_law_X7_call : GoodIn wsL_law wsX7_call := goodIn_r _ [357, 164, 222, 223, 224, 5, 225, 165, 358, 359, 360, 361, 173, 172, 148, 149, 676, 677, 678, 679, 680, 681, 682, 683, 684, 685, 686, 687, 688, 689, 690, 691, 692, 693, 694, 695, 696, 697, 698, 699, 700, 701, 702, 703, 704, 705, 706] rfl (by decide +kernel)
set_option maxRecDepth 20000 in
theorem gL_law_X7_call : GoodIn wsL_law (wsV RL 71 RX7 yX7_call wsX7_call) := goodIn_app (goodIn_of _ (by decide +kernel)) ggL_law_X7_call
set_option maxRecDepth 20000 in
theorem ggL_law_X6_plan : GoodIn wsL_law wsX6_plan := goodIn_r _ [365, 17, 267, 366, 367, 368, 16, 369, 101, 341, 342, 343, 2, 344, 111, 25, 345, 346, 347, 24, 348, 349, 57, 58, 350, 351, 352, 353, 669, 670, 671, 672, 673, 674, 675, 707, 708, 709, 710, 711, 712, 713, 714, 715, 716, 723, 724, 725] rfl (by decide +kernel)
set_option maxRecDepth 20000 in
theorem gL_law_X6_plan : GoodIn wsL_law (wsV RL 72 RX6 yX6_plan wsX6_plan) := goodIn_app (goodIn_of _ (by decide +kernel)) ggL_law_X6_plan
set_option maxRecDepth 20000 in
theorem ggL_law_X7_plan : GoodIn wsL_law wsX7_plan := goodIn_r _ [373, 164, 166, 165, 358, 359, 360, 5, 361, 173, 172, 148, 149, 676, 677, 678, 679, 680, 681, 682, 683, 684, 685, 686, 687, 688, 689, 690, 691, 692, 693, 694, 695, 696, 697, 698, 699, 700, 701, 702, 703, 704, 705, 706] rfl (by decide +kernel)
set_option maxRecDepth 20000 in
theorem gL_law_X7_plan : GoodIn wsL_law (wsV RL 75 RX7 yX7_plan wsX7_plan) := goodIn_app (goodIn_of _ (by decide +kernel)) ggL_law_X7_plan
set_option maxRecDepth 20000 in
theorem ggL_law_X6_second : GoodIn wsL_law wsX6_second := goodIn_r _ [377, 17, 332, 111, 29, 25, 378, 379, 380, 24, 381, 58, 350, 351, 352, 353, 349, 57, 382, 383, 384, 28, 385, 386, 387, 124, 125, 123, 388, 293, 294, 295, 122, 389, 390, 391, 392, 64, 128, 127, 126, 393, 210, 211, 16, 212, 100, 394, 395, 396, 397, 129, 130, 131, 132, 44, 398, 367, 368, 369, 101, 399, 400, 401, 402, 63, 403, 404, 405, 406, 407, 408, 409, 410, 411, 412, 413, 414, 46, 45, 415, 416, 417, 418, 43, 419, 420, 421, 422, 423, 424, 425, 426, 427, 428, 429, 40, 430, 431, 432, 433, 434, 435, 436, 437, 438, 439, 440, 669, 670, 671, 672, 673, 674, 675, 707, 708, 709, 710, 711, 712, 713, 714, 715, 716, 723, 724, 725, 726, 727, 728, 729, 730, 731, 732, 733, 734, 735] rfl (by decide +kernel)
