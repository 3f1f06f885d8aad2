set_option maxRecDepth 20000 in
theorem ggL_law_X7_word : GoodIn wsL_law wsX7_word := goodIn_r _ [381, 15, 232, 233, 234, 235, 2, 236, 138, 17, 142, 143, 144, 14, 145, 92, 31, 146, 119, 120, 121, 122, 123, 147, 148, 106, 107, 108, 109, 382, 383, 384, 385, 708, 709, 710, 711, 712, 713, 714, 715, 716, 717, 718, 719, 720, 721, 722, 723, 757, 758, 759, 760, 761, 762, 763, 764, 765, 766, 767, 768, 781, 782, 783, 784, 785, 786, 775, 776, 777, 778, 779, 780, 769, 770, 771, 772, 773, 774, 749, 750] (by decide +kernel) (by decide +kernel)
set_option maxRecDepth 20000 in
theorem gL_law_X7_word : GoodIn wsL_law (wsV RL 69 RX7 yX7_word wsX7_word) := goodIn_app (goodIn_of _ (by decide +kernel)) ggL_law_X7_word
set_option maxRecDepth 20000 in
theorem ggL_law_X8_word : GoodIn wsL_law wsX8_word := goodIn_r _ [389, 75, 73, 98, 307, 308, 309, 5, 310, 165, 99, 100, 101, 171, 172, 173, 174, 128, 129, 130, 131, 132, 133, 390, 391, 392, 393, 724, 725, 726, 727, 728, 729, 730, 731, 732, 733, 734, 735, 736, 737, 738, 739, 740, 741, 742, 743, 744, 745, 746, 747, 748] (by decide +kernel) (by decide +kernel)
set_option maxRecDepth 20000 in
theorem gL_law_X8_word : GoodIn wsL_law (wsV RL 72 RX8 yX8_word wsX8_word) := goodIn_app (goodIn_of _ (by decide +kernel)) ggL_law_X8_word
set_option maxRecDepth 20000 in
theorem ggL_law_X7_unword : GoodIn wsL_law wsX7_unword := goodIn_r _ [397, 232, 233, 234, 235, 2, 236, 138, 17, 757, 758, 759, 760, 761, 762, 763, 764, 765, 766, 767, 768, 781, 782, 783, 784, 785, 786, 775, 776, 777, 778, 779, 780, 769, 770, 771, 772, 773, 774, 708, 709, 710, 711, 712, 713, 714, 715, 716, 717, 718, 719, 720, 721, 722, 723] (by decide +kernel) (by decide +kernel)
set_option maxRecDepth 20000 in
theorem gL_law_X7_unword : GoodIn wsL_law (wsV RL 73 RX7 yX7_unword wsX7_unword) := goodIn_app (goodIn_of _ (by decide +kernel)) ggL_law_X7_unword
set_option maxRecDepth 20000 in
theorem ggL_law_X8_unword : GoodIn wsL_law wsX8_unword := goodIn_r _ [401, 75, 307, 308, 309, 5, 310, 165, 99, 100, 101, 724, 725, 726, 727, 728, 729, 730, 731, 732, 733, 734, 735, 736, 737, 738, 739, 740, 741, 742, 743, 744, 745, 746, 747, 748] (by decide +kernel) (by decide +kernel)
set_option maxRecDepth 20000 in
theorem gL_law_X8_unword : GoodIn wsL_law (wsV RL 76 RX8 yX8_unword wsX8_unword) := goodIn_app (goodIn_of _ (by decide +kernel)) ggL_law_X8_unword
set_option maxRecDepth 20000 in
theorem ggL_law_X7_differ : GoodIn wsL_law wsX7_differ := goodIn_r _ [405, 26, 233, 234, 235, 2, 236, 138, 17, 158, 159, 160, 237, 238, 239, 240, 241, 44, 242, 243, 244, 245, 246, 247, 248, 249, 47, 250, 251, 252, 253, 254, 255, 256, 257, 55, 258, 259, 260, 261, 53, 262, 263, 264, 265, 266, 50, 267, 268, 269, 270, 271, 708, 709, 710, 711, 712, 713, 714, 715, 716, 717, 718, 719, 720, 721, 722, 723, 757, 758, 759, 760, 761, 762, 763, 764, 765, 766, 767, 768, 781, 782, 783, 784, 785, 786, 775, 776, 777, 778, 779, 780, 769, 770, 771, 772, 773, 774] (by decide +kernel) (by decide +kernel)
set_option maxRecDepth 20000 in
theorem gL_law_X7_differ : GoodIn wsL_law (wsV RL 77 RX7 yX7_differ wsX7_differ) := goodIn_app (goodIn_of _ (by decide +kernel)) ggL_law_X7_differ
set_option maxRecDepth 20000 in
theorem ggL_law_X8_differ : GoodIn wsL_law wsX8_differ := goodIn_r _ [409, 307, 308, 309, 5, 310, 165, 99, 100, 101, 410, 411, 412, 413, 74, 320, 321, 322, 323, 75, 324, 325, 326, 724, 725, 726, 727, 728, 729, 730, 731, 732, 733, 734, 735, 736, 737, 738, 739, 740, 741, 742, 743, 744, 745, 746, 747, 748] (by decide +kernel) (by decide +kernel)
set_option maxRecDepth 20000 in
theorem gL_law_X8_differ : GoodIn wsL_law (wsV RL 80 RX8 yX8_differ wsX8_differ) := goodIn_app (goodIn_of _ (by decide +kernel)) ggL_law_X8_differ
set_option maxRecDepth 20000 in
theorem ggL_law_X7_alike : GoodIn wsL_law wsX7_alike := goodIn_r _ [417, 233, 234, 235, 2, 236, 138, 17, 237, 238, 239, 240, 241, 44, 242, 243, 244, 245, 246, 247, 248, 249, 47, 250, 251, 252, 253, 254, 255, 256, 257, 55, 258, 259, 260, 261, 53, 262, 263, 264, 265, 266, 50, 267, 268, 269, 270, 271, 708, 709, 710, 711, 712, 713, 714, 715, 716, 717, 718, 719, 720, 721, 722, 723, 757, 758, 759, 760, 761, 762, 763, 764, 765, 766, 767, 768, 781, 782, 783, 784, 785, 786, 775, 776, 777, 778, 779, 780, 769, 770, 771, 772, 773, 774] (by decide +kernel) (by decide +kernel)
set_option maxRecDepth 20000 in
theorem gL_law_X7_alike : GoodIn wsL_law (wsV RL 81 RX7 yX7_alike wsX7_alike) := goodIn_app (goodIn_of _ (by decide +kernel)) ggL_law_X7_alike
set_option maxRecDepth 20000 in
theorem ggL_law_X8_alike : GoodIn wsL_law wsX8_alike := goodIn_r _ [421, 307, 308, 309, 5, 310, 165, 99, 100, 101, 422, 423, 424, 425, 320, 321, 322, 323, 75, 324, 325, 326, 724, 725, 726, 727, 728, 729, 730, 731, 732, 733, 734, 735, 736, 737, 738, 739, 740, 741, 742, 743, 744, 745, 746, 747, 748] (by decide +kernel) (by decide +kernel)
set_option maxRecDepth 20000 in
theorem gL_law_X8_alike : GoodIn wsL_law (wsV RL 84 RX8 yX8_alike wsX8_alike) := goodIn_app (goodIn_of _ (by decide +kernel)) ggL_law_X8_alike
set_option maxRecDepth 20000 in
theorem ggL_law_X7_few : GoodIn wsL_law wsX7_few := goodIn_r _ [429, 26, 430, 431, 432, 2, 433, 139, 434, 435, 436, 437, 438, 439, 440, 441, 442, 443, 444, 445, 446, 447, 448, 158, 159, 160, 449, 450, 451, 452, 19, 196, 197, 198, 453, 454, 455, 456, 138, 232, 233, 234, 235, 236, 17, 237, 238, 239, 240, 241, 44, 242, 243, 244, 245, 246, 247, 248, 249, 47, 250, 251, 252, 253, 254, 255, 256, 257, 55, 258, 259, 260, 261, 53, 262, 263, 264, 265, 266, 50, 267, 268, 269, 270, 271, 708, 709, 710, 711, 712, 713, 714, 715, 716, 717, 718, 719, 720, 721, 722, 723, 757, 758, 759, 760, 761, 762, 763, 764, 765, 766, 767, 768, 781, 782, 783, 784, 785, 786, 775, 776, 777, 778, 779, 780, 769, 770, 771, 772, 773, 774] (by decide +kernel) (by decide +kernel)
set_option maxRecDepth 20000 in
theorem gL_law_X7_few : GoodIn wsL_law (wsV RL 85 RX7 yX7_few wsX7_few) := goodIn_app (goodIn_of _ (by decide +kernel)) ggL_law_X7_few
set_option maxRecDepth 20000 in
theorem ggL_law_X8_few : GoodIn wsL_law wsX8_few := goodIn_r _ [460, 169, 99, 100, 5, 101, 461, 462, 463, 464, 465, 466, 467, 468, 166, 469, 470, 471, 472, 473, 474, 475, 74, 76, 476, 477, 478, 479, 165, 75, 320, 321, 322, 323, 324, 325, 326, 724, 725, 726, 727, 728, 729, 730, 731, 732, 733, 734, 735, 736, 737, 738, 739, 740, 741, 742, 743, 744, 745, 746, 747, 748] (by decide +kernel) (by decide +kernel)
set_option maxRecDepth 20000 in
theorem gL_law_X8_few : GoodIn wsL_law (wsV RL 88 RX8 yX8_few wsX8_few) := goodIn_app (goodIn_of _ (by decide +kernel)) ggL_law_X8_few
set_option maxRecDepth 20000 in
theorem ggL_law_X7_card : GoodIn wsL_law wsX7_card := goodIn_r _ [483, 23, 218, 122, 2, 123, 484, 485, 486, 22, 487, 153, 35, 36, 708, 709, 710, 711, 712, 713, 714, 715, 716, 717, 718, 719, 720, 721, 722, 723, 751, 752, 753, 754, 755, 756] (by decide +kernel) (by decide +kernel)
set_option maxRecDepth 20000 in
theorem gL_law_X7_card : GoodIn wsL_law (wsV RL 89 RX7 yX7_card wsX7_card) := goodIn_app (goodIn_of _ (by decide +kernel)) ggL_law_X7_card
set_option maxRecDepth 20000 in
theorem ggL_law_X8_card : GoodIn wsL_law wsX8_card := goodIn_r _ [491, 167, 77, 224, 225, 5, 226, 227, 99, 100, 101, 724, 725, 726, 727, 728, 729, 730, 731, 732, 733, 734, 735, 736, 737, 738, 739, 740, 741, 742, 743, 744, 745, 746, 747, 748] (by decide +kernel) (by decide +kernel)
set_option maxRecDepth 20000 in
theorem gL_law_X8_card : GoodIn wsL_law (wsV RL 92 RX8 yX8_card wsX8_card) := goodIn_app (goodIn_of _ (by decide +kernel)) ggL_law_X8_card
set_option maxRecDepth 20000 in
theorem ggL_law_X7_forget : GoodIn wsL_law wsX7_forget := goodIn_r _ [495, 23, 149, 150, 151, 22, 152, 153, 708, 709, 710, 711, 712, 713, 714, 715, 716, 717, 718, 719, 720, 721, 722, 723, 751, 752, 753, 754, 755, 756] (by decide +kernel) (by decide +kernel)
set_option maxRecDepth 20000 in
theorem gL_law_X7_forget : GoodIn wsL_law (wsV RL 93 RX7 yX7_forget wsX7_forget) := goodIn_app (goodIn_of _ (by decide +kernel)) ggL_law_X7_forget
set_option maxRecDepth 20000 in
theorem ggL_law_X8_forget : GoodIn wsL_law wsX8_forget := goodIn_r _ [499, 167, 724, 725, 726, 727, 728, 729, 730, 731, 732, 733, 734, 735, 736, 737, 738, 739, 740, 741, 742, 743, 744, 745, 746, 747, 748] (by decide +kernel) (by decide +kernel)
set_option maxRecDepth 20000 in
theorem gL_law_X8_forget : GoodIn wsL_law (wsV RL 96 RX8 yX8_forget wsX8_forget) := goodIn_app (goodIn_of _ (by decide +kernel)) ggL_law_X8_forget
set_option maxRecDepth 20000 in
theorem ggL_law_X7_who : GoodIn wsL_law wsX7_who := goodIn_r _ [503, 504, 23, 505, 506, 507, 2, 508, 509, 510, 511, 512, 24, 213, 214, 215, 216, 217, 513, 514, 515, 22, 516, 153, 35, 36, 517, 238, 239, 240, 241, 44, 242, 243, 244, 245, 246, 247, 248, 249, 47, 250, 251, 252, 253, 254, 518, 256, 257, 55, 258, 259, 260, 261, 53, 262, 263, 264, 265, 266, 50, 267, 268, 269, 270, 271, 708, 709, 710, 711, 712, 713, 714, 715, 716, 717, 718, 719, 720, 721, 722, 723, 757, 758, 759, 760, 761, 762, 763, 764, 765, 766, 767, 768, 781, 782, 783, 784, 785, 786, 775, 776, 777, 778, 779, 780, 769, 770, 771, 772, 773, 774, 751, 752, 753, 754, 755, 756] (by decide +kernel) (by decide +kernel)
set_option maxRecDepth 20000 in
theorem gL_law_X7_who : GoodIn wsL_law (wsV RL 97 RX7 yX7_who wsX7_who) := goodIn_app (goodIn_of _ (by decide +kernel)) ggL_law_X7_who
set_option maxRecDepth 20000 in
theorem ggL_law_X8_who : GoodIn wsL_law wsX8_who := goodIn_r _ [522, 523, 99, 100, 5, 101, 524, 525, 526, 527, 167, 77, 528, 529, 530, 324, 325, 326, 724, 725, 726, 727, 728, 729, 730, 731, 732, 733, 734, 735, 736, 737, 738, 739, 740, 741, 742, 743, 744, 745, 746, 747, 748] (by decide +kernel) (by decide +kernel)
set_option maxRecDepth 20000 in
theorem gL_law_X8_who : GoodIn wsL_law (wsV RL 100 RX8 yX8_who wsX8_who) := goodIn_app (goodIn_of _ (by decide +kernel)) ggL_law_X8_who
set_option maxRecDepth 20000 in
theorem ggL_law_X7_next : GoodIn wsL_law wsX7_next := goodIn_r _ [534, 504, 535, 536, 537, 2, 538, 25, 23, 505, 506, 507, 508, 509, 510, 511, 512, 24, 213, 214, 215, 216, 217, 513, 514, 515, 22, 516, 153, 35, 36, 517, 238, 239, 240, 241, 44, 242, 243, 244, 245, 246, 247, 248, 249, 47, 250, 251, 252, 253, 254, 518, 256, 257, 55, 258, 259, 260, 261, 53, 262, 263, 264, 265, 266, 50, 267, 268, 269, 270, 271, 237, 255, 218, 122, 123, 539, 540, 541, 542, 543, 544, 545, 546, 708, 709, 710, 711, 712, 713, 714, 715, 716, 717, 718, 719, 720, 721, 722, 723, 757, 758, 759, 760, 761, 762, 763, 764, 765, 766, 767, 768, 781, 782, 783, 784, 785, 786, 775, 776, 777, 778, 779, 780, 769, 770, 771, 772, 773, 774, 751, 752, 753, 754, 755, 756] (by decide +kernel) (by decide +kernel)
set_option maxRecDepth 20000 in
theorem gL_law_X7_next : GoodIn wsL_law (wsV RL 101 RX7 yX7_next wsX7_next) := goodIn_app (goodIn_of _ (by decide +kernel)) ggL_law_X7_next
set_option maxRecDepth 20000 in
theorem ggL_law_X8_next : GoodIn wsL_law wsX8_next := goodIn_r _ [550, 523, 78, 528, 529, 5, 530, 324, 325, 326, 524, 525, 526, 527, 167, 77, 724, 725, 726, 727, 728, 729, 730, 731, 732, 733, 734, 735, 736, 737, 738, 739, 740, 741, 742, 743, 744, 745, 746, 747, 748] (by decide +kernel) (by decide +kernel)
set_option maxRecDepth 20000 in
theorem gL_law_X8_next : GoodIn wsL_law (wsV RL 104 RX8 yX8_next wsX8_next) := goodIn_app (goodIn_of _ (by decide +kernel)) ggL_law_X8_next
set_option maxRecDepth 20000 in
theorem ggL_law_X7_ageing : GoodIn wsL_law wsX7_ageing := goodIn_r _ [554, 213, 214, 26, 233, 234, 235, 2, 236, 138, 17, 272, 273, 274, 275, 276, 44, 277, 278, 279, 280, 47, 281, 282, 283, 284, 55, 285, 286, 53, 287, 288, 289, 50, 290, 509, 510, 511, 512, 24, 215, 216, 217, 555, 556, 557, 558, 559, 159, 160, 296, 238, 239, 240, 241, 242, 243, 244, 245, 246, 247, 248, 249, 250, 251, 252, 253, 254, 297, 256, 257, 258, 259, 260, 261, 262, 263, 264, 265, 266, 267, 268, 269, 270, 271, 147, 148, 560, 561, 562, 563, 564, 565, 566, 567, 568, 569, 570, 571, 572, 573, 574, 575, 576, 577, 578, 579, 580, 581, 582, 583, 434, 435, 436, 437, 438, 439, 440, 757, 758, 759, 760, 761, 762, 763, 764, 765, 766, 767, 768, 781, 782, 783, 784, 785, 786, 775, 776, 777, 778, 779, 780, 769, 770, 771, 772, 773, 774, 708, 709, 710, 711, 712, 713, 714, 715, 716, 717, 718, 719, 720, 721, 722, 723] (by decide +kernel) (by decide +kernel)
set_option maxRecDepth 20000 in
theorem gL_law_X7_ageing : GoodIn wsL_law (wsV RL 105 RX7 yX7_ageing wsX7_ageing) := goodIn_app (goodIn_of _ (by decide +kernel)) ggL_law_X7_ageing
set_option maxRecDepth 20000 in
theorem ggL_law_X8_ageing : GoodIn wsL_law wsX8_ageing := goodIn_r _ [587, 588, 315, 75, 589, 307, 308, 309, 5, 310, 165, 99, 100, 101, 590, 591, 592, 593, 594, 595, 596, 597, 598, 599, 600, 601, 74, 324, 325, 326, 320, 321, 322, 323, 602, 603, 604, 724, 725, 726, 727, 728, 729, 730, 731, 732, 733, 734, 735, 736, 737, 738, 739, 740, 741, 742, 743, 744, 745, 746, 747, 748] (by decide +kernel) (by decide +kernel)
set_option maxRecDepth 20000 in
theorem gL_law_X8_ageing : GoodIn wsL_law (wsV RL 109 RX8 yX8_ageing wsX8_ageing) := goodIn_app (goodIn_of _ (by decide +kernel)) ggL_law_X8_ageing
set_option maxRecDepth 20000 in
theorem ggL_law_X7_image : GoodIn wsL_law wsX7_image := goodIn_r _ [608, 26, 27, 138, 609, 139, 610, 140, 611, 23, 233, 234, 235, 2, 236, 17, 612, 613, 614, 615, 55, 616, 258, 617, 259, 618, 61, 62, 619, 620, 621, 622, 623, 624, 625, 626, 22, 627, 35, 37, 628, 629, 630, 631, 36, 38, 153, 632, 708, 709, 710, 711, 712, 713, 714, 715, 716, 717, 718, 719, 720, 721, 722, 723, 757, 758, 759, 760, 761, 762, 763, 764, 765, 766, 767, 768, 781, 782, 783, 784, 785, 786, 775, 776, 777, 778, 779, 780, 769, 770, 771, 772, 773, 774, 751, 752, 753, 754, 755, 756] (by decide +kernel) (by decide +kernel)
set_option maxRecDepth 20000 in
theorem gL_law_X7_image : GoodIn wsL_law (wsV RL 110 RX7 yX7_image wsX7_image) := goodIn_app (goodIn_of _ (by decide +kernel)) ggL_law_X7_image
set_option maxRecDepth 20000 in
theorem ggL_law_X8_image : GoodIn wsL_law wsX8_image := goodIn_r _ [636, 169, 74, 79, 75, 80, 76, 81, 77, 82, 165, 637, 166, 638, 167, 639, 168, 640, 170, 83, 641, 642, 5, 643, 724, 725, 726, 727, 728, 729, 730, 731, 732, 733, 734, 735, 736, 737, 738, 739, 740, 741, 742, 743, 744, 745, 746, 747, 748] (by decide +kernel) (by decide +kernel)
set_option maxRecDepth 20000 in
theorem gL_law_X8_image : GoodIn wsL_law (wsV RL 113 RX8 yX8_image wsX8_image) := goodIn_app (goodIn_of _ (by decide +kernel)) ggL_law_X8_image
set_option maxRecDepth 20000 in
theorem ggL_law_X7_restore : GoodIn wsL_law wsX7_restore := goodIn_r _ [647, 27, 26, 609, 138, 610, 139, 611, 140, 23, 233, 234, 235, 2, 236, 17, 648, 649, 650, 651, 55, 652, 617, 258, 618, 259, 62, 61, 653, 654, 655, 656, 657, 658, 659, 660, 22, 661, 37, 35, 628, 629, 630, 631, 38, 36, 632, 153, 708, 709, 710, 711, 712, 713, 714, 715, 716, 717, 718, 719, 720, 721, 722, 723, 757, 758, 759, 760, 761, 762, 763, 764, 765, 766, 767, 768, 781, 782, 783, 784, 785, 786, 775, 776, 777, 778, 779, 780, 769, 770, 771, 772, 773, 774, 751, 752, 753, 754, 755, 756] (by decide +kernel) (by decide +kernel)
set_option maxRecDepth 20000 in
theorem gL_law_X7_restore : GoodIn wsL_law (wsV RL 114 RX7 yX7_restore wsX7_restore) := goodIn_app (goodIn_of _ (by decide +kernel)) ggL_law_X7_restore
set_option maxRecDepth 20000 in
theorem ggL_law_X8_restore : GoodIn wsL_law wsX8_restore := goodIn_r _ [665, 83, 170, 79, 74, 80, 75, 81, 76, 82, 77, 637, 165, 638, 166, 639, 167, 640, 168, 641, 642, 5, 643, 724, 725, 726, 727, 728, 729, 730, 731, 732, 733, 734, 735, 736, 737, 738, 739, 740, 741, 742, 743, 744, 745, 746, 747, 748] (by decide +kernel) (by decide +kernel)
set_option maxRecDepth 20000 in
theorem gL_law_X8_restore : GoodIn wsL_law (wsV RL 117 RX8 yX8_restore wsX8_restore) := goodIn_app (goodIn_of _ (by decide +kernel)) ggL_law_X8_restore
set_option maxRecDepth 20000 in
theorem ggL_law_X7_count : GoodIn wsL_law wsX7_count := goodIn_r _ [669, 138, 139, 140, 23, 15, 141, 504, 154, 155, 156, 2, 157, 26, 158, 159, 160, 382, 383, 384, 385, 232, 233, 234, 235, 236, 17, 708, 709, 710, 711, 712, 713, 714, 715, 716, 717, 718, 719, 720, 721, 722, 723, 751, 752, 753, 754, 755, 756, 749, 750, 757, 758, 759, 760, 761, 762, 763, 764, 765, 766, 767, 768, 781, 782, 783, 784, 785, 786, 775, 776, 777, 778, 779, 780, 769, 770, 771, 772, 773, 774] (by decide +kernel) (by decide +kernel)
set_option maxRecDepth 20000 in
theorem gL_law_X7_count : GoodIn wsL_law (wsV RL 118 RX7 yX7_count wsX7_count) := goodIn_app (goodIn_of _ (by decide +kernel)) ggL_law_X7_count
set_option maxRecDepth 20000 in
theorem ggL_law_X8_count : GoodIn wsL_law wsX8_count := goodIn_r _ [673, 674, 675, 676, 5, 677, 165, 166, 168, 167, 98, 170, 523, 175, 176, 177, 178, 169, 74, 390, 391, 392, 393, 75, 724, 725, 726, 727, 728, 729, 730, 731, 732, 733, 734, 735, 736, 737, 738, 739, 740, 741, 742, 743, 744, 745, 746, 747, 748] (by decide +kernel) (by decide +kernel)
set_option maxRecDepth 20000 in
theorem gL_law_X8_count : GoodIn wsL_law (wsV RL 121 RX8 yX8_count wsX8_count) := goodIn_app (goodIn_of _ (by decide +kernel)) ggL_law_X8_count
set_option maxRecDepth 20000 in
theorem ggL_law_X7_digest : GoodIn wsL_law wsX7_digest := goodIn_r _ [681, 682, 26, 683, 138, 139, 19, 15, 158, 159, 2, 160, 684, 427, 428, 429, 430, 431, 432, 433, 434, 435, 436, 437, 438, 439, 440, 441, 442, 443, 444, 445, 446, 447, 448, 449, 450, 451, 452, 196, 197, 198, 453, 454, 455, 456, 232, 233, 234, 235, 236, 17, 237, 238, 239, 240, 241, 44, 242, 243, 244, 245, 246, 247, 248, 249, 47, 250, 251, 252, 253, 254, 255, 256, 257, 55, 258, 259, 260, 261, 53, 262, 263, 264, 265, 266, 50, 267, 268, 269, 270, 271, 685, 686, 687, 688, 689, 229, 230, 231, 213, 214, 272, 273, 274, 275, 276, 277, 278, 279, 280, 281, 282, 283, 284, 285, 286, 287, 288, 289, 290, 291, 292, 293, 294, 295, 296, 297, 298, 299, 300, 301, 302, 690, 403, 404, 405, 691, 415, 416, 417, 692, 667, 668, 669, 140, 23, 141, 504, 154, 155, 156, 157, 382, 383, 384, 385, 708, 709, 710, 711, 712, 713, 714, 715, 716, 717, 718, 719, 720, 721, 722, 723, 749, 750, 757, 758, 759, 760, 761, 762, 763, 764, 765, 766, 767, 768, 781, 782, 783, 784, 785, 786, 775, 776, 777, 778, 779, 780, 769, 770, 771, 772, 773, 774, 751, 752, 753, 754, 755, 756] (by decide +kernel) (by decide +kernel)
set_option maxRecDepth 20000 in
theorem gL_law_X7_digest : GoodIn wsL_law (wsV RL 122 RX7 yX7_digest wsX7_digest) := goodIn_app (goodIn_of _ (by decide +kernel)) ggL_law_X7_digest
set_option maxRecDepth 20000 in
theorem ggL_law_X8_digest : GoodIn wsL_law wsX8_digest := goodIn_r _ [696, 697, 698, 169, 74, 165, 166, 76, 98, 73, 699, 700, 701, 5, 702, 703, 461, 462, 463, 464, 465, 466, 467, 468, 469, 470, 471, 472, 473, 474, 475, 476, 477, 478, 479, 75, 320, 321, 322, 323, 324, 325, 326, 704, 705, 706, 707, 316, 317, 99, 100, 101, 311, 312, 313, 314, 315, 318, 319, 327, 328, 329, 330, 410, 411, 412, 413, 422, 423, 424, 425, 674, 675, 676, 677, 168, 167, 170, 523, 175, 176, 177, 178, 390, 391, 392, 393, 724, 725, 726, 727, 728, 729, 730, 731, 732, 733, 734, 735, 736, 737, 738, 739, 740, 741, 742, 743, 744, 745, 746, 747, 748] (by decide +kernel) (by decide +kernel)
set_option maxRecDepth 20000 in
theorem gL_law_X8_digest : GoodIn wsL_law (wsV RL 126 RX8 yX8_digest wsX8_digest) := goodIn_app (goodIn_of _ (by decide +kernel)) ggL_law_X8_digest
