set_option maxRecDepth 20000 in
theorem ggL_law_X8_isDoubt : GoodIn wsL_law wsX8_isDoubt := goodIn_r _ [665, 127, 129, 389, 623, 624, 625, 5, 626, 486, 487, 488, 489, 90, 135, 136, 137, 568, 569, 570, 571, 627, 628, 629, 630, 536, 537, 538, 539, 490, 491, 492, 493, 631, 632, 633, 634, 635, 636, 637, 984, 985, 986, 987, 988, 989, 990, 991, 992, 993, 994, 995, 996, 997, 998, 999, 1000, 1001, 1002, 1003, 1004, 1005, 1006, 1007, 1008] (by decide +kernel) (by decide +kernel)
set_option maxRecDepth 20000 in
theorem gL_law_X8_isDoubt : GoodIn wsL_law (wsV RL 77 RX8 yX8_isDoubt wsX8_isDoubt) := goodIn_app (goodIn_of _ (by decide +kernel)) ggL_law_X8_isDoubt
set_option maxRecDepth 20000 in
theorem ggL_law_X7_next : GoodIn wsL_law wsX7_next := goodIn_r _ [669, 102, 586, 587, 588, 589, 2, 590, 24, 450, 451, 452, 23, 453, 360, 106, 107, 108, 544, 545, 546, 670, 671, 672, 673, 674, 596, 597, 598, 523, 524, 525, 526, 527, 528, 529, 530, 63, 458, 531, 520, 521, 522, 64, 675, 676, 677, 558, 559, 560, 561, 562, 563, 972, 973, 974, 975, 976, 977, 978, 979, 980, 981, 982, 983, 1018, 1019, 1020, 1021, 1022] (by decide +kernel) (by decide +kernel)
set_option maxRecDepth 20000 in
theorem gL_law_X7_next : GoodIn wsL_law (wsV RL 78 RX7 yX7_next wsX7_next) := goodIn_app (goodIn_of _ (by decide +kernel)) ggL_law_X7_next
set_option maxRecDepth 20000 in
theorem ggL_law_X8_next : GoodIn wsL_law wsX8_next := goodIn_r _ [681, 127, 128, 129, 389, 623, 624, 625, 5, 626, 486, 487, 488, 489, 90, 135, 136, 137, 568, 569, 570, 571, 536, 537, 538, 539, 490, 491, 492, 493, 631, 632, 633, 682, 683, 684, 576, 577, 578, 579, 580, 581, 984, 985, 986, 987, 988, 989, 990, 991, 992, 993, 994, 995, 996, 997, 998, 999, 1000, 1001, 1002, 1003, 1004, 1005, 1006, 1007, 1008] (by decide +kernel) (by decide +kernel)
set_option maxRecDepth 20000 in
theorem gL_law_X8_next : GoodIn wsL_law (wsV RL 82 RX8 yX8_next wsX8_next) := goodIn_app (goodIn_of _ (by decide +kernel)) ggL_law_X8_next
set_option maxRecDepth 20000 in
theorem ggL_law_X7_often : GoodIn wsL_law wsX7_often := goodIn_r _ [688, 102, 586, 587, 588, 589, 2, 590, 24, 450, 451, 452, 23, 453, 360, 106, 107, 108, 670, 671, 672, 673, 674, 596, 597, 598, 523, 524, 525, 526, 527, 528, 529, 530, 63, 458, 531, 520, 521, 522, 64, 972, 973, 974, 975, 976, 977, 978, 979, 980, 981, 982, 983, 1018, 1019, 1020, 1021, 1022] (by decide +kernel) (by decide +kernel)
set_option maxRecDepth 20000 in
theorem gL_law_X7_often : GoodIn wsL_law (wsV RL 83 RX7 yX7_often wsX7_often) := goodIn_app (goodIn_of _ (by decide +kernel)) ggL_law_X7_often
set_option maxRecDepth 20000 in
theorem ggL_law_X8_often : GoodIn wsL_law wsX8_often := goodIn_r _ [692, 127, 128, 129, 389, 623, 624, 625, 5, 626, 486, 487, 488, 489, 90, 135, 136, 137, 536, 537, 538, 539, 490, 491, 492, 493, 631, 632, 633, 984, 985, 986, 987, 988, 989, 990, 991, 992, 993, 994, 995, 996, 997, 998, 999, 1000, 1001, 1002, 1003, 1004, 1005, 1006, 1007, 1008] (by decide +kernel) (by decide +kernel)
set_option maxRecDepth 20000 in
theorem gL_law_X8_often : GoodIn wsL_law (wsV RL 86 RX8 yX8_often wsX8_often) := goodIn_app (goodIn_of _ (by decide +kernel)) ggL_law_X8_often
set_option maxRecDepth 20000 in
theorem ggL_law_X7_all : GoodIn wsL_law wsX7_all := goodIn_r _ [696, 24, 501, 246, 586, 697, 698, 699, 23, 700, 360, 670, 671, 672, 2, 673, 674, 596, 597, 598, 523, 524, 525, 526, 527, 528, 529, 530, 63, 458, 451, 452, 453, 531, 520, 521, 522, 64, 561, 562, 563, 972, 973, 974, 975, 976, 977, 978, 979, 980, 981, 982, 983, 1018, 1019, 1020, 1021, 1022] (by decide +kernel) (by decide +kernel)
set_option maxRecDepth 20000 in
theorem gL_law_X7_all : GoodIn wsL_law (wsV RL 87 RX7 yX7_all wsX7_all) := goodIn_app (goodIn_of _ (by decide +kernel)) ggL_law_X7_all
set_option maxRecDepth 20000 in
theorem ggL_law_X8_all : GoodIn wsL_law wsX8_all := goodIn_r _ [704, 127, 514, 90, 389, 705, 706, 707, 5, 708, 536, 537, 538, 539, 490, 491, 492, 493, 631, 632, 633, 579, 580, 581, 984, 985, 986, 987, 988, 989, 990, 991, 992, 993, 994, 995, 996, 997, 998, 999, 1000, 1001, 1002, 1003, 1004, 1005, 1006, 1007, 1008] (by decide +kernel) (by decide +kernel)
set_option maxRecDepth 20000 in
theorem gL_law_X8_all : GoodIn wsL_law (wsV RL 90 RX8 yX8_all wsX8_all) := goodIn_app (goodIn_of _ (by decide +kernel)) ggL_law_X8_all
set_option maxRecDepth 20000 in
theorem ggL_law_X7_lies : GoodIn wsL_law wsX7_lies := goodIn_r _ [712, 24, 501, 102, 16, 246, 39, 697, 698, 699, 23, 700, 360, 103, 104, 2, 105, 106, 107, 108, 147, 148, 149, 15, 150, 151, 152, 153, 154, 155, 156, 157, 158, 50, 159, 160, 161, 162, 163, 164, 165, 166, 51, 109, 110, 111, 112, 113, 114, 713, 714, 715, 716, 717, 175, 176, 177, 49, 718, 719, 720, 38, 721, 722, 723, 724, 597, 725, 726, 727, 77, 78, 728, 729, 524, 525, 526, 527, 528, 529, 530, 63, 458, 451, 452, 453, 531, 520, 521, 522, 64, 730, 731, 732, 733, 586, 734, 735, 736, 737, 738, 596, 598, 739, 740, 741, 742, 743, 744, 745, 746, 747, 748, 749, 750, 751, 752, 753, 754, 470, 471, 472, 473, 474, 475, 755, 756, 757, 758, 759, 760, 761, 762, 763, 764, 765, 766, 767, 768, 769, 770, 558, 559, 560, 561, 562, 563, 119, 120, 121, 122, 972, 973, 974, 975, 976, 977, 978, 979, 980, 981, 982, 983, 1018, 1019, 1020, 1021, 1022, 1009, 1010, 1011, 1030, 1031, 1032, 1033] (by decide +kernel) (by decide +kernel)
set_option maxRecDepth 20000 in
theorem gL_law_X7_lies : GoodIn wsL_law (wsV RL 91 RX7 yX7_lies wsX7_lies) := goodIn_app (goodIn_of _ (by decide +kernel)) ggL_law_X7_lies
set_option maxRecDepth 20000 in
theorem ggL_law_X8_lies : GoodIn wsL_law wsX8_lies := goodIn_r _ [774, 127, 514, 775, 653, 129, 90, 130, 389, 776, 777, 705, 706, 707, 5, 708, 131, 132, 133, 134, 135, 136, 137, 778, 779, 780, 781, 87, 88, 138, 139, 140, 141, 142, 782, 783, 784, 785, 89, 786, 787, 788, 789, 536, 537, 538, 539, 490, 491, 492, 493, 631, 632, 633, 494, 495, 496, 576, 577, 578, 579, 580, 581, 984, 985, 986, 987, 988, 989, 990, 991, 992, 993, 994, 995, 996, 997, 998, 999, 1000, 1001, 1002, 1003, 1004, 1005, 1006, 1007, 1008] (by decide +kernel) (by decide +kernel)
set_option maxRecDepth 20000 in
theorem gL_law_X8_lies : GoodIn wsL_law (wsV RL 94 RX8 yX8_lies wsX8_lies) := goodIn_app (goodIn_of _ (by decide +kernel)) ggL_law_X8_lies
set_option maxRecDepth 20000 in
theorem ggL_law_X7_firstLie : GoodIn wsL_law wsX7_firstLie := goodIn_r _ [793, 24, 501, 102, 16, 246, 697, 698, 699, 23, 700, 360, 103, 104, 2, 105, 106, 107, 108, 147, 148, 149, 15, 150, 151, 152, 153, 154, 155, 156, 157, 158, 50, 159, 160, 161, 162, 163, 164, 165, 166, 51, 109, 110, 111, 112, 113, 114, 713, 714, 715, 716, 717, 175, 176, 177, 49, 794, 795, 796, 797, 39, 586, 718, 719, 720, 38, 721, 722, 723, 724, 597, 725, 726, 727, 77, 78, 728, 729, 524, 525, 526, 527, 528, 529, 530, 63, 458, 451, 452, 453, 531, 520, 521, 522, 64, 734, 735, 736, 737, 738, 596, 598, 739, 740, 741, 742, 743, 744, 745, 746, 747, 748, 749, 750, 751, 752, 753, 754, 470, 471, 472, 473, 474, 475, 119, 120, 121, 122, 972, 973, 974, 975, 976, 977, 978, 979, 980, 981, 982, 983, 1018, 1019, 1020, 1021, 1022, 1009, 1010, 1011, 1030, 1031, 1032, 1033] (by decide +kernel) (by decide +kernel)
set_option maxRecDepth 20000 in
theorem gL_law_X7_firstLie : GoodIn wsL_law (wsV RL 95 RX7 yX7_firstLie wsX7_firstLie) := goodIn_app (goodIn_of _ (by decide +kernel)) ggL_law_X7_firstLie
set_option maxRecDepth 20000 in
theorem ggL_law_X8_firstLie : GoodIn wsL_law wsX8_firstLie := goodIn_r _ [801, 127, 514, 802, 775, 129, 90, 130, 389, 705, 706, 707, 5, 708, 131, 132, 133, 134, 135, 136, 137, 778, 779, 780, 781, 87, 88, 138, 139, 140, 141, 142, 782, 783, 784, 785, 89, 786, 787, 788, 789, 776, 777, 536, 537, 538, 539, 490, 491, 492, 493, 631, 632, 633, 494, 495, 496, 984, 985, 986, 987, 988, 989, 990, 991, 992, 993, 994, 995, 996, 997, 998, 999, 1000, 1001, 1002, 1003, 1004, 1005, 1006, 1007, 1008] (by decide +kernel) (by decide +kernel)
set_option maxRecDepth 20000 in
theorem gL_law_X8_firstLie : GoodIn wsL_law (wsV RL 98 RX8 yX8_firstLie wsX8_firstLie) := goodIn_app (goodIn_of _ (by decide +kernel)) ggL_law_X8_firstLie
set_option maxRecDepth 20000 in
theorem ggL_law_X7_glass : GoodIn wsL_law wsX7_glass := goodIn_r _ [806, 24, 501, 102, 697, 698, 699, 23, 700, 360, 544, 545, 2, 546, 106, 107, 108, 807, 808, 809, 810, 246, 547, 548, 549, 550, 365, 551, 524, 525, 526, 527, 528, 529, 530, 63, 458, 451, 452, 453, 531, 520, 521, 522, 64, 552, 455, 456, 457, 65, 553, 554, 555, 556, 470, 471, 472, 473, 474, 475, 557, 469, 558, 559, 560, 561, 562, 563, 972, 973, 974, 975, 976, 977, 978, 979, 980, 981, 982, 983, 1018, 1019, 1020, 1021, 1022] (by decide +kernel) (by decide +kernel)
set_option maxRecDepth 20000 in
theorem gL_law_X7_glass : GoodIn wsL_law (wsV RL 99 RX7 yX7_glass wsX7_glass) := goodIn_app (goodIn_of _ (by decide +kernel)) ggL_law_X7_glass
set_option maxRecDepth 20000 in
theorem ggL_law_X8_glass : GoodIn wsL_law wsX8_glass := goodIn_r _ [814, 127, 514, 128, 129, 90, 705, 706, 707, 5, 708, 568, 569, 570, 571, 135, 136, 137, 576, 577, 578, 579, 580, 581, 572, 573, 574, 575, 536, 537, 538, 539, 490, 491, 492, 493, 494, 495, 496, 984, 985, 986, 987, 988, 989, 990, 991, 992, 993, 994, 995, 996, 997, 998, 999, 1000, 1001, 1002, 1003, 1004, 1005, 1006, 1007, 1008] (by decide +kernel) (by decide +kernel)
set_option maxRecDepth 20000 in
theorem gL_law_X8_glass : GoodIn wsL_law (wsV RL 102 RX8 yX8_glass wsX8_glass) := goodIn_app (goodIn_of _ (by decide +kernel)) ggL_law_X8_glass
set_option maxRecDepth 20000 in
theorem ggL_law_X7_image : GoodIn wsL_law wsX7_image := goodIn_r _ [818, 102, 24, 501, 106, 107, 2, 108, 697, 698, 699, 23, 700, 360, 819, 820, 821, 822, 26, 27, 361, 362, 363, 364, 365, 63, 64, 65, 972, 973, 974, 975, 976, 977, 978, 979, 980, 981, 982, 983, 1018, 1019, 1020, 1021, 1022] (by decide +kernel) (by decide +kernel)
set_option maxRecDepth 20000 in
theorem gL_law_X7_image : GoodIn wsL_law (wsV RL 103 RX7 yX7_image wsX7_image) := goodIn_app (goodIn_of _ (by decide +kernel)) ggL_law_X7_image
set_option maxRecDepth 20000 in
theorem ggL_law_X8_image : GoodIn wsL_law wsX8_image := goodIn_r _ [826, 127, 129, 514, 96, 90, 95, 135, 136, 5, 137, 705, 706, 707, 708, 984, 985, 986, 987, 988, 989, 990, 991, 992, 993, 994, 995, 996, 997, 998, 999, 1000, 1001, 1002, 1003, 1004, 1005, 1006, 1007, 1008] (by decide +kernel) (by decide +kernel)
