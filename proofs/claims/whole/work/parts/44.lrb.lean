set_option maxRecDepth 20000 in
theorem gL_law_X7_fault : GoodIn wsL_law (wsV RL 44 RX7 yX7_fault wsX7_fault) := goodIn_app (goodIn_of _ (by decide +kernel)) ggL_law_X7_fault
set_option maxRecDepth 20000 in
theorem ggL_law_X8_fault : GoodIn wsL_law wsX8_fault := goodIn_r _ [444, 127, 374, 984, 985, 986, 987, 988, 989, 990, 991, 992, 993, 994, 995, 996, 997, 998, 999, 1000, 1001, 1002, 1003, 1004, 1005, 1006, 1007, 1008] (by decide +kernel) (by decide +kernel)
set_option maxRecDepth 20000 in
theorem gL_law_X8_fault : GoodIn wsL_law (wsV RL 47 RX8 yX8_fault wsX8_fault) := goodIn_app (goodIn_of _ (by decide +kernel)) ggL_law_X8_fault
set_option maxRecDepth 20000 in
theorem ggL_law_X7_slip : GoodIn wsL_law wsX7_slip := goodIn_r _ [448, 24, 102, 31, 449, 450, 451, 452, 23, 453, 360, 106, 107, 2, 108, 454, 455, 456, 457, 65, 458, 459, 460, 461, 30, 462, 463, 69, 70, 464, 465, 466, 467, 468, 194, 195, 196, 469, 470, 471, 472, 473, 474, 475, 476, 477, 478, 479, 972, 973, 974, 975, 976, 977, 978, 979, 980, 981, 982, 983, 1018, 1019, 1020, 1021, 1022, 1023, 1024, 1025] (by decide +kernel) (by decide +kernel)
set_option maxRecDepth 20000 in
theorem gL_law_X7_slip : GoodIn wsL_law (wsV RL 48 RX7 yX7_slip wsX7_slip) := goodIn_app (goodIn_of _ (by decide +kernel)) ggL_law_X7_slip
set_option maxRecDepth 20000 in
theorem ggL_law_X8_slip : GoodIn wsL_law wsX8_slip := goodIn_r _ [483, 127, 484, 485, 129, 377, 92, 90, 486, 487, 488, 5, 489, 135, 136, 137, 490, 491, 492, 493, 494, 495, 496, 984, 985, 986, 987, 988, 989, 990, 991, 992, 993, 994, 995, 996, 997, 998, 999, 1000, 1001, 1002, 1003, 1004, 1005, 1006, 1007, 1008] (by decide +kernel) (by decide +kernel)
set_option maxRecDepth 20000 in
theorem gL_law_X8_slip : GoodIn wsL_law (wsV RL 52 RX8 yX8_slip wsX8_slip) := goodIn_app (goodIn_of _ (by decide +kernel)) ggL_law_X8_slip
set_option maxRecDepth 20000 in
theorem ggL_law_X7_undo : GoodIn wsL_law wsX7_undo := goodIn_r _ [500, 31, 245, 501, 24, 502, 503, 504, 30, 505, 463, 69, 107, 2, 108, 506, 507, 508, 509, 70, 476, 477, 478, 23, 479, 65, 458, 451, 452, 453, 360, 972, 973, 974, 975, 976, 977, 978, 979, 980, 981, 982, 983, 1023, 1024, 1025, 1018, 1019, 1020, 1021, 1022] (by decide +kernel) (by decide +kernel)
set_option maxRecDepth 20000 in
theorem gL_law_X7_undo : GoodIn wsL_law (wsV RL 53 RX7 yX7_undo wsX7_undo) := goodIn_app (goodIn_of _ (by decide +kernel)) ggL_law_X7_undo
set_option maxRecDepth 20000 in
theorem ggL_law_X8_undo : GoodIn wsL_law wsX8_undo := goodIn_r _ [513, 127, 377, 514, 90, 92, 984, 985, 986, 987, 988, 989, 990, 991, 992, 993, 994, 995, 996, 997, 998, 999, 1000, 1001, 1002, 1003, 1004, 1005, 1006, 1007, 1008] (by decide +kernel) (by decide +kernel)
set_option maxRecDepth 20000 in
theorem gL_law_X8_undo : GoodIn wsL_law (wsV RL 56 RX8 yX8_undo wsX8_undo) := goodIn_app (goodIn_of _ (by decide +kernel)) ggL_law_X8_undo
set_option maxRecDepth 20000 in
theorem ggL_law_X7_hand : GoodIn wsL_law wsX7_hand := goodIn_r _ [518, 24, 102, 450, 451, 452, 23, 453, 360, 106, 107, 2, 108, 519, 520, 521, 522, 64, 458, 523, 524, 525, 526, 527, 528, 529, 530, 63, 531, 454, 455, 456, 457, 65, 972, 973, 974, 975, 976, 977, 978, 979, 980, 981, 982, 983, 1018, 1019, 1020, 1021, 1022] (by decide +kernel) (by decide +kernel)
set_option maxRecDepth 20000 in
theorem gL_law_X7_hand : GoodIn wsL_law (wsV RL 57 RX7 yX7_hand wsX7_hand) := goodIn_app (goodIn_of _ (by decide +kernel)) ggL_law_X7_hand
set_option maxRecDepth 20000 in
theorem ggL_law_X8_hand : GoodIn wsL_law wsX8_hand := goodIn_r _ [535, 127, 128, 129, 486, 487, 488, 5, 489, 90, 135, 136, 137, 490, 491, 492, 493, 536, 537, 538, 539, 984, 985, 986, 987, 988, 989, 990, 991, 992, 993, 994, 995, 996, 997, 998, 999, 1000, 1001, 1002, 1003, 1004, 1005, 1006, 1007, 1008] (by decide +kernel) (by decide +kernel)
set_option maxRecDepth 20000 in
theorem gL_law_X8_hand : GoodIn wsL_law (wsV RL 60 RX8 yX8_hand wsX8_hand) := goodIn_app (goodIn_of _ (by decide +kernel)) ggL_law_X8_hand
set_option maxRecDepth 20000 in
theorem ggL_law_X7_points : GoodIn wsL_law wsX7_points := goodIn_r _ [543, 24, 102, 450, 451, 452, 23, 453, 360, 544, 545, 2, 546, 106, 107, 108, 547, 548, 549, 550, 365, 551, 524, 525, 526, 527, 528, 529, 530, 63, 458, 531, 520, 521, 522, 64, 552, 455, 456, 457, 65, 553, 554, 555, 556, 470, 471, 472, 473, 474, 475, 557, 558, 559, 560, 561, 562, 563, 972, 973, 974, 975, 976, 977, 978, 979, 980, 981, 982, 983, 1018, 1019, 1020, 1021, 1022] (by decide +kernel) (by decide +kernel)
set_option maxRecDepth 20000 in
theorem gL_law_X7_points : GoodIn wsL_law (wsV RL 61 RX7 yX7_points wsX7_points) := goodIn_app (goodIn_of _ (by decide +kernel)) ggL_law_X7_points
set_option maxRecDepth 20000 in
theorem ggL_law_X8_points : GoodIn wsL_law wsX8_points := goodIn_r _ [567, 127, 129, 90, 486, 487, 488, 5, 489, 135, 136, 137, 568, 569, 570, 571, 572, 573, 574, 575, 536, 537, 538, 539, 490, 491, 492, 493, 494, 495, 496, 576, 577, 578, 579, 580, 581, 984, 985, 986, 987, 988, 989, 990, 991, 992, 993, 994, 995, 996, 997, 998, 999, 1000, 1001, 1002, 1003, 1004, 1005, 1006, 1007, 1008] (by decide +kernel) (by decide +kernel)
set_option maxRecDepth 20000 in
theorem gL_law_X8_points : GoodIn wsL_law (wsV RL 65 RX8 yX8_points wsX8_points) := goodIn_app (goodIn_of _ (by decide +kernel)) ggL_law_X8_points
set_option maxRecDepth 20000 in
theorem ggL_law_X7_doubts : GoodIn wsL_law wsX7_doubts := goodIn_r _ [585, 102, 35, 24, 586, 587, 588, 589, 2, 590, 450, 451, 452, 23, 453, 360, 523, 524, 525, 526, 527, 528, 529, 530, 63, 458, 531, 520, 521, 522, 64, 591, 592, 593, 34, 594, 595, 596, 597, 598, 599, 600, 601, 602, 562, 563, 603, 604, 605, 606, 470, 471, 472, 473, 474, 475, 607, 608, 609, 610, 611, 612, 613, 614, 615, 616, 617, 618, 972, 973, 974, 975, 976, 977, 978, 979, 980, 981, 982, 983, 1018, 1019, 1020, 1021, 1022, 1026, 1027, 1028, 1029] (by decide +kernel) (by decide +kernel)
set_option maxRecDepth 20000 in
theorem gL_law_X7_doubts : GoodIn wsL_law (wsV RL 66 RX7 yX7_doubts wsX7_doubts) := goodIn_app (goodIn_of _ (by decide +kernel)) ggL_law_X7_doubts
set_option maxRecDepth 20000 in
theorem ggL_law_X8_doubts : GoodIn wsL_law wsX8_doubts := goodIn_r _ [622, 127, 129, 389, 623, 624, 625, 5, 626, 486, 487, 488, 489, 90, 135, 136, 137, 627, 628, 629, 630, 536, 537, 538, 539, 490, 491, 492, 493, 631, 632, 633, 634, 635, 636, 637, 984, 985, 986, 987, 988, 989, 990, 991, 992, 993, 994, 995, 996, 997, 998, 999, 1000, 1001, 1002, 1003, 1004, 1005, 1006, 1007, 1008] (by decide +kernel) (by decide +kernel)
set_option maxRecDepth 20000 in
theorem gL_law_X8_doubts : GoodIn wsL_law (wsV RL 69 RX8 yX8_doubts wsX8_doubts) := goodIn_app (goodIn_of _ (by decide +kernel)) ggL_law_X8_doubts
set_option maxRecDepth 20000 in
theorem ggL_law_X7_doubt : GoodIn wsL_law wsX7_doubt := goodIn_r _ [641, 102, 35, 24, 586, 642, 643, 587, 588, 589, 2, 590, 450, 451, 452, 23, 453, 360, 106, 107, 108, 523, 524, 525, 526, 527, 528, 529, 530, 63, 458, 531, 520, 521, 522, 64, 591, 592, 593, 34, 594, 595, 596, 597, 598, 599, 600, 601, 602, 562, 563, 603, 604, 605, 606, 470, 471, 472, 473, 474, 475, 644, 645, 646, 647, 615, 616, 617, 618, 558, 559, 560, 561, 648, 972, 973, 974, 975, 976, 977, 978, 979, 980, 981, 982, 983, 1026, 1027, 1028, 1029, 1018, 1019, 1020, 1021, 1022] (by decide +kernel) (by decide +kernel)
set_option maxRecDepth 20000 in
theorem gL_law_X7_doubt : GoodIn wsL_law (wsV RL 70 RX7 yX7_doubt wsX7_doubt) := goodIn_app (goodIn_of _ (by decide +kernel)) ggL_law_X7_doubt
set_option maxRecDepth 20000 in
theorem ggL_law_X8_doubt : GoodIn wsL_law wsX8_doubt := goodIn_r _ [652, 127, 653, 129, 389, 623, 624, 625, 5, 626, 486, 487, 488, 489, 90, 135, 136, 137, 627, 628, 629, 630, 536, 537, 538, 539, 490, 491, 492, 493, 631, 632, 633, 634, 635, 636, 637, 576, 577, 578, 579, 580, 581, 984, 985, 986, 987, 988, 989, 990, 991, 992, 993, 994, 995, 996, 997, 998, 999, 1000, 1001, 1002, 1003, 1004, 1005, 1006, 1007, 1008] (by decide +kernel) (by decide +kernel)
set_option maxRecDepth 20000 in
theorem gL_law_X8_doubt : GoodIn wsL_law (wsV RL 73 RX8 yX8_doubt wsX8_doubt) := goodIn_app (goodIn_of _ (by decide +kernel)) ggL_law_X8_doubt
set_option maxRecDepth 20000 in
theorem ggL_law_X7_isDoubt : GoodIn wsL_law wsX7_isDoubt := goodIn_r _ [657, 102, 35, 24, 586, 587, 588, 589, 2, 590, 450, 451, 452, 23, 453, 360, 544, 545, 546, 106, 107, 108, 523, 524, 525, 526, 527, 528, 529, 530, 63, 458, 531, 520, 521, 522, 64, 591, 592, 593, 34, 594, 595, 596, 597, 598, 599, 600, 601, 602, 562, 563, 603, 604, 605, 606, 470, 471, 472, 473, 474, 475, 607, 608, 609, 610, 658, 659, 660, 661, 615, 616, 617, 618, 972, 973, 974, 975, 976, 977, 978, 979, 980, 981, 982, 983, 1018, 1019, 1020, 1021, 1022, 1026, 1027, 1028, 1029] (by decide +kernel) (by decide +kernel)
set_option maxRecDepth 20000 in
theorem gL_law_X7_isDoubt : GoodIn wsL_law (wsV RL 74 RX7 yX7_isDoubt wsX7_isDoubt) := goodIn_app (goodIn_of _ (by decide +kernel)) ggL_law_X7_isDoubt
