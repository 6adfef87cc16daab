set_option maxRecDepth 20000 in
theorem gL_law_X8_heldYear : GoodIn wsL_law (wsV RL 97 RX8 yX8_heldYear wsX8_heldYear) := goodIn_app (goodIn_of _ (by decide +kernel)) ggL_law_X8_heldYear
set_option maxRecDepth 20000 in
theorem ggL_law_X7_hand : GoodIn wsL_law wsX7_hand := goodIn_ca (goodIn_ca (goodIn_r _ [602, 25, 603, 604, 2, 605, 170, 171, 172, 606, 607, 608, 24, 609, 86] (by decide +kernel) (by decide +kernel)) gU_7) gU_2
set_option maxRecDepth 20000 in
theorem gL_law_X7_hand : GoodIn wsL_law (wsV RL 98 RX7 yX7_hand wsX7_hand) := goodIn_app (goodIn_of _ (by decide +kernel)) ggL_law_X7_hand
set_option maxRecDepth 20000 in
theorem ggL_law_X8_hand : GoodIn wsL_law wsX8_hand := goodIn_ca (goodIn_r _ [613, 144, 614, 615, 5, 616, 200, 201, 202] (by decide +kernel) (by decide +kernel)) gU_8
set_option maxRecDepth 20000 in
theorem gL_law_X8_hand : GoodIn wsL_law (wsV RL 101 RX8 yX8_hand wsX8_hand) := goodIn_app (goodIn_of _ (by decide +kernel)) ggL_law_X8_hand
set_option maxRecDepth 20000 in
theorem ggL_law_X7_test : GoodIn wsL_law wsX7_test := goodIn_ca (goodIn_ca (goodIn_r _ [620, 25, 170, 171, 2, 172, 621, 622, 623, 24, 624, 95, 625, 626, 627, 628, 87, 88, 89, 91, 90] (by decide +kernel) (by decide +kernel)) gU_7) gU_2
set_option maxRecDepth 20000 in
theorem gL_law_X7_test : GoodIn wsL_law (wsV RL 102 RX7 yX7_test wsX7_test) := goodIn_app (goodIn_of _ (by decide +kernel)) ggL_law_X7_test
set_option maxRecDepth 20000 in
theorem ggL_law_X8_test : GoodIn wsL_law wsX8_test := goodIn_ca (goodIn_r _ [632, 633, 145, 146, 147, 149, 150, 148, 200, 201, 5, 202] (by decide +kernel) (by decide +kernel)) gU_8
set_option maxRecDepth 20000 in
theorem gL_law_X8_test : GoodIn wsL_law (wsV RL 105 RX8 yX8_test wsX8_test) := goodIn_app (goodIn_of _ (by decide +kernel)) ggL_law_X8_test
set_option maxRecDepth 20000 in
theorem ggL_law_X7_often : GoodIn wsL_law wsX7_often := goodIn_ca (goodIn_ca (goodIn_r _ [637, 25, 638, 639, 640, 24, 641, 95, 603, 604, 2, 605, 170, 171, 172, 642, 643, 644, 645, 91, 646, 647, 648, 649, 90] (by decide +kernel) (by decide +kernel)) gU_7) gU_2
set_option maxRecDepth 20000 in
theorem gL_law_X7_often : GoodIn wsL_law (wsV RL 106 RX7 yX7_often wsX7_often) := goodIn_app (goodIn_of _ (by decide +kernel)) ggL_law_X7_often
set_option maxRecDepth 20000 in
theorem ggL_law_X8_often : GoodIn wsL_law wsX8_often := goodIn_ca (goodIn_r _ [653, 149, 148, 654, 655, 656, 5, 657, 633, 200, 201, 202, 614, 615, 616] (by decide +kernel) (by decide +kernel)) gU_8
set_option maxRecDepth 20000 in
theorem gL_law_X8_often : GoodIn wsL_law (wsV RL 109 RX8 yX8_often wsX8_often) := goodIn_app (goodIn_of _ (by decide +kernel)) ggL_law_X8_often
set_option maxRecDepth 20000 in
theorem ggL_law_X7_done : GoodIn wsL_law wsX7_done := goodIn_ca (goodIn_ca (goodIn_r _ [661, 25, 638, 639, 640, 24, 641, 95, 642, 643, 644, 645, 91, 662, 663, 664, 665, 93, 89, 94, 96, 666, 667, 668, 669] (by decide +kernel) (by decide +kernel)) gU_7) gU_2
set_option maxRecDepth 20000 in
theorem gL_law_X7_done : GoodIn wsL_law (wsV RL 110 RX7 yX7_done wsX7_done) := goodIn_app (goodIn_of _ (by decide +kernel)) ggL_law_X7_done
set_option maxRecDepth 20000 in
theorem ggL_law_X8_done : GoodIn wsL_law wsX8_done := goodIn_ca (goodIn_r _ [673, 149, 150, 654, 655, 656, 5, 657, 633, 200, 201, 202, 674, 675, 676, 677, 147] (by decide +kernel) (by decide +kernel)) gU_8
set_option maxRecDepth 20000 in
theorem gL_law_X8_done : GoodIn wsL_law (wsV RL 113 RX8 yX8_done wsX8_done) := goodIn_app (goodIn_of _ (by decide +kernel)) ggL_law_X8_done
set_option maxRecDepth 20000 in
theorem ggL_law_X7_chance : GoodIn wsL_law wsX7_chance := goodIn_ca (goodIn_ca (goodIn_r _ [681, 25, 603, 604, 2, 605, 170, 171, 172, 682, 683, 684, 24, 685, 686, 687, 688, 689, 86, 95, 93, 90, 91, 185, 186, 187, 188, 41, 39, 690, 691, 692, 693, 694, 695, 696, 277, 697, 43, 44, 698, 699, 700] (by decide +kernel) (by decide +kernel)) gU_7) gU_2
set_option maxRecDepth 20000 in
theorem gL_law_X7_chance : GoodIn wsL_law (wsV RL 114 RX7 yX7_chance wsX7_chance) := goodIn_app (goodIn_of _ (by decide +kernel)) ggL_law_X7_chance
set_option maxRecDepth 20000 in
theorem ggL_law_X8_chance : GoodIn wsL_law wsX8_chance := goodIn_ca (goodIn_r _ [704, 614, 615, 5, 616, 200, 201, 202, 705, 706, 707, 708, 709, 710, 711, 712, 144, 633, 148, 150, 149, 203, 204, 205, 206, 207, 130, 713, 714, 715, 716, 717, 161] (by decide +kernel) (by decide +kernel)) gU_8
set_option maxRecDepth 20000 in
theorem gL_law_X8_chance : GoodIn wsL_law (wsV RL 117 RX8 yX8_chance wsX8_chance) := goodIn_app (goodIn_of _ (by decide +kernel)) ggL_law_X8_chance
set_option maxRecDepth 20000 in
theorem ggL_law_X7_likely : GoodIn wsL_law wsX7_likely := goodIn_ca (goodIn_ca (goodIn_r _ [721, 25, 682, 683, 684, 24, 685, 686, 687, 688, 689, 86, 95, 93, 90, 91, 185, 186, 187, 2, 188, 41, 39, 722, 723, 724, 725] (by decide +kernel) (by decide +kernel)) gU_7) gU_2
set_option maxRecDepth 20000 in
theorem gL_law_X7_likely : GoodIn wsL_law (wsV RL 118 RX7 yX7_likely wsX7_likely) := goodIn_app (goodIn_of _ (by decide +kernel)) ggL_law_X7_likely
set_option maxRecDepth 20000 in
theorem ggL_law_X8_likely : GoodIn wsL_law wsX8_likely := goodIn_ca (goodIn_r _ [729, 705, 706, 707, 5, 708, 709, 710, 711, 712, 144, 633, 148, 150, 149, 203, 204, 205, 206, 207, 130] (by decide +kernel) (by decide +kernel)) gU_8
set_option maxRecDepth 20000 in
theorem gL_law_X8_likely : GoodIn wsL_law (wsV RL 122 RX8 yX8_likely wsX8_likely) := goodIn_app (goodIn_of _ (by decide +kernel)) ggL_law_X8_likely
set_option maxRecDepth 20000 in
theorem ggL_law_X7_gain : GoodIn wsL_law wsX7_gain := goodIn_ca (goodIn_ca (goodIn_r _ [733, 25, 734, 638, 639, 640, 24, 641, 95, 735, 736, 737, 738, 739, 643, 644, 645, 91, 666, 667, 668, 669, 89, 94, 682, 683, 684, 685, 686, 687, 688, 689, 86, 93, 90, 185, 186, 187, 2, 188, 41, 39, 740, 741, 742, 743, 744, 696, 277, 697, 745, 691, 692, 693, 694, 695, 43, 44, 698, 699, 700] (by decide +kernel) (by decide +kernel)) gU_7) gU_2
set_option maxRecDepth 20000 in
theorem gL_law_X7_gain : GoodIn wsL_law (wsV RL 123 RX7 yX7_gain wsX7_gain) := goodIn_app (goodIn_of _ (by decide +kernel)) ggL_law_X7_gain
set_option maxRecDepth 20000 in
theorem ggL_law_X8_gain : GoodIn wsL_law wsX8_gain := goodIn_ca (goodIn_r _ [749, 750, 654, 655, 656, 5, 657, 633, 200, 201, 202, 751, 752, 753, 754, 149, 674, 675, 676, 677, 147, 705, 706, 707, 708, 709, 710, 711, 712, 144, 148, 150, 203, 204, 205, 206, 207, 130, 755, 756, 757, 758, 713, 714, 715, 716, 717, 161] (by decide +kernel) (by decide +kernel)) gU_8
set_option maxRecDepth 20000 in
theorem gL_law_X8_gain : GoodIn wsL_law (wsV RL 126 RX8 yX8_gain wsX8_gain) := goodIn_app (goodIn_of _ (by decide +kernel)) ggL_law_X8_gain
set_option maxRecDepth 20000 in
theorem ggL_law_X7_next : GoodIn wsL_law wsX7_next := goodIn_ca (goodIn_ca (goodIn_r _ [762, 25, 682, 683, 684, 24, 685, 686, 687, 688, 689, 86, 95, 93, 90, 91, 185, 186, 187, 2, 188, 41, 39, 763, 764, 765, 766, 87, 88, 767, 736, 737, 738, 739, 643, 644, 645, 666, 667, 668, 669, 89, 94, 768, 741, 742, 743, 744, 696, 277, 697, 745] (by decide +kernel) (by decide +kernel)) gU_7) gU_2
set_option maxRecDepth 20000 in
theorem gL_law_X7_next : GoodIn wsL_law (wsV RL 127 RX7 yX7_next wsX7_next) := goodIn_app (goodIn_of _ (by decide +kernel)) ggL_law_X7_next
set_option maxRecDepth 20000 in
theorem ggL_law_X8_next : GoodIn wsL_law wsX8_next := goodIn_ca (goodIn_r _ [772, 633, 145, 146, 705, 706, 707, 5, 708, 709, 710, 711, 712, 144, 148, 150, 149, 203, 204, 205, 206, 207, 130, 751, 752, 753, 754, 674, 675, 676, 677, 147, 755, 756, 757, 758, 750] (by decide +kernel) (by decide +kernel)) gU_8
set_option maxRecDepth 20000 in
theorem gL_law_X8_next : GoodIn wsL_law (wsV RL 130 RX8 yX8_next wsX8_next) := goodIn_app (goodIn_of _ (by decide +kernel)) ggL_law_X8_next
set_option maxRecDepth 20000 in
theorem ggL_law_X7_owner : GoodIn wsL_law wsX7_owner := goodIn_ca (goodIn_ca (goodIn_r _ [776, 29, 353, 354, 2, 355, 323, 324, 325, 170, 171, 172, 777, 778, 779, 28, 780, 102, 781, 782, 783, 784, 100, 101] (by decide +kernel) (by decide +kernel)) gU_7) gU_4
set_option maxRecDepth 20000 in
theorem gL_law_X7_owner : GoodIn wsL_law (wsV RL 131 RX7 yX7_owner wsX7_owner) := goodIn_app (goodIn_of _ (by decide +kernel)) ggL_law_X7_owner
set_option maxRecDepth 20000 in
theorem ggL_law_X8_owner : GoodIn wsL_law wsX8_owner := goodIn_ca (goodIn_r _ [788, 789, 151, 152, 334, 335, 5, 336, 200, 201, 202] (by decide +kernel) (by decide +kernel)) gU_8
set_option maxRecDepth 20000 in
theorem gL_law_X8_owner : GoodIn wsL_law (wsV RL 134 RX8 yX8_owner wsX8_owner) := goodIn_app (goodIn_of _ (by decide +kernel)) ggL_law_X8_owner
set_option maxRecDepth 20000 in
theorem ggL_law_X7_gaps : GoodIn wsL_law wsX7_gaps := goodIn_ca (goodIn_ca (goodIn_r _ [793, 29, 794, 42, 795, 353, 354, 2, 355, 323, 324, 325, 170, 171, 172, 796, 797, 798, 28, 799, 103, 104, 102, 100, 800, 465, 277, 466, 101, 801, 457, 458, 802, 803, 804, 805] (by decide +kernel) (by decide +kernel)) gU_7) gU_4
set_option maxRecDepth 20000 in
theorem gL_law_X7_gaps : GoodIn wsL_law (wsV RL 135 RX7 yX7_gaps wsX7_gaps) := goodIn_app (goodIn_of _ (by decide +kernel)) ggL_law_X7_gaps
set_option maxRecDepth 20000 in
theorem ggL_law_X8_gaps : GoodIn wsL_law wsX8_gaps := goodIn_ca (goodIn_r _ [809, 789, 151, 152, 334, 335, 5, 336, 200, 201, 202, 296, 297, 298, 299, 300] (by decide +kernel) (by decide +kernel)) gU_8
set_option maxRecDepth 20000 in
theorem gL_law_X8_gaps : GoodIn wsL_law (wsV RL 138 RX8 yX8_gaps wsX8_gaps) := goodIn_app (goodIn_of _ (by decide +kernel)) ggL_law_X8_gaps
set_option maxRecDepth 20000 in
theorem ggL_law_X7_opinion : GoodIn wsL_law wsX7_opinion := goodIn_ca (goodIn_ca (goodIn_r _ [813, 33, 170, 171, 2, 172, 603, 604, 605, 814, 815, 816, 32, 817, 112, 818, 819, 820, 821, 108, 109, 110, 111] (by decide +kernel) (by decide +kernel)) gU_7) gU_3
set_option maxRecDepth 20000 in
theorem gL_law_X7_opinion : GoodIn wsL_law (wsV RL 139 RX7 yX7_opinion wsX7_opinion) := goodIn_app (goodIn_of _ (by decide +kernel)) ggL_law_X7_opinion
set_option maxRecDepth 20000 in
theorem ggL_law_X8_opinion : GoodIn wsL_law wsX8_opinion := goodIn_ca (goodIn_r _ [825, 826, 153, 154, 155, 156, 200, 201, 5, 202, 614, 615, 616] (by decide +kernel) (by decide +kernel)) gU_8
set_option maxRecDepth 20000 in
theorem gL_law_X8_opinion : GoodIn wsL_law (wsV RL 143 RX8 yX8_opinion wsX8_opinion) := goodIn_app (goodIn_of _ (by decide +kernel)) ggL_law_X8_opinion
set_option maxRecDepth 20000 in
theorem ggL_law_X7_mean : GoodIn wsL_law wsX7_mean := goodIn_ca (goodIn_ca (goodIn_r _ [830, 33, 603, 604, 2, 605, 170, 171, 172, 831, 832, 833, 32, 834, 112, 109, 111, 185, 186, 187, 188, 41, 39, 835, 836, 837, 838, 110] (by decide +kernel) (by decide +kernel)) gU_7) gU_3
