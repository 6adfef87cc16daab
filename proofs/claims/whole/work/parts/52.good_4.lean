set_option maxRecDepth 20000 in
theorem gL_law_X7_mean : GoodIn wsL_law (wsV RL 144 RX7 yX7_mean wsX7_mean) := goodIn_app (goodIn_of _ (by decide +kernel)) ggL_law_X7_mean
set_option maxRecDepth 20000 in
theorem ggL_law_X8_mean : GoodIn wsL_law wsX8_mean := goodIn_ca (goodIn_r _ [842, 826, 154, 156, 155, 614, 615, 5, 616, 200, 201, 202, 203, 204, 205, 206, 207, 130] (by decide +kernel) (by decide +kernel)) gU_8
set_option maxRecDepth 20000 in
theorem gL_law_X8_mean : GoodIn wsL_law (wsV RL 147 RX8 yX8_mean wsX8_mean) := goodIn_app (goodIn_of _ (by decide +kernel)) ggL_law_X8_mean
set_option maxRecDepth 20000 in
theorem ggL_law_X7_spread : GoodIn wsL_law wsX7_spread := goodIn_ca (goodIn_ca (goodIn_r _ [846, 33, 847, 848, 42, 849, 850, 851, 32, 852, 113, 114, 112, 108, 110, 853, 276, 277, 278, 854, 855, 856, 857, 111, 109, 858, 859, 860, 861] (by decide +kernel) (by decide +kernel)) gU_7) gU_3
set_option maxRecDepth 20000 in
theorem gL_law_X7_spread : GoodIn wsL_law (wsV RL 148 RX7 yX7_spread wsX7_spread) := goodIn_app (goodIn_of _ (by decide +kernel)) ggL_law_X7_spread
set_option maxRecDepth 20000 in
theorem ggL_law_X8_spread : GoodIn wsL_law wsX8_spread := goodIn_ca (goodIn_r _ [865, 826, 153, 154, 156, 155, 296, 297, 298, 5, 299, 300] (by decide +kernel) (by decide +kernel)) gU_8
set_option maxRecDepth 20000 in
theorem gL_law_X8_spread : GoodIn wsL_law (wsV RL 151 RX8 yX8_spread wsX8_spread) := goodIn_app (goodIn_of _ (by decide +kernel)) ggL_law_X8_spread
set_option maxRecDepth 20000 in
theorem ggL_law_X7_sold : GoodIn wsL_law wsX7_sold := goodIn_ca (goodIn_ca (goodIn_r _ [869, 40, 870, 37, 170, 171, 2, 172, 603, 604, 605, 871, 872, 873, 36, 874, 122, 123, 124] (by decide +kernel) (by decide +kernel)) gU_7) gU_0
set_option maxRecDepth 20000 in
theorem gL_law_X7_sold : GoodIn wsL_law (wsV RL 152 RX7 yX7_sold wsX7_sold) := goodIn_app (goodIn_of _ (by decide +kernel)) ggL_law_X7_sold
set_option maxRecDepth 20000 in
theorem ggL_law_X8_sold : GoodIn wsL_law wsX8_sold := goodIn_ca (goodIn_r _ [878, 177, 879, 165, 880, 881, 200, 201, 5, 202, 614, 615, 616] (by decide +kernel) (by decide +kernel)) gU_8
set_option maxRecDepth 20000 in
theorem gL_law_X8_sold : GoodIn wsL_law (wsV RL 155 RX8 yX8_sold wsX8_sold) := goodIn_app (goodIn_of _ (by decide +kernel)) ggL_law_X8_sold
set_option maxRecDepth 20000 in
theorem ggL_law_X7_law : GoodIn wsL_law wsX7_law := goodIn_ca (goodIn_ca (goodIn_r _ [885, 37, 506, 507, 2, 508, 170, 171, 172, 886, 887, 888, 36, 889, 125, 890, 891, 892, 893, 118, 119, 120, 121] (by decide +kernel) (by decide +kernel)) gU_7) gU_0
set_option maxRecDepth 20000 in
theorem gL_law_X7_law : GoodIn wsL_law (wsV RL 156 RX7 yX7_law wsX7_law) := goodIn_app (goodIn_of _ (by decide +kernel)) ggL_law_X7_law
set_option maxRecDepth 20000 in
theorem ggL_law_X8_law : GoodIn wsL_law wsX8_law := goodIn_ca (goodIn_r _ [897, 898, 157, 158, 159, 160, 537, 538, 5, 539, 200, 201, 202] (by decide +kernel) (by decide +kernel)) gU_8
set_option maxRecDepth 20000 in
theorem gL_law_X8_law : GoodIn wsL_law (wsV RL 160 RX8 yX8_law wsX8_law) := goodIn_app (goodIn_of _ (by decide +kernel)) ggL_law_X8_law
set_option maxRecDepth 20000 in
theorem ggL_law_X7_claim : GoodIn wsL_law wsX7_claim := goodIn_ca (goodIn_ca (goodIn_ca (goodIn_r _ [902, 37, 25, 40, 903, 42, 904, 905, 906, 36, 907, 125, 118, 122, 682, 683, 684, 24, 685, 686, 687, 688, 689, 86, 95, 93, 90, 91, 185, 186, 187, 2, 188, 41, 39, 908, 909, 910, 911, 119, 690, 912, 913, 914, 915, 916, 120, 917, 918, 919, 920, 123, 121, 921] (by decide +kernel) (by decide +kernel)) gU_7) gU_0) gU_2
set_option maxRecDepth 20000 in
theorem gL_law_X7_claim : GoodIn wsL_law (wsV RL 161 RX7 yX7_claim wsX7_claim) := goodIn_app (goodIn_of _ (by decide +kernel)) ggL_law_X7_claim
set_option maxRecDepth 20000 in
theorem ggL_law_X8_claim : GoodIn wsL_law wsX8_claim := goodIn_ca (goodIn_r _ [925, 898, 165, 157, 177, 158, 881, 926, 159, 880, 160, 927, 705, 706, 707, 5, 708, 709, 710, 711, 712, 144, 633, 148, 150, 149, 203, 204, 205, 206, 207, 130, 296, 297, 298, 299, 300] (by decide +kernel) (by decide +kernel)) gU_8
set_option maxRecDepth 20000 in
theorem gL_law_X8_claim : GoodIn wsL_law (wsV RL 164 RX8 yX8_claim wsX8_claim) := goodIn_app (goodIn_of _ (by decide +kernel)) ggL_law_X8_claim
set_option maxRecDepth 20000 in
theorem ggL_law_X7_asked : GoodIn wsL_law wsX7_asked := goodIn_ca (goodIn_r _ [931, 42] (by decide +kernel) (by decide +kernel)) gU_7
set_option maxRecDepth 20000 in
theorem gL_law_X7_asked : GoodIn wsL_law (wsV RL 165 RX7 yX7_asked wsX7_asked) := goodIn_app (goodIn_of _ (by decide +kernel)) ggL_law_X7_asked
set_option maxRecDepth 20000 in
theorem ggL_law_X8_asked : GoodIn wsL_law wsX8_asked := goodIn_ca (goodIn_r _ [935, 300] (by decide +kernel) (by decide +kernel)) gU_8
set_option maxRecDepth 20000 in
theorem gL_law_X8_asked : GoodIn wsL_law (wsV RL 168 RX8 yX8_asked wsX8_asked) := goodIn_app (goodIn_of _ (by decide +kernel)) ggL_law_X8_asked
set_option maxRecDepth 20000 in
theorem ggL_law_X7_upper : GoodIn wsL_law wsX7_upper := goodIn_ca (goodIn_r _ [939, 43] (by decide +kernel) (by decide +kernel)) gU_7
set_option maxRecDepth 20000 in
theorem gL_law_X7_upper : GoodIn wsL_law (wsV RL 169 RX7 yX7_upper wsX7_upper) := goodIn_app (goodIn_of _ (by decide +kernel)) ggL_law_X7_upper
set_option maxRecDepth 20000 in
theorem ggL_law_X8_upper : GoodIn wsL_law wsX8_upper := goodIn_ca (goodIn_r _ [943, 717] (by decide +kernel) (by decide +kernel)) gU_8
set_option maxRecDepth 20000 in
theorem gL_law_X8_upper : GoodIn wsL_law (wsV RL 173 RX8 yX8_upper wsX8_upper) := goodIn_app (goodIn_of _ (by decide +kernel)) ggL_law_X8_upper
set_option maxRecDepth 20000 in
theorem ggL_law_X7_lower : GoodIn wsL_law wsX7_lower := goodIn_ca (goodIn_r _ [947, 44] (by decide +kernel) (by decide +kernel)) gU_7
set_option maxRecDepth 20000 in
theorem gL_law_X7_lower : GoodIn wsL_law (wsV RL 174 RX7 yX7_lower wsX7_lower) := goodIn_app (goodIn_of _ (by decide +kernel)) ggL_law_X7_lower
set_option maxRecDepth 20000 in
theorem ggL_law_X8_lower : GoodIn wsL_law wsX8_lower := goodIn_ca (goodIn_r _ [951, 161] (by decide +kernel) (by decide +kernel)) gU_8
set_option maxRecDepth 20000 in
theorem gL_law_X8_lower : GoodIn wsL_law (wsV RL 177 RX8 yX8_lower wsX8_lower) := goodIn_app (goodIn_of _ (by decide +kernel)) ggL_law_X8_lower
set_option maxRecDepth 20000 in
theorem ggL_law_X7_count : GoodIn wsL_law wsX7_count := goodIn_ca (goodIn_ca (goodIn_ca (goodIn_ca (goodIn_ca (goodIn_ca (goodIn_r _ [955, 40, 15, 956, 957, 25, 958, 959, 29, 960, 33, 961, 37, 962] (by decide +kernel) (by decide +kernel)) gU_7) gU_5) gU_2) gU_4) gU_3) gU_0
set_option maxRecDepth 20000 in
theorem gL_law_X7_count : GoodIn wsL_law (wsV RL 178 RX7 yX7_count wsX7_count) := goodIn_app (goodIn_of _ (by decide +kernel)) ggL_law_X7_count
set_option maxRecDepth 20000 in
theorem ggL_law_X8_count : GoodIn wsL_law wsX8_count := goodIn_ca (goodIn_r _ [966, 200, 201, 5, 202, 967, 968, 969, 970, 177, 379, 138, 633, 149, 789, 826, 898] (by decide +kernel) (by decide +kernel)) gU_8
set_option maxRecDepth 20000 in
theorem gL_law_X8_count : GoodIn wsL_law (wsV RL 181 RX8 yX8_count wsX8_count) := goodIn_app (goodIn_of _ (by decide +kernel)) ggL_law_X8_count
set_option maxRecDepth 20000 in
theorem ggL_law_X7_finding : GoodIn wsL_law wsX7_finding := goodIn_ca (goodIn_r _ [974, 41] (by decide +kernel) (by decide +kernel)) gU_7
set_option maxRecDepth 20000 in
theorem gL_law_X7_finding : GoodIn wsL_law (wsV RL 182 RX7 yX7_finding wsX7_finding) := goodIn_app (goodIn_of _ (by decide +kernel)) ggL_law_X7_finding
set_option maxRecDepth 20000 in
theorem ggL_law_X8_finding : GoodIn wsL_law wsX8_finding := goodIn_ca (goodIn_r _ [978, 207] (by decide +kernel) (by decide +kernel)) gU_8
set_option maxRecDepth 20000 in
theorem gL_law_X8_finding : GoodIn wsL_law (wsV RL 185 RX8 yX8_finding wsX8_finding) := goodIn_app (goodIn_of _ (by decide +kernel)) ggL_law_X8_finding
set_option maxRecDepth 20000 in
theorem ggL_law_X7_findings : GoodIn wsL_law wsX7_findings := goodIn_ca (goodIn_r _ [982, 39, 170, 171, 2, 172] (by decide +kernel) (by decide +kernel)) gU_7
set_option maxRecDepth 20000 in
theorem gL_law_X7_findings : GoodIn wsL_law (wsV RL 186 RX7 yX7_findings wsX7_findings) := goodIn_app (goodIn_of _ (by decide +kernel)) ggL_law_X7_findings
set_option maxRecDepth 20000 in
theorem ggL_law_X8_findings : GoodIn wsL_law wsX8_findings := goodIn_ca (goodIn_r _ [986, 130, 200, 201, 5, 202] (by decide +kernel) (by decide +kernel)) gU_8
set_option maxRecDepth 20000 in
theorem gL_law_X8_findings : GoodIn wsL_law (wsV RL 189 RX8 yX8_findings wsX8_findings) := goodIn_app (goodIn_of _ (by decide +kernel)) ggL_law_X8_findings
set_option maxRecDepth 20000 in
theorem ggL_law_X7_digest : GoodIn wsL_law wsX7_digest := goodIn_ca (goodIn_ca (goodIn_ca (goodIn_ca (goodIn_ca (goodIn_ca (goodIn_ca (goodIn_r _ [990, 991, 992, 15, 956, 25, 17, 993, 953, 954, 2, 955, 40, 957, 958, 959, 29, 960, 33, 961, 37, 962, 444, 445, 446, 14, 447, 54, 55, 56, 57, 448, 449, 450, 451, 53, 58, 60, 62, 52, 59, 452, 453, 454, 455, 456, 457, 277, 458, 459, 306, 307, 51, 308, 309, 264, 265, 266, 71, 310, 268, 269, 270, 271, 272, 273, 274, 73, 275, 276, 278, 460, 461, 462, 463, 63, 64, 464, 465, 466, 61, 994, 995, 996, 24, 997, 998, 86, 95, 87, 88, 89, 90, 91, 999, 1000, 1001, 1002, 1003, 1004, 1005, 1006, 1007, 1008] (by decide +kernel) (by decide +kernel)) gU_7) gU_5) gU_2) gU_4) gU_3) gU_0) gU_6
set_option maxRecDepth 20000 in
theorem gL_law_X7_digest : GoodIn wsL_law (wsV RL 190 RX7 yX7_digest wsX7_digest) := goodIn_app (goodIn_of _ (by decide +kernel)) ggL_law_X7_digest
set_option maxRecDepth 20000 in
theorem ggL_law_X8_digest : GoodIn wsL_law wsX8_digest := goodIn_ca (goodIn_r _ [1012, 1013, 1014, 379, 144, 633, 145, 146, 147, 148, 149, 134, 131, 132, 967, 968, 969, 5, 970, 177, 138, 789, 826, 898, 471, 472, 473, 474, 135, 136, 137, 475, 476, 477, 478, 139, 162, 140, 141, 142, 479, 480, 481, 315, 316, 317, 318, 284, 285, 286, 287, 288, 289, 290, 291, 292, 293, 294, 295, 482, 483, 484, 485, 163, 164] (by decide +kernel) (by decide +kernel)) gU_8
set_option maxRecDepth 20000 in
theorem gL_law_X8_digest : GoodIn wsL_law (wsV RL 193 RX8 yX8_digest wsX8_digest) := goodIn_app (goodIn_of _ (by decide +kernel)) ggL_law_X8_digest
