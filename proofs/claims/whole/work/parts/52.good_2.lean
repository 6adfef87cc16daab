set_option maxRecDepth 20000 in
theorem gL_law_X7_sap : GoodIn wsL_law (wsV RL 49 RX7 yX7_sap wsX7_sap) := goodIn_app (goodIn_of _ (by decide +kernel)) ggL_law_X7_sap
set_option maxRecDepth 20000 in
theorem ggL_law_X8_sap : GoodIn wsL_law wsX8_sap := goodIn_ca (goodIn_r _ [348, 162, 163, 164, 200, 201, 5, 202] (by decide +kernel) (by decide +kernel)) gU_8
set_option maxRecDepth 20000 in
theorem gL_law_X8_sap : GoodIn wsL_law (wsV RL 52 RX8 yX8_sap wsX8_sap) := goodIn_app (goodIn_of _ (by decide +kernel)) ggL_law_X8_sap
set_option maxRecDepth 20000 in
theorem ggL_law_X7_proof : GoodIn wsL_law wsX7_proof := goodIn_ca (goodIn_ca (goodIn_r _ [352, 15, 40, 353, 354, 2, 355, 323, 324, 325, 170, 171, 172, 356, 357, 358, 359, 360, 361, 14, 362, 65, 363, 364, 365, 366, 60, 61, 367, 368, 369, 370, 54, 55, 56, 57] (by decide +kernel) (by decide +kernel)) gU_7) gU_5
set_option maxRecDepth 20000 in
theorem gL_law_X7_proof : GoodIn wsL_law (wsV RL 53 RX7 yX7_proof wsX7_proof) := goodIn_app (goodIn_of _ (by decide +kernel)) ggL_law_X7_proof
set_option maxRecDepth 20000 in
theorem ggL_law_X8_proof : GoodIn wsL_law wsX8_proof := goodIn_ca (goodIn_r _ [374, 334, 335, 5, 336, 200, 201, 202, 375, 376, 377, 378, 379, 135, 136, 137, 177, 138, 139, 140, 141, 142] (by decide +kernel) (by decide +kernel)) gU_8
set_option maxRecDepth 20000 in
theorem gL_law_X8_proof : GoodIn wsL_law (wsV RL 56 RX8 yX8_proof wsX8_proof) := goodIn_app (goodIn_of _ (by decide +kernel)) ggL_law_X8_proof
set_option maxRecDepth 20000 in
theorem ggL_law_X7_found : GoodIn wsL_law wsX7_found := goodIn_ca (goodIn_ca (goodIn_r _ [383, 15, 40, 170, 171, 2, 172, 356, 357, 358, 359, 360, 361, 14, 362, 65, 384, 385, 386, 387, 58, 367, 368, 369, 370, 54, 55, 56, 57] (by decide +kernel) (by decide +kernel)) gU_7) gU_5
set_option maxRecDepth 20000 in
theorem gL_law_X7_found : GoodIn wsL_law (wsV RL 57 RX7 yX7_found wsX7_found) := goodIn_app (goodIn_of _ (by decide +kernel)) ggL_law_X7_found
set_option maxRecDepth 20000 in
theorem ggL_law_X8_found : GoodIn wsL_law wsX8_found := goodIn_ca (goodIn_r _ [391, 200, 201, 5, 202, 375, 376, 377, 378, 379, 135, 136, 137, 177, 138, 139, 140, 141, 142] (by decide +kernel) (by decide +kernel)) gU_8
set_option maxRecDepth 20000 in
theorem gL_law_X8_found : GoodIn wsL_law (wsV RL 60 RX8 yX8_found wsX8_found) := goodIn_app (goodIn_of _ (by decide +kernel)) ggL_law_X8_found
set_option maxRecDepth 20000 in
theorem ggL_law_X7_rings : GoodIn wsL_law wsX7_rings := goodIn_ca (goodIn_ca (goodIn_r _ [395, 15, 40, 170, 171, 2, 172, 356, 357, 358, 359, 360, 361, 14, 362, 65, 396, 397, 398, 399, 60, 58, 367, 368, 369, 370, 54, 55, 56, 57] (by decide +kernel) (by decide +kernel)) gU_7) gU_5
set_option maxRecDepth 20000 in
theorem gL_law_X7_rings : GoodIn wsL_law (wsV RL 61 RX7 yX7_rings wsX7_rings) := goodIn_app (goodIn_of _ (by decide +kernel)) ggL_law_X7_rings
set_option maxRecDepth 20000 in
theorem ggL_law_X8_rings : GoodIn wsL_law wsX8_rings := goodIn_ca (goodIn_r _ [403, 200, 201, 5, 202, 375, 376, 377, 378, 379, 135, 136, 137, 177, 138, 139, 140, 141, 142] (by decide +kernel) (by decide +kernel)) gU_8
set_option maxRecDepth 20000 in
theorem gL_law_X8_rings : GoodIn wsL_law (wsV RL 64 RX8 yX8_rings wsX8_rings) := goodIn_app (goodIn_of _ (by decide +kernel)) ggL_law_X8_rings
set_option maxRecDepth 20000 in
theorem ggL_law_X7_threads : GoodIn wsL_law wsX7_threads := goodIn_ca (goodIn_ca (goodIn_r _ [407, 15, 40, 260, 261, 2, 262, 182, 183, 184, 170, 171, 172, 353, 354, 355, 323, 324, 325, 356, 357, 358, 359, 360, 361, 14, 362, 65, 408, 409, 410, 411, 58, 59, 60, 61, 367, 368, 369, 370, 54, 55, 56, 57] (by decide +kernel) (by decide +kernel)) gU_7) gU_5
set_option maxRecDepth 20000 in
theorem gL_law_X7_threads : GoodIn wsL_law (wsV RL 65 RX7 yX7_threads wsX7_threads) := goodIn_app (goodIn_of _ (by decide +kernel)) ggL_law_X7_threads
set_option maxRecDepth 20000 in
theorem ggL_law_X8_threads : GoodIn wsL_law wsX8_threads := goodIn_ca (goodIn_r _ [415, 197, 198, 5, 199, 200, 201, 202, 334, 335, 336, 375, 376, 377, 378, 379, 135, 136, 137, 177, 138, 139, 140, 141, 142] (by decide +kernel) (by decide +kernel)) gU_8
set_option maxRecDepth 20000 in
theorem gL_law_X8_threads : GoodIn wsL_law (wsV RL 68 RX8 yX8_threads wsX8_threads) := goodIn_app (goodIn_of _ (by decide +kernel)) ggL_law_X8_threads
set_option maxRecDepth 20000 in
theorem ggL_law_X7_strike : GoodIn wsL_law wsX7_strike := goodIn_ca (goodIn_ca (goodIn_r _ [419, 15, 40, 420, 421, 422, 14, 423, 65, 424, 425, 426, 427, 57, 428, 429, 430, 431, 66] (by decide +kernel) (by decide +kernel)) gU_7) gU_5
set_option maxRecDepth 20000 in
theorem gL_law_X7_strike : GoodIn wsL_law (wsV RL 69 RX7 yX7_strike wsX7_strike) := goodIn_app (goodIn_of _ (by decide +kernel)) ggL_law_X7_strike
set_option maxRecDepth 20000 in
theorem ggL_law_X8_strike : GoodIn wsL_law wsX8_strike := goodIn_ca (goodIn_r _ [435, 138, 177, 436, 437, 438, 5, 439, 379, 200, 201, 202] (by decide +kernel) (by decide +kernel)) gU_8
set_option maxRecDepth 20000 in
theorem gL_law_X8_strike : GoodIn wsL_law (wsV RL 72 RX8 yX8_strike wsX8_strike) := goodIn_app (goodIn_of _ (by decide +kernel)) ggL_law_X8_strike
set_option maxRecDepth 20000 in
theorem ggL_law_X7_told : GoodIn wsL_law wsX7_told := goodIn_ca (goodIn_ca (goodIn_ca (goodIn_r _ [443, 15, 420, 421, 422, 14, 423, 65, 170, 171, 2, 172, 444, 445, 446, 447, 54, 55, 56, 57, 448, 449, 450, 451, 53, 58, 60, 62, 52, 59, 452, 453, 454, 455, 456, 457, 277, 458, 459, 306, 307, 51, 308, 309, 264, 265, 266, 71, 310, 268, 269, 270, 271, 272, 273, 274, 73, 275, 276, 278, 460, 461, 462, 463, 63, 64, 464, 465, 466, 61] (by decide +kernel) (by decide +kernel)) gU_7) gU_5) gU_6
set_option maxRecDepth 20000 in
theorem gL_law_X7_told : GoodIn wsL_law (wsV RL 73 RX7 yX7_told wsX7_told) := goodIn_app (goodIn_of _ (by decide +kernel)) ggL_law_X7_told
set_option maxRecDepth 20000 in
theorem ggL_law_X8_told : GoodIn wsL_law wsX8_told := goodIn_ca (goodIn_r _ [470, 436, 437, 438, 5, 439, 379, 200, 201, 202, 471, 472, 473, 474, 135, 136, 137, 138, 475, 476, 477, 478, 134, 139, 162, 140, 141, 142, 479, 480, 481, 315, 316, 317, 318, 284, 285, 286, 287, 131, 288, 289, 290, 291, 292, 293, 294, 295, 132, 482, 483, 484, 485, 163, 164] (by decide +kernel) (by decide +kernel)) gU_8
set_option maxRecDepth 20000 in
theorem gL_law_X8_told : GoodIn wsL_law (wsV RL 76 RX8 yX8_told wsX8_told) := goodIn_app (goodIn_of _ (by decide +kernel)) ggL_law_X8_told
set_option maxRecDepth 20000 in
theorem ggL_law_X7_mark : GoodIn wsL_law wsX7_mark := goodIn_ca (goodIn_ca (goodIn_ca (goodIn_r _ [489, 15, 420, 421, 422, 14, 423, 65, 170, 171, 2, 172, 490, 491, 492, 493, 54, 185, 186, 187, 188, 41, 39, 494, 495, 496, 497, 58, 52, 59, 459, 306, 307, 51, 308, 309, 264, 265, 266, 71, 310, 268, 269, 270, 271, 272, 273, 274, 73, 275, 276, 277, 278, 460, 461, 462, 463, 60, 63, 64, 464, 465, 466, 61, 452, 453, 454, 455, 456, 457, 458, 448, 449, 450, 451, 53, 62] (by decide +kernel) (by decide +kernel)) gU_7) gU_5) gU_6
set_option maxRecDepth 20000 in
theorem gL_law_X7_mark : GoodIn wsL_law (wsV RL 77 RX7 yX7_mark wsX7_mark) := goodIn_app (goodIn_of _ (by decide +kernel)) ggL_law_X7_mark
set_option maxRecDepth 20000 in
theorem ggL_law_X8_mark : GoodIn wsL_law wsX8_mark := goodIn_ca (goodIn_r _ [501, 135, 139, 140, 141, 142, 436, 437, 438, 5, 439, 379, 200, 201, 202, 482, 483, 484, 485, 163, 164, 479, 480, 481, 315, 316, 317, 318, 284, 285, 286, 287, 131, 288, 289, 290, 291, 292, 293, 294, 295, 132, 475, 476, 477, 478, 134, 162, 203, 204, 205, 206, 207, 130] (by decide +kernel) (by decide +kernel)) gU_8
set_option maxRecDepth 20000 in
theorem gL_law_X8_mark : GoodIn wsL_law (wsV RL 80 RX8 yX8_mark wsX8_mark) := goodIn_app (goodIn_of _ (by decide +kernel)) ggL_law_X8_mark
set_option maxRecDepth 20000 in
theorem ggL_law_X7_span : GoodIn wsL_law wsX7_span := goodIn_ca (goodIn_ca (goodIn_ca (goodIn_ca (goodIn_r _ [505, 15, 21, 506, 507, 2, 508, 170, 171, 172, 509, 510, 511, 14, 512, 513, 65, 55, 514, 515, 516, 517, 56, 57, 518, 425, 426, 427, 448, 449, 450, 451, 54, 53, 58, 60, 62, 52, 59, 452, 453, 454, 455, 456, 457, 277, 458, 459, 306, 307, 51, 308, 309, 264, 265, 266, 71, 310, 268, 269, 270, 271, 272, 273, 274, 73, 275, 276, 278, 460, 461, 462, 463, 63, 64, 464, 465, 466, 61, 519, 520, 521, 20, 522, 77, 81, 78, 79, 80, 523, 524, 525, 526, 527, 528, 529, 530, 531, 532] (by decide +kernel) (by decide +kernel)) gU_7) gU_1) gU_5) gU_6
set_option maxRecDepth 20000 in
theorem gL_law_X7_span : GoodIn wsL_law (wsV RL 81 RX7 yX7_span wsX7_span) := goodIn_app (goodIn_of _ (by decide +kernel)) ggL_law_X7_span
set_option maxRecDepth 20000 in
theorem ggL_law_X8_span : GoodIn wsL_law wsX8_span := goodIn_ca (goodIn_r _ [536, 379, 537, 538, 5, 539, 200, 201, 202, 540, 541, 542, 543, 137, 138, 475, 476, 477, 478, 135, 134, 139, 162, 140, 141, 142, 479, 480, 481, 315, 316, 317, 318, 284, 285, 286, 287, 131, 288, 289, 290, 291, 292, 293, 294, 295, 132, 482, 483, 484, 485, 163, 164] (by decide +kernel) (by decide +kernel)) gU_8
set_option maxRecDepth 20000 in
theorem gL_law_X8_span : GoodIn wsL_law (wsV RL 85 RX8 yX8_span wsX8_span) := goodIn_app (goodIn_of _ (by decide +kernel)) ggL_law_X8_span
set_option maxRecDepth 20000 in
theorem ggL_law_X7_quarrel : GoodIn wsL_law wsX7_quarrel := goodIn_ca (goodIn_ca (goodIn_ca (goodIn_ca (goodIn_r _ [547, 15, 21, 548, 549, 42, 506, 507, 2, 508, 170, 171, 172, 509, 510, 511, 14, 512, 513, 65, 55, 514, 515, 516, 517, 56, 57, 518, 425, 426, 427, 448, 449, 450, 451, 54, 53, 58, 60, 62, 52, 59, 452, 453, 454, 455, 456, 457, 277, 458, 459, 306, 307, 51, 308, 309, 264, 265, 266, 71, 310, 268, 269, 270, 271, 272, 273, 274, 73, 275, 276, 278, 460, 461, 462, 463, 63, 64, 464, 465, 466, 61, 519, 520, 521, 20, 522, 77, 81, 78, 79, 80, 550, 551, 552, 553] (by decide +kernel) (by decide +kernel)) gU_7) gU_1) gU_5) gU_6
set_option maxRecDepth 20000 in
theorem gL_law_X7_quarrel : GoodIn wsL_law (wsV RL 86 RX7 yX7_quarrel wsX7_quarrel) := goodIn_app (goodIn_of _ (by decide +kernel)) ggL_law_X7_quarrel
set_option maxRecDepth 20000 in
theorem ggL_law_X8_quarrel : GoodIn wsL_law wsX8_quarrel := goodIn_ca (goodIn_r _ [557, 379, 537, 538, 5, 539, 200, 201, 202, 540, 541, 542, 543, 137, 138, 482, 483, 484, 485, 135, 139, 163, 140, 164, 141, 142, 479, 480, 481, 315, 316, 317, 318, 284, 285, 286, 287, 131, 288, 289, 290, 291, 292, 293, 294, 295, 132, 475, 476, 477, 478, 134, 162, 296, 297, 298, 299, 300] (by decide +kernel) (by decide +kernel)) gU_8
set_option maxRecDepth 20000 in
theorem gL_law_X8_quarrel : GoodIn wsL_law (wsV RL 89 RX8 yX8_quarrel wsX8_quarrel) := goodIn_app (goodIn_of _ (by decide +kernel)) ggL_law_X8_quarrel
set_option maxRecDepth 20000 in
theorem ggL_law_X7_leftOut : GoodIn wsL_law wsX7_leftOut := goodIn_ca (goodIn_ca (goodIn_ca (goodIn_ca (goodIn_r _ [561, 15, 21, 42, 506, 507, 2, 508, 170, 171, 172, 509, 510, 511, 14, 512, 513, 65, 55, 514, 515, 516, 517, 56, 57, 518, 425, 426, 427, 448, 449, 450, 451, 54, 53, 58, 60, 62, 52, 59, 452, 453, 454, 455, 456, 457, 277, 458, 459, 306, 307, 51, 308, 309, 264, 265, 266, 71, 310, 268, 269, 270, 271, 272, 273, 274, 73, 275, 276, 278, 460, 461, 462, 463, 63, 64, 464, 465, 466, 61, 519, 520, 521, 20, 522, 77, 81, 78, 79, 80, 562, 563, 564, 565, 566, 567, 568, 569, 570, 571, 572, 573, 574, 575, 576, 577, 578, 579, 580, 581, 582] (by decide +kernel) (by decide +kernel)) gU_7) gU_1) gU_5) gU_6
set_option maxRecDepth 20000 in
theorem gL_law_X7_leftOut : GoodIn wsL_law (wsV RL 90 RX7 yX7_leftOut wsX7_leftOut) := goodIn_app (goodIn_of _ (by decide +kernel)) ggL_law_X7_leftOut
set_option maxRecDepth 20000 in
theorem ggL_law_X8_leftOut : GoodIn wsL_law wsX8_leftOut := goodIn_ca (goodIn_r _ [586, 379, 136, 537, 538, 5, 539, 200, 201, 202, 587, 588, 589, 590, 143, 540, 541, 542, 543, 137, 138, 475, 476, 477, 478, 135, 134, 139, 162, 140, 141, 142, 479, 480, 481, 315, 316, 317, 318, 284, 285, 286, 287, 131, 288, 289, 290, 291, 292, 293, 294, 295, 132, 482, 483, 484, 485, 163, 164, 296, 297, 298, 299, 300] (by decide +kernel) (by decide +kernel)) gU_8
set_option maxRecDepth 20000 in
theorem gL_law_X8_leftOut : GoodIn wsL_law (wsV RL 93 RX8 yX8_leftOut wsX8_leftOut) := goodIn_app (goodIn_of _ (by decide +kernel)) ggL_law_X8_leftOut
set_option maxRecDepth 20000 in
theorem ggL_law_X7_heldYear : GoodIn wsL_law wsX7_heldYear := goodIn_ca (goodIn_ca (goodIn_ca (goodIn_ca (goodIn_r _ [594, 15, 21, 506, 507, 2, 508, 170, 171, 172, 509, 510, 511, 14, 512, 513, 65, 55, 514, 515, 516, 517, 56, 57, 518, 425, 426, 427, 448, 449, 450, 451, 54, 53, 58, 60, 62, 52, 59, 452, 453, 454, 455, 456, 457, 277, 458, 459, 306, 307, 51, 308, 309, 264, 265, 266, 71, 310, 268, 269, 270, 271, 272, 273, 274, 73, 275, 276, 278, 460, 461, 462, 463, 63, 64, 464, 465, 466, 61, 519, 520, 521, 20, 522, 77, 81, 78, 79, 80, 562, 563, 564, 565, 566, 567, 568, 569, 570, 571, 572, 573] (by decide +kernel) (by decide +kernel)) gU_7) gU_1) gU_5) gU_6
set_option maxRecDepth 20000 in
theorem gL_law_X7_heldYear : GoodIn wsL_law (wsV RL 94 RX7 yX7_heldYear wsX7_heldYear) := goodIn_app (goodIn_of _ (by decide +kernel)) ggL_law_X7_heldYear
set_option maxRecDepth 20000 in
theorem ggL_law_X8_heldYear : GoodIn wsL_law wsX8_heldYear := goodIn_ca (goodIn_r _ [598, 537, 538, 5, 539, 200, 201, 202, 587, 588, 589, 590, 143, 379, 136, 540, 541, 542, 543, 137, 138, 475, 476, 477, 478, 135, 134, 139, 162, 140, 141, 142, 479, 480, 481, 315, 316, 317, 318, 284, 285, 286, 287, 131, 288, 289, 290, 291, 292, 293, 294, 295, 132, 482, 483, 484, 485, 163, 164] (by decide +kernel) (by decide +kernel)) gU_8
