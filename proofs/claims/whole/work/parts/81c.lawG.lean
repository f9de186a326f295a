/-! rows printed by the kit's command -/
set_option maxRecDepth 20000 in
theorem ggL_law_X4_deathRound : GoodIn wsL_law wsX4_deathRound := goodIn_r _ [504, 15, 79, 505, 184, 185, 186, 14, 187, 96, 638, 639, 640, 641, 642, 643, 644, 654, 655, 656, 657, 658, 659, 660, 661, 662, 663, 664, 668, 669, 670, 671, 672, 673, 674, 675, 676, 677, 678] (by decide +kernel) (by decide +kernel)
set_option maxRecDepth 20000 in
theorem gL_law_X4_deathRound : GoodIn wsL_law (wsV RL 69 RX4 yX4_deathRound wsX4_deathRound) := goodIn_app (goodIn_of _ (by decide +kernel)) ggL_law_X4_deathRound
set_option maxRecDepth 20000 in
theorem ggL_law_X5_deathRound : GoodIn wsL_law wsX5_deathRound := goodIn_r _ [509, 129, 470, 471, 472, 5, 473, 193, 194, 195, 196, 66, 131, 132, 133, 201, 202, 203, 204, 645, 646, 647, 648, 649, 650, 651, 652, 653] (by decide +kernel) (by decide +kernel)
set_option maxRecDepth 20000 in
theorem gL_law_X5_deathRound : GoodIn wsL_law (wsV RL 72 RX5 yX5_deathRound wsX5_deathRound) := goodIn_app (goodIn_of _ (by decide +kernel)) ggL_law_X5_deathRound
set_option maxRecDepth 20000 in
theorem ggL_law_X4_headOf : GoodIn wsL_law wsX4_headOf := goodIn_r _ [513, 15, 79, 514, 184, 185, 186, 14, 187, 96, 638, 639, 640, 641, 642, 643, 644, 654, 655, 656, 657, 658, 659, 660, 661, 662, 663, 664, 668, 669, 670, 671, 672, 673, 674, 675, 676, 677, 678] (by decide +kernel) (by decide +kernel)
set_option maxRecDepth 20000 in
theorem gL_law_X4_headOf : GoodIn wsL_law (wsV RL 73 RX4 yX4_headOf wsX4_headOf) := goodIn_app (goodIn_of _ (by decide +kernel)) ggL_law_X4_headOf
set_option maxRecDepth 20000 in
theorem ggL_law_X5_headOf : GoodIn wsL_law wsX5_headOf := goodIn_r _ [518, 129, 470, 471, 472, 5, 473, 193, 194, 195, 196, 66, 131, 132, 133, 201, 202, 203, 204, 645, 646, 647, 648, 649, 650, 651, 652, 653] (by decide +kernel) (by decide +kernel)
set_option maxRecDepth 20000 in
theorem gL_law_X5_headOf : GoodIn wsL_law (wsV RL 76 RX5 yX5_headOf wsX5_headOf) := goodIn_app (goodIn_of _ (by decide +kernel)) ggL_law_X5_headOf
set_option maxRecDepth 20000 in
theorem ggL_law_X4_slotOf : GoodIn wsL_law wsX4_slotOf := goodIn_r _ [522, 15, 79, 523, 184, 185, 186, 14, 187, 96, 638, 639, 640, 641, 642, 643, 644, 654, 655, 656, 657, 658, 659, 660, 661, 662, 663, 664, 668, 669, 670, 671, 672, 673, 674, 675, 676, 677, 678] (by decide +kernel) (by decide +kernel)
set_option maxRecDepth 20000 in
theorem gL_law_X4_slotOf : GoodIn wsL_law (wsV RL 77 RX4 yX4_slotOf wsX4_slotOf) := goodIn_app (goodIn_of _ (by decide +kernel)) ggL_law_X4_slotOf
set_option maxRecDepth 20000 in
theorem ggL_law_X5_slotOf : GoodIn wsL_law wsX5_slotOf := goodIn_r _ [527, 129, 470, 471, 472, 5, 473, 193, 194, 195, 196, 66, 131, 132, 133, 201, 202, 203, 204, 645, 646, 647, 648, 649, 650, 651, 652, 653] (by decide +kernel) (by decide +kernel)
set_option maxRecDepth 20000 in
theorem gL_law_X5_slotOf : GoodIn wsL_law (wsV RL 80 RX5 yX5_slotOf wsX5_slotOf) := goodIn_app (goodIn_of _ (by decide +kernel)) ggL_law_X5_slotOf
set_option maxRecDepth 20000 in
theorem ggL_law_X4_headCount : GoodIn wsL_law wsX4_headCount := goodIn_r _ [531, 15, 532, 638, 639, 640, 641, 642, 643, 644, 654, 655, 656, 657, 658, 659, 660, 661, 662, 663, 664] (by decide +kernel) (by decide +kernel)
set_option maxRecDepth 20000 in
theorem gL_law_X4_headCount : GoodIn wsL_law (wsV RL 81 RX4 yX4_headCount wsX4_headCount) := goodIn_app (goodIn_of _ (by decide +kernel)) ggL_law_X4_headCount
set_option maxRecDepth 20000 in
theorem ggL_law_X5_headCount : GoodIn wsL_law wsX5_headCount := goodIn_r _ [536, 129, 66, 645, 646, 647, 648, 649, 650, 651, 652, 653] (by decide +kernel) (by decide +kernel)
set_option maxRecDepth 20000 in
theorem gL_law_X5_headCount : GoodIn wsL_law (wsV RL 84 RX5 yX5_headCount wsX5_headCount) := goodIn_app (goodIn_of _ (by decide +kernel)) ggL_law_X5_headCount
set_option maxRecDepth 20000 in
theorem ggL_law_X4_lastDelivered : GoodIn wsL_law wsX4_lastDelivered := goodIn_r _ [540, 15, 541, 638, 639, 640, 641, 642, 643, 644, 654, 655, 656, 657, 658, 659, 660, 661, 662, 663, 664] (by decide +kernel) (by decide +kernel)
set_option maxRecDepth 20000 in
theorem gL_law_X4_lastDelivered : GoodIn wsL_law (wsV RL 85 RX4 yX4_lastDelivered wsX4_lastDelivered) := goodIn_app (goodIn_of _ (by decide +kernel)) ggL_law_X4_lastDelivered
set_option maxRecDepth 20000 in
theorem ggL_law_X5_lastDelivered : GoodIn wsL_law wsX5_lastDelivered := goodIn_r _ [545, 129, 66, 645, 646, 647, 648, 649, 650, 651, 652, 653] (by decide +kernel) (by decide +kernel)
set_option maxRecDepth 20000 in
theorem gL_law_X5_lastDelivered : GoodIn wsL_law (wsV RL 88 RX5 yX5_lastDelivered wsX5_lastDelivered) := goodIn_app (goodIn_of _ (by decide +kernel)) ggL_law_X5_lastDelivered
set_option maxRecDepth 20000 in
theorem ggL_law_X4_deliveredTotal : GoodIn wsL_law wsX4_deliveredTotal := goodIn_r _ [549, 15, 550, 638, 639, 640, 641, 642, 643, 644, 654, 655, 656, 657, 658, 659, 660, 661, 662, 663, 664] (by decide +kernel) (by decide +kernel)
set_option maxRecDepth 20000 in
theorem gL_law_X4_deliveredTotal : GoodIn wsL_law (wsV RL 89 RX4 yX4_deliveredTotal wsX4_deliveredTotal) := goodIn_app (goodIn_of _ (by decide +kernel)) ggL_law_X4_deliveredTotal
set_option maxRecDepth 20000 in
theorem ggL_law_X5_deliveredTotal : GoodIn wsL_law wsX5_deliveredTotal := goodIn_r _ [554, 129, 66, 645, 646, 647, 648, 649, 650, 651, 652, 653] (by decide +kernel) (by decide +kernel)
set_option maxRecDepth 20000 in
theorem gL_law_X5_deliveredTotal : GoodIn wsL_law (wsV RL 92 RX5 yX5_deliveredTotal wsX5_deliveredTotal) := goodIn_app (goodIn_of _ (by decide +kernel)) ggL_law_X5_deliveredTotal
set_option maxRecDepth 20000 in
theorem ggL_law_X4_energyPaid : GoodIn wsL_law wsX4_energyPaid := goodIn_r _ [558, 15, 559, 638, 639, 640, 641, 642, 643, 644, 654, 655, 656, 657, 658, 659, 660, 661, 662, 663, 664] (by decide +kernel) (by decide +kernel)
set_option maxRecDepth 20000 in
theorem gL_law_X4_energyPaid : GoodIn wsL_law (wsV RL 93 RX4 yX4_energyPaid wsX4_energyPaid) := goodIn_app (goodIn_of _ (by decide +kernel)) ggL_law_X4_energyPaid
set_option maxRecDepth 20000 in
theorem ggL_law_X5_energyPaid : GoodIn wsL_law wsX5_energyPaid := goodIn_r _ [563, 129, 66, 645, 646, 647, 648, 649, 650, 651, 652, 653] (by decide +kernel) (by decide +kernel)
set_option maxRecDepth 20000 in
theorem gL_law_X5_energyPaid : GoodIn wsL_law (wsV RL 96 RX5 yX5_energyPaid wsX5_energyPaid) := goodIn_app (goodIn_of _ (by decide +kernel)) ggL_law_X5_energyPaid
set_option maxRecDepth 20000 in
theorem ggL_law_X4_sendCost : GoodIn wsL_law wsX4_sendCost := goodIn_r _ [567, 15, 79, 147, 148, 568, 569, 184, 185, 186, 14, 187, 96, 570, 279, 280, 41, 281, 106, 107, 571, 283, 284, 285, 36, 638, 639, 640, 641, 642, 643, 644, 654, 655, 656, 657, 658, 659, 660, 661, 662, 663, 664, 668, 669, 670, 671, 672, 673, 674, 675, 676, 677, 678] (by decide +kernel) (by decide +kernel)
set_option maxRecDepth 20000 in
theorem gL_law_X4_sendCost : GoodIn wsL_law (wsV RL 97 RX4 yX4_sendCost wsX4_sendCost) := goodIn_app (goodIn_of _ (by decide +kernel)) ggL_law_X4_sendCost
set_option maxRecDepth 20000 in
theorem ggL_law_X5_sendCost : GoodIn wsL_law wsX5_sendCost := goodIn_r _ [575, 129, 193, 194, 195, 5, 196, 66, 131, 132, 133, 410, 411, 412, 413, 398, 399, 400, 401, 201, 202, 203, 204, 394, 395, 396, 397, 414, 415, 416, 417, 363, 364, 365, 366, 645, 646, 647, 648, 649, 650, 651, 652, 653] (by decide +kernel) (by decide +kernel)
set_option maxRecDepth 20000 in
theorem gL_law_X5_sendCost : GoodIn wsL_law (wsV RL 100 RX5 yX5_sendCost wsX5_sendCost) := goodIn_app (goodIn_of _ (by decide +kernel)) ggL_law_X5_sendCost
set_option maxRecDepth 20000 in
theorem ggL_law_X4_forecastDeath : GoodIn wsL_law wsX4_forecastDeath := goodIn_r _ [579, 15, 79, 181, 20, 21, 505, 184, 185, 186, 14, 187, 96, 80, 81, 2, 82, 580, 93, 94, 95, 34, 36, 43, 44, 45, 46, 37, 38, 39, 97, 98, 99, 100, 101, 102, 103, 104, 41, 105, 106, 107, 108, 109, 110, 111, 112, 113, 114, 214, 215, 216, 18, 217, 54, 218, 210, 211, 212, 213, 219, 220, 221, 222, 223, 224, 225, 226, 227, 228, 229, 230, 231, 232, 233, 234, 235, 236, 237, 238, 120, 121, 122, 123, 124, 239, 240, 241, 242, 243, 244, 245, 246, 247, 248, 249, 250, 251, 252, 253, 254, 255, 256, 257, 258, 259, 260, 261, 262, 263, 264, 265, 266, 267, 268, 269, 270, 271, 272, 273, 274, 275, 276, 277, 278, 279, 280, 281, 282, 283, 284, 285, 286, 287, 288, 289, 290, 291, 292, 293, 294, 295, 296, 297, 298, 299, 300, 301, 302, 303, 304, 305, 306, 307, 308, 309, 310, 311, 312, 313, 314, 315, 316, 317, 318, 319, 320, 321, 322, 323, 324, 325, 326, 327, 328, 329, 330, 331, 332, 333, 334, 335, 336, 337, 338, 339, 340, 341, 342, 638, 639, 640, 641, 642, 643, 644, 654, 655, 656, 657, 658, 659, 660, 661, 662, 663, 664, 668, 669, 670, 671, 672, 673, 674, 675, 676, 677, 678, 665] (by decide +kernel) (by decide +kernel)
set_option maxRecDepth 20000 in
theorem gL_law_X4_forecastDeath : GoodIn wsL_law (wsV RL 101 RX4 yX4_forecastDeath wsX4_forecastDeath) := goodIn_app (goodIn_of _ (by decide +kernel)) ggL_law_X4_forecastDeath
set_option maxRecDepth 20000 in
theorem ggL_law_X5_forecastDeath : GoodIn wsL_law wsX5_forecastDeath := goodIn_r _ [584, 129, 193, 194, 195, 5, 196, 66, 131, 132, 133, 197, 198, 199, 200, 201, 202, 203, 204, 585, 586, 587, 588, 67, 351, 352, 353, 354, 347, 348, 349, 350, 355, 356, 357, 358, 359, 360, 361, 362, 72, 71, 363, 364, 365, 366, 139, 140, 141, 142, 367, 368, 369, 370, 371, 372, 373, 374, 375, 376, 377, 378, 379, 380, 381, 382, 383, 384, 385, 386, 387, 388, 389, 390, 391, 392, 393, 394, 395, 396, 397, 398, 399, 400, 401, 402, 403, 404, 405, 406, 407, 408, 409, 410, 411, 412, 413, 414, 415, 416, 417, 418, 419, 420, 421, 422, 423, 424, 425, 426, 427, 428, 429, 430, 431, 432, 433, 434, 435, 436, 437, 589, 590, 591, 592, 645, 646, 647, 648, 649, 650, 651, 652, 653] (by decide +kernel) (by decide +kernel)
set_option maxRecDepth 20000 in
theorem gL_law_X5_forecastDeath : GoodIn wsL_law (wsV RL 104 RX5 yX5_forecastDeath wsX5_forecastDeath) := goodIn_app (goodIn_of _ (by decide +kernel)) ggL_law_X5_forecastDeath
set_option maxRecDepth 20000 in
theorem ggL_law_X4_forecastDelivered : GoodIn wsL_law wsX4_forecastDelivered := goodIn_r _ [596, 20, 15, 21, 550, 80, 81, 2, 82, 580, 93, 94, 14, 95, 96, 34, 36, 43, 44, 45, 46, 37, 38, 39, 97, 98, 99, 100, 101, 102, 103, 104, 41, 105, 106, 107, 108, 109, 110, 111, 112, 113, 114, 214, 215, 216, 18, 217, 54, 218, 210, 211, 212, 213, 219, 220, 221, 222, 223, 224, 225, 226, 227, 228, 229, 230, 231, 232, 233, 234, 235, 236, 237, 238, 120, 121, 122, 123, 124, 239, 240, 241, 242, 243, 244, 245, 246, 247, 248, 249, 250, 251, 252, 253, 254, 255, 256, 257, 258, 259, 260, 261, 262, 263, 264, 265, 266, 267, 268, 269, 270, 271, 272, 273, 274, 275, 276, 277, 278, 279, 280, 281, 282, 283, 284, 285, 286, 287, 288, 289, 290, 291, 292, 293, 294, 295, 296, 297, 298, 299, 300, 301, 302, 303, 304, 305, 306, 307, 308, 309, 310, 311, 312, 313, 314, 315, 316, 317, 318, 319, 320, 321, 322, 323, 324, 325, 326, 327, 328, 329, 330, 331, 332, 333, 334, 335, 336, 337, 338, 185, 186, 187, 339, 340, 341, 342, 638, 639, 640, 641, 642, 643, 644, 654, 655, 656, 657, 658, 659, 660, 661, 662, 663, 664, 668, 669, 670, 671, 672, 673, 674, 675, 676, 677, 678, 665] (by decide +kernel) (by decide +kernel)
set_option maxRecDepth 20000 in
theorem gL_law_X4_forecastDelivered : GoodIn wsL_law (wsV RL 105 RX4 yX4_forecastDelivered wsX4_forecastDelivered) := goodIn_app (goodIn_of _ (by decide +kernel)) ggL_law_X4_forecastDelivered
set_option maxRecDepth 20000 in
theorem ggL_law_X5_forecastDelivered : GoodIn wsL_law wsX5_forecastDelivered := goodIn_r _ [600, 129, 66, 67, 131, 132, 5, 133, 585, 586, 587, 588, 351, 352, 353, 354, 347, 348, 349, 350, 201, 202, 203, 204, 355, 356, 357, 358, 359, 360, 361, 362, 72, 71, 363, 364, 365, 366, 139, 140, 141, 142, 197, 198, 199, 200, 367, 368, 369, 370, 371, 372, 373, 374, 375, 376, 377, 378, 379, 380, 381, 382, 383, 384, 385, 386, 387, 388, 389, 390, 391, 392, 393, 394, 395, 396, 397, 398, 399, 400, 401, 402, 403, 404, 405, 406, 407, 408, 409, 410, 411, 412, 413, 414, 415, 416, 417, 418, 419, 420, 421, 422, 423, 424, 425, 426, 427, 428, 429, 430, 431, 432, 433, 434, 435, 436, 437, 589, 590, 591, 592, 645, 646, 647, 648, 649, 650, 651, 652, 653] (by decide +kernel) (by decide +kernel)
set_option maxRecDepth 20000 in
theorem gL_law_X5_forecastDelivered : GoodIn wsL_law (wsV RL 108 RX5 yX5_forecastDelivered wsX5_forecastDelivered) := goodIn_app (goodIn_of _ (by decide +kernel)) ggL_law_X5_forecastDelivered
set_option maxRecDepth 20000 in
theorem ggL_law_X4_undo : GoodIn wsL_law wsX4_undo := goodIn_r _ [604, 25, 605, 15, 606, 607, 608, 24, 609, 87, 60, 92, 93, 94, 14, 95, 96, 34, 36, 43, 44, 45, 46, 37, 38, 39, 97, 98, 99, 100, 101, 102, 103, 104, 41, 105, 106, 107, 108, 109, 110, 111, 112, 113, 114, 638, 639, 640, 641, 642, 643, 644, 666, 667, 654, 655, 656, 657, 658, 659, 660, 661, 662, 663, 664, 668, 669, 670, 671, 672, 673, 674, 675, 676, 677, 678] (by decide +kernel) (by decide +kernel)
set_option maxRecDepth 20000 in
theorem gL_law_X4_undo : GoodIn wsL_law (wsV RL 109 RX4 yX4_undo wsX4_undo) := goodIn_app (goodIn_of _ (by decide +kernel)) ggL_law_X4_undo
set_option maxRecDepth 20000 in
theorem ggL_law_X5_undo : GoodIn wsL_law wsX5_undo := goodIn_r _ [613, 129, 138, 66, 68, 645, 646, 647, 648, 649, 650, 651, 652, 653] (by decide +kernel) (by decide +kernel)
set_option maxRecDepth 20000 in
theorem gL_law_X5_undo : GoodIn wsL_law (wsV RL 112 RX5 yX5_undo wsX5_undo) := goodIn_app (goodIn_of _ (by decide +kernel)) ggL_law_X5_undo
set_option maxRecDepth 20000 in
theorem ggL_law_X4_undoDepth : GoodIn wsL_law wsX4_undoDepth := goodIn_r _ [617, 25, 605, 638, 639, 640, 641, 642, 643, 644, 666, 667] (by decide +kernel) (by decide +kernel)
set_option maxRecDepth 20000 in
theorem gL_law_X4_undoDepth : GoodIn wsL_law (wsV RL 113 RX4 yX4_undoDepth wsX4_undoDepth) := goodIn_app (goodIn_of _ (by decide +kernel)) ggL_law_X4_undoDepth
set_option maxRecDepth 20000 in
theorem ggL_law_X5_undoDepth : GoodIn wsL_law wsX5_undoDepth := goodIn_r _ [621, 129, 138, 645, 646, 647, 648, 649, 650, 651, 652, 653] (by decide +kernel) (by decide +kernel)
set_option maxRecDepth 20000 in
theorem gL_law_X5_undoDepth : GoodIn wsL_law (wsV RL 116 RX5 yX5_undoDepth wsX5_undoDepth) := goodIn_app (goodIn_of _ (by decide +kernel)) ggL_law_X5_undoDepth
set_option maxRecDepth 20000 in
theorem ggL_law_X4_save : GoodIn wsL_law wsX4_save := goodIn_r _ [625, 26, 15, 28, 78, 80, 81, 2, 82, 580, 93, 94, 14, 95, 96, 34, 36, 43, 44, 45, 46, 37, 38, 39, 97, 98, 99, 100, 101, 102, 103, 104, 41, 105, 106, 107, 108, 109, 110, 111, 112, 113, 114, 638, 639, 640, 641, 642, 643, 644, 654, 655, 656, 657, 658, 659, 660, 661, 662, 663, 664, 668, 669, 670, 671, 672, 673, 674, 675, 676, 677, 678] (by decide +kernel) (by decide +kernel)
set_option maxRecDepth 20000 in
theorem gL_law_X4_save : GoodIn wsL_law (wsV RL 117 RX4 yX4_save wsX4_save) := goodIn_app (goodIn_of _ (by decide +kernel)) ggL_law_X4_save
set_option maxRecDepth 20000 in
theorem ggL_law_X5_save : GoodIn wsL_law wsX5_save := goodIn_r _ [629, 129, 69, 66, 70, 131, 132, 5, 133, 645, 646, 647, 648, 649, 650, 651, 652, 653] (by decide +kernel) (by decide +kernel)
set_option maxRecDepth 20000 in
theorem gL_law_X5_save : GoodIn wsL_law (wsV RL 120 RX5 yX5_save wsX5_save) := goodIn_app (goodIn_of _ (by decide +kernel)) ggL_law_X5_save
set_option maxRecDepth 20000 in
theorem ggL_law_X4_restore : GoodIn wsL_law wsX4_restore := goodIn_r _ [633, 28, 15, 26, 25, 605, 78, 80, 81, 2, 82, 580, 93, 94, 14, 95, 96, 34, 36, 43, 44, 45, 46, 37, 38, 39, 97, 98, 99, 100, 101, 102, 103, 104, 41, 105, 106, 107, 108, 109, 110, 111, 112, 113, 114, 638, 639, 640, 641, 642, 643, 644, 666, 667, 654, 655, 656, 657, 658, 659, 660, 661, 662, 663, 664, 668, 669, 670, 671, 672, 673, 674, 675, 676, 677, 678] (by decide +kernel) (by decide +kernel)
set_option maxRecDepth 20000 in
theorem gL_law_X4_restore : GoodIn wsL_law (wsV RL 121 RX4 yX4_restore wsX4_restore) := goodIn_app (goodIn_of _ (by decide +kernel)) ggL_law_X4_restore
set_option maxRecDepth 20000 in
theorem ggL_law_X5_restore : GoodIn wsL_law wsX5_restore := goodIn_r _ [637, 129, 70, 66, 69, 138, 131, 132, 5, 133, 645, 646, 647, 648, 649, 650, 651, 652, 653] (by decide +kernel) (by decide +kernel)
set_option maxRecDepth 20000 in
theorem gL_law_X5_restore : GoodIn wsL_law (wsV RL 124 RX5 yX5_restore wsX5_restore) := goodIn_app (goodIn_of _ (by decide +kernel)) ggL_law_X5_restore
