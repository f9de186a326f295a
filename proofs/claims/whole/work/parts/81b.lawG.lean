/-! rows printed by the kit's command -/
set_option maxRecDepth 20000 in
theorem ggL_law_X4_init : GoodIn wsL_law wsX4_init := goodIn_r _ [8, 9, 10, 11, 12, 13, 14, 15, 16, 17, 18, 19, 20, 21, 22, 23, 24, 25, 26, 27, 28, 29, 30, 31, 32, 33, 34, 35, 36, 37, 38, 39, 40, 41, 42, 43, 44, 45, 46, 47, 48, 49, 50, 51, 52, 53, 54, 55, 56, 57, 58, 59, 60, 61, 654, 655, 656, 657, 658, 659, 660, 661, 662, 663, 664, 638, 639, 640, 641, 642, 643, 644, 665, 666, 667, 668, 669, 670, 671, 672, 673, 674, 675, 676, 677, 678] (by decide +kernel) (by decide +kernel)
set_option maxRecDepth 20000 in
theorem gL_law_X4_init : GoodIn wsL_law (wsX4_init) := ggL_law_X4_init
set_option maxRecDepth 20000 in
theorem ggL_law_X5_init : GoodIn wsL_law wsX5_init := goodIn_r _ [64, 65, 10, 11, 35, 66, 67, 68, 69, 27, 70, 71, 72, 645, 646, 647, 648, 649, 650, 651, 652, 653] (by decide +kernel) (by decide +kernel)
set_option maxRecDepth 20000 in
theorem gL_law_X5_init : GoodIn wsL_law (wsX5_init) := ggL_law_X5_init
set_option maxRecDepth 20000 in
theorem ggL_law_X4_addSensor : GoodIn wsL_law wsX4_addSensor := goodIn_r _ [76, 77, 15, 78, 25, 79, 80, 81, 2, 82, 83, 84, 85, 24, 86, 87, 60, 88, 89, 90, 91, 92, 93, 94, 14, 95, 96, 34, 36, 43, 44, 45, 46, 37, 38, 39, 97, 98, 99, 100, 101, 102, 103, 104, 41, 105, 106, 107, 108, 109, 110, 111, 112, 113, 114, 115, 116, 117, 118, 119, 120, 121, 122, 123, 124, 638, 639, 640, 641, 642, 643, 644, 654, 655, 656, 657, 658, 659, 660, 661, 662, 663, 664, 666, 667, 668, 669, 670, 671, 672, 673, 674, 675, 676, 677, 678] (by decide +kernel) (by decide +kernel)
set_option maxRecDepth 20000 in
theorem gL_law_X4_addSensor : GoodIn wsL_law (wsV RL 13 RX4 yX4_addSensor wsX4_addSensor) := goodIn_app (goodIn_of _ (by decide +kernel)) ggL_law_X4_addSensor
set_option maxRecDepth 20000 in
theorem ggL_law_X5_addSensor : GoodIn wsL_law wsX5_addSensor := goodIn_r _ [128, 129, 130, 66, 131, 132, 5, 133, 134, 135, 136, 137, 138, 68, 139, 140, 141, 142, 645, 646, 647, 648, 649, 650, 651, 652, 653] (by decide +kernel) (by decide +kernel)
set_option maxRecDepth 20000 in
theorem gL_law_X5_addSensor : GoodIn wsL_law (wsV RL 17 RX5 yX5_addSensor wsX5_addSensor) := goodIn_app (goodIn_of _ (by decide +kernel)) ggL_law_X5_addSensor
set_option maxRecDepth 20000 in
theorem ggL_law_X4_moveBase : GoodIn wsL_law wsX4_moveBase := goodIn_r _ [146, 25, 15, 147, 148, 80, 81, 2, 82, 83, 84, 85, 24, 86, 87, 60, 88, 89, 90, 91, 92, 93, 94, 14, 95, 96, 34, 36, 43, 44, 45, 46, 37, 38, 39, 97, 98, 99, 100, 101, 102, 103, 104, 41, 105, 106, 107, 108, 109, 110, 111, 112, 113, 114, 638, 639, 640, 641, 642, 643, 644, 654, 655, 656, 657, 658, 659, 660, 661, 662, 663, 664, 666, 667, 668, 669, 670, 671, 672, 673, 674, 675, 676, 677, 678] (by decide +kernel) (by decide +kernel)
set_option maxRecDepth 20000 in
theorem gL_law_X4_moveBase : GoodIn wsL_law (wsV RL 18 RX4 yX4_moveBase wsX4_moveBase) := goodIn_app (goodIn_of _ (by decide +kernel)) ggL_law_X4_moveBase
set_option maxRecDepth 20000 in
theorem ggL_law_X5_moveBase : GoodIn wsL_law wsX5_moveBase := goodIn_r _ [152, 129, 66, 131, 132, 5, 133, 134, 135, 136, 137, 138, 68, 645, 646, 647, 648, 649, 650, 651, 652, 653] (by decide +kernel) (by decide +kernel)
set_option maxRecDepth 20000 in
theorem gL_law_X5_moveBase : GoodIn wsL_law (wsV RL 22 RX5 yX5_moveBase wsX5_moveBase) := goodIn_app (goodIn_of _ (by decide +kernel)) ggL_law_X5_moveBase
set_option maxRecDepth 20000 in
theorem ggL_law_X4_setSetting : GoodIn wsL_law wsX4_setSetting := goodIn_r _ [156, 157, 158, 15, 159, 25, 80, 81, 2, 82, 83, 84, 85, 24, 86, 87, 60, 88, 89, 90, 91, 92, 93, 94, 14, 95, 96, 34, 36, 43, 44, 45, 46, 37, 38, 39, 97, 98, 99, 100, 101, 102, 103, 104, 41, 105, 106, 107, 108, 109, 110, 111, 112, 113, 114, 638, 639, 640, 641, 642, 643, 644, 654, 655, 656, 657, 658, 659, 660, 661, 662, 663, 664, 666, 667, 668, 669, 670, 671, 672, 673, 674, 675, 676, 677, 678] (by decide +kernel) (by decide +kernel)
set_option maxRecDepth 20000 in
theorem gL_law_X4_setSetting : GoodIn wsL_law (wsV RL 23 RX4 yX4_setSetting wsX4_setSetting) := goodIn_app (goodIn_of _ (by decide +kernel)) ggL_law_X4_setSetting
set_option maxRecDepth 20000 in
theorem ggL_law_X5_setSetting : GoodIn wsL_law wsX5_setSetting := goodIn_r _ [163, 129, 66, 164, 165, 5, 166, 131, 132, 133, 134, 135, 136, 137, 138, 68, 645, 646, 647, 648, 649, 650, 651, 652, 653] (by decide +kernel) (by decide +kernel)
set_option maxRecDepth 20000 in
theorem gL_law_X5_setSetting : GoodIn wsL_law (wsV RL 26 RX5 yX5_setSetting wsX5_setSetting) := goodIn_app (goodIn_of _ (by decide +kernel)) ggL_law_X5_setSetting
set_option maxRecDepth 20000 in
theorem ggL_law_X4_setGenerator : GoodIn wsL_law wsX4_setGenerator := goodIn_r _ [170, 25, 15, 171, 172, 83, 84, 85, 24, 86, 87, 60, 88, 89, 90, 91, 92, 93, 94, 14, 95, 96, 34, 36, 43, 44, 45, 46, 37, 38, 39, 97, 98, 99, 100, 101, 102, 103, 104, 41, 105, 106, 107, 108, 109, 110, 111, 112, 113, 114, 638, 639, 640, 641, 642, 643, 644, 654, 655, 656, 657, 658, 659, 660, 661, 662, 663, 664, 666, 667, 668, 669, 670, 671, 672, 673, 674, 675, 676, 677, 678] (by decide +kernel) (by decide +kernel)
set_option maxRecDepth 20000 in
theorem gL_law_X4_setGenerator : GoodIn wsL_law (wsV RL 27 RX4 yX4_setGenerator wsX4_setGenerator) := goodIn_app (goodIn_of _ (by decide +kernel)) ggL_law_X4_setGenerator
set_option maxRecDepth 20000 in
theorem ggL_law_X5_setGenerator : GoodIn wsL_law wsX5_setGenerator := goodIn_r _ [176, 129, 66, 134, 135, 136, 5, 137, 138, 68, 645, 646, 647, 648, 649, 650, 651, 652, 653] (by decide +kernel) (by decide +kernel)
set_option maxRecDepth 20000 in
theorem gL_law_X5_setGenerator : GoodIn wsL_law (wsV RL 31 RX5 yX5_setGenerator wsX5_setGenerator) := goodIn_app (goodIn_of _ (by decide +kernel)) ggL_law_X5_setGenerator
set_option maxRecDepth 20000 in
theorem ggL_law_X4_charge : GoodIn wsL_law wsX4_charge := goodIn_r _ [180, 15, 77, 79, 181, 182, 183, 25, 184, 185, 186, 14, 187, 96, 80, 81, 2, 82, 83, 84, 85, 24, 86, 87, 60, 88, 89, 90, 91, 92, 93, 94, 95, 34, 36, 43, 44, 45, 46, 37, 38, 39, 97, 98, 99, 100, 101, 102, 103, 104, 41, 105, 106, 107, 108, 109, 110, 111, 112, 113, 114, 638, 639, 640, 641, 642, 643, 644, 654, 655, 656, 657, 658, 659, 660, 661, 662, 663, 664, 668, 669, 670, 671, 672, 673, 674, 675, 676, 677, 678, 666, 667] (by decide +kernel) (by decide +kernel)
set_option maxRecDepth 20000 in
theorem gL_law_X4_charge : GoodIn wsL_law (wsV RL 32 RX4 yX4_charge wsX4_charge) := goodIn_app (goodIn_of _ (by decide +kernel)) ggL_law_X4_charge
set_option maxRecDepth 20000 in
theorem ggL_law_X5_charge : GoodIn wsL_law wsX5_charge := goodIn_r _ [191, 129, 130, 192, 193, 194, 195, 5, 196, 66, 131, 132, 133, 197, 198, 199, 200, 201, 202, 203, 204, 134, 135, 136, 137, 138, 68, 139, 140, 141, 142, 645, 646, 647, 648, 649, 650, 651, 652, 653] (by decide +kernel) (by decide +kernel)
set_option maxRecDepth 20000 in
theorem gL_law_X5_charge : GoodIn wsL_law (wsV RL 35 RX5 yX5_charge wsX5_charge) := goodIn_app (goodIn_of _ (by decide +kernel)) ggL_law_X5_charge
set_option maxRecDepth 20000 in
theorem ggL_law_X4_run : GoodIn wsL_law wsX4_run := goodIn_r _ [208, 15, 25, 19, 80, 81, 2, 82, 209, 210, 211, 14, 212, 96, 34, 213, 83, 84, 85, 24, 86, 87, 60, 88, 89, 90, 91, 92, 93, 94, 95, 36, 43, 44, 45, 46, 37, 38, 39, 97, 98, 99, 100, 101, 102, 103, 104, 41, 105, 106, 107, 108, 109, 110, 111, 112, 113, 114, 214, 215, 216, 18, 217, 54, 218, 219, 220, 221, 222, 223, 224, 225, 226, 227, 228, 229, 230, 231, 232, 233, 234, 235, 236, 237, 238, 120, 121, 122, 123, 124, 239, 240, 241, 242, 243, 244, 245, 246, 247, 248, 249, 250, 251, 252, 253, 254, 255, 256, 257, 258, 259, 260, 261, 262, 263, 264, 265, 266, 267, 268, 269, 270, 271, 272, 273, 274, 275, 276, 277, 278, 279, 280, 281, 282, 283, 284, 285, 286, 287, 288, 289, 290, 291, 292, 293, 294, 295, 296, 297, 298, 299, 300, 301, 302, 303, 304, 305, 306, 307, 308, 309, 310, 311, 312, 313, 314, 315, 316, 317, 318, 319, 320, 321, 322, 323, 324, 325, 326, 327, 328, 329, 330, 331, 332, 333, 334, 335, 336, 337, 338, 185, 186, 187, 339, 340, 341, 342, 638, 639, 640, 641, 642, 643, 644, 654, 655, 656, 657, 658, 659, 660, 661, 662, 663, 664, 668, 669, 670, 671, 672, 673, 674, 675, 676, 677, 678, 666, 667, 665] (by decide +kernel) (by decide +kernel)
set_option maxRecDepth 20000 in
theorem gL_law_X4_run : GoodIn wsL_law (wsV RL 36 RX4 yX4_run wsX4_run) := goodIn_app (goodIn_of _ (by decide +kernel)) ggL_law_X4_run
set_option maxRecDepth 20000 in
theorem ggL_law_X5_run : GoodIn wsL_law wsX5_run := goodIn_r _ [346, 129, 131, 132, 5, 133, 347, 348, 349, 350, 66, 201, 202, 203, 204, 134, 135, 136, 137, 138, 68, 351, 352, 353, 354, 355, 356, 357, 358, 359, 360, 361, 362, 72, 71, 363, 364, 365, 366, 139, 140, 141, 142, 197, 198, 199, 200, 367, 368, 369, 370, 371, 372, 373, 374, 375, 376, 377, 378, 379, 380, 381, 382, 383, 384, 385, 386, 387, 388, 389, 390, 391, 392, 393, 394, 395, 396, 397, 398, 399, 400, 401, 402, 403, 404, 405, 406, 407, 408, 409, 410, 411, 412, 413, 414, 415, 416, 417, 418, 419, 420, 421, 422, 423, 424, 425, 426, 427, 428, 429, 430, 431, 432, 433, 434, 435, 436, 437, 645, 646, 647, 648, 649, 650, 651, 652, 653] (by decide +kernel) (by decide +kernel)
set_option maxRecDepth 20000 in
theorem gL_law_X5_run : GoodIn wsL_law (wsV RL 39 RX5 yX5_run wsX5_run) := goodIn_app (goodIn_of _ (by decide +kernel)) ggL_law_X5_run
set_option maxRecDepth 20000 in
theorem ggL_law_X4_roundNumber : GoodIn wsL_law wsX4_roundNumber := goodIn_r _ [441, 15, 172, 638, 639, 640, 641, 642, 643, 644, 654, 655, 656, 657, 658, 659, 660, 661, 662, 663, 664] (by decide +kernel) (by decide +kernel)
set_option maxRecDepth 20000 in
theorem gL_law_X4_roundNumber : GoodIn wsL_law (wsV RL 40 RX4 yX4_roundNumber wsX4_roundNumber) := goodIn_app (goodIn_of _ (by decide +kernel)) ggL_law_X4_roundNumber
set_option maxRecDepth 20000 in
theorem ggL_law_X5_roundNumber : GoodIn wsL_law wsX5_roundNumber := goodIn_r _ [445, 129, 66, 645, 646, 647, 648, 649, 650, 651, 652, 653] (by decide +kernel) (by decide +kernel)
set_option maxRecDepth 20000 in
theorem gL_law_X5_roundNumber : GoodIn wsL_law (wsV RL 44 RX5 yX5_roundNumber wsX5_roundNumber) := goodIn_app (goodIn_of _ (by decide +kernel)) ggL_law_X5_roundNumber
set_option maxRecDepth 20000 in
theorem ggL_law_X4_sensorCount : GoodIn wsL_law wsX4_sensorCount := goodIn_r _ [449, 15, 78, 638, 639, 640, 641, 642, 643, 644, 654, 655, 656, 657, 658, 659, 660, 661, 662, 663, 664] (by decide +kernel) (by decide +kernel)
set_option maxRecDepth 20000 in
theorem gL_law_X4_sensorCount : GoodIn wsL_law (wsV RL 45 RX4 yX4_sensorCount wsX4_sensorCount) := goodIn_app (goodIn_of _ (by decide +kernel)) ggL_law_X4_sensorCount
set_option maxRecDepth 20000 in
theorem ggL_law_X5_sensorCount : GoodIn wsL_law wsX5_sensorCount := goodIn_r _ [453, 129, 66, 645, 646, 647, 648, 649, 650, 651, 652, 653] (by decide +kernel) (by decide +kernel)
set_option maxRecDepth 20000 in
theorem gL_law_X5_sensorCount : GoodIn wsL_law (wsV RL 48 RX5 yX5_sensorCount wsX5_sensorCount) := goodIn_app (goodIn_of _ (by decide +kernel)) ggL_law_X5_sensorCount
set_option maxRecDepth 20000 in
theorem ggL_law_X4_aliveCount : GoodIn wsL_law wsX4_aliveCount := goodIn_r _ [457, 15, 209, 210, 211, 14, 212, 96, 34, 213, 638, 639, 640, 641, 642, 643, 644, 654, 655, 656, 657, 658, 659, 660, 661, 662, 663, 664, 668, 669, 670, 671, 672, 673, 674, 675, 676, 677, 678] (by decide +kernel) (by decide +kernel)
set_option maxRecDepth 20000 in
theorem gL_law_X4_aliveCount : GoodIn wsL_law (wsV RL 49 RX4 yX4_aliveCount wsX4_aliveCount) := goodIn_app (goodIn_of _ (by decide +kernel)) ggL_law_X4_aliveCount
set_option maxRecDepth 20000 in
theorem ggL_law_X5_aliveCount : GoodIn wsL_law wsX5_aliveCount := goodIn_r _ [461, 129, 347, 348, 349, 5, 350, 66, 201, 202, 203, 204, 645, 646, 647, 648, 649, 650, 651, 652, 653] (by decide +kernel) (by decide +kernel)
set_option maxRecDepth 20000 in
theorem gL_law_X5_aliveCount : GoodIn wsL_law (wsV RL 52 RX5 yX5_aliveCount wsX5_aliveCount) := goodIn_app (goodIn_of _ (by decide +kernel)) ggL_law_X5_aliveCount
set_option maxRecDepth 20000 in
theorem ggL_law_X4_isAlive : GoodIn wsL_law wsX4_isAlive := goodIn_r _ [465, 15, 79, 181, 184, 185, 186, 14, 187, 96, 638, 639, 640, 641, 642, 643, 644, 654, 655, 656, 657, 658, 659, 660, 661, 662, 663, 664, 668, 669, 670, 671, 672, 673, 674, 675, 676, 677, 678] (by decide +kernel) (by decide +kernel)
set_option maxRecDepth 20000 in
theorem gL_law_X4_isAlive : GoodIn wsL_law (wsV RL 53 RX4 yX4_isAlive wsX4_isAlive) := goodIn_app (goodIn_of _ (by decide +kernel)) ggL_law_X4_isAlive
set_option maxRecDepth 20000 in
theorem ggL_law_X5_isAlive : GoodIn wsL_law wsX5_isAlive := goodIn_r _ [469, 129, 470, 471, 472, 5, 473, 193, 194, 195, 196, 66, 131, 132, 133, 201, 202, 203, 204, 645, 646, 647, 648, 649, 650, 651, 652, 653] (by decide +kernel) (by decide +kernel)
set_option maxRecDepth 20000 in
theorem gL_law_X5_isAlive : GoodIn wsL_law (wsV RL 56 RX5 yX5_isAlive wsX5_isAlive) := goodIn_app (goodIn_of _ (by decide +kernel)) ggL_law_X5_isAlive
set_option maxRecDepth 20000 in
theorem ggL_law_X4_battery : GoodIn wsL_law wsX4_battery := goodIn_r _ [477, 15, 79, 182, 184, 185, 186, 14, 187, 96, 638, 639, 640, 641, 642, 643, 644, 654, 655, 656, 657, 658, 659, 660, 661, 662, 663, 664, 668, 669, 670, 671, 672, 673, 674, 675, 676, 677, 678] (by decide +kernel) (by decide +kernel)
set_option maxRecDepth 20000 in
theorem gL_law_X4_battery : GoodIn wsL_law (wsV RL 57 RX4 yX4_battery wsX4_battery) := goodIn_app (goodIn_of _ (by decide +kernel)) ggL_law_X4_battery
set_option maxRecDepth 20000 in
theorem ggL_law_X5_battery : GoodIn wsL_law wsX5_battery := goodIn_r _ [481, 129, 470, 471, 472, 5, 473, 193, 194, 195, 196, 66, 131, 132, 133, 201, 202, 203, 204, 645, 646, 647, 648, 649, 650, 651, 652, 653] (by decide +kernel) (by decide +kernel)
set_option maxRecDepth 20000 in
theorem gL_law_X5_battery : GoodIn wsL_law (wsV RL 60 RX5 yX5_battery wsX5_battery) := goodIn_app (goodIn_of _ (by decide +kernel)) ggL_law_X5_battery
set_option maxRecDepth 20000 in
theorem ggL_law_X4_isEligible : GoodIn wsL_law wsX4_isEligible := goodIn_r _ [485, 15, 79, 181, 486, 184, 185, 186, 14, 187, 96, 487, 235, 236, 237, 36, 97, 638, 639, 640, 641, 642, 643, 644, 654, 655, 656, 657, 658, 659, 660, 661, 662, 663, 664, 668, 669, 670, 671, 672, 673, 674, 675, 676, 677, 678] (by decide +kernel) (by decide +kernel)
set_option maxRecDepth 20000 in
theorem gL_law_X4_isEligible : GoodIn wsL_law (wsV RL 61 RX4 yX4_isEligible wsX4_isEligible) := goodIn_app (goodIn_of _ (by decide +kernel)) ggL_law_X4_isEligible
set_option maxRecDepth 20000 in
theorem ggL_law_X5_isEligible : GoodIn wsL_law wsX5_isEligible := goodIn_r _ [491, 129, 66, 193, 194, 195, 5, 196, 131, 132, 133, 197, 198, 199, 200, 201, 202, 203, 204, 363, 364, 365, 366, 645, 646, 647, 648, 649, 650, 651, 652, 653] (by decide +kernel) (by decide +kernel)
set_option maxRecDepth 20000 in
theorem gL_law_X5_isEligible : GoodIn wsL_law (wsV RL 64 RX5 yX5_isEligible wsX5_isEligible) := goodIn_app (goodIn_of _ (by decide +kernel)) ggL_law_X5_isEligible
set_option maxRecDepth 20000 in
theorem ggL_law_X4_headRounds : GoodIn wsL_law wsX4_headRounds := goodIn_r _ [495, 15, 79, 496, 184, 185, 186, 14, 187, 96, 638, 639, 640, 641, 642, 643, 644, 654, 655, 656, 657, 658, 659, 660, 661, 662, 663, 664, 668, 669, 670, 671, 672, 673, 674, 675, 676, 677, 678] (by decide +kernel) (by decide +kernel)
set_option maxRecDepth 20000 in
theorem gL_law_X4_headRounds : GoodIn wsL_law (wsV RL 65 RX4 yX4_headRounds wsX4_headRounds) := goodIn_app (goodIn_of _ (by decide +kernel)) ggL_law_X4_headRounds
set_option maxRecDepth 20000 in
theorem ggL_law_X5_headRounds : GoodIn wsL_law wsX5_headRounds := goodIn_r _ [500, 129, 470, 471, 472, 5, 473, 193, 194, 195, 196, 66, 131, 132, 133, 201, 202, 203, 204, 645, 646, 647, 648, 649, 650, 651, 652, 653] (by decide +kernel) (by decide +kernel)
set_option maxRecDepth 20000 in
theorem gL_law_X5_headRounds : GoodIn wsL_law (wsV RL 68 RX5 yX5_headRounds wsX5_headRounds) := goodIn_app (goodIn_of _ (by decide +kernel)) ggL_law_X5_headRounds
