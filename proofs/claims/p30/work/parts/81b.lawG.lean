set_option maxRecDepth 20000 in
theorem ggL_law_X4_init : GoodIn wsL_law wsX4_init := goodIn_r _ [7, 8, 9, 10, 11, 12, 13, 14, 15, 16, 17, 18, 19, 20, 21, 22, 23, 24, 25, 26, 27, 28, 29, 30, 31, 32, 33, 3, 34, 35, 36, 37, 38, 39, 40, 41, 42, 43, 44, 45, 46, 47, 48, 49, 50, 51, 52, 53, 54, 55, 56, 57, 58, 59, 366, 367, 368, 369, 370, 371, 372, 373, 374, 375, 376, 359, 360, 361, 362, 363, 364, 365, 377, 378, 379, 380, 381, 382, 383, 384, 385, 386, 387, 388, 389, 390] (by decide +kernel) (by decide +kernel)
set_option maxRecDepth 20000 in
theorem gL_law_X4_init : GoodIn wsL_law (wsX4_init) := ggL_law_X4_init
set_option maxRecDepth 20000 in
theorem ggL_law_L_sensors : GoodIn wsL_law wsL_sensors := goodIn_r _ [63, 64, 65, 62, 66, 67, 68, 69, 4, 70, 71, 72, 2, 73, 74, 14, 75, 24, 76, 77, 78, 79, 80, 81, 82, 23, 83, 84, 58, 85, 86, 87, 88, 89, 90, 91, 13, 92, 93, 33, 34, 41, 42, 43, 44, 35, 36, 37, 94, 95, 96, 97, 98, 99, 100, 101, 39, 102, 103, 104, 105, 106, 107, 108, 109, 110, 111, 112, 113, 114, 115, 116, 117, 118, 119, 120, 121, 359, 360, 361, 362, 363, 364, 365, 366, 367, 368, 369, 370, 371, 372, 373, 374, 375, 376, 378, 379, 380, 381, 382, 383, 384, 385, 386, 387, 388, 389, 390] (by decide +kernel) (by decide +kernel)
set_option maxRecDepth 20000 in
theorem gL_law_L_sensors : GoodIn wsL_law (va_wsS RL 55 yL_sensors wsL_sensors) := goodIn_app (goodIn_of _ (by decide +kernel)) ggL_law_L_sensors
set_option maxRecDepth 20000 in
theorem ggL_law_L_cell : GoodIn wsL_law wsL_cell := goodIn_r _ [66] (by decide +kernel) (by decide +kernel)
set_option maxRecDepth 20000 in
theorem gL_law_L_cell : GoodIn wsL_law (va_wsS RL 8 yL_cell wsL_cell) := goodIn_app (goodIn_of _ (by decide +kernel)) ggL_law_L_cell
set_option maxRecDepth 20000 in
theorem ggL_law_L_low : GoodIn wsL_law wsL_low := goodIn_r _ [69, 4] (by decide +kernel) (by decide +kernel)
set_option maxRecDepth 20000 in
theorem gL_law_L_low : GoodIn wsL_law (va_wsS RL 14 yL_low wsL_low) := goodIn_app (goodIn_of _ (by decide +kernel)) ggL_law_L_low
set_option maxRecDepth 20000 in
theorem ggL_law_X4_setSetting : GoodIn wsL_law wsX4_setSetting := goodIn_r _ [125, 126, 127, 14, 128, 24, 77, 78, 2, 79, 80, 81, 82, 23, 83, 84, 58, 85, 86, 87, 88, 89, 90, 91, 13, 92, 93, 33, 34, 41, 42, 43, 44, 35, 36, 37, 94, 95, 96, 97, 98, 99, 100, 101, 39, 102, 103, 104, 105, 106, 107, 108, 109, 110, 111, 359, 360, 361, 362, 363, 364, 365, 366, 367, 368, 369, 370, 371, 372, 373, 374, 375, 376, 378, 379, 380, 381, 382, 383, 384, 385, 386, 387, 388, 389, 390] (by decide +kernel) (by decide +kernel)
set_option maxRecDepth 20000 in
theorem gL_law_X4_setSetting : GoodIn wsL_law (wsV RL 59 RX4 yX4_setSetting wsX4_setSetting) := goodIn_app (goodIn_of _ (by decide +kernel)) ggL_law_X4_setSetting
set_option maxRecDepth 20000 in
theorem ggL_law_X4_setGenerator : GoodIn wsL_law wsX4_setGenerator := goodIn_r _ [132, 24, 14, 133, 134, 80, 81, 82, 23, 83, 84, 58, 85, 86, 87, 88, 89, 90, 91, 13, 92, 93, 33, 34, 41, 42, 43, 44, 35, 36, 37, 94, 95, 96, 97, 98, 99, 100, 101, 39, 102, 103, 104, 105, 106, 107, 108, 109, 110, 111, 359, 360, 361, 362, 363, 364, 365, 366, 367, 368, 369, 370, 371, 372, 373, 374, 375, 376, 378, 379, 380, 381, 382, 383, 384, 385, 386, 387, 388, 389, 390] (by decide +kernel) (by decide +kernel)
set_option maxRecDepth 20000 in
theorem gL_law_X4_setGenerator : GoodIn wsL_law (wsV RL 62 RX4 yX4_setGenerator wsX4_setGenerator) := goodIn_app (goodIn_of _ (by decide +kernel)) ggL_law_X4_setGenerator
set_option maxRecDepth 20000 in
theorem ggL_law_L_energy : GoodIn wsL_law wsL_energy := goodIn_r _ [137, 138, 139, 140, 2, 141, 14, 142, 143, 144, 145, 146, 76, 147, 148, 149, 150, 13, 151, 93, 359, 360, 361, 362, 363, 364, 365, 366, 367, 368, 369, 370, 371, 372, 373, 374, 375, 376, 380, 381, 382, 383, 384, 385, 386, 387, 388, 389, 390] (by decide +kernel) (by decide +kernel)
set_option maxRecDepth 20000 in
theorem gL_law_L_energy : GoodIn wsL_law (va_wsS RL 65 yL_energy wsL_energy) := goodIn_app (goodIn_of _ (by decide +kernel)) ggL_law_L_energy
set_option maxRecDepth 20000 in
theorem ggL_law_X4_aliveCount : GoodIn wsL_law wsX4_aliveCount := goodIn_r _ [155, 14, 156, 157, 158, 13, 159, 93, 33, 160, 359, 360, 361, 362, 363, 364, 365, 366, 367, 368, 369, 370, 371, 372, 373, 374, 375, 376, 380, 381, 382, 383, 384, 385, 386, 387, 388, 389, 390] (by decide +kernel) (by decide +kernel)
set_option maxRecDepth 20000 in
theorem gL_law_X4_aliveCount : GoodIn wsL_law (wsV RL 69 RX4 yX4_aliveCount wsX4_aliveCount) := goodIn_app (goodIn_of _ (by decide +kernel)) ggL_law_X4_aliveCount
set_option maxRecDepth 20000 in
theorem ggL_law_X4_roundNumber : GoodIn wsL_law wsX4_roundNumber := goodIn_r _ [164, 14, 134, 359, 360, 361, 362, 363, 364, 365, 366, 367, 368, 369, 370, 371, 372, 373, 374, 375, 376] (by decide +kernel) (by decide +kernel)
set_option maxRecDepth 20000 in
theorem gL_law_X4_roundNumber : GoodIn wsL_law (wsV RL 48 RX4 yX4_roundNumber wsX4_roundNumber) := goodIn_app (goodIn_of _ (by decide +kernel)) ggL_law_X4_roundNumber
set_option maxRecDepth 20000 in
theorem ggL_law_X4_isAlive : GoodIn wsL_law wsX4_isAlive := goodIn_r _ [168, 14, 76, 169, 148, 149, 150, 13, 151, 93, 359, 360, 361, 362, 363, 364, 365, 366, 367, 368, 369, 370, 371, 372, 373, 374, 375, 376, 380, 381, 382, 383, 384, 385, 386, 387, 388, 389, 390] (by decide +kernel) (by decide +kernel)
set_option maxRecDepth 20000 in
theorem gL_law_X4_isAlive : GoodIn wsL_law (wsV RL 45 RX4 yX4_isAlive wsX4_isAlive) := goodIn_app (goodIn_of _ (by decide +kernel)) ggL_law_X4_isAlive
set_option maxRecDepth 20000 in
theorem ggL_law_X4_isEligible : GoodIn wsL_law wsX4_isEligible := goodIn_r _ [173, 14, 76, 169, 174, 148, 149, 150, 13, 151, 93, 175, 176, 177, 178, 34, 94, 359, 360, 361, 362, 363, 364, 365, 366, 367, 368, 369, 370, 371, 372, 373, 374, 375, 376, 380, 381, 382, 383, 384, 385, 386, 387, 388, 389, 390] (by decide +kernel) (by decide +kernel)
set_option maxRecDepth 20000 in
theorem gL_law_X4_isEligible : GoodIn wsL_law (wsV RL 72 RX4 yX4_isEligible wsX4_isEligible) := goodIn_app (goodIn_of _ (by decide +kernel)) ggL_law_X4_isEligible
set_option maxRecDepth 20000 in
theorem ggL_law_X4_run : GoodIn wsL_law wsX4_run := goodIn_r _ [182, 14, 24, 18, 77, 78, 2, 79, 156, 157, 158, 13, 159, 93, 33, 160, 80, 81, 82, 23, 83, 84, 58, 85, 86, 87, 88, 89, 90, 91, 92, 34, 41, 42, 43, 44, 35, 36, 37, 94, 95, 96, 97, 98, 99, 100, 101, 39, 102, 103, 104, 105, 106, 107, 108, 109, 110, 111, 183, 184, 185, 17, 186, 52, 187, 188, 189, 190, 191, 192, 193, 194, 195, 196, 197, 198, 199, 200, 201, 202, 203, 176, 177, 178, 204, 117, 118, 119, 120, 121, 205, 206, 207, 208, 209, 210, 211, 212, 213, 214, 215, 216, 217, 218, 219, 220, 221, 222, 223, 224, 225, 226, 227, 228, 229, 230, 231, 232, 233, 234, 235, 236, 237, 238, 239, 240, 241, 242, 243, 244, 245, 246, 247, 248, 249, 250, 251, 252, 253, 254, 255, 256, 257, 258, 259, 260, 261, 262, 263, 264, 265, 266, 267, 268, 269, 270, 271, 272, 273, 274, 275, 276, 277, 278, 279, 280, 281, 282, 283, 284, 285, 286, 287, 288, 289, 290, 291, 292, 293, 294, 295, 296, 297, 298, 299, 300, 301, 302, 303, 304, 149, 150, 151, 305, 306, 307, 308, 359, 360, 361, 362, 363, 364, 365, 366, 367, 368, 369, 370, 371, 372, 373, 374, 375, 376, 380, 381, 382, 383, 384, 385, 386, 387, 388, 389, 390, 378, 379, 377] (by decide +kernel) (by decide +kernel)
set_option maxRecDepth 20000 in
theorem gL_law_X4_run : GoodIn wsL_law (wsV RL 75 RX4 yX4_run wsX4_run) := goodIn_app (goodIn_of _ (by decide +kernel)) ggL_law_X4_run
set_option maxRecDepth 20000 in
theorem ggL_law_L_clusters : GoodIn wsL_law wsL_clusters := goodIn_r _ [311, 312, 313, 314, 2, 315, 14, 76, 316, 148, 149, 150, 13, 151, 93, 317, 318, 319, 320, 321, 322, 323, 62, 324, 325, 326, 327, 328, 329, 165, 166, 167, 168, 169, 161, 162, 163, 164, 134, 330, 331, 332, 333, 334, 359, 360, 361, 362, 363, 364, 365, 366, 367, 368, 369, 370, 371, 372, 373, 374, 375, 376, 380, 381, 382, 383, 384, 385, 386, 387, 388, 389, 390] (by decide +kernel) (by decide +kernel)
set_option maxRecDepth 20000 in
theorem gL_law_L_clusters : GoodIn wsL_law (va_wsS RL 78 yL_clusters wsL_clusters) := goodIn_app (goodIn_of _ (by decide +kernel)) ggL_law_L_clusters
set_option maxRecDepth 20000 in
theorem ggL_law_X4_headOf : GoodIn wsL_law wsX4_headOf := goodIn_r _ [315, 14, 76, 316, 148, 149, 150, 13, 151, 93, 359, 360, 361, 362, 363, 364, 365, 366, 367, 368, 369, 370, 371, 372, 373, 374, 375, 376, 380, 381, 382, 383, 384, 385, 386, 387, 388, 389, 390] (by decide +kernel) (by decide +kernel)
set_option maxRecDepth 20000 in
theorem gL_law_X4_headOf : GoodIn wsL_law (wsV RL 32 RX4 yX4_headOf wsX4_headOf) := goodIn_app (goodIn_of _ (by decide +kernel)) ggL_law_X4_headOf
set_option maxRecDepth 20000 in
theorem ggL_law_X4_lastDelivered : GoodIn wsL_law wsX4_lastDelivered := goodIn_r _ [338, 14, 339, 359, 360, 361, 362, 363, 364, 365, 366, 367, 368, 369, 370, 371, 372, 373, 374, 375, 376] (by decide +kernel) (by decide +kernel)
set_option maxRecDepth 20000 in
theorem gL_law_X4_lastDelivered : GoodIn wsL_law (wsV RL 82 RX4 yX4_lastDelivered wsX4_lastDelivered) := goodIn_app (goodIn_of _ (by decide +kernel)) ggL_law_X4_lastDelivered
set_option maxRecDepth 20000 in
theorem ggL_law_X4_deliveredTotal : GoodIn wsL_law wsX4_deliveredTotal := goodIn_r _ [343, 14, 344, 359, 360, 361, 362, 363, 364, 365, 366, 367, 368, 369, 370, 371, 372, 373, 374, 375, 376] (by decide +kernel) (by decide +kernel)
set_option maxRecDepth 20000 in
theorem gL_law_X4_deliveredTotal : GoodIn wsL_law (wsV RL 85 RX4 yX4_deliveredTotal wsX4_deliveredTotal) := goodIn_app (goodIn_of _ (by decide +kernel)) ggL_law_X4_deliveredTotal
set_option maxRecDepth 20000 in
theorem ggL_law_X4_charge : GoodIn wsL_law wsX4_charge := goodIn_r _ [348, 14, 74, 76, 169, 147, 349, 24, 148, 149, 150, 13, 151, 93, 77, 78, 2, 79, 80, 81, 82, 23, 83, 84, 58, 85, 86, 87, 88, 89, 90, 91, 92, 33, 34, 41, 42, 43, 44, 35, 36, 37, 94, 95, 96, 97, 98, 99, 100, 101, 39, 102, 103, 104, 105, 106, 107, 108, 109, 110, 111, 359, 360, 361, 362, 363, 364, 365, 366, 367, 368, 369, 370, 371, 372, 373, 374, 375, 376, 380, 381, 382, 383, 384, 385, 386, 387, 388, 389, 390, 378, 379] (by decide +kernel) (by decide +kernel)
set_option maxRecDepth 20000 in
theorem gL_law_X4_charge : GoodIn wsL_law (wsV RL 88 RX4 yX4_charge wsX4_charge) := goodIn_app (goodIn_of _ (by decide +kernel)) ggL_law_X4_charge
set_option maxRecDepth 20000 in
theorem ggL_law_X4_energyPaid : GoodIn wsL_law wsX4_energyPaid := goodIn_r _ [141, 14, 142, 359, 360, 361, 362, 363, 364, 365, 366, 367, 368, 369, 370, 371, 372, 373, 374, 375, 376] (by decide +kernel) (by decide +kernel)
set_option maxRecDepth 20000 in
theorem gL_law_X4_energyPaid : GoodIn wsL_law (wsV RL 24 RX4 yX4_energyPaid wsX4_energyPaid) := goodIn_app (goodIn_of _ (by decide +kernel)) ggL_law_X4_energyPaid
set_option maxRecDepth 20000 in
theorem ggL_law_X4_undo : GoodIn wsL_law wsX4_undo := goodIn_r _ [353, 24, 354, 14, 355, 356, 357, 23, 358, 84, 58, 89, 90, 91, 13, 92, 93, 33, 34, 41, 42, 43, 44, 35, 36, 37, 94, 95, 96, 97, 98, 99, 100, 101, 39, 102, 103, 104, 105, 106, 107, 108, 109, 110, 111, 359, 360, 361, 362, 363, 364, 365, 378, 379, 366, 367, 368, 369, 370, 371, 372, 373, 374, 375, 376, 380, 381, 382, 383, 384, 385, 386, 387, 388, 389, 390] (by decide +kernel) (by decide +kernel)
set_option maxRecDepth 20000 in
theorem gL_law_X4_undo : GoodIn wsL_law (wsV RL 91 RX4 yX4_undo wsX4_undo) := goodIn_app (goodIn_of _ (by decide +kernel)) ggL_law_X4_undo
