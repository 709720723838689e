set_option maxRecDepth 20000 in
theorem ggL_digit_L_power : GoodIn wsL_digit wsL_power := goodIn_r _ [4] (by rfl) (by decide +kernel)
set_option maxRecDepth 20000 in
theorem gL_digit_L_power : GoodIn wsL_digit (va_wsS RL 9 yL_power wsL_power) := goodIn_app (goodIn_of _ (by decide +kernel)) ggL_digit_L_power
set_option maxRecDepth 20000 in
theorem ggL_means_L_digit : GoodIn wsL_means wsL_digit := goodIn_r _ [4, 5, 6, 3, 7] (by rfl) (by decide +kernel)
set_option maxRecDepth 20000 in
theorem gL_means_L_digit : GoodIn wsL_means (va_wsS RL 15 yL_digit wsL_digit) := goodIn_app (goodIn_of _ (by decide +kernel)) ggL_means_L_digit
set_option maxRecDepth 20000 in
theorem ggL_reason_L_means : GoodIn wsL_reason wsL_means := goodIn_r _ [4, 5, 6, 3, 7, 8, 9, 10] (by rfl) (by decide +kernel)
set_option maxRecDepth 20000 in
theorem gL_reason_L_means : GoodIn wsL_reason (va_wsS RL 19 yL_means wsL_means) := goodIn_app (goodIn_of _ (by decide +kernel)) ggL_reason_L_means
set_option maxRecDepth 20000 in
theorem ggL_reason_L_other : GoodIn wsL_reason wsL_other := goodIn_r _ [13] (by rfl) (by decide +kernel)
set_option maxRecDepth 20000 in
theorem gL_reason_L_other : GoodIn wsL_reason (va_wsS RL 23 yL_other wsL_other) := goodIn_app (goodIn_of _ (by decide +kernel)) ggL_reason_L_other
set_option maxRecDepth 20000 in
theorem ggL_quarrels_L_reason : GoodIn wsL_quarrels wsL_reason := goodIn_r _ [4, 5, 6, 3, 7, 8, 9, 10, 11, 12, 13, 14, 15, 16] (by rfl) (by decide +kernel)
set_option maxRecDepth 20000 in
theorem gL_quarrels_L_reason : GoodIn wsL_quarrels (va_wsS RL 27 yL_reason wsL_reason) := goodIn_app (goodIn_of _ (by decide +kernel)) ggL_quarrels_L_reason
set_option maxRecDepth 20000 in
theorem ggL_torn_L_edge : GoodIn wsL_torn wsL_edge := goodIn_r _ [4] (by rfl) (by decide +kernel)
set_option maxRecDepth 20000 in
theorem gL_torn_L_edge : GoodIn wsL_torn (va_wsS RL 31 yL_edge wsL_edge) := goodIn_app (goodIn_of _ (by decide +kernel)) ggL_torn_L_edge
set_option maxRecDepth 20000 in
theorem ggL_torn_L_quarrels : GoodIn wsL_torn wsL_quarrels := goodIn_r _ [7, 8, 9, 3, 10, 11, 12, 13, 14, 15, 16, 17, 18, 19, 20, 21, 22] (by rfl) (by decide +kernel)
set_option maxRecDepth 20000 in
theorem gL_torn_L_quarrels : GoodIn wsL_torn (va_wsS RL 34 yL_quarrels wsL_quarrels) := goodIn_app (goodIn_of _ (by decide +kernel)) ggL_torn_L_quarrels
set_option maxRecDepth 20000 in
theorem ggL_begins_L_power : GoodIn wsL_begins wsL_power := goodIn_r _ [5] (by rfl) (by decide +kernel)
set_option maxRecDepth 20000 in
theorem gL_begins_L_power : GoodIn wsL_begins (va_wsS RL 9 yL_power wsL_power) := goodIn_app (goodIn_of _ (by decide +kernel)) ggL_begins_L_power
set_option maxRecDepth 20000 in
theorem ggL_keeps_L_torn : GoodIn wsL_keeps wsL_torn := goodIn_r _ [4, 5, 6, 3, 7, 8, 9, 10, 11, 12, 13, 14, 15, 16, 17, 18, 19, 20, 21, 22, 23, 24, 25] (by rfl) (by decide +kernel)
set_option maxRecDepth 20000 in
theorem gL_keeps_L_torn : GoodIn wsL_keeps (va_wsS RL 40 yL_torn wsL_torn) := goodIn_app (goodIn_of _ (by decide +kernel)) ggL_keeps_L_torn
set_option maxRecDepth 20000 in
theorem ggL_edgeAt_L_edge : GoodIn wsL_edgeAt wsL_edge := goodIn_r _ [4] (by rfl) (by decide +kernel)
set_option maxRecDepth 20000 in
theorem gL_edgeAt_L_edge : GoodIn wsL_edgeAt (va_wsS RL 31 yL_edge wsL_edge) := goodIn_app (goodIn_of _ (by decide +kernel)) ggL_edgeAt_L_edge
set_option maxRecDepth 20000 in
theorem ggL_edgeAt_L_other : GoodIn wsL_edgeAt wsL_other := goodIn_r _ [7] (by rfl) (by decide +kernel)
set_option maxRecDepth 20000 in
theorem gL_edgeAt_L_other : GoodIn wsL_edgeAt (va_wsS RL 23 yL_other wsL_other) := goodIn_app (goodIn_of _ (by decide +kernel)) ggL_edgeAt_L_other
set_option maxRecDepth 20000 in
theorem ggL_acts_L_low : GoodIn wsL_acts wsL_low := goodIn_r _ [6, 7] (by rfl) (by decide +kernel)
set_option maxRecDepth 20000 in
theorem gL_acts_L_low : GoodIn wsL_acts (va_wsS RL 45 yL_low wsL_low) := goodIn_app (goodIn_of _ (by decide +kernel)) ggL_acts_L_low
set_option maxRecDepth 20000 in
theorem ggL_acts_L_edge : GoodIn wsL_acts wsL_edge := goodIn_r _ [10] (by rfl) (by decide +kernel)
set_option maxRecDepth 20000 in
theorem gL_acts_L_edge : GoodIn wsL_acts (va_wsS RL 31 yL_edge wsL_edge) := goodIn_app (goodIn_of _ (by decide +kernel)) ggL_acts_L_edge
set_option maxRecDepth 20000 in
theorem ggL_acts_X4_grid : GoodIn wsL_acts wsX4_grid := goodIn_r _ [15, 16, 17, 18, 19, 14, 20, 21, 22, 23, 24, 25, 26, 27, 28, 29, 30, 31, 32, 33, 34, 35, 36, 37, 38, 39, 40, 41, 42, 43, 44, 45, 46, 47, 48, 49, 50, 51, 52, 53, 54, 55, 56, 57, 58, 59, 60, 61, 62, 63, 64, 65, 66, 67, 68, 69, 70, 71, 72, 73, 411, 412, 413, 414, 415, 416, 417, 418, 419, 420, 421, 422, 423, 424, 425, 426, 427] (by rfl) (by decide +kernel)
set_option maxRecDepth 20000 in
theorem gL_acts_X4_grid : GoodIn wsL_acts (wsV RL 49 RX4 yX4_grid wsX4_grid) := goodIn_app (goodIn_of _ (by decide +kernel)) ggL_acts_X4_grid
set_option maxRecDepth 20000 in
theorem ggL_acts_L_begins : GoodIn wsL_acts wsL_begins := goodIn_r _ [76, 77, 78, 79, 5, 80] (by rfl) (by decide +kernel)
set_option maxRecDepth 20000 in
theorem gL_acts_L_begins : GoodIn wsL_acts (va_wsS RL 54 yL_begins wsL_begins) := goodIn_app (goodIn_of _ (by decide +kernel)) ggL_acts_L_begins
set_option maxRecDepth 20000 in
theorem ggL_acts_X4_set : GoodIn wsL_acts wsX4_set := goodIn_r _ [84, 16, 17, 18, 19, 14, 20, 21, 22, 23, 24, 25, 26, 27, 28, 29, 30, 31, 32, 33, 34, 35, 36, 37, 38, 39, 40, 41, 42, 43, 44, 45, 46, 47, 48, 49, 50, 51, 52, 53, 85, 86, 87, 88, 89, 90, 91, 92, 62, 63, 64, 65, 411, 412, 413, 414, 415, 416, 417, 418, 419, 420, 421, 422, 423, 424, 425, 426, 427] (by rfl) (by decide +kernel)
set_option maxRecDepth 20000 in
theorem gL_acts_X4_set : GoodIn wsL_acts (wsV RL 58 RX4 yX4_set wsX4_set) := goodIn_app (goodIn_of _ (by decide +kernel)) ggL_acts_X4_set
set_option maxRecDepth 20000 in
theorem ggL_acts_L_digit : GoodIn wsL_acts wsL_digit := goodIn_r _ [95, 78, 79, 5, 80] (by rfl) (by decide +kernel)
set_option maxRecDepth 20000 in
theorem gL_acts_L_digit : GoodIn wsL_acts (va_wsS RL 15 yL_digit wsL_digit) := goodIn_app (goodIn_of _ (by decide +kernel)) ggL_acts_L_digit
set_option maxRecDepth 20000 in
theorem ggL_acts_L_power : GoodIn wsL_acts wsL_power := goodIn_r _ [80] (by rfl) (by decide +kernel)
set_option maxRecDepth 20000 in
theorem gL_acts_L_power : GoodIn wsL_acts (va_wsS RL 9 yL_power wsL_power) := goodIn_app (goodIn_of _ (by decide +kernel)) ggL_acts_L_power
set_option maxRecDepth 20000 in
theorem ggL_acts_X4_show : GoodIn wsL_acts wsX4_show := goodIn_r _ [99, 17, 16, 100, 101, 102, 36, 103, 104, 105, 106, 107, 108, 109, 110, 111, 44, 45, 19, 14, 20, 112, 113, 114, 18, 21, 22, 23, 24, 25, 26, 27, 28, 29, 30, 31, 32, 33, 34, 35, 37, 38, 39, 40, 41, 42, 43, 46, 47, 48, 49, 50, 51, 52, 53, 115, 116, 117, 118, 119, 120, 121, 122, 123, 124, 125, 126, 127, 128, 129, 130, 131, 132, 133, 134, 135, 136, 137, 138, 139, 140, 141, 142, 143, 144, 145, 146, 147, 70, 71, 72, 73, 148, 149, 150, 151, 152, 153, 154, 155, 156, 157, 158, 159, 160, 161, 162, 163, 164, 165, 166, 167, 168, 169, 170, 171, 172, 173, 174, 175, 176, 177, 178, 179, 180, 181, 182, 183, 184, 185, 186, 187, 188, 189, 190, 191, 192, 193, 194, 195, 196, 197, 198, 199, 200, 201, 62, 63, 64, 65, 411, 412, 413, 414, 418, 419, 420, 421, 422, 423, 424, 425, 426, 427, 415, 416, 417] (by rfl) (by decide +kernel)
set_option maxRecDepth 20000 in
theorem gL_acts_X4_show : GoodIn wsL_acts (wsV RL 61 RX4 yX4_show wsX4_show) := goodIn_app (goodIn_of _ (by decide +kernel)) ggL_acts_X4_show
set_option maxRecDepth 20000 in
theorem ggL_acts_L_keeps : GoodIn wsL_acts wsL_keeps := goodIn_r _ [204, 205, 206, 5, 207, 8, 9, 10, 208, 209, 210, 211, 212, 213, 214, 215, 216, 93, 94, 95, 78, 79, 80, 217, 218, 219] (by rfl) (by decide +kernel)
set_option maxRecDepth 20000 in
theorem gL_acts_L_keeps : GoodIn wsL_acts (va_wsS RL 65 yL_keeps wsL_keeps) := goodIn_app (goodIn_of _ (by decide +kernel)) ggL_acts_L_keeps
set_option maxRecDepth 20000 in
theorem ggL_acts_X4_erase : GoodIn wsL_acts wsX4_erase := goodIn_r _ [223, 17, 16, 100, 101, 102, 36, 103, 104, 105, 106, 107, 108, 109, 110, 111, 44, 45, 19, 14, 20, 224, 225, 226, 227, 38, 119, 120, 121, 152, 153, 21, 22, 23, 24, 25, 26, 27, 28, 29, 30, 31, 32, 33, 34, 35, 37, 39, 40, 41, 42, 43, 46, 47, 48, 49, 50, 51, 52, 53, 115, 116, 117, 118, 122, 123, 124, 125, 126, 127, 128, 129, 130, 131, 132, 133, 134, 135, 136, 137, 138, 139, 140, 141, 142, 143, 144, 145, 146, 147, 70, 71, 72, 73, 148, 149, 150, 151, 154, 155, 156, 157, 158, 159, 160, 161, 162, 163, 164, 165, 166, 167, 168, 169, 170, 171, 172, 173, 174, 175, 176, 177, 178, 179, 180, 181, 182, 183, 184, 185, 186, 187, 188, 189, 190, 191, 192, 193, 194, 195, 196, 197, 198, 199, 200, 201, 62, 63, 64, 65, 411, 412, 413, 414, 418, 419, 420, 421, 422, 423, 424, 425, 426, 427, 415, 416, 417] (by rfl) (by decide +kernel)
set_option maxRecDepth 20000 in
theorem gL_acts_X4_erase : GoodIn wsL_acts (wsV RL 69 RX4 yX4_erase wsX4_erase) := goodIn_app (goodIn_of _ (by decide +kernel)) ggL_acts_X4_erase
set_option maxRecDepth 20000 in
theorem ggL_acts_X4_mean : GoodIn wsL_acts wsX4_mean := goodIn_r _ [231, 17, 16, 232, 105, 106, 36, 107, 108, 109, 110, 111, 44, 45, 112, 113, 14, 114, 18, 19, 20, 21, 22, 23, 24, 25, 26, 27, 28, 29, 30, 31, 32, 33, 34, 35, 37, 38, 39, 40, 41, 42, 43, 46, 47, 48, 49, 50, 51, 52, 53, 233, 234, 235, 236, 122, 123, 124, 125, 126, 127, 128, 129, 130, 131, 132, 133, 134, 135, 136, 137, 138, 139, 140, 141, 142, 143, 144, 145, 146, 147, 70, 71, 72, 73, 148, 149, 150, 151, 152, 153, 154, 155, 156, 157, 158, 159, 160, 161, 162, 163, 164, 165, 166, 167, 168, 169, 170, 171, 172, 173, 119, 120, 121, 174, 175, 176, 177, 178, 179, 180, 181, 182, 183, 184, 185, 186, 187, 188, 189, 190, 191, 192, 193, 194, 195, 196, 197, 198, 199, 200, 201, 62, 63, 64, 65, 411, 412, 413, 414, 418, 419, 420, 421, 422, 423, 424, 425, 426, 427, 415, 416, 417] (by rfl) (by decide +kernel)
set_option maxRecDepth 20000 in
theorem gL_acts_X4_mean : GoodIn wsL_acts (wsV RL 73 RX4 yX4_mean wsX4_mean) := goodIn_app (goodIn_of _ (by decide +kernel)) ggL_acts_X4_mean
set_option maxRecDepth 20000 in
theorem ggL_acts_L_quarrels : GoodIn wsL_acts wsL_quarrels := goodIn_r _ [210, 211, 212, 5, 213, 214, 215, 216, 93, 94, 95, 78, 79, 80, 217, 218, 219] (by rfl) (by decide +kernel)
set_option maxRecDepth 20000 in
theorem gL_acts_L_quarrels : GoodIn wsL_acts (va_wsS RL 34 yL_quarrels wsL_quarrels) := goodIn_app (goodIn_of _ (by decide +kernel)) ggL_acts_L_quarrels
set_option maxRecDepth 20000 in
theorem ggL_acts_X4_agree : GoodIn wsL_acts wsX4_agree := goodIn_r _ [240, 17, 16, 241, 242, 243, 36, 244, 245, 67, 68, 69, 44, 45, 70, 71, 72, 73, 246, 155, 156, 157, 158, 159, 160, 161, 162, 163, 164, 165, 166, 167, 168, 169, 170, 171, 172, 173, 38, 39, 119, 120, 121, 152, 14, 153, 174, 175, 176, 177, 178, 179, 180, 181, 21, 22, 23, 24, 25, 26, 27, 28, 29, 30, 31, 32, 33, 34, 35, 37, 40, 41, 42, 43, 46, 47, 48, 49, 50, 51, 52, 53, 247, 191, 192, 193, 122, 123, 62, 63, 64, 65, 411, 412, 413, 414, 418, 419, 420, 421, 422, 423, 424, 425, 426, 427, 415, 416, 417] (by rfl) (by decide +kernel)
set_option maxRecDepth 20000 in
theorem gL_acts_X4_agree : GoodIn wsL_acts (wsV RL 76 RX4 yX4_agree wsX4_agree) := goodIn_app (goodIn_of _ (by decide +kernel)) ggL_acts_X4_agree
set_option maxRecDepth 20000 in
theorem ggL_acts_X4_release : GoodIn wsL_acts wsX4_release := goodIn_r _ [251, 17, 16, 252, 241, 242, 243, 36, 244, 245, 67, 68, 69, 44, 45, 70, 71, 72, 73, 253, 149, 150, 151, 43, 152, 14, 153, 21, 22, 23, 24, 25, 26, 27, 28, 29, 30, 31, 32, 33, 34, 35, 37, 38, 39, 40, 41, 42, 46, 47, 48, 49, 50, 51, 52, 53, 247, 191, 192, 193, 122, 123, 62, 63, 64, 65, 254, 255, 256, 257, 258, 259, 260, 261, 262, 263, 264, 265, 266, 267, 268, 109, 110, 111, 269, 270, 163, 164, 165, 271, 272, 273, 274, 275, 175, 176, 177, 162, 276, 277, 278, 279, 411, 412, 413, 414, 418, 419, 420, 421, 422, 423, 424, 425, 426, 427, 415, 416, 417, 428] (by rfl) (by decide +kernel)
set_option maxRecDepth 20000 in
theorem gL_acts_X4_release : GoodIn wsL_acts (wsV RL 80 RX4 yX4_release wsX4_release) := goodIn_app (goodIn_of _ (by decide +kernel)) ggL_acts_X4_release
set_option maxRecDepth 20000 in
theorem ggL_acts_X4_count : GoodIn wsL_acts wsX4_count := goodIn_r _ [283, 17, 252, 16, 284, 285, 286, 287, 36, 288, 44, 289, 290, 291, 292, 45, 293, 109, 110, 111, 66, 67, 68, 69, 70, 71, 72, 73, 294, 295, 296, 297, 245, 148, 149, 150, 151, 43, 152, 14, 153, 298, 299, 300, 301, 154, 155, 156, 157, 158, 159, 160, 161, 162, 163, 164, 165, 166, 167, 168, 169, 170, 171, 172, 173, 38, 39, 119, 120, 121, 174, 175, 176, 177, 178, 179, 180, 181, 302, 303, 304, 305, 254, 255, 256, 257, 258, 259, 260, 261, 262, 263, 264, 265, 266, 267, 268, 269, 270, 271, 272, 273, 274, 275, 276, 277, 278, 279, 306, 307, 308, 309, 108, 310, 311, 312, 313, 314, 315, 316, 317, 41, 318, 319, 320, 321, 322, 323, 324, 325, 198, 199, 200, 201, 40, 326, 327, 328, 329, 330, 331, 332, 333, 47, 334, 335, 336, 337, 338, 339, 340, 341, 342, 343, 344, 345, 346, 347, 42, 348, 349, 350, 24, 351, 26, 352, 353, 354, 355, 356, 357, 128, 129, 130, 131, 46, 358, 359, 360, 361, 411, 412, 413, 414, 418, 419, 420, 421, 422, 423, 424, 425, 426, 427, 428, 415, 416, 417, 429, 430] (by rfl) (by decide +kernel)
set_option maxRecDepth 20000 in
theorem gL_acts_X4_count : GoodIn wsL_acts (wsV RL 83 RX4 yX4_count wsX4_count) := goodIn_app (goodIn_of _ (by decide +kernel)) ggL_acts_X4_count
set_option maxRecDepth 20000 in
theorem ggL_acts_X4_settle : GoodIn wsL_acts wsX4_settle := goodIn_r _ [365, 17, 16, 241, 242, 243, 36, 244, 245, 67, 68, 69, 44, 45, 70, 71, 72, 73, 366, 163, 164, 165, 367, 175, 176, 177, 162, 21, 22, 23, 24, 25, 26, 27, 28, 29, 30, 31, 32, 33, 34, 35, 37, 38, 39, 40, 41, 42, 43, 46, 47, 48, 14, 49, 50, 51, 52, 53, 368, 369, 370, 371, 166, 167, 168, 169, 178, 179, 180, 181, 174, 170, 171, 172, 173, 119, 120, 121, 152, 153, 372, 373, 374, 375, 376, 377, 378, 379, 380, 116, 117, 118, 122, 123, 381, 195, 196, 197, 198, 199, 200, 201, 182, 183, 184, 185, 62, 63, 64, 65, 411, 412, 413, 414, 418, 419, 420, 421, 422, 423, 424, 425, 426, 427, 415, 416, 417] (by rfl) (by decide +kernel)
set_option maxRecDepth 20000 in
theorem gL_acts_X4_settle : GoodIn wsL_acts (wsV RL 86 RX4 yX4_settle wsX4_settle) := goodIn_app (goodIn_of _ (by decide +kernel)) ggL_acts_X4_settle
set_option maxRecDepth 20000 in
theorem ggL_acts_L_other : GoodIn wsL_acts wsL_other := goodIn_r _ [219] (by rfl) (by decide +kernel)
set_option maxRecDepth 20000 in
theorem gL_acts_L_other : GoodIn wsL_acts (va_wsS RL 23 yL_other wsL_other) := goodIn_app (goodIn_of _ (by decide +kernel)) ggL_acts_L_other
set_option maxRecDepth 20000 in
theorem ggL_acts_L_means : GoodIn wsL_acts wsL_means := goodIn_r _ [216, 93, 94, 5, 95, 78, 79, 80] (by rfl) (by decide +kernel)
set_option maxRecDepth 20000 in
theorem gL_acts_L_means : GoodIn wsL_acts (va_wsS RL 19 yL_means wsL_means) := goodIn_app (goodIn_of _ (by decide +kernel)) ggL_acts_L_means
set_option maxRecDepth 20000 in
theorem ggL_acts_L_edgeAt : GoodIn wsL_acts wsL_edgeAt := goodIn_r _ [384, 8, 9, 5, 10, 217, 218, 219] (by rfl) (by decide +kernel)
set_option maxRecDepth 20000 in
theorem gL_acts_L_edgeAt : GoodIn wsL_acts (va_wsS RL 89 yL_edgeAt wsL_edgeAt) := goodIn_app (goodIn_of _ (by decide +kernel)) ggL_acts_L_edgeAt
set_option maxRecDepth 20000 in
theorem ggL_acts_X4_publish : GoodIn wsL_acts wsX4_publish := goodIn_r _ [388, 17, 16, 232, 105, 106, 36, 107, 108, 109, 110, 111, 44, 45, 389, 390, 391, 392, 136, 137, 138, 139, 140, 141, 142, 143, 144, 145, 146, 147, 70, 71, 72, 73, 148, 149, 150, 151, 43, 152, 14, 153, 393, 394, 395, 396, 21, 22, 23, 24, 25, 26, 27, 28, 29, 30, 31, 32, 33, 34, 35, 37, 38, 39, 40, 41, 42, 46, 47, 48, 49, 50, 51, 52, 53, 397, 398, 399, 400, 198, 199, 200, 201, 122, 123, 62, 63, 64, 65, 401, 411, 412, 413, 414, 418, 419, 420, 421, 422, 423, 424, 425, 426, 427, 415, 416, 417] (by rfl) (by decide +kernel)
set_option maxRecDepth 20000 in
theorem gL_acts_X4_publish : GoodIn wsL_acts (wsV RL 93 RX4 yX4_publish wsX4_publish) := goodIn_app (goodIn_of _ (by decide +kernel)) ggL_acts_X4_publish
set_option maxRecDepth 20000 in
theorem ggL_acts_X4_scale : GoodIn wsL_acts wsX4_scale := goodIn_r _ [405, 17, 406, 16, 232, 105, 106, 36, 107, 108, 109, 110, 111, 44, 45, 18, 19, 14, 20, 21, 22, 23, 24, 25, 26, 27, 28, 29, 30, 31, 32, 33, 34, 35, 37, 38, 39, 40, 41, 42, 43, 46, 47, 48, 49, 50, 51, 52, 53, 407, 408, 409, 410, 122, 123, 62, 63, 64, 65, 411, 412, 413, 414, 418, 419, 420, 421, 422, 423, 424, 425, 426, 427, 415, 416, 417] (by rfl) (by decide +kernel)
set_option maxRecDepth 20000 in
theorem gL_acts_X4_scale : GoodIn wsL_acts (wsV RL 97 RX4 yX4_scale wsX4_scale) := goodIn_app (goodIn_of _ (by decide +kernel)) ggL_acts_X4_scale
set_option maxRecDepth 20000 in
theorem ggL_block_L_edge : GoodIn wsL_block wsL_edge := goodIn_r _ [4] (by rfl) (by decide +kernel)
set_option maxRecDepth 20000 in
theorem gL_block_L_edge : GoodIn wsL_block (va_wsS RL 31 yL_edge wsL_edge) := goodIn_app (goodIn_of _ (by decide +kernel)) ggL_block_L_edge
set_option maxRecDepth 20000 in
theorem ggL_block_L_other : GoodIn wsL_block wsL_other := goodIn_r _ [7] (by rfl) (by decide +kernel)
set_option maxRecDepth 20000 in
theorem gL_block_L_other : GoodIn wsL_block (va_wsS RL 23 yL_other wsL_other) := goodIn_app (goodIn_of _ (by decide +kernel)) ggL_block_L_other
set_option maxRecDepth 20000 in
theorem ggL_areEdges_L_edge : GoodIn wsL_areEdges wsL_edge := goodIn_r _ [4] (by rfl) (by decide +kernel)
set_option maxRecDepth 20000 in
theorem gL_areEdges_L_edge : GoodIn wsL_areEdges (va_wsS RL 31 yL_edge wsL_edge) := goodIn_app (goodIn_of _ (by decide +kernel)) ggL_areEdges_L_edge
set_option maxRecDepth 20000 in
theorem ggL_areEdges_L_means : GoodIn wsL_areEdges wsL_means := goodIn_r _ [7, 8, 9, 3, 10, 11, 12, 13] (by rfl) (by decide +kernel)
set_option maxRecDepth 20000 in
theorem gL_areEdges_L_means : GoodIn wsL_areEdges (va_wsS RL 19 yL_means wsL_means) := goodIn_app (goodIn_of _ (by decide +kernel)) ggL_areEdges_L_means
set_option maxRecDepth 20000 in
theorem ggL_areEdges_L_other : GoodIn wsL_areEdges wsL_other := goodIn_r _ [16] (by rfl) (by decide +kernel)
set_option maxRecDepth 20000 in
theorem gL_areEdges_L_other : GoodIn wsL_areEdges (va_wsS RL 23 yL_other wsL_other) := goodIn_app (goodIn_of _ (by decide +kernel)) ggL_areEdges_L_other
set_option maxRecDepth 20000 in
theorem ggL_areEdges_L_reason : GoodIn wsL_areEdges wsL_reason := goodIn_r _ [19, 5, 6, 3, 7, 8, 9, 10, 11, 12, 13, 14, 15, 16] (by rfl) (by decide +kernel)
set_option maxRecDepth 20000 in
theorem gL_areEdges_L_reason : GoodIn wsL_areEdges (va_wsS RL 27 yL_reason wsL_reason) := goodIn_app (goodIn_of _ (by decide +kernel)) ggL_areEdges_L_reason
set_option maxRecDepth 20000 in
theorem ggL_areEdges_X4_quarrel : GoodIn wsL_areEdges wsX4_quarrel := goodIn_r _ [24, 25, 26, 27, 28, 29, 30, 31, 32, 33, 34, 35, 36, 37, 38, 39, 40, 41, 42, 23, 43, 44, 45, 46, 47, 48, 49, 50, 51, 52, 53, 54, 55, 56, 57, 58, 59, 60, 61, 62, 63, 64, 65, 66, 67, 68, 69, 70, 71, 72, 73, 74, 75, 76, 77, 78, 79, 80, 81, 82, 83, 84, 239, 240, 241, 242, 243, 244, 245, 246, 247, 248, 249, 250, 251, 252] (by rfl) (by decide +kernel)
set_option maxRecDepth 20000 in
theorem gL_areEdges_X4_quarrel : GoodIn wsL_areEdges (wsV RL 100 RX4 yX4_quarrel wsX4_quarrel) := goodIn_app (goodIn_of _ (by decide +kernel)) ggL_areEdges_X4_quarrel
set_option maxRecDepth 20000 in
theorem ggL_areEdges_X4_edge : GoodIn wsL_areEdges wsX4_edge := goodIn_r _ [88, 25, 26, 27, 28, 29, 30, 31, 32, 33, 34, 35, 36, 37, 38, 39, 40, 80, 53, 54, 55, 83, 72, 73, 74, 52, 81, 57, 58, 59, 89, 90, 91, 92, 93, 69, 23, 70, 94, 95, 96, 97, 48, 49, 50, 51, 56, 60, 61, 62, 63, 64, 65, 66, 67, 68, 71, 75, 76, 77, 78, 98, 99, 100, 101, 102, 103, 104, 105, 106, 107, 108, 109, 110, 111, 112, 113, 114, 115, 116, 117, 118, 119, 120, 121, 122, 123, 124, 125, 239, 240, 241, 242, 243, 244, 245, 246, 247, 248, 249, 250, 251, 252] (by rfl) (by decide +kernel)
set_option maxRecDepth 20000 in
theorem gL_areEdges_X4_edge : GoodIn wsL_areEdges (wsV RL 103 RX4 yX4_edge wsX4_edge) := goodIn_app (goodIn_of _ (by decide +kernel)) ggL_areEdges_X4_edge
set_option maxRecDepth 20000 in
theorem ggL_areEdges_X4_count : GoodIn wsL_areEdges wsX4_count := goodIn_r _ [129, 25, 130, 131, 132, 133, 134, 135, 29, 136, 35, 137, 138, 139, 140, 36, 141, 142, 143, 144, 145, 32, 33, 34, 37, 38, 39, 40, 146, 147, 148, 149, 31, 150, 90, 91, 92, 93, 69, 23, 70, 151, 152, 153, 154, 155, 95, 96, 97, 48, 49, 50, 51, 52, 53, 54, 55, 56, 57, 58, 59, 60, 61, 62, 63, 64, 65, 66, 67, 68, 71, 72, 73, 74, 75, 76, 77, 78, 156, 157, 158, 159, 160, 161, 162, 163, 164, 165, 166, 167, 168, 169, 170, 171, 172, 173, 174, 175, 176, 177, 178, 179, 180, 181, 182, 183, 184, 185, 186, 187, 188, 189, 190, 191, 192, 193, 194, 195, 196, 197, 198, 199, 200, 201, 202, 203, 204, 205, 206, 207, 208, 209, 210, 211, 212, 213, 214, 215, 216, 217, 107, 108, 109, 110, 111, 112, 113, 114, 115, 116, 117, 118, 119, 120, 121, 122, 123, 124, 125, 218, 219, 220, 221, 222, 223, 224, 225, 226, 227, 228, 229, 230, 231, 232, 233, 234, 235, 236, 237, 238, 239, 240, 241, 242, 243, 244, 245, 246, 247, 248, 249, 250, 251, 252, 253, 254, 255, 256, 257, 258] (by rfl) (by decide +kernel)
set_option maxRecDepth 20000 in
theorem gL_areEdges_X4_count : GoodIn wsL_areEdges (wsV RL 83 RX4 yX4_count wsX4_count) := goodIn_app (goodIn_of _ (by decide +kernel)) ggL_areEdges_X4_count
set_option maxRecDepth 20000 in
theorem ggL_isSo_X4_count : GoodIn wsL_isSo wsX4_count := goodIn_r _ [5, 6, 7, 8, 9, 10, 11, 12, 13, 14, 15, 16, 17, 18, 19, 20, 21, 22, 23, 24, 25, 26, 27, 28, 29, 30, 31, 32, 33, 34, 35, 36, 37, 38, 39, 40, 41, 42, 43, 4, 44, 45, 46, 47, 48, 49, 50, 51, 52, 53, 54, 55, 56, 57, 58, 59, 60, 61, 62, 63, 64, 65, 66, 67, 68, 69, 70, 71, 72, 73, 74, 75, 76, 77, 78, 79, 80, 81, 82, 83, 84, 85, 86, 87, 88, 89, 90, 91, 92, 93, 94, 95, 96, 97, 98, 99, 100, 101, 102, 103, 104, 105, 106, 107, 108, 109, 110, 111, 112, 113, 114, 115, 116, 117, 118, 119, 120, 121, 122, 123, 124, 125, 126, 127, 128, 129, 130, 131, 132, 133, 134, 135, 136, 137, 138, 139, 140, 141, 142, 143, 144, 145, 146, 147, 148, 149, 150, 151, 152, 153, 154, 155, 156, 157, 158, 159, 160, 161, 162, 163, 164, 165, 166, 167, 168, 169, 170, 171, 172, 173, 174, 175, 176, 177, 178, 179, 180, 181, 182, 183, 314, 315, 316, 317, 318, 319, 320, 321, 322, 323, 324, 325, 326, 327, 328, 329, 330, 331, 332, 333] (by rfl) (by decide +kernel)
set_option maxRecDepth 20000 in
theorem gL_isSo_X4_count : GoodIn wsL_isSo (wsV RL 83 RX4 yX4_count wsX4_count) := goodIn_app (goodIn_of _ (by decide +kernel)) ggL_isSo_X4_count
set_option maxRecDepth 20000 in
theorem ggL_isSo_L_edgeAt : GoodIn wsL_isSo wsL_edgeAt := goodIn_r _ [187, 188, 189, 186, 190, 191, 192, 193] (by rfl) (by decide +kernel)
set_option maxRecDepth 20000 in
theorem gL_isSo_L_edgeAt : GoodIn wsL_isSo (va_wsS RL 89 yL_edgeAt wsL_edgeAt) := goodIn_app (goodIn_of _ (by decide +kernel)) ggL_isSo_L_edgeAt
set_option maxRecDepth 20000 in
theorem ggL_isSo_X4_edgeAt : GoodIn wsL_isSo wsX4_edgeAt := goodIn_r _ [197, 6, 198, 199, 200, 13, 201, 116, 22, 23, 24, 15, 20, 202, 203, 4, 204, 205, 206, 207, 208, 209, 210, 211, 212, 213, 214, 215, 216, 29, 30, 31, 32, 314, 315, 316, 317, 318, 319, 320, 321, 322, 323, 324, 325, 326, 327] (by rfl) (by decide +kernel)
set_option maxRecDepth 20000 in
theorem gL_isSo_X4_edgeAt : GoodIn wsL_isSo (wsV RL 105 RX4 yX4_edgeAt wsX4_edgeAt) := goodIn_app (goodIn_of _ (by decide +kernel)) ggL_isSo_X4_edgeAt
set_option maxRecDepth 20000 in
theorem ggL_isSo_L_digit : GoodIn wsL_isSo wsL_digit := goodIn_r _ [219, 220, 221, 186, 222] (by rfl) (by decide +kernel)
set_option maxRecDepth 20000 in
theorem gL_isSo_L_digit : GoodIn wsL_isSo (va_wsS RL 15 yL_digit wsL_digit) := goodIn_app (goodIn_of _ (by decide +kernel)) ggL_isSo_L_digit
set_option maxRecDepth 20000 in
theorem ggL_isSo_X4_sign : GoodIn wsL_isSo wsX4_sign := goodIn_r _ [226, 6, 227, 228, 229, 13, 230, 231, 199, 200, 201, 116, 22, 23, 24, 15, 20, 203, 4, 204, 232, 233, 234, 235, 69, 71, 72, 73, 43, 44, 314, 315, 316, 317, 318, 319, 320, 321, 322, 323, 324, 325, 326, 327] (by rfl) (by decide +kernel)
set_option maxRecDepth 20000 in
theorem gL_isSo_X4_sign : GoodIn wsL_isSo (wsV RL 107 RX4 yX4_sign wsX4_sign) := goodIn_app (goodIn_of _ (by decide +kernel)) ggL_isSo_X4_sign
set_option maxRecDepth 20000 in
theorem ggL_isSo_X4_meaning : GoodIn wsL_isSo wsX4_meaning := goodIn_r _ [239, 6, 198, 199, 200, 13, 201, 116, 22, 23, 24, 15, 20, 240, 241, 4, 242, 202, 203, 204, 243, 244, 245, 246, 70, 43, 44, 314, 315, 316, 317, 318, 319, 320, 321, 322, 323, 324, 325, 326, 327] (by rfl) (by decide +kernel)
set_option maxRecDepth 20000 in
theorem gL_isSo_X4_meaning : GoodIn wsL_isSo (wsV RL 110 RX4 yX4_meaning wsX4_meaning) := goodIn_app (goodIn_of _ (by decide +kernel)) ggL_isSo_X4_meaning
set_option maxRecDepth 20000 in
theorem ggL_isSo_L_block : GoodIn wsL_isSo wsL_block := goodIn_r _ [249, 188, 189, 186, 190, 191, 192, 193] (by rfl) (by decide +kernel)
set_option maxRecDepth 20000 in
theorem gL_isSo_L_block : GoodIn wsL_isSo (va_wsS RL 113 yL_block wsL_block) := goodIn_app (goodIn_of _ (by decide +kernel)) ggL_isSo_L_block
set_option maxRecDepth 20000 in
theorem ggL_isSo_X4_sheet : GoodIn wsL_isSo wsX4_sheet := goodIn_r _ [253, 6, 7, 198, 199, 200, 13, 201, 116, 22, 23, 24, 15, 20, 254, 210, 211, 212, 255, 214, 215, 216, 256, 257, 258, 259, 260, 206, 207, 208, 209, 213, 29, 30, 31, 32, 261, 262, 263, 264, 38, 39, 40, 41, 42, 43, 4, 44, 265, 135, 136, 137, 138, 266, 118, 119, 120, 121, 122, 123, 124, 125, 267, 268, 131, 132, 133, 117, 134, 269, 159, 160, 161, 162, 270, 271, 272, 273, 274, 233, 234, 235, 69, 71, 72, 73, 86, 87, 88, 89, 90, 91, 92, 93, 94, 95, 96, 97, 98, 99, 26, 27, 28, 100, 101, 102, 58, 59, 60, 103, 104, 105, 106, 107, 75, 76, 77, 57, 108, 109, 110, 111, 275, 314, 315, 316, 317, 318, 319, 320, 321, 322, 323, 324, 325, 326, 327, 328] (by rfl) (by decide +kernel)
set_option maxRecDepth 20000 in
theorem gL_isSo_X4_sheet : GoodIn wsL_isSo (wsV RL 116 RX4 yX4_sheet wsX4_sheet) := goodIn_app (goodIn_of _ (by decide +kernel)) ggL_isSo_X4_sheet
set_option maxRecDepth 20000 in
theorem ggL_isSo_L_areEdges : GoodIn wsL_isSo wsL_areEdges := goodIn_r _ [278, 188, 189, 186, 190, 279, 280, 281, 217, 218, 219, 220, 221, 222, 191, 192, 193, 282, 283, 284, 285, 286, 287, 4, 288, 6, 289, 290, 291, 13, 292, 37, 26, 27, 28, 15, 20, 29, 30, 31, 32, 202, 203, 204, 293, 294, 295, 296, 53, 54, 55, 56, 57, 58, 59, 60, 61, 62, 63, 64, 65, 66, 67, 68, 69, 70, 71, 72, 73, 43, 44, 74, 75, 76, 77, 78, 79, 80, 81, 297, 298, 299, 300, 301, 302, 303, 304, 305, 306, 307, 39, 40, 41, 42, 308, 50, 51, 52, 309, 310, 311, 312, 274, 233, 234, 235, 313, 144, 145, 146, 147, 148, 149, 150, 151, 152, 153, 154, 155, 156, 157, 158, 159, 160, 161, 162, 1, 2, 3, 5, 7, 8, 9, 10, 11, 12, 14, 16, 17, 18, 19, 21, 22, 23, 24, 25, 33, 34, 35, 36, 38, 45, 46, 47, 48, 49, 82, 83, 84, 85, 86, 87, 88, 89, 90, 91, 92, 93, 94, 95, 96, 97, 98, 99, 100, 101, 102, 103, 104, 105, 106, 107, 108, 109, 110, 111, 112, 113, 114, 115, 116, 117, 118, 119, 120, 121, 122, 123, 124, 125, 126, 127, 128, 129, 130, 131, 132, 133, 134, 135, 136, 137, 138, 139, 140, 141, 142, 143, 163, 164, 165, 166, 167, 168, 169, 170, 171, 172, 173, 174, 175, 176, 177, 178, 179, 180, 181, 182, 183, 314, 315, 316, 317, 318, 319, 320, 321, 322, 323, 324, 325, 326, 327, 328, 329, 330, 331, 332, 333] (by rfl) (by decide +kernel)
set_option maxRecDepth 20000 in
theorem gL_isSo_L_areEdges : GoodIn wsL_isSo (va_wsS RL 119 yL_areEdges wsL_areEdges) := goodIn_app (goodIn_of _ (by decide +kernel)) ggL_isSo_L_areEdges
set_option maxRecDepth 20000 in
theorem ggL_law_X4_init : GoodIn wsL_law wsX4_init := goodIn_r _ [7, 8, 9, 10, 11, 12, 13, 14, 15, 16, 17, 18, 19, 20, 21, 22, 23, 24, 25, 26, 27, 28, 29, 30, 3, 31, 32, 33, 34, 35, 36, 37, 38, 39, 40, 41, 42, 43, 44, 45, 46, 47, 48, 49, 50, 51, 52, 53, 54, 55, 56, 57, 58, 59, 60, 61, 62, 63, 64, 65, 66, 67, 518, 519, 520, 521, 522, 523, 524, 525, 526, 527, 514, 515, 516, 517, 528, 529, 530, 531, 532, 533] (by rfl) (by decide +kernel)
set_option maxRecDepth 20000 in
theorem gL_law_X4_init : GoodIn wsL_law (wsX4_init) := ggL_law_X4_init
set_option maxRecDepth 20000 in
theorem ggL_law_L_begins : GoodIn wsL_law wsL_begins := goodIn_r _ [71, 72, 73, 74, 70, 75] (by rfl) (by decide +kernel)
set_option maxRecDepth 20000 in
theorem gL_law_L_begins : GoodIn wsL_law (va_wsS RL 54 yL_begins wsL_begins) := goodIn_app (goodIn_of _ (by decide +kernel)) ggL_law_L_begins
set_option maxRecDepth 20000 in
theorem ggL_law_L_isSo : GoodIn wsL_law wsL_isSo := goodIn_r _ [78, 79, 80, 81, 2, 82, 14, 22, 18, 26, 83, 84, 85, 13, 86, 43, 87, 88, 89, 90, 44, 91, 92, 93, 94, 95, 96, 97, 98, 99, 100, 101, 102, 103, 104, 105, 106, 107, 108, 109, 110, 111, 36, 112, 113, 114, 115, 116, 117, 118, 119, 120, 121, 122, 123, 124, 125, 126, 127, 128, 129, 130, 131, 132, 133, 134, 135, 136, 137, 31, 32, 138, 139, 140, 141, 142, 143, 144, 145, 146, 147, 148, 149, 150, 151, 152, 153, 154, 155, 21, 156, 61, 157, 158, 159, 160, 161, 162, 163, 164, 165, 166, 167, 168, 169, 170, 171, 172, 173, 174, 175, 176, 177, 178, 179, 180, 181, 182, 183, 184, 185, 186, 187, 188, 189, 34, 190, 191, 192, 193, 194, 195, 196, 197, 198, 199, 200, 201, 33, 202, 203, 204, 205, 206, 207, 208, 209, 38, 210, 211, 212, 213, 214, 215, 216, 217, 218, 219, 220, 221, 222, 223, 35, 224, 225, 226, 17, 227, 56, 228, 229, 230, 25, 231, 67, 232, 233, 234, 235, 37, 236, 237, 238, 239, 240, 241, 70, 242, 243, 244, 245, 246, 247, 248, 249, 250, 251, 252, 253, 254, 255, 256, 257, 258, 259, 260, 261, 262, 263, 264, 265, 266, 267, 268, 269, 270, 271, 272, 273, 274, 73, 74, 75, 275, 276, 277, 278, 279, 280, 281, 282, 283, 284, 285, 286, 287, 288, 289, 290, 291, 292, 293, 294, 295, 296, 297, 298, 299, 300, 301, 302, 303, 304, 305, 306, 307, 308, 309, 310, 311, 312, 313, 314, 315, 316, 317, 318, 319, 320, 321, 322, 323, 324, 325, 326, 327, 328, 329, 330, 331, 332, 333, 334, 335, 336, 337, 338, 339, 340, 341, 342, 343, 344, 345, 346, 347, 348, 349, 350, 351, 352, 353, 354, 355, 356, 357, 358, 359, 360, 361, 362, 363, 364, 365, 514, 515, 516, 517, 518, 519, 520, 521, 522, 523, 524, 525, 526, 527, 531, 528, 529, 530, 532, 533] (by rfl) (by decide +kernel)
set_option maxRecDepth 20000 in
theorem gL_law_L_isSo : GoodIn wsL_law (va_wsS RL 124 yL_isSo wsL_isSo) := goodIn_app (goodIn_of _ (by decide +kernel)) ggL_law_L_isSo
set_option maxRecDepth 20000 in
theorem ggL_law_L_cell : GoodIn wsL_law wsL_cell := goodIn_r _ [368, 369] (by rfl) (by decide +kernel)
set_option maxRecDepth 20000 in
theorem gL_law_L_cell : GoodIn wsL_law (va_wsS RL 128 yL_cell wsL_cell) := goodIn_app (goodIn_of _ (by decide +kernel)) ggL_law_L_cell
set_option maxRecDepth 20000 in
theorem ggL_law_L_low : GoodIn wsL_law wsL_low := goodIn_r _ [372, 373] (by rfl) (by decide +kernel)
set_option maxRecDepth 20000 in
theorem gL_law_L_low : GoodIn wsL_law (va_wsS RL 45 yL_low wsL_low) := goodIn_app (goodIn_of _ (by decide +kernel)) ggL_law_L_low
set_option maxRecDepth 20000 in
theorem ggL_law_L_acts : GoodIn wsL_law wsL_acts := goodIn_r _ [376, 377, 378, 370, 371, 70, 372, 373, 243, 244, 245, 379, 380, 381, 2, 382, 18, 14, 257, 258, 259, 383, 384, 385, 17, 386, 56, 387, 388, 389, 390, 55, 54, 391, 392, 393, 13, 394, 31, 32, 33, 34, 35, 36, 43, 44, 37, 38, 395, 396, 397, 398, 399, 400, 401, 40, 41, 42, 45, 46, 47, 48, 402, 403, 404, 405, 95, 96, 97, 98, 99, 100, 101, 102, 68, 69, 71, 72, 73, 74, 75, 406, 407, 408, 409, 410, 411, 412, 413, 414, 415, 416, 417, 272, 273, 274, 418, 419, 420, 421, 279, 280, 281, 282, 283, 254, 255, 256, 181, 92, 93, 94, 292, 293, 294, 422, 423, 424, 425, 138, 139, 140, 426, 427, 428, 429, 430, 431, 232, 233, 234, 235, 432, 433, 434, 435, 312, 261, 262, 263, 264, 265, 266, 267, 268, 269, 270, 271, 108, 109, 110, 111, 112, 113, 118, 119, 120, 121, 122, 123, 124, 125, 126, 127, 128, 129, 130, 131, 132, 133, 134, 135, 136, 137, 141, 142, 143, 144, 145, 146, 147, 148, 436, 437, 438, 439, 440, 441, 442, 443, 444, 445, 446, 447, 448, 449, 450, 451, 198, 199, 200, 201, 452, 453, 454, 455, 456, 457, 458, 459, 460, 334, 335, 336, 331, 332, 333, 246, 247, 248, 461, 462, 463, 464, 284, 285, 286, 287, 465, 466, 467, 468, 253, 469, 470, 471, 472, 473, 474, 475, 476, 341, 342, 343, 344, 107, 360, 477, 478, 479, 480, 481, 22, 359, 153, 154, 155, 21, 156, 61, 157, 158, 159, 160, 161, 162, 163, 164, 165, 166, 167, 168, 169, 170, 171, 172, 173, 174, 175, 176, 79, 80, 81, 82, 26, 83, 84, 85, 86, 87, 88, 89, 90, 91, 103, 104, 105, 106, 114, 115, 116, 117, 149, 150, 151, 152, 177, 178, 179, 180, 182, 183, 184, 185, 186, 187, 188, 189, 190, 191, 192, 193, 194, 195, 196, 197, 202, 203, 204, 205, 206, 207, 208, 209, 210, 211, 212, 213, 214, 215, 216, 217, 218, 219, 220, 221, 222, 223, 224, 225, 226, 227, 228, 229, 230, 25, 231, 67, 236, 237, 238, 239, 482, 483, 484, 485, 350, 353, 486, 487, 488, 489, 490, 491, 492, 493, 494, 296, 297, 298, 495, 496, 240, 241, 242, 497, 498, 499, 500, 313, 314, 315, 316, 308, 309, 310, 311, 501, 502, 503, 504, 317, 505, 506, 507, 508, 509, 510, 511, 512, 513, 514, 515, 516, 517, 528, 529, 530, 518, 519, 520, 521, 522, 523, 524, 525, 526, 527, 531, 532, 533] (by rfl) (by decide +kernel)
set_option maxRecDepth 20000 in
theorem gL_law_L_acts : GoodIn wsL_law (va_wsS RL 131 yL_acts wsL_acts) := goodIn_app (goodIn_of _ (by decide +kernel)) ggL_law_L_acts
set_option maxRecDepth 20000 in
theorem ggL_law_X4_count : GoodIn wsL_law wsX4_count := goodIn_r _ [82, 14, 22, 18, 26, 83, 84, 85, 13, 86, 43, 87, 88, 89, 90, 44, 91, 92, 93, 94, 95, 96, 97, 98, 99, 100, 101, 102, 103, 104, 105, 106, 107, 108, 109, 110, 111, 36, 112, 2, 113, 114, 115, 116, 117, 118, 119, 120, 121, 122, 123, 124, 125, 126, 127, 128, 129, 130, 131, 132, 133, 134, 135, 136, 137, 31, 32, 138, 139, 140, 141, 142, 143, 144, 145, 146, 147, 148, 149, 150, 151, 152, 153, 154, 155, 21, 156, 61, 157, 158, 159, 160, 161, 162, 163, 164, 165, 166, 167, 168, 169, 170, 171, 172, 173, 174, 175, 176, 177, 178, 179, 180, 181, 182, 183, 184, 185, 186, 187, 188, 189, 34, 190, 191, 192, 193, 194, 195, 196, 197, 198, 199, 200, 201, 33, 202, 203, 204, 205, 206, 207, 208, 209, 38, 210, 211, 212, 213, 214, 215, 216, 217, 218, 219, 220, 221, 222, 223, 35, 224, 225, 226, 17, 227, 56, 228, 229, 230, 25, 231, 67, 232, 233, 234, 235, 37, 236, 237, 238, 239, 514, 515, 516, 517, 518, 519, 520, 521, 522, 523, 524, 525, 526, 527, 531, 528, 529, 530, 532, 533] (by rfl) (by decide +kernel)
set_option maxRecDepth 20000 in
theorem gL_law_X4_count : GoodIn wsL_law (wsV RL 83 RX4 yX4_count wsX4_count) := goodIn_app (goodIn_of _ (by decide +kernel)) ggL_law_X4_count
set_option maxRecDepth 20000 in
theorem ggL_law_X4_meaning : GoodIn wsL_law wsX4_meaning := goodIn_r _ [291, 14, 253, 254, 255, 13, 256, 181, 92, 93, 94, 43, 44, 292, 293, 2, 294, 257, 258, 259, 295, 296, 297, 298, 32, 112, 113, 514, 515, 516, 517, 518, 519, 520, 521, 522, 523, 524, 525, 526, 527] (by rfl) (by decide +kernel)
set_option maxRecDepth 20000 in
theorem gL_law_X4_meaning : GoodIn wsL_law (wsV RL 110 RX4 yX4_meaning wsX4_meaning) := goodIn_app (goodIn_of _ (by decide +kernel)) ggL_law_X4_meaning
