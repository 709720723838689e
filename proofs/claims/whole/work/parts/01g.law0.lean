set_option maxRecDepth 20000 in
theorem ggL_law_X4_init : GoodIn wsL_law wsX4_init := goodIn_r _ [8, 9, 10, 11, 12, 13, 14, 15, 16, 17, 18, 19, 20, 21, 22, 23, 24, 25, 26, 27, 28, 29, 30, 31, 32, 33, 34, 35, 36, 37, 38, 39, 40, 41, 42, 43, 44, 45, 46, 47, 48, 49, 50, 51, 52, 53, 54, 55, 56, 57, 58, 59, 60, 61, 62, 63, 64, 65, 66, 67, 68, 69, 838, 839, 840, 841, 842, 843, 844, 845, 846, 847, 827, 828, 829, 830, 848, 849, 850, 851, 852, 853] (by decide +kernel) (by decide +kernel)
set_option maxRecDepth 20000 in
theorem gL_law_X4_init : GoodIn wsL_law (wsX4_init) := ggL_law_X4_init
set_option maxRecDepth 20000 in
theorem ggL_law_X5_init : GoodIn wsL_law wsX5_init := goodIn_r _ [72, 73, 10, 11, 32, 74, 75, 76, 77, 78, 79, 80, 81, 5, 82, 831, 832, 833, 834, 835, 836, 837] (by decide +kernel) (by decide +kernel)
set_option maxRecDepth 20000 in
theorem gL_law_X5_init : GoodIn wsL_law (wsX5_init) := ggL_law_X5_init
set_option maxRecDepth 20000 in
theorem ggL_law_X4_grid : GoodIn wsL_law wsX4_grid := goodIn_r _ [86, 19, 15, 87, 88, 2, 89, 90, 91, 92, 18, 93, 58, 94, 95, 96, 97, 57, 56, 98, 99, 100, 14, 101, 33, 34, 35, 36, 37, 38, 45, 46, 39, 40, 102, 103, 104, 105, 106, 107, 108, 42, 43, 44, 47, 48, 49, 50, 109, 110, 111, 112, 113, 114, 115, 116, 117, 118, 119, 120, 827, 828, 829, 830, 848, 849, 850, 838, 839, 840, 841, 842, 843, 844, 845, 846, 847] (by decide +kernel) (by decide +kernel)
set_option maxRecDepth 20000 in
theorem gL_law_X4_grid : GoodIn wsL_law (wsV RL 13 RX4 yX4_grid wsX4_grid) := goodIn_app (goodIn_of _ (by decide +kernel)) ggL_law_X4_grid
set_option maxRecDepth 20000 in
theorem ggL_law_X5_grid : GoodIn wsL_law wsX5_grid := goodIn_r _ [124, 125, 126, 5, 127, 128, 129, 130, 131, 76, 74, 79, 80, 81, 82, 132, 133, 134, 135, 136, 137, 138, 139, 140, 141, 142, 143, 144, 75, 831, 832, 833, 834, 835, 836, 837] (by decide +kernel) (by decide +kernel)
set_option maxRecDepth 20000 in
theorem gL_law_X5_grid : GoodIn wsL_law (wsV RL 17 RX5 yX5_grid wsX5_grid) := goodIn_app (goodIn_of _ (by decide +kernel)) ggL_law_X5_grid
set_option maxRecDepth 20000 in
theorem ggL_law_X4_set : GoodIn wsL_law wsX4_set := goodIn_r _ [148, 19, 15, 87, 88, 2, 89, 90, 91, 92, 18, 93, 58, 94, 95, 96, 97, 57, 56, 98, 99, 100, 14, 101, 33, 34, 35, 36, 37, 38, 45, 46, 39, 40, 102, 103, 104, 105, 106, 107, 149, 150, 151, 152, 153, 154, 155, 156, 109, 110, 111, 112, 827, 828, 829, 830, 848, 849, 850, 838, 839, 840, 841, 842, 843, 844, 845, 846, 847] (by decide +kernel) (by decide +kernel)
set_option maxRecDepth 20000 in
theorem gL_law_X4_set : GoodIn wsL_law (wsV RL 18 RX4 yX4_set wsX4_set) := goodIn_app (goodIn_of _ (by decide +kernel)) ggL_law_X4_set
set_option maxRecDepth 20000 in
theorem ggL_law_X5_set : GoodIn wsL_law wsX5_set := goodIn_r _ [160, 74, 125, 126, 5, 127, 128, 129, 130, 131, 76, 140, 141, 142, 143, 144, 75, 831, 832, 833, 834, 835, 836, 837] (by decide +kernel) (by decide +kernel)
set_option maxRecDepth 20000 in
theorem gL_law_X5_set : GoodIn wsL_law (wsV RL 21 RX5 yX5_set wsX5_set) := goodIn_app (goodIn_of _ (by decide +kernel)) ggL_law_X5_set
set_option maxRecDepth 20000 in
theorem ggL_law_X4_show : GoodIn wsL_law wsX4_show := goodIn_r _ [164, 15, 19, 165, 166, 167, 14, 168, 169, 170, 171, 172, 173, 174, 175, 176, 45, 46, 88, 2, 89, 177, 178, 179, 87, 90, 91, 92, 18, 93, 58, 94, 95, 96, 97, 57, 56, 98, 99, 100, 101, 33, 34, 35, 36, 37, 38, 39, 40, 102, 103, 104, 105, 106, 107, 180, 181, 182, 183, 184, 185, 186, 187, 188, 189, 190, 191, 192, 193, 194, 195, 196, 197, 198, 199, 200, 201, 202, 203, 204, 205, 206, 207, 208, 209, 210, 211, 212, 117, 118, 119, 120, 213, 214, 215, 216, 217, 218, 219, 220, 221, 222, 223, 224, 225, 226, 227, 228, 229, 230, 231, 232, 233, 234, 235, 236, 237, 238, 239, 240, 241, 242, 243, 244, 245, 246, 247, 248, 249, 250, 251, 252, 253, 254, 255, 256, 257, 258, 259, 260, 261, 262, 263, 264, 265, 266, 109, 110, 111, 112, 827, 828, 829, 830, 838, 839, 840, 841, 842, 843, 844, 845, 846, 847, 848, 849, 850] (by decide +kernel) (by decide +kernel)
set_option maxRecDepth 20000 in
theorem gL_law_X4_show : GoodIn wsL_law (wsV RL 22 RX4 yX4_show wsX4_show) := goodIn_app (goodIn_of _ (by decide +kernel)) ggL_law_X4_show
set_option maxRecDepth 20000 in
theorem ggL_law_X5_show : GoodIn wsL_law wsX5_show := goodIn_r _ [270, 271, 272, 273, 5, 274, 275, 276, 277, 278, 279, 280, 281, 282, 74, 125, 126, 127, 128, 129, 130, 131, 76, 283, 284, 285, 286, 287, 288, 289, 290, 291, 292, 293, 294, 295, 296, 297, 298, 299, 300, 301, 302, 132, 133, 134, 135, 136, 137, 138, 139, 303, 304, 305, 306, 307, 308, 309, 310, 311, 312, 313, 314, 315, 316, 317, 318, 319, 320, 321, 322, 323, 324, 325, 326, 327, 328, 329, 330, 331, 332, 333, 334, 335, 336, 337, 338, 339, 340, 341, 342, 343, 344, 345, 346, 140, 141, 142, 143, 144, 75, 831, 832, 833, 834, 835, 836, 837] (by decide +kernel) (by decide +kernel)
set_option maxRecDepth 20000 in
theorem gL_law_X5_show : GoodIn wsL_law (wsV RL 26 RX5 yX5_show wsX5_show) := goodIn_app (goodIn_of _ (by decide +kernel)) ggL_law_X5_show
set_option maxRecDepth 20000 in
theorem ggL_law_X4_erase : GoodIn wsL_law wsX4_erase := goodIn_r _ [350, 15, 19, 165, 166, 167, 14, 168, 169, 170, 171, 172, 173, 174, 175, 176, 45, 46, 88, 2, 89, 351, 352, 353, 354, 33, 184, 185, 186, 217, 218, 90, 91, 92, 18, 93, 58, 94, 95, 96, 97, 57, 56, 98, 99, 100, 101, 34, 35, 36, 37, 38, 39, 40, 102, 103, 104, 105, 106, 107, 180, 181, 182, 183, 187, 188, 189, 190, 191, 192, 193, 194, 195, 196, 197, 198, 199, 200, 201, 202, 203, 204, 205, 206, 207, 208, 209, 210, 211, 212, 117, 118, 119, 120, 213, 214, 215, 216, 219, 220, 221, 222, 223, 224, 225, 226, 227, 228, 229, 230, 231, 232, 233, 234, 235, 236, 237, 238, 239, 240, 241, 242, 243, 244, 245, 246, 247, 248, 249, 250, 251, 252, 253, 254, 255, 256, 257, 258, 259, 260, 261, 262, 263, 264, 265, 266, 109, 110, 111, 112, 827, 828, 829, 830, 838, 839, 840, 841, 842, 843, 844, 845, 846, 847, 848, 849, 850] (by decide +kernel) (by decide +kernel)
set_option maxRecDepth 20000 in
theorem gL_law_X4_erase : GoodIn wsL_law (wsV RL 27 RX4 yX4_erase wsX4_erase) := goodIn_app (goodIn_of _ (by decide +kernel)) ggL_law_X4_erase
set_option maxRecDepth 20000 in
theorem ggL_law_X5_erase : GoodIn wsL_law wsX5_erase := goodIn_r _ [358, 271, 272, 273, 5, 274, 275, 276, 277, 278, 279, 280, 281, 282, 74, 125, 126, 127, 283, 284, 285, 286, 287, 288, 289, 290, 128, 129, 130, 131, 76, 291, 292, 293, 294, 295, 296, 297, 298, 299, 300, 301, 302, 132, 133, 134, 135, 136, 137, 138, 139, 303, 304, 305, 306, 307, 308, 309, 310, 311, 312, 313, 314, 315, 316, 317, 318, 319, 320, 321, 322, 323, 324, 325, 326, 327, 328, 329, 330, 331, 332, 333, 334, 335, 336, 337, 338, 339, 340, 341, 342, 343, 344, 345, 346, 140, 141, 142, 143, 144, 75, 831, 832, 833, 834, 835, 836, 837] (by decide +kernel) (by decide +kernel)
set_option maxRecDepth 20000 in
theorem gL_law_X5_erase : GoodIn wsL_law (wsV RL 31 RX5 yX5_erase wsX5_erase) := goodIn_app (goodIn_of _ (by decide +kernel)) ggL_law_X5_erase
set_option maxRecDepth 20000 in
theorem ggL_law_X4_mean : GoodIn wsL_law wsX4_mean := goodIn_r _ [362, 15, 19, 363, 170, 171, 14, 172, 173, 174, 175, 176, 45, 46, 177, 178, 2, 179, 87, 88, 89, 90, 91, 92, 18, 93, 58, 94, 95, 96, 97, 57, 56, 98, 99, 100, 101, 33, 34, 35, 36, 37, 38, 39, 40, 102, 103, 104, 105, 106, 107, 364, 365, 366, 367, 187, 188, 189, 190, 191, 192, 193, 194, 195, 196, 197, 198, 199, 200, 201, 202, 203, 204, 205, 206, 207, 208, 209, 210, 211, 212, 117, 118, 119, 120, 213, 214, 215, 216, 217, 218, 219, 220, 221, 222, 223, 224, 225, 226, 227, 228, 229, 230, 231, 232, 233, 234, 235, 236, 237, 238, 184, 185, 186, 239, 240, 241, 242, 243, 244, 245, 246, 247, 248, 249, 250, 251, 252, 253, 254, 255, 256, 257, 258, 259, 260, 261, 262, 263, 264, 265, 266, 109, 110, 111, 112, 827, 828, 829, 830, 838, 839, 840, 841, 842, 843, 844, 845, 846, 847, 848, 849, 850] (by decide +kernel) (by decide +kernel)
set_option maxRecDepth 20000 in
theorem gL_law_X4_mean : GoodIn wsL_law (wsV RL 32 RX4 yX4_mean wsX4_mean) := goodIn_app (goodIn_of _ (by decide +kernel)) ggL_law_X4_mean
set_option maxRecDepth 20000 in
theorem ggL_law_X5_mean : GoodIn wsL_law wsX5_mean := goodIn_r _ [371, 275, 276, 277, 5, 278, 279, 280, 281, 282, 74, 125, 126, 127, 128, 129, 130, 131, 76, 287, 288, 289, 290, 291, 292, 293, 294, 295, 296, 297, 298, 299, 300, 301, 302, 132, 133, 134, 135, 136, 137, 138, 139, 303, 304, 305, 306, 307, 308, 309, 310, 311, 312, 313, 314, 315, 316, 317, 318, 319, 320, 321, 322, 323, 324, 325, 326, 327, 328, 329, 330, 283, 284, 285, 286, 331, 332, 333, 334, 335, 336, 337, 338, 339, 340, 341, 342, 343, 344, 345, 346, 140, 141, 142, 143, 144, 75, 831, 832, 833, 834, 835, 836, 837] (by decide +kernel) (by decide +kernel)
set_option maxRecDepth 20000 in
theorem gL_law_X5_mean : GoodIn wsL_law (wsV RL 35 RX5 yX5_mean wsX5_mean) := goodIn_app (goodIn_of _ (by decide +kernel)) ggL_law_X5_mean
set_option maxRecDepth 20000 in
theorem ggL_law_X4_sign : GoodIn wsL_law wsX4_sign := goodIn_r _ [375, 15, 165, 166, 167, 14, 168, 169, 170, 171, 172, 173, 174, 175, 176, 45, 46, 88, 2, 89, 351, 352, 353, 354, 33, 184, 185, 186, 217, 218, 827, 828, 829, 830, 838, 839, 840, 841, 842, 843, 844, 845, 846, 847] (by decide +kernel) (by decide +kernel)
set_option maxRecDepth 20000 in
theorem gL_law_X4_sign : GoodIn wsL_law (wsV RL 36 RX4 yX4_sign wsX4_sign) := goodIn_app (goodIn_of _ (by decide +kernel)) ggL_law_X4_sign
set_option maxRecDepth 20000 in
theorem ggL_law_X5_sign : GoodIn wsL_law wsX5_sign := goodIn_r _ [379, 271, 272, 273, 5, 274, 275, 276, 277, 278, 279, 280, 281, 282, 74, 125, 126, 127, 283, 284, 285, 286, 287, 288, 289, 290, 831, 832, 833, 834, 835, 836, 837] (by decide +kernel) (by decide +kernel)
set_option maxRecDepth 20000 in
theorem gL_law_X5_sign : GoodIn wsL_law (wsV RL 39 RX5 yX5_sign wsX5_sign) := goodIn_app (goodIn_of _ (by decide +kernel)) ggL_law_X5_sign
set_option maxRecDepth 20000 in
theorem ggL_law_X4_meaning : GoodIn wsL_law wsX4_meaning := goodIn_r _ [383, 15, 363, 170, 171, 14, 172, 173, 174, 175, 176, 45, 46, 177, 178, 2, 179, 87, 88, 89, 384, 385, 386, 387, 34, 217, 218, 827, 828, 829, 830, 838, 839, 840, 841, 842, 843, 844, 845, 846, 847] (by decide +kernel) (by decide +kernel)
set_option maxRecDepth 20000 in
theorem gL_law_X4_meaning : GoodIn wsL_law (wsV RL 40 RX4 yX4_meaning wsX4_meaning) := goodIn_app (goodIn_of _ (by decide +kernel)) ggL_law_X4_meaning
set_option maxRecDepth 20000 in
theorem ggL_law_X5_meaning : GoodIn wsL_law wsX5_meaning := goodIn_r _ [391, 275, 276, 277, 5, 278, 279, 280, 281, 282, 74, 125, 126, 127, 287, 288, 289, 290, 831, 832, 833, 834, 835, 836, 837] (by decide +kernel) (by decide +kernel)
set_option maxRecDepth 20000 in
theorem gL_law_X5_meaning : GoodIn wsL_law (wsV RL 43 RX5 yX5_meaning wsX5_meaning) := goodIn_app (goodIn_of _ (by decide +kernel)) ggL_law_X5_meaning
set_option maxRecDepth 20000 in
theorem ggL_law_X4_sheet : GoodIn wsL_law wsX4_sheet := goodIn_r _ [395, 15, 23, 363, 170, 171, 14, 172, 173, 174, 175, 176, 45, 46, 396, 206, 207, 208, 397, 210, 211, 212, 398, 399, 400, 401, 201, 202, 203, 204, 205, 209, 117, 118, 119, 120, 402, 403, 404, 405, 213, 214, 215, 216, 38, 217, 2, 218, 406, 264, 265, 266, 35, 407, 408, 409, 410, 411, 412, 413, 414, 36, 415, 416, 417, 418, 419, 420, 263, 421, 422, 423, 424, 37, 425, 426, 427, 428, 429, 352, 353, 354, 33, 184, 185, 186, 430, 431, 432, 22, 433, 63, 434, 435, 436, 437, 438, 439, 440, 441, 114, 115, 116, 442, 443, 444, 228, 229, 230, 445, 446, 447, 448, 449, 240, 241, 242, 227, 450, 451, 452, 453, 454, 827, 828, 829, 830, 838, 839, 840, 841, 842, 843, 844, 845, 846, 847, 851] (by decide +kernel) (by decide +kernel)
set_option maxRecDepth 20000 in
theorem gL_law_X4_sheet : GoodIn wsL_law (wsV RL 44 RX4 yX4_sheet wsX4_sheet) := goodIn_app (goodIn_of _ (by decide +kernel)) ggL_law_X4_sheet
set_option maxRecDepth 20000 in
theorem ggL_law_X5_sheet : GoodIn wsL_law wsX5_sheet := goodIn_r _ [458, 74, 275, 276, 277, 5, 278, 279, 280, 281, 282, 125, 126, 127, 459, 460, 461, 462, 463, 464, 465, 466, 136, 137, 138, 139, 303, 304, 305, 306, 467, 468, 469, 470, 287, 288, 289, 290, 471, 472, 473, 474, 475, 476, 477, 478, 78, 479, 480, 481, 482, 132, 133, 134, 135, 319, 320, 321, 322, 335, 336, 337, 338, 831, 832, 833, 834, 835, 836, 837] (by decide +kernel) (by decide +kernel)
set_option maxRecDepth 20000 in
theorem gL_law_X5_sheet : GoodIn wsL_law (wsV RL 47 RX5 yX5_sheet wsX5_sheet) := goodIn_app (goodIn_of _ (by decide +kernel)) ggL_law_X5_sheet
set_option maxRecDepth 20000 in
theorem ggL_law_X4_count : GoodIn wsL_law wsX4_count := goodIn_r _ [486, 15, 23, 19, 27, 487, 488, 489, 14, 490, 45, 491, 492, 493, 494, 46, 495, 174, 175, 176, 113, 114, 115, 116, 117, 118, 119, 120, 496, 497, 498, 499, 500, 213, 214, 215, 216, 38, 217, 2, 218, 501, 502, 503, 504, 219, 220, 221, 222, 223, 224, 225, 226, 227, 228, 229, 230, 231, 232, 233, 234, 235, 236, 237, 238, 33, 34, 184, 185, 186, 239, 240, 241, 242, 243, 244, 245, 246, 505, 506, 507, 508, 430, 431, 432, 22, 433, 63, 434, 435, 436, 437, 438, 439, 440, 441, 442, 443, 444, 445, 446, 447, 448, 449, 450, 451, 452, 453, 509, 510, 511, 512, 173, 420, 408, 409, 410, 411, 412, 413, 414, 36, 513, 514, 515, 516, 517, 417, 418, 419, 263, 264, 265, 266, 35, 518, 519, 520, 521, 522, 523, 524, 525, 40, 526, 527, 528, 529, 530, 531, 532, 533, 534, 535, 536, 422, 423, 424, 37, 537, 538, 539, 18, 540, 58, 541, 542, 543, 26, 544, 69, 193, 194, 195, 196, 39, 545, 546, 547, 548, 827, 828, 829, 830, 838, 839, 840, 841, 842, 843, 844, 845, 846, 847, 851, 848, 849, 850, 852, 853] (by decide +kernel) (by decide +kernel)
set_option maxRecDepth 20000 in
theorem gL_law_X4_count : GoodIn wsL_law (wsV RL 48 RX4 yX4_count wsX4_count) := goodIn_app (goodIn_of _ (by decide +kernel)) ggL_law_X4_count
set_option maxRecDepth 20000 in
theorem ggL_law_X5_count : GoodIn wsL_law wsX5_count := goodIn_r _ [552, 74, 144, 553, 279, 280, 281, 5, 282, 132, 133, 134, 135, 136, 137, 138, 139, 554, 555, 556, 557, 307, 308, 309, 310, 311, 312, 313, 314, 315, 316, 317, 318, 319, 320, 321, 322, 323, 324, 325, 326, 327, 328, 329, 330, 283, 284, 285, 286, 287, 288, 289, 290, 331, 332, 333, 334, 335, 336, 337, 338, 303, 304, 305, 306, 558, 559, 560, 561, 562, 563, 564, 565, 566, 567, 568, 569, 570, 571, 572, 573, 574, 575, 78, 479, 480, 481, 482, 576, 577, 578, 579, 467, 468, 469, 470, 831, 832, 833, 834, 835, 836, 837] (by decide +kernel) (by decide +kernel)
set_option maxRecDepth 20000 in
theorem gL_law_X5_count : GoodIn wsL_law (wsV RL 52 RX5 yX5_count wsX5_count) := goodIn_app (goodIn_of _ (by decide +kernel)) ggL_law_X5_count
set_option maxRecDepth 20000 in
theorem ggL_law_X4_undo : GoodIn wsL_law wsX4_undo := goodIn_r _ [583, 19, 15, 537, 538, 539, 18, 540, 58, 584, 585, 586, 587, 588, 248, 249, 250, 94, 95, 96, 97, 57, 56, 98, 99, 100, 14, 101, 33, 34, 35, 36, 37, 38, 45, 46, 39, 40, 102, 2, 103, 104, 105, 106, 107, 827, 828, 829, 830, 848, 849, 850, 838, 839, 840, 841, 842, 843, 844, 845, 846, 847] (by decide +kernel) (by decide +kernel)
set_option maxRecDepth 20000 in
theorem gL_law_X4_undo : GoodIn wsL_law (wsV RL 53 RX4 yX4_undo wsX4_undo) := goodIn_app (goodIn_of _ (by decide +kernel)) ggL_law_X4_undo
set_option maxRecDepth 20000 in
theorem ggL_law_X5_undo : GoodIn wsL_law wsX5_undo := goodIn_r _ [592, 144, 74, 75, 831, 832, 833, 834, 835, 836, 837] (by decide +kernel) (by decide +kernel)
set_option maxRecDepth 20000 in
theorem gL_law_X5_undo : GoodIn wsL_law (wsV RL 57 RX5 yX5_undo wsX5_undo) := goodIn_app (goodIn_of _ (by decide +kernel)) ggL_law_X5_undo
set_option maxRecDepth 20000 in
theorem ggL_law_X4_edge : GoodIn wsL_law wsX4_edge := goodIn_r _ [596, 15, 597, 598, 599, 14, 600, 500, 114, 115, 116, 45, 46, 117, 118, 119, 120, 601, 228, 229, 230, 602, 240, 241, 242, 227, 603, 232, 233, 234, 604, 214, 215, 216, 38, 217, 2, 218, 605, 220, 221, 222, 223, 224, 225, 226, 231, 235, 236, 237, 238, 33, 34, 184, 185, 186, 239, 243, 244, 245, 246, 606, 607, 608, 609, 429, 352, 353, 354, 610, 523, 524, 525, 40, 526, 527, 528, 529, 530, 531, 532, 533, 534, 535, 536, 422, 423, 424, 37, 827, 828, 829, 830, 838, 839, 840, 841, 842, 843, 844, 845, 846, 847] (by decide +kernel) (by decide +kernel)
set_option maxRecDepth 20000 in
theorem gL_law_X4_edge : GoodIn wsL_law (wsV RL 58 RX4 yX4_edge wsX4_edge) := goodIn_app (goodIn_of _ (by decide +kernel)) ggL_law_X4_edge
set_option maxRecDepth 20000 in
theorem ggL_law_X5_edge : GoodIn wsL_law wsX5_edge := goodIn_r _ [614, 74, 615, 616, 617, 5, 618, 132, 133, 134, 135, 136, 137, 138, 139, 125, 126, 127, 319, 320, 321, 322, 335, 336, 337, 338, 323, 324, 325, 326, 307, 308, 309, 310, 311, 312, 313, 314, 315, 316, 317, 318, 327, 328, 329, 330, 283, 284, 285, 286, 287, 288, 289, 290, 331, 332, 333, 334, 619, 620, 621, 622, 558, 559, 560, 561, 562, 563, 564, 565, 566, 567, 568, 569, 570, 571, 831, 832, 833, 834, 835, 836, 837] (by decide +kernel) (by decide +kernel)
set_option maxRecDepth 20000 in
theorem gL_law_X5_edge : GoodIn wsL_law (wsV RL 61 RX5 yX5_edge wsX5_edge) := goodIn_app (goodIn_of _ (by decide +kernel)) ggL_law_X5_edge
set_option maxRecDepth 20000 in
theorem ggL_law_X4_edgeAt : GoodIn wsL_law wsX4_edgeAt := goodIn_r _ [626, 15, 363, 170, 171, 14, 172, 173, 174, 175, 176, 45, 46, 87, 88, 2, 89, 627, 202, 203, 204, 205, 206, 207, 208, 209, 210, 211, 212, 117, 118, 119, 120, 827, 828, 829, 830, 838, 839, 840, 841, 842, 843, 844, 845, 846, 847] (by decide +kernel) (by decide +kernel)
set_option maxRecDepth 20000 in
theorem gL_law_X4_edgeAt : GoodIn wsL_law (wsV RL 62 RX4 yX4_edgeAt wsX4_edgeAt) := goodIn_app (goodIn_of _ (by decide +kernel)) ggL_law_X4_edgeAt
set_option maxRecDepth 20000 in
theorem ggL_law_X5_edgeAt : GoodIn wsL_law wsX5_edgeAt := goodIn_r _ [631, 275, 276, 277, 5, 278, 279, 280, 281, 282, 74, 125, 126, 127, 463, 464, 465, 466, 136, 137, 138, 139, 831, 832, 833, 834, 835, 836, 837] (by decide +kernel) (by decide +kernel)
set_option maxRecDepth 20000 in
theorem gL_law_X5_edgeAt : GoodIn wsL_law (wsV RL 65 RX5 yX5_edgeAt wsX5_edgeAt) := goodIn_app (goodIn_of _ (by decide +kernel)) ggL_law_X5_edgeAt
set_option maxRecDepth 20000 in
theorem ggL_law_X4_quarrel : GoodIn wsL_law wsX4_quarrel := goodIn_r _ [635, 15, 597, 598, 599, 14, 600, 500, 114, 115, 116, 45, 46, 117, 118, 119, 120, 87, 88, 2, 89, 636, 637, 638, 639, 223, 224, 225, 226, 227, 228, 229, 230, 231, 232, 233, 234, 235, 236, 237, 238, 33, 34, 184, 185, 186, 217, 218, 239, 240, 241, 242, 243, 244, 245, 246, 640, 601, 603, 641, 602, 642, 827, 828, 829, 830, 838, 839, 840, 841, 842, 843, 844, 845, 846, 847] (by decide +kernel) (by decide +kernel)
set_option maxRecDepth 20000 in
theorem gL_law_X4_quarrel : GoodIn wsL_law (wsV RL 66 RX4 yX4_quarrel wsX4_quarrel) := goodIn_app (goodIn_of _ (by decide +kernel)) ggL_law_X4_quarrel
set_option maxRecDepth 20000 in
theorem ggL_law_X5_quarrel : GoodIn wsL_law wsX5_quarrel := goodIn_r _ [646, 615, 616, 617, 5, 618, 132, 133, 134, 135, 74, 136, 137, 138, 139, 125, 126, 127, 311, 312, 313, 314, 315, 316, 317, 318, 319, 320, 321, 322, 323, 324, 325, 326, 327, 328, 329, 330, 283, 284, 285, 286, 287, 288, 289, 290, 331, 332, 333, 334, 335, 336, 337, 338, 647, 648, 649, 650, 831, 832, 833, 834, 835, 836, 837] (by decide +kernel) (by decide +kernel)
set_option maxRecDepth 20000 in
theorem gL_law_X5_quarrel : GoodIn wsL_law (wsV RL 69 RX5 yX5_quarrel wsX5_quarrel) := goodIn_app (goodIn_of _ (by decide +kernel)) ggL_law_X5_quarrel
set_option maxRecDepth 20000 in
theorem ggL_law_X4_agree : GoodIn wsL_law wsX4_agree := goodIn_r _ [654, 15, 19, 597, 598, 599, 14, 600, 500, 114, 115, 116, 45, 46, 117, 118, 119, 120, 605, 220, 221, 222, 223, 224, 225, 226, 227, 228, 229, 230, 231, 232, 233, 234, 235, 236, 237, 238, 33, 34, 184, 185, 186, 217, 2, 218, 239, 240, 241, 242, 243, 244, 245, 246, 90, 91, 92, 18, 93, 58, 94, 95, 96, 97, 57, 56, 98, 99, 100, 101, 35, 36, 37, 38, 39, 40, 102, 103, 104, 105, 106, 107, 655, 256, 257, 258, 187, 188, 109, 110, 111, 112, 827, 828, 829, 830, 838, 839, 840, 841, 842, 843, 844, 845, 846, 847, 848, 849, 850] (by decide +kernel) (by decide +kernel)
set_option maxRecDepth 20000 in
theorem gL_law_X4_agree : GoodIn wsL_law (wsV RL 70 RX4 yX4_agree wsX4_agree) := goodIn_app (goodIn_of _ (by decide +kernel)) ggL_law_X4_agree
set_option maxRecDepth 20000 in
theorem ggL_law_X5_agree : GoodIn wsL_law wsX5_agree := goodIn_r _ [659, 74, 615, 616, 617, 5, 618, 132, 133, 134, 135, 136, 137, 138, 139, 307, 308, 309, 310, 311, 312, 313, 314, 315, 316, 317, 318, 319, 320, 321, 322, 323, 324, 325, 326, 327, 328, 329, 330, 283, 284, 285, 286, 287, 288, 289, 290, 331, 332, 333, 334, 335, 336, 337, 338, 128, 129, 130, 131, 76, 140, 141, 142, 143, 144, 75, 831, 832, 833, 834, 835, 836, 837] (by decide +kernel) (by decide +kernel)
set_option maxRecDepth 20000 in
theorem gL_law_X5_agree : GoodIn wsL_law (wsV RL 73 RX5 yX5_agree wsX5_agree) := goodIn_app (goodIn_of _ (by decide +kernel)) ggL_law_X5_agree
set_option maxRecDepth 20000 in
theorem ggL_law_X4_release : GoodIn wsL_law wsX4_release := goodIn_r _ [663, 15, 19, 23, 597, 598, 599, 14, 600, 500, 114, 115, 116, 45, 46, 117, 118, 119, 120, 604, 214, 215, 216, 38, 217, 2, 218, 90, 91, 92, 18, 93, 58, 94, 95, 96, 97, 57, 56, 98, 99, 100, 101, 33, 34, 35, 36, 37, 39, 40, 102, 103, 104, 105, 106, 107, 655, 256, 257, 258, 187, 188, 109, 110, 111, 112, 430, 431, 432, 22, 433, 63, 434, 435, 436, 437, 438, 439, 440, 441, 442, 174, 175, 176, 443, 444, 228, 229, 230, 445, 446, 447, 448, 449, 240, 241, 242, 227, 450, 451, 452, 453, 827, 828, 829, 830, 838, 839, 840, 841, 842, 843, 844, 845, 846, 847, 848, 849, 850, 851] (by decide +kernel) (by decide +kernel)
set_option maxRecDepth 20000 in
theorem gL_law_X4_release : GoodIn wsL_law (wsV RL 74 RX4 yX4_release wsX4_release) := goodIn_app (goodIn_of _ (by decide +kernel)) ggL_law_X4_release
set_option maxRecDepth 20000 in
theorem ggL_law_X5_release : GoodIn wsL_law wsX5_release := goodIn_r _ [667, 74, 615, 616, 617, 5, 618, 132, 133, 134, 135, 136, 137, 138, 139, 303, 304, 305, 306, 128, 129, 130, 131, 76, 572, 573, 574, 575, 78, 479, 480, 481, 482, 279, 280, 281, 282, 319, 320, 321, 322, 335, 336, 337, 338, 140, 141, 142, 143, 144, 75, 831, 832, 833, 834, 835, 836, 837] (by decide +kernel) (by decide +kernel)
set_option maxRecDepth 20000 in
theorem gL_law_X5_release : GoodIn wsL_law (wsV RL 77 RX5 yX5_release wsX5_release) := goodIn_app (goodIn_of _ (by decide +kernel)) ggL_law_X5_release
set_option maxRecDepth 20000 in
theorem ggL_law_X4_settle : GoodIn wsL_law wsX4_settle := goodIn_r _ [671, 15, 19, 597, 598, 599, 14, 600, 500, 114, 115, 116, 45, 46, 117, 118, 119, 120, 601, 228, 229, 230, 602, 240, 241, 242, 227, 90, 91, 92, 18, 93, 58, 94, 95, 96, 97, 57, 56, 98, 99, 100, 101, 33, 34, 35, 36, 37, 38, 39, 40, 102, 2, 103, 104, 105, 106, 107, 672, 673, 674, 675, 231, 232, 233, 234, 243, 244, 245, 246, 239, 235, 236, 237, 238, 184, 185, 186, 217, 218, 676, 677, 678, 679, 680, 385, 386, 387, 681, 181, 182, 183, 187, 188, 682, 260, 261, 262, 263, 264, 265, 266, 247, 248, 249, 250, 109, 110, 111, 112, 827, 828, 829, 830, 838, 839, 840, 841, 842, 843, 844, 845, 846, 847, 848, 849, 850] (by decide +kernel) (by decide +kernel)
set_option maxRecDepth 20000 in
theorem gL_law_X4_settle : GoodIn wsL_law (wsV RL 78 RX4 yX4_settle wsX4_settle) := goodIn_app (goodIn_of _ (by decide +kernel)) ggL_law_X4_settle
set_option maxRecDepth 20000 in
theorem ggL_law_X5_settle : GoodIn wsL_law wsX5_settle := goodIn_r _ [686, 615, 616, 617, 5, 618, 132, 133, 134, 135, 74, 136, 137, 138, 139, 319, 320, 321, 322, 335, 336, 337, 338, 128, 129, 130, 131, 76, 323, 324, 325, 326, 283, 284, 285, 286, 287, 288, 289, 290, 315, 316, 317, 318, 327, 328, 329, 330, 331, 332, 333, 334, 687, 688, 689, 690, 339, 340, 341, 342, 291, 292, 293, 294, 343, 344, 345, 346, 140, 141, 142, 143, 144, 75, 831, 832, 833, 834, 835, 836, 837] (by decide +kernel) (by decide +kernel)
set_option maxRecDepth 20000 in
theorem gL_law_X5_settle : GoodIn wsL_law (wsV RL 81 RX5 yX5_settle wsX5_settle) := goodIn_app (goodIn_of _ (by decide +kernel)) ggL_law_X5_settle
set_option maxRecDepth 20000 in
theorem ggL_law_X4_ratio : GoodIn wsL_law wsX4_ratio := goodIn_r _ [694, 15, 597, 598, 599, 14, 600, 500, 114, 115, 116, 45, 46, 117, 118, 119, 120, 695, 528, 529, 530, 239, 240, 241, 242, 227, 228, 229, 230, 531, 532, 533, 534, 535, 536, 422, 423, 424, 37, 217, 2, 218, 696, 697, 698, 699, 827, 828, 829, 830, 838, 839, 840, 841, 842, 843, 844, 845, 846, 847] (by decide +kernel) (by decide +kernel)
set_option maxRecDepth 20000 in
theorem gL_law_X4_ratio : GoodIn wsL_law (wsV RL 82 RX4 yX4_ratio wsX4_ratio) := goodIn_app (goodIn_of _ (by decide +kernel)) ggL_law_X4_ratio
set_option maxRecDepth 20000 in
theorem ggL_law_X5_ratio : GoodIn wsL_law wsX5_ratio := goodIn_r _ [703, 615, 616, 617, 5, 618, 132, 133, 134, 135, 74, 136, 137, 138, 139, 563, 564, 565, 566, 319, 320, 321, 322, 567, 568, 569, 570, 571, 287, 288, 289, 290, 335, 336, 337, 338, 704, 705, 706, 707, 708, 709, 710, 711, 712, 713, 714, 715, 831, 832, 833, 834, 835, 836, 837] (by decide +kernel) (by decide +kernel)
set_option maxRecDepth 20000 in
theorem gL_law_X5_ratio : GoodIn wsL_law (wsV RL 85 RX5 yX5_ratio wsX5_ratio) := goodIn_app (goodIn_of _ (by decide +kernel)) ggL_law_X5_ratio
set_option maxRecDepth 20000 in
theorem ggL_law_X4_publish : GoodIn wsL_law wsX4_publish := goodIn_r _ [719, 15, 19, 363, 170, 171, 14, 172, 173, 174, 175, 176, 45, 46, 402, 403, 404, 405, 201, 202, 203, 204, 205, 206, 207, 208, 209, 210, 211, 212, 117, 118, 119, 120, 213, 214, 215, 216, 38, 217, 2, 218, 398, 399, 400, 401, 90, 91, 92, 18, 93, 58, 94, 95, 96, 97, 57, 56, 98, 99, 100, 101, 33, 34, 35, 36, 37, 39, 40, 102, 103, 104, 105, 106, 107, 720, 721, 722, 723, 263, 264, 265, 266, 187, 188, 109, 110, 111, 112, 406, 827, 828, 829, 830, 838, 839, 840, 841, 842, 843, 844, 845, 846, 847, 848, 849, 850] (by decide +kernel) (by decide +kernel)
set_option maxRecDepth 20000 in
theorem gL_law_X4_publish : GoodIn wsL_law (wsV RL 86 RX4 yX4_publish wsX4_publish) := goodIn_app (goodIn_of _ (by decide +kernel)) ggL_law_X4_publish
set_option maxRecDepth 20000 in
theorem ggL_law_X5_publish : GoodIn wsL_law wsX5_publish := goodIn_r _ [727, 275, 276, 277, 5, 278, 279, 280, 281, 282, 74, 459, 460, 461, 462, 463, 464, 465, 466, 136, 137, 138, 139, 303, 304, 305, 306, 128, 129, 130, 131, 76, 287, 288, 289, 290, 291, 292, 293, 294, 140, 141, 142, 143, 144, 75, 831, 832, 833, 834, 835, 836, 837] (by decide +kernel) (by decide +kernel)
set_option maxRecDepth 20000 in
theorem gL_law_X5_publish : GoodIn wsL_law (wsV RL 89 RX5 yX5_publish wsX5_publish) := goodIn_app (goodIn_of _ (by decide +kernel)) ggL_law_X5_publish
set_option maxRecDepth 20000 in
theorem ggL_law_X4_scale : GoodIn wsL_law wsX4_scale := goodIn_r _ [731, 15, 732, 19, 363, 170, 171, 14, 172, 173, 174, 175, 176, 45, 46, 87, 88, 2, 89, 90, 91, 92, 18, 93, 58, 94, 95, 96, 97, 57, 56, 98, 99, 100, 101, 33, 34, 35, 36, 37, 38, 39, 40, 102, 103, 104, 105, 106, 107, 733, 734, 735, 736, 187, 188, 109, 110, 111, 112, 827, 828, 829, 830, 838, 839, 840, 841, 842, 843, 844, 845, 846, 847, 848, 849, 850] (by decide +kernel) (by decide +kernel)
set_option maxRecDepth 20000 in
theorem gL_law_X4_scale : GoodIn wsL_law (wsV RL 90 RX4 yX4_scale wsX4_scale) := goodIn_app (goodIn_of _ (by decide +kernel)) ggL_law_X4_scale
set_option maxRecDepth 20000 in
theorem ggL_law_X5_scale : GoodIn wsL_law wsX5_scale := goodIn_r _ [740, 741, 275, 276, 277, 5, 278, 279, 280, 281, 282, 74, 125, 126, 127, 128, 129, 130, 131, 76, 287, 288, 289, 290, 291, 292, 293, 294, 140, 141, 142, 143, 144, 75, 831, 832, 833, 834, 835, 836, 837] (by decide +kernel) (by decide +kernel)
set_option maxRecDepth 20000 in
theorem gL_law_X5_scale : GoodIn wsL_law (wsV RL 93 RX5 yX5_scale wsX5_scale) := goodIn_app (goodIn_of _ (by decide +kernel)) ggL_law_X5_scale
set_option maxRecDepth 20000 in
theorem ggL_law_X4_stretched : GoodIn wsL_law wsX4_stretched := goodIn_r _ [745, 15, 746, 363, 170, 171, 14, 172, 173, 174, 175, 176, 45, 46, 87, 88, 2, 89, 747, 532, 533, 534, 535, 536, 422, 423, 424, 37, 217, 218, 827, 828, 829, 830, 838, 839, 840, 841, 842, 843, 844, 845, 846, 847] (by decide +kernel) (by decide +kernel)
set_option maxRecDepth 20000 in
theorem gL_law_X4_stretched : GoodIn wsL_law (wsV RL 94 RX4 yX4_stretched wsX4_stretched) := goodIn_app (goodIn_of _ (by decide +kernel)) ggL_law_X4_stretched
set_option maxRecDepth 20000 in
theorem ggL_law_X5_stretched : GoodIn wsL_law wsX5_stretched := goodIn_r _ [751, 752, 275, 276, 277, 5, 278, 279, 280, 281, 282, 74, 125, 126, 127, 567, 568, 569, 570, 571, 287, 288, 289, 290, 831, 832, 833, 834, 835, 836, 837] (by decide +kernel) (by decide +kernel)
set_option maxRecDepth 20000 in
theorem gL_law_X5_stretched : GoodIn wsL_law (wsV RL 97 RX5 yX5_stretched wsX5_stretched) := goodIn_app (goodIn_of _ (by decide +kernel)) ggL_law_X5_stretched
set_option maxRecDepth 20000 in
theorem ggL_law_X4_type : GoodIn wsL_law wsX4_type := goodIn_r _ [756, 27, 87, 88, 2, 89, 541, 542, 543, 26, 544, 69, 757, 758, 759, 760, 68, 827, 828, 829, 830, 852, 853] (by decide +kernel) (by decide +kernel)
set_option maxRecDepth 20000 in
theorem gL_law_X4_type : GoodIn wsL_law (wsV RL 98 RX4 yX4_type wsX4_type) := goodIn_app (goodIn_of _ (by decide +kernel)) ggL_law_X4_type
set_option maxRecDepth 20000 in
theorem ggL_law_X5_type : GoodIn wsL_law wsX5_type := goodIn_r _ [764, 553, 77, 125, 126, 5, 127, 831, 832, 833, 834, 835, 836, 837] (by decide +kernel) (by decide +kernel)
set_option maxRecDepth 20000 in
theorem gL_law_X5_type : GoodIn wsL_law (wsV RL 101 RX5 yX5_type wsX5_type) := goodIn_app (goodIn_of _ (by decide +kernel)) ggL_law_X5_type
set_option maxRecDepth 20000 in
theorem ggL_law_X4_clearText : GoodIn wsL_law wsX4_clearText := goodIn_r _ [768, 27, 541, 542, 543, 26, 544, 69, 769, 770, 771, 772, 827, 828, 829, 830, 852, 853] (by decide +kernel) (by decide +kernel)
set_option maxRecDepth 20000 in
theorem gL_law_X4_clearText : GoodIn wsL_law (wsV RL 102 RX4 yX4_clearText wsX4_clearText) := goodIn_app (goodIn_of _ (by decide +kernel)) ggL_law_X4_clearText
set_option maxRecDepth 20000 in
theorem ggL_law_X5_clearText : GoodIn wsL_law wsX5_clearText := goodIn_r _ [776, 553, 831, 832, 833, 834, 835, 836, 837] (by decide +kernel) (by decide +kernel)
set_option maxRecDepth 20000 in
theorem gL_law_X5_clearText : GoodIn wsL_law (wsV RL 105 RX5 yX5_clearText wsX5_clearText) := goodIn_app (goodIn_of _ (by decide +kernel)) ggL_law_X5_clearText
set_option maxRecDepth 20000 in
theorem ggL_law_X4_fault : GoodIn wsL_law wsX4_fault := goodIn_r _ [780, 27, 781, 782, 783, 26, 784, 69, 68, 785, 786, 787, 788, 789, 790, 178, 2, 179, 87, 88, 89, 827, 828, 829, 830, 852, 853] (by decide +kernel) (by decide +kernel)
set_option maxRecDepth 20000 in
theorem gL_law_X4_fault : GoodIn wsL_law (wsV RL 106 RX4 yX4_fault wsX4_fault) := goodIn_app (goodIn_of _ (by decide +kernel)) ggL_law_X4_fault
set_option maxRecDepth 20000 in
theorem ggL_law_X5_fault : GoodIn wsL_law wsX5_fault := goodIn_r _ [794, 795, 796, 797, 5, 798, 553, 799, 800, 801, 802, 77, 803, 804, 805, 806, 807, 808, 809, 125, 126, 127, 810, 811, 812, 813, 831, 832, 833, 834, 835, 836, 837] (by decide +kernel) (by decide +kernel)
set_option maxRecDepth 20000 in
theorem gL_law_X5_fault : GoodIn wsL_law (wsV RL 109 RX5 yX5_fault wsX5_fault) := goodIn_app (goodIn_of _ (by decide +kernel)) ggL_law_X5_fault
set_option maxRecDepth 20000 in
theorem ggL_law_X4_read : GoodIn wsL_law wsX4_read := goodIn_r _ [817, 15, 27, 19, 363, 170, 171, 14, 172, 173, 174, 175, 176, 45, 46, 781, 782, 783, 26, 784, 69, 68, 785, 786, 787, 788, 789, 790, 178, 2, 179, 87, 88, 89, 90, 91, 92, 18, 93, 58, 94, 95, 96, 97, 57, 56, 98, 99, 100, 101, 33, 34, 35, 36, 37, 38, 39, 40, 102, 103, 104, 105, 106, 107, 818, 819, 820, 821, 822, 181, 182, 183, 184, 185, 186, 187, 188, 109, 110, 111, 112, 189, 190, 191, 192, 193, 194, 195, 196, 197, 198, 199, 200, 201, 202, 203, 204, 205, 206, 207, 208, 209, 210, 211, 212, 117, 118, 119, 120, 213, 214, 215, 216, 217, 218, 219, 220, 221, 222, 223, 224, 225, 226, 227, 228, 229, 230, 231, 232, 233, 234, 235, 236, 237, 238, 239, 240, 241, 242, 243, 244, 245, 246, 247, 248, 249, 250, 251, 252, 253, 254, 255, 256, 257, 258, 259, 260, 261, 262, 263, 264, 265, 266, 827, 828, 829, 830, 838, 839, 840, 841, 842, 843, 844, 845, 846, 847, 852, 853, 848, 849, 850] (by decide +kernel) (by decide +kernel)
set_option maxRecDepth 20000 in
theorem gL_law_X4_read : GoodIn wsL_law (wsV RL 110 RX4 yX4_read wsX4_read) := goodIn_app (goodIn_of _ (by decide +kernel)) ggL_law_X4_read
set_option maxRecDepth 20000 in
theorem ggL_law_X5_read : GoodIn wsL_law wsX5_read := goodIn_r _ [826, 553, 77, 275, 276, 277, 5, 278, 279, 280, 281, 282, 74, 795, 796, 797, 798, 799, 800, 801, 802, 803, 804, 805, 806, 807, 808, 809, 125, 126, 127, 810, 811, 812, 813, 128, 129, 130, 131, 76, 291, 292, 293, 294, 295, 296, 297, 298, 299, 300, 301, 302, 132, 133, 134, 135, 136, 137, 138, 139, 303, 304, 305, 306, 307, 308, 309, 310, 311, 312, 313, 314, 315, 316, 317, 318, 319, 320, 321, 322, 323, 324, 325, 326, 327, 328, 329, 330, 283, 284, 285, 286, 287, 288, 289, 290, 331, 332, 333, 334, 335, 336, 337, 338, 339, 340, 341, 342, 343, 344, 345, 346, 140, 141, 142, 143, 144, 75, 831, 832, 833, 834, 835, 836, 837] (by decide +kernel) (by decide +kernel)
set_option maxRecDepth 20000 in
theorem gL_law_X5_read : GoodIn wsL_law (wsV RL 113 RX5 yX5_read wsX5_read) := goodIn_app (goodIn_of _ (by decide +kernel)) ggL_law_X5_read
