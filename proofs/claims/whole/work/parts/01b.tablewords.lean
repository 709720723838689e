theorem zin_r {big ws : List Cond} (ps : List Nat) (hp : ws = ps.filterMap (fun i => big[i]?)) : ∀ w ∈ ws, w ∈ big := by
  intro w hw
  rw [hp] at hw
  obtain ⟨i, -, hi⟩ := List.mem_filterMap.mp hw
  first | exact List.mem_of_getElem? hi | exact List.getElem?_mem hi
theorem zin_app {big a b : List Cond} (ha : ∀ w ∈ a, w ∈ big) (hb : ∀ w ∈ b, w ∈ big) : ∀ w ∈ a ++ b, w ∈ big := fun w h => (List.mem_append.mp h).elim (ha w) (hb w)
set_option maxRecDepth 20000 in
theorem wsL_law_r1_in : ∀ w ∈ wsL_law_r1, w ∈ lw_tbl := zin_r [59, 60, 48, 624, 625, 54, 61, 62, 63, 64, 65, 66, 67, 68, 49, 155, 112, 113, 51, 156, 131, 132, 52, 157] (by decide +kernel)
set_option maxRecDepth 20000 in
theorem wsL_law_r2_in : ∀ w ∈ wsL_law_r2, w ∈ lw_tbl := zin_r [141, 142, 53, 158, 69, 70, 71, 72, 111, 80, 81, 82, 83, 84, 85, 88, 89, 73, 74, 75, 76, 86, 87, 77] (by decide +kernel)
set_option maxRecDepth 20000 in
theorem wsL_law_r3_in : ∀ w ∈ wsL_law_r3, w ∈ lw_tbl := zin_r [78, 50, 79, 114, 115, 116, 117, 118, 121, 122, 123, 120, 134, 135, 136, 137, 144, 145, 146, 154, 147, 148, 626, 627] (by decide +kernel)
set_option maxRecDepth 20000 in
theorem wsL_law_r4_in : ∀ w ∈ wsL_law_r4, w ∈ lw_tbl := zin_r [628, 629, 634, 635, 636, 638, 640, 630, 632, 3, 633, 168, 169, 170, 171, 172, 173, 174, 175, 176, 177, 178, 179, 181] (by decide +kernel)
set_option maxRecDepth 20000 in
theorem wsL_law_r5_in : ∀ w ∈ wsL_law_r5, w ∈ lw_tbl := zin_r [0, 182, 183, 184, 185, 186, 188, 189, 190, 192, 191, 55, 193, 194, 195, 196, 197, 198, 199, 200, 201, 202, 203, 204] (by decide +kernel)
set_option maxRecDepth 20000 in
theorem wsL_law_r6_in : ∀ w ∈ wsL_law_r6, w ∈ lw_tbl := zin_r [205, 656, 657, 658, 659, 660, 661, 662, 663, 665, 4, 666, 667, 669, 5, 670, 671, 673, 6, 674, 675, 677, 7, 678] (by decide +kernel)
set_option maxRecDepth 20000 in
theorem wsL_law_r7_in : ∀ w ∈ wsL_law_r7, w ∈ lw_tbl := zin_r [637, 206, 207, 208, 209, 210, 211, 212, 213, 214, 215, 216, 217, 679, 680, 681, 682, 218, 219, 220, 221, 222, 223, 224] (by decide +kernel)
set_option maxRecDepth 20000 in
theorem wsL_law_r8_in : ∀ w ∈ wsL_law_r8, w ∈ lw_tbl := zin_r [225, 226, 227, 228, 229, 230, 231, 232, 233, 235, 236, 237, 238, 239, 240, 241, 242, 243, 244, 246, 247, 248, 250, 1] (by decide +kernel)
set_option maxRecDepth 20000 in
theorem wsL_law_r9_in : ∀ w ∈ wsL_law_r9, w ∈ lw_tbl := zin_r [251, 252, 253, 254, 255, 256, 257, 258, 259, 260, 261, 262, 263, 264, 265, 266, 267, 268, 269, 270, 271, 272, 273, 274] (by decide +kernel)
set_option maxRecDepth 20000 in
theorem wsL_law_r10_in : ∀ w ∈ wsL_law_r10, w ∈ lw_tbl := zin_r [275, 277, 278, 279, 280, 281, 282, 283, 284, 285, 286, 287, 288, 289, 290, 291, 292, 293, 294, 295, 296, 297, 298, 299] (by decide +kernel)
set_option maxRecDepth 20000 in
theorem wsL_law_r11_in : ∀ w ∈ wsL_law_r11, w ∈ lw_tbl := zin_r [300, 301, 302, 303, 304, 305, 306, 307, 308, 309, 310, 311, 312, 313, 314, 315, 316, 317, 318, 319, 320, 321, 322, 323] (by decide +kernel)
set_option maxRecDepth 20000 in
theorem wsL_law_r12_in : ∀ w ∈ wsL_law_r12, w ∈ lw_tbl := zin_r [324, 325, 326, 683, 684, 685, 686, 687, 689, 8, 690, 691, 693, 9, 694, 695, 697, 10, 698, 699, 701, 11, 702, 703] (by decide +kernel)
set_option maxRecDepth 20000 in
theorem wsL_law_r13_in : ∀ w ∈ wsL_law_r13, w ∈ lw_tbl := zin_r [705, 12, 706, 707, 709, 13, 710, 711, 713, 14, 714, 715, 717, 15, 718, 719, 721, 16, 722, 723, 725, 17, 726, 727] (by decide +kernel)
set_option maxRecDepth 20000 in
theorem wsL_law_r14_in : ∀ w ∈ wsL_law_r14, w ∈ lw_tbl := zin_r [729, 18, 730, 731, 733, 19, 734, 735, 737, 20, 738, 739, 741, 21, 742, 743, 745, 22, 746, 747, 749, 23, 750, 751] (by decide +kernel)
set_option maxRecDepth 20000 in
theorem wsL_law_r15_in : ∀ w ∈ wsL_law_r15, w ∈ lw_tbl := zin_r [753, 24, 754, 755, 757, 25, 758, 759, 761, 26, 762, 327, 328, 329, 330, 331, 332, 333, 334, 763, 764, 765, 766, 335] (by decide +kernel)
set_option maxRecDepth 20000 in
theorem wsL_law_r16_in : ∀ w ∈ wsL_law_r16, w ∈ lw_tbl := zin_r [336, 337, 338, 339, 340, 341, 342, 343, 767, 768, 769, 770, 344, 345, 346, 347, 771, 772, 773, 774, 348, 349, 350, 351] (by decide +kernel)
set_option maxRecDepth 20000 in
theorem wsL_law_r17_in : ∀ w ∈ wsL_law_r17, w ∈ lw_tbl := zin_r [352, 353, 354, 355, 775, 776, 777, 778, 356, 357, 358, 359, 360, 361, 362, 363, 364, 365, 366, 367, 368, 369, 370, 371] (by decide +kernel)
set_option maxRecDepth 20000 in
theorem wsL_law_r18_in : ∀ w ∈ wsL_law_r18, w ∈ lw_tbl := zin_r [372, 373, 374, 375, 376, 377, 378, 379, 380, 381, 382, 383, 384, 385, 386, 387, 388, 389, 390, 391, 392, 393, 394, 395] (by decide +kernel)
set_option maxRecDepth 20000 in
theorem wsL_law_r19_in : ∀ w ∈ wsL_law_r19, w ∈ lw_tbl := zin_r [396, 397, 408, 409, 56, 410, 411, 412, 413, 398, 399, 400, 401, 402, 403, 404, 405, 407, 414, 416, 2, 417, 418, 779] (by decide +kernel)
set_option maxRecDepth 20000 in
theorem wsL_law_r20_in : ∀ w ∈ wsL_law_r20, w ∈ lw_tbl := zin_r [780, 781, 782, 783, 785, 27, 786, 787, 789, 28, 790, 791, 793, 29, 794, 795, 797, 30, 798, 799, 801, 31, 802, 803] (by decide +kernel)
set_option maxRecDepth 20000 in
theorem wsL_law_r21_in : ∀ w ∈ wsL_law_r21, w ∈ lw_tbl := zin_r [805, 32, 806, 419, 420, 421, 422, 423, 424, 425, 426, 427, 428, 429, 430, 431, 432, 433, 434, 435, 436, 437, 438, 439] (by decide +kernel)
set_option maxRecDepth 20000 in
theorem wsL_law_r22_in : ∀ w ∈ wsL_law_r22, w ∈ lw_tbl := zin_r [440, 441, 442, 443, 444, 445, 446, 447, 448, 449, 450, 451, 452, 453, 454, 455, 456, 457, 458, 459, 460, 461, 472, 462] (by decide +kernel)
set_option maxRecDepth 20000 in
theorem wsL_law_r23_in : ∀ w ∈ wsL_law_r23, w ∈ lw_tbl := zin_r [463, 464, 465, 466, 467, 468, 469, 471, 470, 473, 474, 475, 476, 477, 478, 479, 480, 481, 482, 483, 484, 807, 808, 809] (by decide +kernel)
set_option maxRecDepth 20000 in
theorem wsL_law_r24_in : ∀ w ∈ wsL_law_r24, w ∈ lw_tbl := zin_r [810, 639, 811, 813, 33, 814, 815, 817, 34, 818, 828, 819, 821, 35, 822, 823, 825, 36, 826, 827, 829, 831, 37, 832] (by decide +kernel)
set_option maxRecDepth 20000 in
theorem wsL_law_r25_in : ∀ w ∈ wsL_law_r25, w ∈ lw_tbl := zin_r [833, 835, 38, 836, 485, 486, 487, 488, 489, 490, 491, 492, 493, 837, 838, 839, 840, 494, 495, 496, 497, 498, 499, 500] (by decide +kernel)
set_option maxRecDepth 20000 in
theorem wsL_law_r26_in : ∀ w ∈ wsL_law_r26, w ∈ lw_tbl := zin_r [501, 502, 503, 504, 505, 506, 507, 508, 509, 510, 511, 841, 842, 843, 844, 845, 847, 39, 848, 849, 851, 40, 852, 512] (by decide +kernel)
set_option maxRecDepth 20000 in
theorem wsL_law_r27_in : ∀ w ∈ wsL_law_r27, w ∈ lw_tbl := zin_r [513, 514, 515, 516, 853, 854, 855, 856, 517, 518, 519, 520, 521, 522, 523, 524, 525, 526, 527, 857, 858, 859, 860, 861] (by decide +kernel)
set_option maxRecDepth 20000 in
theorem wsL_law_r28_in : ∀ w ∈ wsL_law_r28, w ∈ lw_tbl := zin_r [863, 41, 864, 528, 529, 530, 531, 532, 865, 866, 867, 868, 533, 534, 535, 536, 869, 870, 871, 872, 537, 538, 539, 540] (by decide +kernel)
set_option maxRecDepth 20000 in
theorem wsL_law_r29_in : ∀ w ∈ wsL_law_r29, w ∈ lw_tbl := zin_r [541, 542, 543, 544, 545, 546, 547, 548, 549, 550, 551, 873, 874, 875, 876, 877, 879, 42, 880, 552, 553, 554, 555, 556] (by decide +kernel)
set_option maxRecDepth 20000 in
theorem wsL_law_r30_in : ∀ w ∈ wsL_law_r30, w ∈ lw_tbl := zin_r [557, 558, 559, 560, 881, 882, 883, 884, 885, 886, 58, 887, 891, 893, 892, 58, 894, 888, 889, 890, 561, 562, 563, 564] (by decide +kernel)
set_option maxRecDepth 20000 in
theorem wsL_law_r31_in : ∀ w ∈ wsL_law_r31, w ∈ lw_tbl := zin_r [565, 566, 567, 568, 895, 896, 897, 898, 569, 570, 571, 572, 573, 574, 575, 576, 577, 899, 900, 901, 902, 903, 578, 579] (by decide +kernel)
set_option maxRecDepth 20000 in
theorem wsL_law_r32_in : ∀ w ∈ wsL_law_r32, w ∈ lw_tbl := zin_r [580, 581, 582, 583, 904, 905, 906, 907, 908, 584, 585, 586, 587, 588, 589, 590, 591, 909, 910, 911, 912, 592, 593, 594] (by decide +kernel)
set_option maxRecDepth 20000 in
theorem wsL_law_r33_in : ∀ w ∈ wsL_law_r33, w ∈ lw_tbl := zin_r [595, 596, 597, 598, 599, 913, 914, 915, 916, 600, 601, 602, 603, 604, 605, 606, 607, 608, 609, 610, 611, 612, 613, 917] (by decide +kernel)
set_option maxRecDepth 20000 in
theorem wsL_law_r34_in : ∀ w ∈ wsL_law_r34, w ∈ lw_tbl := zin_r [918, 919, 920, 921, 923, 43, 924, 925, 927, 44, 928, 929, 930, 931, 932, 934, 45, 935, 936, 938, 46, 939, 615, 616] (by decide +kernel)
set_option maxRecDepth 20000 in
theorem wsL_law_r35_in : ∀ w ∈ wsL_law_r35, w ∈ lw_tbl := zin_r [617, 618, 619, 620, 621, 622, 623, 940, 941, 942, 943] (by decide +kernel)
set_option maxRecDepth 20000 in
theorem zin_X0 : ∀ w ∈ wsX00, w ∈ lw_tbl := zin_r [90, 92, 94, 96, 98, 100, 102, 104, 106, 108] (by decide +kernel)
set_option maxRecDepth 20000 in
theorem zin_X1 : ∀ w ∈ wsX10, w ∈ lw_tbl := zin_r [138] (by decide +kernel)
set_option maxRecDepth 20000 in
theorem zin_X2 : ∀ w ∈ wsX20, w ∈ lw_tbl := zin_r [124, 126, 128] (by decide +kernel)
set_option maxRecDepth 20000 in
theorem zin_X3 : ∀ w ∈ wsX30, w ∈ lw_tbl := zin_r [149, 151] (by decide +kernel)
set_option maxRecDepth 20000 in
theorem zin_X4 : ∀ w ∈ wsX40, w ∈ lw_tbl := zin_r [159, 161, 163, 165] (by decide +kernel)
set_option maxRecDepth 20000 in
theorem zin_X5 : ∀ w ∈ wsX50, w ∈ lw_tbl := zin_r [641, 643, 645, 647, 649, 651, 653] (by decide +kernel)
theorem wsL_law_in : ∀ w ∈ wsL_law, w ∈ lw_tbl := (zin_app (zin_app (zin_app (zin_app (zin_app (zin_app (zin_app (zin_app wsL_law_r1_in (zin_app wsL_law_r2_in (zin_app wsL_law_r3_in (zin_app wsL_law_r4_in (zin_app wsL_law_r5_in (zin_app wsL_law_r6_in (zin_app wsL_law_r7_in (zin_app wsL_law_r8_in (zin_app wsL_law_r9_in (zin_app wsL_law_r10_in (zin_app wsL_law_r11_in (zin_app wsL_law_r12_in (zin_app wsL_law_r13_in (zin_app wsL_law_r14_in (zin_app wsL_law_r15_in (zin_app wsL_law_r16_in (zin_app wsL_law_r17_in (zin_app wsL_law_r18_in (zin_app wsL_law_r19_in (zin_app wsL_law_r20_in (zin_app wsL_law_r21_in (zin_app wsL_law_r22_in (zin_app wsL_law_r23_in (zin_app wsL_law_r24_in (zin_app wsL_law_r25_in (zin_app wsL_law_r26_in (zin_app wsL_law_r27_in (zin_app wsL_law_r28_in (zin_app wsL_law_r29_in (zin_app wsL_law_r30_in (zin_app wsL_law_r31_in (zin_app wsL_law_r32_in (zin_app wsL_law_r33_in (zin_app wsL_law_r34_in wsL_law_r35_in)))))))))))))))))))))))))))))))))) zin_X4) zin_X5) zin_X0) zin_X2) zin_X1) zin_X3) (fun _ h => absurd h List.not_mem_nil))
