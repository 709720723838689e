theorem zin_r {big ws : List Cond} (ps : List Nat) (hp : ws = ps.filterMap (fun i => big[i]?)) : ∀ w ∈ ws, w ∈ big := by
  intro w hw
  rw [hp] at hw
  obtain ⟨i, -, hi⟩ := List.mem_filterMap.mp hw
  first | exact List.mem_of_getElem? hi | exact List.getElem?_mem hi
theorem zin_app {big a b : List Cond} (ha : ∀ w ∈ a, w ∈ big) (hb : ∀ w ∈ b, w ∈ big) : ∀ w ∈ a ++ b, w ∈ big := fun w h => (List.mem_append.mp h).elim (ha w) (hb w)
set_option maxRecDepth 20000 in
theorem wsL_law_r1_in : ∀ w ∈ wsL_law_r1, w ∈ lw_tbl := zin_r [12, 13, 4, 64, 569, 14, 15, 16, 17, 18, 19, 20, 21, 5, 108, 65, 66, 7, 109, 84, 85, 8, 110, 94] (by decide +kernel)
set_option maxRecDepth 20000 in
theorem wsL_law_r2_in : ∀ w ∈ wsL_law_r2, w ∈ lw_tbl := zin_r [95, 9, 111, 22, 23, 24, 25, 33, 34, 35, 36, 37, 38, 41, 42, 26, 27, 28, 29, 39, 40, 30, 31, 6] (by decide +kernel)
set_option maxRecDepth 20000 in
theorem wsL_law_r3_in : ∀ w ∈ wsL_law_r3, w ∈ lw_tbl := zin_r [32, 67, 68, 69, 70, 71, 74, 75, 76, 73, 87, 88, 89, 90, 97, 98, 99, 107, 100, 101, 309, 310, 3, 311] (by decide +kernel)
set_option maxRecDepth 20000 in
theorem wsL_law_r4_in : ∀ w ∈ wsL_law_r4, w ∈ lw_tbl := zin_r [315, 312, 313, 314, 514, 515, 516, 146, 147, 148, 149, 150, 151, 152, 153, 154, 155, 156, 157, 158, 130, 131, 132, 159] (by rfl)
set_option maxRecDepth 20000 in
theorem wsL_law_r5_in : ∀ w ∈ wsL_law_r5, w ∈ lw_tbl := zin_r [160, 161, 162, 163, 164, 165, 166, 167, 168, 169, 170, 171, 172, 173, 174, 175, 144, 145, 176, 177, 178, 179, 180, 181] (by decide +kernel)
set_option maxRecDepth 20000 in
theorem wsL_law_r6_in : ∀ w ∈ wsL_law_r6, w ∈ lw_tbl := zin_r [182, 183, 184, 185, 186, 187, 188, 189, 190, 191, 192, 193, 194, 195, 196, 197, 198, 199, 200, 201, 202, 203, 204, 205] (by decide +kernel)
set_option maxRecDepth 20000 in
theorem wsL_law_r7_in : ∀ w ∈ wsL_law_r7, w ∈ lw_tbl := zin_r [206, 207, 208, 209, 210, 211, 212, 213, 214, 215, 216, 217, 218, 229, 230, 10, 231, 232, 233, 234, 219, 220, 221, 222] (by decide +kernel)
set_option maxRecDepth 20000 in
theorem wsL_law_r8_in : ∀ w ∈ wsL_law_r8, w ∈ lw_tbl := zin_r [223, 224, 225, 226, 228, 235, 237, 0, 238, 239, 240, 241, 242, 129, 243, 244, 245, 246, 247, 248, 249, 250, 251, 252] (by decide +kernel)
set_option maxRecDepth 20000 in
theorem wsL_law_r9_in : ∀ w ∈ wsL_law_r9, w ∈ lw_tbl := zin_r [253, 254, 255, 256, 257, 258, 259, 260, 261, 262, 263, 264, 265, 266, 267, 268, 269, 270, 284, 271, 272, 273, 274, 275] (by decide +kernel)
set_option maxRecDepth 20000 in
theorem wsL_law_r10_in : ∀ w ∈ wsL_law_r10, w ∈ lw_tbl := zin_r [276, 277, 278, 283, 279, 280, 281, 282, 285, 286, 287, 288, 289, 290, 291, 292, 293, 294, 295, 296, 297, 298, 299, 300] (by decide +kernel)
set_option maxRecDepth 20000 in
theorem wsL_law_r11_in : ∀ w ∈ wsL_law_r11, w ∈ lw_tbl := zin_r [484, 485, 486, 320, 321, 322, 433, 434, 435, 517, 518, 519, 520, 125, 126, 127, 128, 136, 137, 138, 521, 391, 392, 393] (by decide +kernel)
set_option maxRecDepth 20000 in
theorem wsL_law_r12_in : ∀ w ∈ wsL_law_r12, w ∈ lw_tbl := zin_r [394, 395, 396, 397, 398, 399, 400, 401, 362, 363, 364, 522, 523, 524, 525, 369, 370, 371, 372, 373, 440, 441, 442, 443] (by decide +kernel)
set_option maxRecDepth 20000 in
theorem wsL_law_r13_in : ∀ w ∈ wsL_law_r13, w ∈ lw_tbl := zin_r [121, 122, 123, 124, 133, 134, 135, 139, 140, 141, 142, 526, 527, 528, 529, 530, 531, 532, 533, 534, 495, 496, 497, 498] (by decide +kernel)
set_option maxRecDepth 20000 in
theorem wsL_law_r14_in : ∀ w ∈ wsL_law_r14, w ∈ lw_tbl := zin_r [390, 491, 492, 493, 494, 503, 535, 536, 537, 538, 539, 540, 541, 542, 543, 544, 545, 546, 547, 430, 431, 432, 427, 428] (by decide +kernel)
set_option maxRecDepth 20000 in
theorem wsL_law_r15_in : ∀ w ∈ wsL_law_r15, w ∈ lw_tbl := zin_r [429, 548, 549, 550, 551, 456, 457, 458, 459, 552, 553, 554, 555, 556, 471, 557, 558, 472, 559, 560, 561, 562, 563, 466] (by decide +kernel)
set_option maxRecDepth 20000 in
theorem wsL_law_r16_in : ∀ w ∈ wsL_law_r16, w ∈ lw_tbl := zin_r [460, 564, 565, 566, 567, 568, 301, 302, 303, 304, 305, 306, 307, 308, 316, 317, 318, 319, 504, 323, 324, 325, 326, 327] (by rfl)
set_option maxRecDepth 20000 in
theorem wsL_law_r17_in : ∀ w ∈ wsL_law_r17, w ∈ lw_tbl := zin_r [328, 329, 330, 331, 333, 1, 334, 335, 336, 337, 338, 340, 341, 342, 344, 343, 11, 345, 346, 347, 348, 349, 350, 351] (by decide +kernel)
set_option maxRecDepth 20000 in
theorem wsL_law_r18_in : ∀ w ∈ wsL_law_r18, w ∈ lw_tbl := zin_r [352, 353, 354, 355, 356, 357, 358, 359, 360, 361, 365, 366, 367, 368, 375, 376, 377, 378, 380, 381, 382, 384, 2, 385] (by decide +kernel)
set_option maxRecDepth 20000 in
theorem wsL_law_r19_in : ∀ w ∈ wsL_law_r19, w ∈ lw_tbl := zin_r [386, 387, 388, 389, 402, 403, 404, 405, 406, 407, 408, 409, 410, 411, 412, 413, 414, 415, 416, 417, 418, 419, 420, 421] (by decide +kernel)
set_option maxRecDepth 20000 in
theorem wsL_law_r20_in : ∀ w ∈ wsL_law_r20, w ∈ lw_tbl := zin_r [422, 423, 424, 425, 426, 436, 437, 438, 439, 444, 445, 446, 447, 448, 449, 450, 451, 452, 453, 454, 455, 461, 462, 463] (by decide +kernel)
set_option maxRecDepth 20000 in
theorem wsL_law_r21_in : ∀ w ∈ wsL_law_r21, w ∈ lw_tbl := zin_r [464, 465, 467, 468, 469, 470, 473, 474, 475, 476, 477, 478, 479, 480, 481, 482, 483, 487, 488, 489, 490, 499, 500, 501] (by decide +kernel)
set_option maxRecDepth 20000 in
theorem wsL_law_r22_in : ∀ w ∈ wsL_law_r22, w ∈ lw_tbl := zin_r [502, 505, 506, 507, 508, 509, 510, 511, 512, 513] (by decide +kernel)
set_option maxRecDepth 20000 in
theorem zin_X0 : ∀ w ∈ wsX00, w ∈ lw_tbl := zin_r [43, 45, 47, 49, 51, 53, 55, 57, 59, 61] (by decide +kernel)
set_option maxRecDepth 20000 in
theorem zin_X1 : ∀ w ∈ wsX10, w ∈ lw_tbl := zin_r [91] (by decide +kernel)
set_option maxRecDepth 20000 in
theorem zin_X2 : ∀ w ∈ wsX20, w ∈ lw_tbl := zin_r [77, 79, 81] (by decide +kernel)
set_option maxRecDepth 20000 in
theorem zin_X3 : ∀ w ∈ wsX30, w ∈ lw_tbl := zin_r [102, 104] (by decide +kernel)
set_option maxRecDepth 20000 in
theorem zin_X4 : ∀ w ∈ wsX40, w ∈ lw_tbl := zin_r [112, 114, 116, 118] (by decide +kernel)
theorem wsL_law_in : ∀ w ∈ wsL_law, w ∈ lw_tbl := (zin_app (zin_app (zin_app (zin_app (zin_app (zin_app (zin_app wsL_law_r1_in (zin_app wsL_law_r2_in (zin_app wsL_law_r3_in (zin_app wsL_law_r4_in (zin_app wsL_law_r5_in (zin_app wsL_law_r6_in (zin_app wsL_law_r7_in (zin_app wsL_law_r8_in (zin_app wsL_law_r9_in (zin_app wsL_law_r10_in (zin_app wsL_law_r11_in (zin_app wsL_law_r12_in (zin_app wsL_law_r13_in (zin_app wsL_law_r14_in (zin_app wsL_law_r15_in (zin_app wsL_law_r16_in (zin_app wsL_law_r17_in (zin_app wsL_law_r18_in (zin_app wsL_law_r19_in (zin_app wsL_law_r20_in (zin_app wsL_law_r21_in wsL_law_r22_in))))))))))))))))))))) zin_X4) zin_X0) zin_X2) zin_X1) zin_X3) (fun _ h => absurd h List.not_mem_nil))
