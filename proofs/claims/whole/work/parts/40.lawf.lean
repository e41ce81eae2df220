set_option maxRecDepth 20000 in
theorem gd_X7_digest_wsX7_digest_r1 : GoodIn wsL_law wsX7_digest_r1 := goodIn_r _ [775, 776, 777, 753, 754, 2, 755, 13, 21, 211, 216, 25, 595, 221, 37, 756, 294, 295, 39, 296, 78, 77, 757, 758] (by decide +kernel) (by decide +kernel)
set_option maxRecDepth 20000 in
theorem gd_X7_digest_wsX7_digest_r2 : GoodIn wsL_law wsX7_digest_r2 := goodIn_r _ [759, 760, 761, 298, 299, 300, 76, 762, 514, 515, 20, 516, 47, 194, 195, 118, 119, 120, 648, 649, 650, 651, 652, 653] (by decide +kernel) (by decide +kernel)
set_option maxRecDepth 20000 in
theorem gd_X7_digest_wsX7_digest_r3 : GoodIn wsL_law wsX7_digest_r3 := goodIn_r _ [654, 778, 152, 153, 154, 155, 115, 116, 117, 779, 354, 355, 356, 357, 358, 359, 360, 284, 285, 286, 287, 15, 288, 289] (by decide +kernel) (by decide +kernel)
set_option maxRecDepth 20000 in
theorem gd_X7_digest_wsX7_digest_r4 : GoodIn wsL_law wsX7_digest_r4 := goodIn_r _ [290, 27, 291, 61, 292, 63, 293, 297, 301, 302, 303, 304, 62, 305, 306, 307, 308, 46, 361, 362, 363, 364, 365, 366] (by decide +kernel) (by decide +kernel)
set_option maxRecDepth 20000 in
theorem gd_X7_digest_wsX7_digest_r5 : GoodIn wsL_law wsX7_digest_r5 := goodIn_r _ [367, 368, 48, 780, 341, 342, 343, 344, 281, 282, 283, 781, 473, 474, 475, 476, 448, 449, 450, 451, 782, 601, 602, 603] (by decide +kernel) (by decide +kernel)
set_option maxRecDepth 20000 in
theorem gd_X7_digest_wsX7_digest_r6 : GoodIn wsL_law wsX7_digest_r6 := goodIn_r _ [28, 280, 604, 605, 606, 24, 607, 57, 54, 55, 56, 399, 400, 783, 378, 379, 380, 381, 382, 383, 384, 784, 395, 396] (by decide +kernel) (by decide +kernel)
set_option maxRecDepth 20000 in
theorem gd_X7_digest_wsX7_digest_r7 : GoodIn wsL_law wsX7_digest_r7 := goodIn_r _ [397, 398, 785, 413, 414, 415, 786, 442, 443, 444, 445, 446, 447, 787, 487, 488, 489, 32, 490, 491, 492, 493, 429, 430] (by decide +kernel) (by decide +kernel)
set_option maxRecDepth 20000 in
theorem gd_X7_digest_wsX7_digest_r8 : GoodIn wsL_law wsX7_digest_r8 := goodIn_r _ [431, 432, 494, 495, 496, 31, 497, 67, 498, 499, 500, 501, 502, 68, 503, 504, 505, 506, 507, 508, 50, 509, 510, 511] (by decide +kernel) (by decide +kernel)
set_option maxRecDepth 20000 in
theorem gd_X7_digest_wsX7_digest_r9 : GoodIn wsL_law wsX7_digest_r9 := goodIn_r _ [512, 513, 517, 518, 519, 520, 521, 522, 523, 524, 788, 539, 540, 541, 36, 542, 543, 544, 35, 545, 72, 546, 547, 548] (by decide +kernel) (by decide +kernel)
set_option maxRecDepth 20000 in
theorem gd_X7_digest_wsX7_digest_r10 : GoodIn wsL_law wsX7_digest_r10 := goodIn_r _ [549, 550, 551, 552, 553, 554, 555, 556, 557, 558, 559, 560, 561, 562, 563, 564, 565, 789, 617, 618, 619, 790, 629, 630] (by decide +kernel) (by decide +kernel)
set_option maxRecDepth 20000 in
theorem gd_X7_digest_wsX7_digest_r11 : GoodIn wsL_law wsX7_digest_r11 := goodIn_r _ [631, 791, 641, 642, 643, 644, 645, 646, 647] (by decide +kernel) (by decide +kernel)
set_option maxRecDepth 20000 in
theorem gd_X7_digest_wsX70 : GoodIn wsL_law wsX70 := goodIn_r _ [799, 800, 801, 802, 803, 804, 805, 806, 807] (by decide +kernel) (by decide +kernel)
set_option maxRecDepth 20000 in
theorem gd_X7_digest_wsX30 : GoodIn wsL_law wsX30 := goodIn_r _ [831, 832, 833, 834, 835] (by decide +kernel) (by decide +kernel)
set_option maxRecDepth 20000 in
theorem gd_X7_digest_wsX50 : GoodIn wsL_law wsX50 := goodIn_r _ [836, 837, 838, 839] (by decide +kernel) (by decide +kernel)
set_option maxRecDepth 20000 in
theorem gd_X7_digest_wsX10 : GoodIn wsL_law wsX10 := goodIn_r _ [846, 847, 848, 849] (by decide +kernel) (by decide +kernel)
set_option maxRecDepth 20000 in
theorem gd_X7_digest_wsX00 : GoodIn wsL_law wsX00 := goodIn_r _ [840, 841, 842] (by decide +kernel) (by decide +kernel)
set_option maxRecDepth 20000 in
theorem gd_X7_digest_wsX20 : GoodIn wsL_law wsX20 := goodIn_r _ [843, 844] (by decide +kernel) (by decide +kernel)
set_option maxRecDepth 20000 in
theorem gd_X7_digest_wsX60 : GoodIn wsL_law wsX60 := goodIn_r _ [845] (by decide +kernel) (by decide +kernel)
set_option maxRecDepth 20000 in
theorem gd_X7_digest_code : GoodIn wsL_law [.code yX7_digest cX7_digest 4 (some .long)] := goodIn_r _ [774] (by decide +kernel) (by decide +kernel)
theorem ggL_law_X7_digest : GoodIn wsL_law wsX7_digest := goodIn_app (a := [.code yX7_digest cX7_digest 4 (some .long)]) gd_X7_digest_code (goodIn_app (goodIn_app (goodIn_app (goodIn_app (goodIn_app (goodIn_app (goodIn_app (goodIn_app gd_X7_digest_wsX7_digest_r1 (goodIn_app gd_X7_digest_wsX7_digest_r2 (goodIn_app gd_X7_digest_wsX7_digest_r3 (goodIn_app gd_X7_digest_wsX7_digest_r4 (goodIn_app gd_X7_digest_wsX7_digest_r5 (goodIn_app gd_X7_digest_wsX7_digest_r6 (goodIn_app gd_X7_digest_wsX7_digest_r7 (goodIn_app gd_X7_digest_wsX7_digest_r8 (goodIn_app gd_X7_digest_wsX7_digest_r9 (goodIn_app gd_X7_digest_wsX7_digest_r10 gd_X7_digest_wsX7_digest_r11)))))))))) gd_X7_digest_wsX70) gd_X7_digest_wsX30) gd_X7_digest_wsX50) gd_X7_digest_wsX10) gd_X7_digest_wsX00) gd_X7_digest_wsX20) gd_X7_digest_wsX60)
set_option maxRecDepth 20000 in
theorem gL_law_X7_digest : GoodIn wsL_law (wsV RL 152 RX7 yX7_digest wsX7_digest) := goodIn_app (goodIn_of _ (by decide +kernel)) ggL_law_X7_digest
