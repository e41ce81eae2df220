set_option maxRecDepth 20000 in
theorem gd_X7_digest_wsX7_digest_r1 : GoodIn wsL_law wsX7_digest_r1 := goodIn_r _ [773, 774, 775, 751, 752, 2, 753, 13, 21, 211, 216, 25, 593, 221, 37, 754, 292, 293, 39, 294, 78, 77, 755, 756] (by decide +kernel) (by decide +kernel)
set_option maxRecDepth 20000 in
theorem gd_X7_digest_wsX7_digest_r2 : GoodIn wsL_law wsX7_digest_r2 := goodIn_r _ [757, 758, 759, 296, 297, 298, 76, 760, 512, 513, 20, 514, 47, 194, 195, 118, 119, 120, 646, 647, 648, 649, 650, 651] (by decide +kernel) (by decide +kernel)
set_option maxRecDepth 20000 in
theorem gd_X7_digest_wsX7_digest_r3 : GoodIn wsL_law wsX7_digest_r3 := goodIn_r _ [652, 776, 152, 153, 154, 155, 115, 116, 117, 777, 352, 353, 354, 355, 356, 357, 358, 282, 283, 284, 285, 15, 286, 287] (by decide +kernel) (by decide +kernel)
set_option maxRecDepth 20000 in
theorem gd_X7_digest_wsX7_digest_r4 : GoodIn wsL_law wsX7_digest_r4 := goodIn_r _ [288, 27, 289, 61, 290, 63, 291, 295, 299, 300, 301, 302, 62, 303, 304, 305, 306, 46, 359, 360, 361, 362, 363, 364] (by decide +kernel) (by decide +kernel)
set_option maxRecDepth 20000 in
theorem gd_X7_digest_wsX7_digest_r5 : GoodIn wsL_law wsX7_digest_r5 := goodIn_r _ [365, 366, 48, 778, 339, 340, 341, 342, 279, 280, 281, 779, 471, 472, 473, 474, 446, 447, 448, 449, 780, 599, 600, 601] (by decide +kernel) (by decide +kernel)
set_option maxRecDepth 20000 in
theorem gd_X7_digest_wsX7_digest_r6 : GoodIn wsL_law wsX7_digest_r6 := goodIn_r _ [28, 278, 602, 603, 604, 24, 605, 57, 54, 55, 56, 397, 398, 781, 376, 377, 378, 379, 380, 381, 382, 782, 393, 394] (by decide +kernel) (by decide +kernel)
set_option maxRecDepth 20000 in
theorem gd_X7_digest_wsX7_digest_r7 : GoodIn wsL_law wsX7_digest_r7 := goodIn_r _ [395, 396, 783, 411, 412, 413, 784, 440, 441, 442, 443, 444, 445, 785, 485, 486, 487, 32, 488, 489, 490, 491, 427, 428] (by decide +kernel) (by decide +kernel)
set_option maxRecDepth 20000 in
theorem gd_X7_digest_wsX7_digest_r8 : GoodIn wsL_law wsX7_digest_r8 := goodIn_r _ [429, 430, 492, 493, 494, 31, 495, 67, 496, 497, 498, 499, 500, 68, 501, 502, 503, 504, 505, 506, 50, 507, 508, 509] (by decide +kernel) (by decide +kernel)
set_option maxRecDepth 20000 in
theorem gd_X7_digest_wsX7_digest_r9 : GoodIn wsL_law wsX7_digest_r9 := goodIn_r _ [510, 511, 515, 516, 517, 518, 519, 520, 521, 522, 786, 537, 538, 539, 36, 540, 541, 542, 35, 543, 72, 544, 545, 546] (by decide +kernel) (by decide +kernel)
set_option maxRecDepth 20000 in
theorem gd_X7_digest_wsX7_digest_r10 : GoodIn wsL_law wsX7_digest_r10 := goodIn_r _ [547, 548, 549, 550, 551, 552, 553, 554, 555, 556, 557, 558, 559, 560, 561, 562, 563, 787, 615, 616, 617, 788, 627, 628] (by decide +kernel) (by decide +kernel)
set_option maxRecDepth 20000 in
theorem gd_X7_digest_wsX7_digest_r11 : GoodIn wsL_law wsX7_digest_r11 := goodIn_r _ [629, 789, 639, 640, 641, 642, 643, 644, 645] (by decide +kernel) (by decide +kernel)
set_option maxRecDepth 20000 in
theorem gd_X7_digest_wsX70 : GoodIn wsL_law wsX70 := goodIn_r _ [797, 798, 799, 800, 801, 802, 803, 804, 805] (by decide +kernel) (by decide +kernel)
set_option maxRecDepth 20000 in
theorem gd_X7_digest_wsX30 : GoodIn wsL_law wsX30 := goodIn_r _ [829, 830, 831, 832, 833] (by decide +kernel) (by decide +kernel)
set_option maxRecDepth 20000 in
theorem gd_X7_digest_wsX50 : GoodIn wsL_law wsX50 := goodIn_r _ [834, 835, 836, 837] (by decide +kernel) (by decide +kernel)
set_option maxRecDepth 20000 in
theorem gd_X7_digest_wsX10 : GoodIn wsL_law wsX10 := goodIn_r _ [844, 845, 846, 847] (by decide +kernel) (by decide +kernel)
set_option maxRecDepth 20000 in
theorem gd_X7_digest_wsX00 : GoodIn wsL_law wsX00 := goodIn_r _ [838, 839, 840] (by decide +kernel) (by decide +kernel)
set_option maxRecDepth 20000 in
theorem gd_X7_digest_wsX20 : GoodIn wsL_law wsX20 := goodIn_r _ [841, 842] (by decide +kernel) (by decide +kernel)
set_option maxRecDepth 20000 in
theorem gd_X7_digest_wsX60 : GoodIn wsL_law wsX60 := goodIn_r _ [843] (by decide +kernel) (by decide +kernel)
set_option maxRecDepth 20000 in
theorem gd_X7_digest_code : GoodIn wsL_law [.code yX7_digest cX7_digest 4 (some .long)] := goodIn_r _ [772] (by decide +kernel) (by decide +kernel)
theorem ggL_law_X7_digest : GoodIn wsL_law wsX7_digest := goodIn_app (a := [.code yX7_digest cX7_digest 4 (some .long)]) gd_X7_digest_code (goodIn_app (goodIn_app (goodIn_app (goodIn_app (goodIn_app (goodIn_app (goodIn_app (goodIn_app gd_X7_digest_wsX7_digest_r1 (goodIn_app gd_X7_digest_wsX7_digest_r2 (goodIn_app gd_X7_digest_wsX7_digest_r3 (goodIn_app gd_X7_digest_wsX7_digest_r4 (goodIn_app gd_X7_digest_wsX7_digest_r5 (goodIn_app gd_X7_digest_wsX7_digest_r6 (goodIn_app gd_X7_digest_wsX7_digest_r7 (goodIn_app gd_X7_digest_wsX7_digest_r8 (goodIn_app gd_X7_digest_wsX7_digest_r9 (goodIn_app gd_X7_digest_wsX7_digest_r10 gd_X7_digest_wsX7_digest_r11)))))))))) gd_X7_digest_wsX70) gd_X7_digest_wsX30) gd_X7_digest_wsX50) gd_X7_digest_wsX10) gd_X7_digest_wsX00) gd_X7_digest_wsX20) gd_X7_digest_wsX60)
set_option maxRecDepth 20000 in
theorem gL_law_X7_digest : GoodIn wsL_law (wsV RL 152 RX7 yX7_digest wsX7_digest) := goodIn_app (goodIn_of _ (by decide +kernel)) ggL_law_X7_digest
