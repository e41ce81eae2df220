set_option maxRecDepth 20000 in
theorem gd_X8_digest_wsX8_digest_r1 : GoodIn wsL_law wsX8_digest_r1 := goodIn_r _ [796, 797, 798, 764, 765, 5, 766, 110, 226, 590, 272, 767, 768, 769, 770, 95, 92, 227, 328, 329, 330, 331, 91, 160] (by decide +kernel) (by decide +kernel)
set_option maxRecDepth 20000 in
theorem gd_X8_digest_wsX8_digest_r2 : GoodIn wsL_law wsX8_digest_r2 := goodIn_r _ [161, 162, 163, 164, 165, 166, 663, 664, 665, 373, 374, 375, 376, 98, 320, 321, 322, 323, 324, 325, 326, 327, 93, 96] (by decide +kernel) (by decide +kernel)
set_option maxRecDepth 20000 in
theorem gd_X8_digest_wsX8_digest_r3 : GoodIn wsL_law wsX8_digest_r3 := goodIn_r _ [97, 136, 137, 138, 332, 333, 334, 335, 94, 336, 337, 338, 339, 349, 350, 351, 352, 481, 482, 483, 484, 485, 461, 462] (by decide +kernel) (by decide +kernel)
set_option maxRecDepth 20000 in
theorem gd_X8_digest_wsX8_digest_r4 : GoodIn wsL_law wsX8_digest_r4 := goodIn_r _ [463, 464, 612, 613, 614, 615, 102, 103, 104, 389, 390, 391, 392, 393, 405, 406, 407, 408, 409, 410, 411, 420, 421, 422] (by decide +kernel) (by decide +kernel)
set_option maxRecDepth 20000 in
theorem gd_X8_digest_wsX8_digest_r5 : GoodIn wsL_law wsX8_digest_r5 := goodIn_r _ [423, 456, 457, 458, 459, 460, 465, 466, 467, 529, 530, 531, 532, 99, 533, 534, 535, 536, 537, 570, 571, 572, 573, 101] (by decide +kernel) (by decide +kernel)
set_option maxRecDepth 20000 in
theorem gd_X8_digest_wsX8_digest_r6 : GoodIn wsL_law wsX8_digest_r6 := goodIn_r _ [574, 575, 576, 577, 624, 625, 626, 627, 636, 637, 638, 639, 659, 660, 661, 662] (by decide +kernel) (by decide +kernel)
set_option maxRecDepth 20000 in
theorem gd_X8_digest_wsX80 : GoodIn wsL_law wsX80 := goodIn_r _ [808, 809, 810, 811, 812, 813, 814, 815, 816, 817, 818, 819, 820, 821, 822, 823, 824, 825, 826, 827, 828, 829, 830] (by decide +kernel) (by decide +kernel)
set_option maxRecDepth 20000 in
theorem gd_X8_digest_code : GoodIn wsL_law [.code yX8_digest cX8_digest 4 (some .long)] := goodIn_r _ [795] (by decide +kernel) (by decide +kernel)
theorem ggL_law_X8_digest : GoodIn wsL_law wsX8_digest := goodIn_app (a := [.code yX8_digest cX8_digest 4 (some .long)]) gd_X8_digest_code (goodIn_app (goodIn_app gd_X8_digest_wsX8_digest_r1 (goodIn_app gd_X8_digest_wsX8_digest_r2 (goodIn_app gd_X8_digest_wsX8_digest_r3 (goodIn_app gd_X8_digest_wsX8_digest_r4 (goodIn_app gd_X8_digest_wsX8_digest_r5 gd_X8_digest_wsX8_digest_r6))))) gd_X8_digest_wsX80)
set_option maxRecDepth 20000 in
theorem gL_law_X8_digest : GoodIn wsL_law (wsV RL 156 RX8 yX8_digest wsX8_digest) := goodIn_app (goodIn_of _ (by decide +kernel)) ggL_law_X8_digest
