set_option maxRecDepth 20000 in
theorem gd_X8_digest_wsX8_digest_r1 : GoodIn wsL_law wsX8_digest_r1 := goodIn_r _ [794, 795, 796, 762, 763, 5, 764, 110, 226, 588, 270, 765, 766, 767, 768, 95, 92, 227, 326, 327, 328, 329, 91, 160] (by decide +kernel) (by decide +kernel)
set_option maxRecDepth 20000 in
theorem gd_X8_digest_wsX8_digest_r2 : GoodIn wsL_law wsX8_digest_r2 := goodIn_r _ [161, 162, 163, 164, 165, 166, 661, 662, 663, 371, 372, 373, 374, 98, 318, 319, 320, 321, 322, 323, 324, 325, 93, 96] (by decide +kernel) (by decide +kernel)
set_option maxRecDepth 20000 in
theorem gd_X8_digest_wsX8_digest_r3 : GoodIn wsL_law wsX8_digest_r3 := goodIn_r _ [97, 136, 137, 138, 330, 331, 332, 333, 94, 334, 335, 336, 337, 347, 348, 349, 350, 479, 480, 481, 482, 483, 459, 460] (by decide +kernel) (by decide +kernel)
set_option maxRecDepth 20000 in
theorem gd_X8_digest_wsX8_digest_r4 : GoodIn wsL_law wsX8_digest_r4 := goodIn_r _ [461, 462, 610, 611, 612, 613, 102, 103, 104, 387, 388, 389, 390, 391, 403, 404, 405, 406, 407, 408, 409, 418, 419, 420] (by decide +kernel) (by decide +kernel)
set_option maxRecDepth 20000 in
theorem gd_X8_digest_wsX8_digest_r5 : GoodIn wsL_law wsX8_digest_r5 := goodIn_r _ [421, 454, 455, 456, 457, 458, 463, 464, 465, 527, 528, 529, 530, 99, 531, 532, 533, 534, 535, 568, 569, 570, 571, 101] (by decide +kernel) (by decide +kernel)
set_option maxRecDepth 20000 in
theorem gd_X8_digest_wsX8_digest_r6 : GoodIn wsL_law wsX8_digest_r6 := goodIn_r _ [572, 573, 574, 575, 622, 623, 624, 625, 634, 635, 636, 637, 657, 658, 659, 660] (by decide +kernel) (by decide +kernel)
set_option maxRecDepth 20000 in
theorem gd_X8_digest_wsX80 : GoodIn wsL_law wsX80 := goodIn_r _ [806, 807, 808, 809, 810, 811, 812, 813, 814, 815, 816, 817, 818, 819, 820, 821, 822, 823, 824, 825, 826, 827, 828] (by decide +kernel) (by decide +kernel)
set_option maxRecDepth 20000 in
theorem gd_X8_digest_code : GoodIn wsL_law [.code yX8_digest cX8_digest 4 (some .long)] := goodIn_r _ [793] (by decide +kernel) (by decide +kernel)
theorem ggL_law_X8_digest : GoodIn wsL_law wsX8_digest := goodIn_app (a := [.code yX8_digest cX8_digest 4 (some .long)]) gd_X8_digest_code (goodIn_app (goodIn_app gd_X8_digest_wsX8_digest_r1 (goodIn_app gd_X8_digest_wsX8_digest_r2 (goodIn_app gd_X8_digest_wsX8_digest_r3 (goodIn_app gd_X8_digest_wsX8_digest_r4 (goodIn_app gd_X8_digest_wsX8_digest_r5 gd_X8_digest_wsX8_digest_r6))))) gd_X8_digest_wsX80)
set_option maxRecDepth 20000 in
theorem gL_law_X8_digest : GoodIn wsL_law (wsV RL 156 RX8 yX8_digest wsX8_digest) := goodIn_app (goodIn_of _ (by decide +kernel)) ggL_law_X8_digest
