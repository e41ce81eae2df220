set_option maxRecDepth 20000 in
theorem ggL_law_X7_heard : GoodIn wsL_law wsX7_heard := goodIn_r _ [475, 476, 115, 116, 2, 117, 118, 119, 120, 284, 285, 286, 287, 15, 13, 21, 288, 289, 290, 27, 291, 61, 292, 63, 293, 294, 295, 39, 296, 78, 77, 297, 298, 299, 300, 76, 301, 302, 303, 304, 62, 305, 306, 307, 20, 308, 46, 448, 449, 450, 451, 282, 283, 799, 800, 801, 802, 803, 804, 805, 806, 807, 840, 841, 842, 846, 847, 848, 849, 831, 832, 833, 834, 835] (by decide +kernel) (by decide +kernel)
set_option maxRecDepth 20000 in
theorem gL_law_X7_heard : GoodIn wsL_law (wsV RL 85 RX7 yX7_heard wsX7_heard) := goodIn_app (goodIn_of _ (by decide +kernel)) ggL_law_X7_heard
set_option maxRecDepth 20000 in
theorem ggL_law_X8_heard : GoodIn wsL_law wsX8_heard := goodIn_r _ [480, 133, 134, 5, 135, 136, 137, 138, 481, 482, 483, 484, 485, 320, 321, 322, 323, 324, 325, 326, 327, 93, 98, 92, 96, 97, 328, 329, 330, 331, 91, 160, 161, 162, 163, 164, 165, 166, 332, 333, 334, 335, 94, 336, 337, 338, 339, 110, 461, 462, 463, 464, 808, 809, 810, 811, 812, 813, 814, 815, 816, 817, 818, 819, 820, 821, 822, 823, 824, 825, 826, 827, 828, 829, 830] (by decide +kernel) (by decide +kernel)
set_option maxRecDepth 20000 in
theorem gL_law_X8_heard : GoodIn wsL_law (wsV RL 88 RX8 yX8_heard wsX8_heard) := goodIn_app (goodIn_of _ (by decide +kernel)) ggL_law_X8_heard
set_option maxRecDepth 20000 in
theorem ggL_law_X7_quiet : GoodIn wsL_law wsX7_quiet := goodIn_r _ [489, 32, 21, 490, 491, 492, 2, 493, 118, 119, 120, 281, 282, 283, 284, 285, 286, 287, 15, 13, 288, 289, 290, 27, 291, 61, 292, 63, 293, 294, 295, 39, 296, 78, 77, 297, 298, 299, 300, 76, 301, 302, 303, 304, 62, 305, 306, 307, 20, 308, 46, 429, 430, 431, 432, 357, 358, 359, 360, 361, 362, 363, 364, 365, 366, 367, 368, 48, 494, 495, 496, 31, 497, 67, 399, 400, 498, 499, 500, 501, 502, 68, 503, 504, 505, 506, 507, 508, 50, 509, 510, 511, 512, 513, 514, 515, 516, 47, 194, 195, 517, 518, 519, 520, 521, 522, 523, 524, 799, 800, 801, 802, 803, 804, 805, 806, 807, 840, 841, 842, 846, 847, 848, 849, 831, 832, 833, 834, 835, 843, 844] (by decide +kernel) (by decide +kernel)
set_option maxRecDepth 20000 in
theorem gL_law_X7_quiet : GoodIn wsL_law (wsV RL 89 RX7 yX7_quiet wsX7_quiet) := goodIn_app (goodIn_of _ (by decide +kernel)) ggL_law_X7_quiet
set_option maxRecDepth 20000 in
theorem ggL_law_X8_quiet : GoodIn wsL_law wsX8_quiet := goodIn_r _ [528, 136, 137, 5, 138, 313, 314, 315, 529, 530, 531, 532, 98, 99, 533, 95, 93, 97, 320, 321, 322, 323, 324, 325, 326, 327, 92, 96, 328, 329, 330, 331, 91, 160, 161, 162, 163, 164, 165, 166, 332, 333, 334, 335, 94, 336, 337, 338, 339, 110, 409, 410, 411, 534, 535, 536, 537, 226, 227, 808, 809, 810, 811, 812, 813, 814, 815, 816, 817, 818, 819, 820, 821, 822, 823, 824, 825, 826, 827, 828, 829, 830] (by decide +kernel) (by decide +kernel)
set_option maxRecDepth 20000 in
theorem gL_law_X8_quiet : GoodIn wsL_law (wsV RL 93 RX8 yX8_quiet wsX8_quiet) := goodIn_app (goodIn_of _ (by decide +kernel)) ggL_law_X8_quiet
set_option maxRecDepth 20000 in
theorem ggL_law_X7_force : GoodIn wsL_law wsX7_force := goodIn_r _ [541, 36, 21, 281, 282, 2, 283, 118, 119, 120, 284, 285, 286, 287, 15, 13, 288, 289, 290, 27, 291, 61, 292, 63, 293, 294, 295, 39, 296, 78, 77, 297, 298, 299, 300, 76, 301, 302, 303, 304, 62, 305, 306, 307, 20, 308, 46, 429, 430, 431, 432, 542, 543, 544, 35, 545, 72, 546, 547, 548, 549, 550, 551, 552, 553, 554, 506, 507, 508, 50, 555, 556, 557, 558, 559, 560, 366, 367, 368, 48, 561, 562, 563, 564, 565, 799, 800, 801, 802, 803, 804, 805, 806, 807, 840, 841, 842, 846, 847, 848, 849, 831, 832, 833, 834, 835, 845] (by decide +kernel) (by decide +kernel)
set_option maxRecDepth 20000 in
theorem gL_law_X7_force : GoodIn wsL_law (wsV RL 94 RX7 yX7_force wsX7_force) := goodIn_app (goodIn_of _ (by decide +kernel)) ggL_law_X7_force
set_option maxRecDepth 20000 in
theorem ggL_law_X8_force : GoodIn wsL_law wsX8_force := goodIn_r _ [569, 313, 314, 5, 315, 136, 137, 138, 570, 571, 572, 573, 101, 93, 97, 320, 321, 322, 323, 324, 325, 326, 327, 98, 92, 96, 328, 329, 330, 331, 91, 160, 161, 162, 163, 164, 165, 166, 332, 333, 334, 335, 94, 336, 337, 338, 339, 110, 574, 575, 576, 577, 227, 409, 410, 411, 808, 809, 810, 811, 812, 813, 814, 815, 816, 817, 818, 819, 820, 821, 822, 823, 824, 825, 826, 827, 828, 829, 830] (by decide +kernel) (by decide +kernel)
set_option maxRecDepth 20000 in
theorem gL_law_X8_force : GoodIn wsL_law (wsV RL 98 RX8 yX8_force wsX8_force) := goodIn_app (goodIn_of _ (by decide +kernel)) ggL_law_X8_force
set_option maxRecDepth 20000 in
theorem ggL_law_X7_seen : GoodIn wsL_law wsX7_seen := goodIn_r _ [581, 25, 115, 116, 2, 117, 118, 119, 120, 281, 282, 283, 582, 583, 584, 24, 585, 57, 54, 55, 56, 799, 800, 801, 802, 803, 804, 805, 806, 807, 836, 837, 838, 839] (by decide +kernel) (by decide +kernel)
set_option maxRecDepth 20000 in
theorem gL_law_X7_seen : GoodIn wsL_law (wsV RL 99 RX7 yX7_seen wsX7_seen) := goodIn_app (goodIn_of _ (by decide +kernel)) ggL_law_X7_seen
set_option maxRecDepth 20000 in
theorem ggL_law_X8_seen : GoodIn wsL_law wsX8_seen := goodIn_r _ [589, 590, 102, 103, 104, 133, 134, 5, 135, 136, 137, 138, 313, 314, 315, 808, 809, 810, 811, 812, 813, 814, 815, 816, 817, 818, 819, 820, 821, 822, 823, 824, 825, 826, 827, 828, 829, 830] (by decide +kernel) (by decide +kernel)
set_option maxRecDepth 20000 in
theorem gL_law_X8_seen : GoodIn wsL_law (wsV RL 102 RX8 yX8_seen wsX8_seen) := goodIn_app (goodIn_of _ (by decide +kernel)) ggL_law_X8_seen
set_option maxRecDepth 20000 in
theorem ggL_law_X7_forget : GoodIn wsL_law wsX7_forget := goodIn_r _ [594, 25, 595, 799, 800, 801, 802, 803, 804, 805, 806, 807, 836, 837, 838, 839] (by decide +kernel) (by decide +kernel)
set_option maxRecDepth 20000 in
theorem gL_law_X7_forget : GoodIn wsL_law (wsV RL 103 RX7 yX7_forget wsX7_forget) := goodIn_app (goodIn_of _ (by decide +kernel)) ggL_law_X7_forget
set_option maxRecDepth 20000 in
theorem ggL_law_X8_forget : GoodIn wsL_law wsX8_forget := goodIn_r _ [599, 590, 808, 809, 810, 811, 812, 813, 814, 815, 816, 817, 818, 819, 820, 821, 822, 823, 824, 825, 826, 827, 828, 829, 830] (by decide +kernel) (by decide +kernel)
set_option maxRecDepth 20000 in
theorem gL_law_X8_forget : GoodIn wsL_law (wsV RL 106 RX8 yX8_forget wsX8_forget) := goodIn_app (goodIn_of _ (by decide +kernel)) ggL_law_X8_forget
set_option maxRecDepth 20000 in
theorem ggL_law_X7_fright : GoodIn wsL_law wsX7_fright := goodIn_r _ [603, 28, 13, 280, 21, 25, 115, 116, 2, 117, 118, 119, 120, 288, 289, 290, 27, 291, 61, 292, 63, 293, 294, 295, 39, 296, 78, 77, 297, 298, 299, 300, 76, 301, 302, 303, 304, 62, 305, 306, 307, 20, 308, 46, 361, 362, 363, 364, 365, 366, 367, 368, 48, 604, 605, 606, 24, 607, 57, 54, 55, 56, 399, 400, 799, 800, 801, 802, 803, 804, 805, 806, 807, 840, 841, 842, 846, 847, 848, 849, 831, 832, 833, 834, 835, 836, 837, 838, 839] (by decide +kernel) (by decide +kernel)
set_option maxRecDepth 20000 in
theorem gL_law_X7_fright : GoodIn wsL_law (wsV RL 107 RX7 yX7_fright wsX7_fright) := goodIn_app (goodIn_of _ (by decide +kernel)) ggL_law_X7_fright
set_option maxRecDepth 20000 in
theorem ggL_law_X8_fright : GoodIn wsL_law wsX8_fright := goodIn_r _ [611, 133, 134, 5, 135, 136, 137, 138, 612, 613, 614, 615, 590, 102, 98, 103, 104, 324, 325, 326, 327, 93, 92, 96, 97, 328, 329, 330, 331, 91, 160, 161, 162, 163, 164, 165, 166, 332, 333, 334, 335, 94, 336, 337, 338, 339, 110, 808, 809, 810, 811, 812, 813, 814, 815, 816, 817, 818, 819, 820, 821, 822, 823, 824, 825, 826, 827, 828, 829, 830] (by decide +kernel) (by decide +kernel)
set_option maxRecDepth 20000 in
theorem gL_law_X8_fright : GoodIn wsL_law (wsV RL 110 RX8 yX8_fright wsX8_fright) := goodIn_app (goodIn_of _ (by decide +kernel)) ggL_law_X8_fright
set_option maxRecDepth 20000 in
theorem ggL_law_X7_unlike : GoodIn wsL_law wsX7_unlike := goodIn_r _ [619, 25, 357, 358, 359, 2, 360, 21, 284, 285, 286, 287, 15, 13, 288, 289, 290, 27, 291, 61, 292, 63, 293, 294, 295, 39, 296, 78, 77, 297, 298, 299, 300, 76, 301, 302, 303, 304, 62, 305, 306, 307, 20, 308, 46, 361, 362, 363, 364, 365, 366, 367, 368, 48, 604, 605, 606, 24, 607, 57, 54, 55, 56, 399, 400, 799, 800, 801, 802, 803, 804, 805, 806, 807, 840, 841, 842, 846, 847, 848, 849, 831, 832, 833, 834, 835, 836, 837, 838, 839] (by decide +kernel) (by decide +kernel)
set_option maxRecDepth 20000 in
theorem gL_law_X7_unlike : GoodIn wsL_law (wsV RL 111 RX7 yX7_unlike wsX7_unlike) := goodIn_app (goodIn_of _ (by decide +kernel)) ggL_law_X7_unlike
set_option maxRecDepth 20000 in
theorem ggL_law_X8_unlike : GoodIn wsL_law wsX8_unlike := goodIn_r _ [623, 624, 625, 626, 5, 627, 590, 98, 102, 103, 104, 320, 321, 322, 323, 324, 325, 326, 327, 93, 92, 96, 97, 328, 329, 330, 331, 91, 160, 161, 162, 163, 164, 165, 166, 136, 137, 138, 332, 333, 334, 335, 94, 336, 337, 338, 339, 110, 808, 809, 810, 811, 812, 813, 814, 815, 816, 817, 818, 819, 820, 821, 822, 823, 824, 825, 826, 827, 828, 829, 830] (by decide +kernel) (by decide +kernel)
set_option maxRecDepth 20000 in
theorem gL_law_X8_unlike : GoodIn wsL_law (wsV RL 114 RX8 yX8_unlike wsX8_unlike) := goodIn_app (goodIn_of _ (by decide +kernel)) ggL_law_X8_unlike
set_option maxRecDepth 20000 in
theorem ggL_law_X7_parrot : GoodIn wsL_law wsX7_parrot := goodIn_r _ [631, 491, 492, 2, 493, 118, 119, 120, 357, 358, 359, 360, 21, 284, 285, 286, 287, 15, 13, 288, 289, 290, 27, 291, 61, 292, 63, 293, 294, 295, 39, 296, 78, 77, 297, 298, 299, 300, 76, 301, 302, 303, 304, 62, 305, 306, 307, 20, 308, 46, 361, 362, 363, 364, 365, 366, 367, 368, 48, 799, 800, 801, 802, 803, 804, 805, 806, 807, 840, 841, 842, 846, 847, 848, 849, 831, 832, 833, 834, 835] (by decide +kernel) (by decide +kernel)
set_option maxRecDepth 20000 in
theorem gL_law_X7_parrot : GoodIn wsL_law (wsV RL 115 RX7 yX7_parrot wsX7_parrot) := goodIn_app (goodIn_of _ (by decide +kernel)) ggL_law_X7_parrot
set_option maxRecDepth 20000 in
theorem ggL_law_X8_parrot : GoodIn wsL_law wsX8_parrot := goodIn_r _ [635, 136, 137, 5, 138, 636, 637, 638, 639, 98, 393, 320, 321, 322, 323, 324, 325, 326, 327, 93, 92, 96, 97, 328, 329, 330, 331, 91, 160, 161, 162, 163, 164, 165, 166, 332, 333, 334, 335, 94, 336, 337, 338, 339, 110, 808, 809, 810, 811, 812, 813, 814, 815, 816, 817, 818, 819, 820, 821, 822, 823, 824, 825, 826, 827, 828, 829, 830] (by decide +kernel) (by decide +kernel)
set_option maxRecDepth 20000 in
theorem gL_law_X8_parrot : GoodIn wsL_law (wsV RL 118 RX8 yX8_parrot wsX8_parrot) := goodIn_app (goodIn_of _ (by decide +kernel)) ggL_law_X8_parrot
set_option maxRecDepth 20000 in
theorem ggL_law_X7_trained : GoodIn wsL_law wsX7_trained := goodIn_r _ [643, 491, 492, 2, 493, 118, 119, 120, 357, 358, 359, 360, 21, 284, 285, 286, 287, 15, 13, 288, 289, 290, 27, 291, 61, 292, 63, 293, 294, 295, 39, 296, 78, 77, 297, 298, 299, 300, 76, 301, 302, 303, 304, 62, 305, 306, 307, 20, 308, 46, 361, 362, 363, 364, 365, 366, 367, 368, 48, 644, 645, 646, 647, 28, 648, 649, 650, 651, 652, 653, 654, 799, 800, 801, 802, 803, 804, 805, 806, 807, 840, 841, 842, 846, 847, 848, 849, 831, 832, 833, 834, 835] (by decide +kernel) (by decide +kernel)
set_option maxRecDepth 20000 in
theorem gL_law_X7_trained : GoodIn wsL_law (wsV RL 119 RX7 yX7_trained wsX7_trained) := goodIn_app (goodIn_of _ (by decide +kernel)) ggL_law_X7_trained
set_option maxRecDepth 20000 in
theorem ggL_law_X8_trained : GoodIn wsL_law wsX8_trained := goodIn_r _ [658, 136, 137, 5, 138, 659, 660, 661, 662, 98, 320, 321, 322, 323, 324, 325, 326, 327, 93, 92, 96, 97, 328, 329, 330, 331, 91, 160, 161, 162, 163, 164, 165, 166, 332, 333, 334, 335, 94, 336, 337, 338, 339, 110, 663, 664, 665, 808, 809, 810, 811, 812, 813, 814, 815, 816, 817, 818, 819, 820, 821, 822, 823, 824, 825, 826, 827, 828, 829, 830] (by decide +kernel) (by decide +kernel)
set_option maxRecDepth 20000 in
theorem gL_law_X8_trained : GoodIn wsL_law (wsV RL 122 RX8 yX8_trained wsX8_trained) := goodIn_app (goodIn_of _ (by decide +kernel)) ggL_law_X8_trained
