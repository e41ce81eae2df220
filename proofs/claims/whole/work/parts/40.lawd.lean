set_option maxRecDepth 20000 in
theorem ggL_law_X7_heard : GoodIn wsL_law wsX7_heard := goodIn_r _ [473, 474, 115, 116, 2, 117, 118, 119, 120, 282, 283, 284, 285, 15, 13, 21, 286, 287, 288, 27, 289, 61, 290, 63, 291, 292, 293, 39, 294, 78, 77, 295, 296, 297, 298, 76, 299, 300, 301, 302, 62, 303, 304, 305, 20, 306, 46, 446, 447, 448, 449, 280, 281, 797, 798, 799, 800, 801, 802, 803, 804, 805, 838, 839, 840, 844, 845, 846, 847, 829, 830, 831, 832, 833] (by decide +kernel) (by decide +kernel)
set_option maxRecDepth 20000 in
theorem gL_law_X7_heard : GoodIn wsL_law (wsV RL 85 RX7 yX7_heard wsX7_heard) := goodIn_app (goodIn_of _ (by decide +kernel)) ggL_law_X7_heard
set_option maxRecDepth 20000 in
theorem ggL_law_X8_heard : GoodIn wsL_law wsX8_heard := goodIn_r _ [478, 133, 134, 5, 135, 136, 137, 138, 479, 480, 481, 482, 483, 318, 319, 320, 321, 322, 323, 324, 325, 93, 98, 92, 96, 97, 326, 327, 328, 329, 91, 160, 161, 162, 163, 164, 165, 166, 330, 331, 332, 333, 94, 334, 335, 336, 337, 110, 459, 460, 461, 462, 806, 807, 808, 809, 810, 811, 812, 813, 814, 815, 816, 817, 818, 819, 820, 821, 822, 823, 824, 825, 826, 827, 828] (by decide +kernel) (by decide +kernel)
set_option maxRecDepth 20000 in
theorem gL_law_X8_heard : GoodIn wsL_law (wsV RL 88 RX8 yX8_heard wsX8_heard) := goodIn_app (goodIn_of _ (by decide +kernel)) ggL_law_X8_heard
set_option maxRecDepth 20000 in
theorem ggL_law_X7_quiet : GoodIn wsL_law wsX7_quiet := goodIn_r _ [487, 32, 21, 488, 489, 490, 2, 491, 118, 119, 120, 279, 280, 281, 282, 283, 284, 285, 15, 13, 286, 287, 288, 27, 289, 61, 290, 63, 291, 292, 293, 39, 294, 78, 77, 295, 296, 297, 298, 76, 299, 300, 301, 302, 62, 303, 304, 305, 20, 306, 46, 427, 428, 429, 430, 355, 356, 357, 358, 359, 360, 361, 362, 363, 364, 365, 366, 48, 492, 493, 494, 31, 495, 67, 397, 398, 496, 497, 498, 499, 500, 68, 501, 502, 503, 504, 505, 506, 50, 507, 508, 509, 510, 511, 512, 513, 514, 47, 194, 195, 515, 516, 517, 518, 519, 520, 521, 522, 797, 798, 799, 800, 801, 802, 803, 804, 805, 838, 839, 840, 844, 845, 846, 847, 829, 830, 831, 832, 833, 841, 842] (by decide +kernel) (by decide +kernel)
set_option maxRecDepth 20000 in
theorem gL_law_X7_quiet : GoodIn wsL_law (wsV RL 89 RX7 yX7_quiet wsX7_quiet) := goodIn_app (goodIn_of _ (by decide +kernel)) ggL_law_X7_quiet
set_option maxRecDepth 20000 in
theorem ggL_law_X8_quiet : GoodIn wsL_law wsX8_quiet := goodIn_r _ [526, 136, 137, 5, 138, 311, 312, 313, 527, 528, 529, 530, 98, 99, 531, 95, 93, 97, 318, 319, 320, 321, 322, 323, 324, 325, 92, 96, 326, 327, 328, 329, 91, 160, 161, 162, 163, 164, 165, 166, 330, 331, 332, 333, 94, 334, 335, 336, 337, 110, 407, 408, 409, 532, 533, 534, 535, 226, 227, 806, 807, 808, 809, 810, 811, 812, 813, 814, 815, 816, 817, 818, 819, 820, 821, 822, 823, 824, 825, 826, 827, 828] (by decide +kernel) (by decide +kernel)
set_option maxRecDepth 20000 in
theorem gL_law_X8_quiet : GoodIn wsL_law (wsV RL 93 RX8 yX8_quiet wsX8_quiet) := goodIn_app (goodIn_of _ (by decide +kernel)) ggL_law_X8_quiet
set_option maxRecDepth 20000 in
theorem ggL_law_X7_force : GoodIn wsL_law wsX7_force := goodIn_r _ [539, 36, 21, 279, 280, 2, 281, 118, 119, 120, 282, 283, 284, 285, 15, 13, 286, 287, 288, 27, 289, 61, 290, 63, 291, 292, 293, 39, 294, 78, 77, 295, 296, 297, 298, 76, 299, 300, 301, 302, 62, 303, 304, 305, 20, 306, 46, 427, 428, 429, 430, 540, 541, 542, 35, 543, 72, 544, 545, 546, 547, 548, 549, 550, 551, 552, 504, 505, 506, 50, 553, 554, 555, 556, 557, 558, 364, 365, 366, 48, 559, 560, 561, 562, 563, 797, 798, 799, 800, 801, 802, 803, 804, 805, 838, 839, 840, 844, 845, 846, 847, 829, 830, 831, 832, 833, 843] (by decide +kernel) (by decide +kernel)
set_option maxRecDepth 20000 in
theorem gL_law_X7_force : GoodIn wsL_law (wsV RL 94 RX7 yX7_force wsX7_force) := goodIn_app (goodIn_of _ (by decide +kernel)) ggL_law_X7_force
set_option maxRecDepth 20000 in
theorem ggL_law_X8_force : GoodIn wsL_law wsX8_force := goodIn_r _ [567, 311, 312, 5, 313, 136, 137, 138, 568, 569, 570, 571, 101, 93, 97, 318, 319, 320, 321, 322, 323, 324, 325, 98, 92, 96, 326, 327, 328, 329, 91, 160, 161, 162, 163, 164, 165, 166, 330, 331, 332, 333, 94, 334, 335, 336, 337, 110, 572, 573, 574, 575, 227, 407, 408, 409, 806, 807, 808, 809, 810, 811, 812, 813, 814, 815, 816, 817, 818, 819, 820, 821, 822, 823, 824, 825, 826, 827, 828] (by decide +kernel) (by decide +kernel)
set_option maxRecDepth 20000 in
theorem gL_law_X8_force : GoodIn wsL_law (wsV RL 98 RX8 yX8_force wsX8_force) := goodIn_app (goodIn_of _ (by decide +kernel)) ggL_law_X8_force
set_option maxRecDepth 20000 in
theorem ggL_law_X7_seen : GoodIn wsL_law wsX7_seen := goodIn_r _ [579, 25, 115, 116, 2, 117, 118, 119, 120, 279, 280, 281, 580, 581, 582, 24, 583, 57, 54, 55, 56, 797, 798, 799, 800, 801, 802, 803, 804, 805, 834, 835, 836, 837] (by decide +kernel) (by decide +kernel)
set_option maxRecDepth 20000 in
theorem gL_law_X7_seen : GoodIn wsL_law (wsV RL 99 RX7 yX7_seen wsX7_seen) := goodIn_app (goodIn_of _ (by decide +kernel)) ggL_law_X7_seen
set_option maxRecDepth 20000 in
theorem ggL_law_X8_seen : GoodIn wsL_law wsX8_seen := goodIn_r _ [587, 588, 102, 103, 104, 133, 134, 5, 135, 136, 137, 138, 311, 312, 313, 806, 807, 808, 809, 810, 811, 812, 813, 814, 815, 816, 817, 818, 819, 820, 821, 822, 823, 824, 825, 826, 827, 828] (by decide +kernel) (by decide +kernel)
set_option maxRecDepth 20000 in
theorem gL_law_X8_seen : GoodIn wsL_law (wsV RL 102 RX8 yX8_seen wsX8_seen) := goodIn_app (goodIn_of _ (by decide +kernel)) ggL_law_X8_seen
set_option maxRecDepth 20000 in
theorem ggL_law_X7_forget : GoodIn wsL_law wsX7_forget := goodIn_r _ [592, 25, 593, 797, 798, 799, 800, 801, 802, 803, 804, 805, 834, 835, 836, 837] (by decide +kernel) (by decide +kernel)
set_option maxRecDepth 20000 in
theorem gL_law_X7_forget : GoodIn wsL_law (wsV RL 103 RX7 yX7_forget wsX7_forget) := goodIn_app (goodIn_of _ (by decide +kernel)) ggL_law_X7_forget
set_option maxRecDepth 20000 in
theorem ggL_law_X8_forget : GoodIn wsL_law wsX8_forget := goodIn_r _ [597, 588, 806, 807, 808, 809, 810, 811, 812, 813, 814, 815, 816, 817, 818, 819, 820, 821, 822, 823, 824, 825, 826, 827, 828] (by decide +kernel) (by decide +kernel)
set_option maxRecDepth 20000 in
theorem gL_law_X8_forget : GoodIn wsL_law (wsV RL 106 RX8 yX8_forget wsX8_forget) := goodIn_app (goodIn_of _ (by decide +kernel)) ggL_law_X8_forget
set_option maxRecDepth 20000 in
theorem ggL_law_X7_fright : GoodIn wsL_law wsX7_fright := goodIn_r _ [601, 28, 13, 278, 21, 25, 115, 116, 2, 117, 118, 119, 120, 286, 287, 288, 27, 289, 61, 290, 63, 291, 292, 293, 39, 294, 78, 77, 295, 296, 297, 298, 76, 299, 300, 301, 302, 62, 303, 304, 305, 20, 306, 46, 359, 360, 361, 362, 363, 364, 365, 366, 48, 602, 603, 604, 24, 605, 57, 54, 55, 56, 397, 398, 797, 798, 799, 800, 801, 802, 803, 804, 805, 838, 839, 840, 844, 845, 846, 847, 829, 830, 831, 832, 833, 834, 835, 836, 837] (by decide +kernel) (by decide +kernel)
set_option maxRecDepth 20000 in
theorem gL_law_X7_fright : GoodIn wsL_law (wsV RL 107 RX7 yX7_fright wsX7_fright) := goodIn_app (goodIn_of _ (by decide +kernel)) ggL_law_X7_fright
set_option maxRecDepth 20000 in
theorem ggL_law_X8_fright : GoodIn wsL_law wsX8_fright := goodIn_r _ [609, 133, 134, 5, 135, 136, 137, 138, 610, 611, 612, 613, 588, 102, 98, 103, 104, 322, 323, 324, 325, 93, 92, 96, 97, 326, 327, 328, 329, 91, 160, 161, 162, 163, 164, 165, 166, 330, 331, 332, 333, 94, 334, 335, 336, 337, 110, 806, 807, 808, 809, 810, 811, 812, 813, 814, 815, 816, 817, 818, 819, 820, 821, 822, 823, 824, 825, 826, 827, 828] (by decide +kernel) (by decide +kernel)
set_option maxRecDepth 20000 in
theorem gL_law_X8_fright : GoodIn wsL_law (wsV RL 110 RX8 yX8_fright wsX8_fright) := goodIn_app (goodIn_of _ (by decide +kernel)) ggL_law_X8_fright
set_option maxRecDepth 20000 in
theorem ggL_law_X7_unlike : GoodIn wsL_law wsX7_unlike := goodIn_r _ [617, 25, 355, 356, 357, 2, 358, 21, 282, 283, 284, 285, 15, 13, 286, 287, 288, 27, 289, 61, 290, 63, 291, 292, 293, 39, 294, 78, 77, 295, 296, 297, 298, 76, 299, 300, 301, 302, 62, 303, 304, 305, 20, 306, 46, 359, 360, 361, 362, 363, 364, 365, 366, 48, 602, 603, 604, 24, 605, 57, 54, 55, 56, 397, 398, 797, 798, 799, 800, 801, 802, 803, 804, 805, 838, 839, 840, 844, 845, 846, 847, 829, 830, 831, 832, 833, 834, 835, 836, 837] (by decide +kernel) (by decide +kernel)
set_option maxRecDepth 20000 in
theorem gL_law_X7_unlike : GoodIn wsL_law (wsV RL 111 RX7 yX7_unlike wsX7_unlike) := goodIn_app (goodIn_of _ (by decide +kernel)) ggL_law_X7_unlike
set_option maxRecDepth 20000 in
theorem ggL_law_X8_unlike : GoodIn wsL_law wsX8_unlike := goodIn_r _ [621, 622, 623, 624, 5, 625, 588, 98, 102, 103, 104, 318, 319, 320, 321, 322, 323, 324, 325, 93, 92, 96, 97, 326, 327, 328, 329, 91, 160, 161, 162, 163, 164, 165, 166, 136, 137, 138, 330, 331, 332, 333, 94, 334, 335, 336, 337, 110, 806, 807, 808, 809, 810, 811, 812, 813, 814, 815, 816, 817, 818, 819, 820, 821, 822, 823, 824, 825, 826, 827, 828] (by decide +kernel) (by decide +kernel)
set_option maxRecDepth 20000 in
theorem gL_law_X8_unlike : GoodIn wsL_law (wsV RL 114 RX8 yX8_unlike wsX8_unlike) := goodIn_app (goodIn_of _ (by decide +kernel)) ggL_law_X8_unlike
set_option maxRecDepth 20000 in
theorem ggL_law_X7_parrot : GoodIn wsL_law wsX7_parrot := goodIn_r _ [629, 489, 490, 2, 491, 118, 119, 120, 355, 356, 357, 358, 21, 282, 283, 284, 285, 15, 13, 286, 287, 288, 27, 289, 61, 290, 63, 291, 292, 293, 39, 294, 78, 77, 295, 296, 297, 298, 76, 299, 300, 301, 302, 62, 303, 304, 305, 20, 306, 46, 359, 360, 361, 362, 363, 364, 365, 366, 48, 797, 798, 799, 800, 801, 802, 803, 804, 805, 838, 839, 840, 844, 845, 846, 847, 829, 830, 831, 832, 833] (by decide +kernel) (by decide +kernel)
set_option maxRecDepth 20000 in
theorem gL_law_X7_parrot : GoodIn wsL_law (wsV RL 115 RX7 yX7_parrot wsX7_parrot) := goodIn_app (goodIn_of _ (by decide +kernel)) ggL_law_X7_parrot
set_option maxRecDepth 20000 in
theorem ggL_law_X8_parrot : GoodIn wsL_law wsX8_parrot := goodIn_r _ [633, 136, 137, 5, 138, 634, 635, 636, 637, 98, 391, 318, 319, 320, 321, 322, 323, 324, 325, 93, 92, 96, 97, 326, 327, 328, 329, 91, 160, 161, 162, 163, 164, 165, 166, 330, 331, 332, 333, 94, 334, 335, 336, 337, 110, 806, 807, 808, 809, 810, 811, 812, 813, 814, 815, 816, 817, 818, 819, 820, 821, 822, 823, 824, 825, 826, 827, 828] (by decide +kernel) (by decide +kernel)
set_option maxRecDepth 20000 in
theorem gL_law_X8_parrot : GoodIn wsL_law (wsV RL 118 RX8 yX8_parrot wsX8_parrot) := goodIn_app (goodIn_of _ (by decide +kernel)) ggL_law_X8_parrot
set_option maxRecDepth 20000 in
theorem ggL_law_X7_trained : GoodIn wsL_law wsX7_trained := goodIn_r _ [641, 489, 490, 2, 491, 118, 119, 120, 355, 356, 357, 358, 21, 282, 283, 284, 285, 15, 13, 286, 287, 288, 27, 289, 61, 290, 63, 291, 292, 293, 39, 294, 78, 77, 295, 296, 297, 298, 76, 299, 300, 301, 302, 62, 303, 304, 305, 20, 306, 46, 359, 360, 361, 362, 363, 364, 365, 366, 48, 642, 643, 644, 645, 28, 646, 647, 648, 649, 650, 651, 652, 797, 798, 799, 800, 801, 802, 803, 804, 805, 838, 839, 840, 844, 845, 846, 847, 829, 830, 831, 832, 833] (by decide +kernel) (by decide +kernel)
set_option maxRecDepth 20000 in
theorem gL_law_X7_trained : GoodIn wsL_law (wsV RL 119 RX7 yX7_trained wsX7_trained) := goodIn_app (goodIn_of _ (by decide +kernel)) ggL_law_X7_trained
set_option maxRecDepth 20000 in
theorem ggL_law_X8_trained : GoodIn wsL_law wsX8_trained := goodIn_r _ [656, 136, 137, 5, 138, 657, 658, 659, 660, 98, 318, 319, 320, 321, 322, 323, 324, 325, 93, 92, 96, 97, 326, 327, 328, 329, 91, 160, 161, 162, 163, 164, 165, 166, 330, 331, 332, 333, 94, 334, 335, 336, 337, 110, 661, 662, 663, 806, 807, 808, 809, 810, 811, 812, 813, 814, 815, 816, 817, 818, 819, 820, 821, 822, 823, 824, 825, 826, 827, 828] (by decide +kernel) (by decide +kernel)
set_option maxRecDepth 20000 in
theorem gL_law_X8_trained : GoodIn wsL_law (wsV RL 122 RX8 yX8_trained wsX8_trained) := goodIn_app (goodIn_of _ (by decide +kernel)) ggL_law_X8_trained
