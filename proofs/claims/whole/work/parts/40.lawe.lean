set_option maxRecDepth 20000 in
theorem ggL_law_X7_sheet : GoodIn wsL_law wsX7_sheet := goodIn_r _ [669, 17, 242, 243, 2, 244, 118, 119, 120, 670, 671, 672, 245, 246, 247, 248, 37, 673, 674, 675, 41, 676, 83, 84, 85, 86, 799, 800, 801, 802, 803, 804, 805, 806, 807, 850, 851, 852, 853] (by decide +kernel) (by decide +kernel)
set_option maxRecDepth 20000 in
theorem gL_law_X7_sheet : GoodIn wsL_law (wsV RL 123 RX7 yX7_sheet wsX7_sheet) := goodIn_app (goodIn_of _ (by decide +kernel)) ggL_law_X7_sheet
set_option maxRecDepth 20000 in
theorem ggL_law_X8_sheet : GoodIn wsL_law wsX8_sheet := goodIn_r _ [680, 105, 106, 107, 108, 265, 266, 5, 267, 136, 137, 138, 268, 269, 270, 271, 272, 808, 809, 810, 811, 812, 813, 814, 815, 816, 817, 818, 819, 820, 821, 822, 823, 824, 825, 826, 827, 828, 829, 830] (by decide +kernel) (by decide +kernel)
set_option maxRecDepth 20000 in
theorem gL_law_X8_sheet : GoodIn wsL_law (wsV RL 126 RX8 yX8_sheet wsX8_sheet) := goodIn_app (goodIn_of _ (by decide +kernel)) ggL_law_X8_sheet
set_option maxRecDepth 20000 in
theorem ggL_law_X7_lose : GoodIn wsL_law wsX7_lose := goodIn_r _ [684, 17, 241, 685, 242, 243, 2, 244, 118, 119, 120, 245, 246, 247, 248, 37, 799, 800, 801, 802, 803, 804, 805, 806, 807, 850, 851, 852, 853] (by decide +kernel) (by decide +kernel)
set_option maxRecDepth 20000 in
theorem gL_law_X7_lose : GoodIn wsL_law (wsV RL 127 RX7 yX7_lose wsX7_lose) := goodIn_app (goodIn_of _ (by decide +kernel)) ggL_law_X7_lose
set_option maxRecDepth 20000 in
theorem ggL_law_X8_lose : GoodIn wsL_law wsX8_lose := goodIn_r _ [689, 105, 107, 265, 266, 5, 267, 136, 137, 138, 268, 269, 270, 271, 272, 808, 809, 810, 811, 812, 813, 814, 815, 816, 817, 818, 819, 820, 821, 822, 823, 824, 825, 826, 827, 828, 829, 830] (by decide +kernel) (by decide +kernel)
set_option maxRecDepth 20000 in
theorem gL_law_X8_lose : GoodIn wsL_law (wsV RL 130 RX8 yX8_lose wsX8_lose) := goodIn_app (goodIn_of _ (by decide +kernel)) ggL_law_X8_lose
set_option maxRecDepth 20000 in
theorem ggL_law_X7_put : GoodIn wsL_law wsX7_put := goodIn_r _ [693, 17, 242, 243, 2, 244, 118, 119, 120, 670, 671, 672, 694, 695, 696, 41, 697, 86, 84, 698, 699, 700, 701, 85, 245, 246, 247, 248, 37, 702, 703, 704, 705, 83, 799, 800, 801, 802, 803, 804, 805, 806, 807, 850, 851, 852, 853] (by decide +kernel) (by decide +kernel)
set_option maxRecDepth 20000 in
theorem gL_law_X7_put : GoodIn wsL_law (wsV RL 131 RX7 yX7_put wsX7_put) := goodIn_app (goodIn_of _ (by decide +kernel)) ggL_law_X7_put
set_option maxRecDepth 20000 in
theorem ggL_law_X8_put : GoodIn wsL_law wsX8_put := goodIn_r _ [709, 265, 266, 5, 267, 136, 137, 138, 710, 711, 712, 713, 105, 106, 107, 268, 269, 270, 271, 272, 714, 715, 716, 717, 108, 808, 809, 810, 811, 812, 813, 814, 815, 816, 817, 818, 819, 820, 821, 822, 823, 824, 825, 826, 827, 828, 829, 830] (by decide +kernel) (by decide +kernel)
set_option maxRecDepth 20000 in
theorem gL_law_X8_put : GoodIn wsL_law (wsV RL 134 RX8 yX8_put wsX8_put) := goodIn_app (goodIn_of _ (by decide +kernel)) ggL_law_X8_put
set_option maxRecDepth 20000 in
theorem ggL_law_X7_get : GoodIn wsL_law wsX7_get := goodIn_r _ [721, 722, 17, 37, 723, 242, 243, 2, 244, 118, 119, 120, 670, 671, 672, 694, 695, 696, 41, 697, 86, 84, 698, 699, 700, 701, 85, 799, 800, 801, 802, 803, 804, 805, 806, 807, 850, 851, 852, 853] (by decide +kernel) (by decide +kernel)
set_option maxRecDepth 20000 in
theorem gL_law_X7_get : GoodIn wsL_law (wsV RL 135 RX7 yX7_get wsX7_get) := goodIn_app (goodIn_of _ (by decide +kernel)) ggL_law_X7_get
set_option maxRecDepth 20000 in
theorem ggL_law_X8_get : GoodIn wsL_law wsX8_get := goodIn_r _ [727, 728, 272, 108, 265, 266, 5, 267, 136, 137, 138, 710, 711, 712, 713, 105, 106, 107, 808, 809, 810, 811, 812, 813, 814, 815, 816, 817, 818, 819, 820, 821, 822, 823, 824, 825, 826, 827, 828, 829, 830] (by decide +kernel) (by decide +kernel)
set_option maxRecDepth 20000 in
theorem gL_law_X8_get : GoodIn wsL_law (wsV RL 138 RX8 yX8_get wsX8_get) := goodIn_app (goodIn_of _ (by decide +kernel)) ggL_law_X8_get
set_option maxRecDepth 20000 in
theorem ggL_law_X7_copy : GoodIn wsL_law wsX7_copy := goodIn_r _ [732, 17, 241, 733, 723, 734, 735, 736, 737, 242, 243, 2, 244, 118, 119, 120, 245, 246, 247, 248, 37, 738, 699, 700, 41, 701, 85, 799, 800, 801, 802, 803, 804, 805, 806, 807, 850, 851, 852, 853] (by decide +kernel) (by decide +kernel)
set_option maxRecDepth 20000 in
theorem gL_law_X7_copy : GoodIn wsL_law (wsV RL 139 RX7 yX7_copy wsX7_copy) := goodIn_app (goodIn_of _ (by decide +kernel)) ggL_law_X7_copy
set_option maxRecDepth 20000 in
theorem ggL_law_X8_copy : GoodIn wsL_law wsX8_copy := goodIn_r _ [742, 105, 106, 107, 109, 108, 265, 266, 5, 267, 136, 137, 138, 268, 269, 270, 271, 272, 808, 809, 810, 811, 812, 813, 814, 815, 816, 817, 818, 819, 820, 821, 822, 823, 824, 825, 826, 827, 828, 829, 830] (by decide +kernel) (by decide +kernel)
set_option maxRecDepth 20000 in
theorem gL_law_X8_copy : GoodIn wsL_law (wsV RL 143 RX8 yX8_copy wsX8_copy) := goodIn_app (goodIn_of _ (by decide +kernel)) ggL_law_X8_copy
set_option maxRecDepth 20000 in
theorem ggL_law_X7_write : GoodIn wsL_law wsX7_write := goodIn_r _ [746, 17, 241, 685, 747, 255, 256, 257, 344, 115, 116, 2, 117, 118, 119, 120, 242, 243, 244, 245, 246, 247, 248, 37, 284, 285, 286, 287, 15, 13, 21, 288, 289, 290, 27, 291, 61, 292, 63, 293, 294, 295, 39, 296, 78, 77, 297, 298, 299, 300, 76, 301, 302, 303, 304, 62, 305, 306, 307, 20, 308, 46, 702, 703, 704, 41, 705, 84, 83, 698, 699, 700, 701, 85, 799, 800, 801, 802, 803, 804, 805, 806, 807, 850, 851, 852, 853, 840, 841, 842, 846, 847, 848, 849, 831, 832, 833, 834, 835] (by decide +kernel) (by decide +kernel)
set_option maxRecDepth 20000 in
theorem gL_law_X7_write : GoodIn wsL_law (wsV RL 144 RX7 yX7_write wsX7_write) := goodIn_app (goodIn_of _ (by decide +kernel)) ggL_law_X7_write
set_option maxRecDepth 20000 in
theorem ggL_law_X8_write : GoodIn wsL_law wsX8_write := goodIn_r _ [751, 105, 107, 97, 133, 134, 5, 135, 136, 137, 138, 265, 266, 267, 268, 269, 270, 271, 272, 320, 321, 322, 323, 324, 325, 326, 327, 93, 98, 92, 96, 328, 329, 330, 331, 91, 160, 161, 162, 163, 164, 165, 166, 332, 333, 334, 335, 94, 336, 337, 338, 339, 110, 714, 715, 716, 717, 108, 106, 808, 809, 810, 811, 812, 813, 814, 815, 816, 817, 818, 819, 820, 821, 822, 823, 824, 825, 826, 827, 828, 829, 830] (by decide +kernel) (by decide +kernel)
set_option maxRecDepth 20000 in
theorem gL_law_X8_write : GoodIn wsL_law (wsV RL 147 RX8 yX8_write wsX8_write) := goodIn_app (goodIn_of _ (by decide +kernel)) ggL_law_X8_write
set_option maxRecDepth 20000 in
theorem ggL_law_X7_count : GoodIn wsL_law wsX7_count := goodIn_r _ [755, 13, 21, 211, 216, 25, 595, 221, 37, 756, 294, 295, 39, 296, 78, 77, 757, 758, 759, 2, 760, 761, 298, 299, 300, 76, 762, 514, 515, 20, 516, 47, 194, 195, 118, 119, 120, 648, 649, 650, 651, 652, 653, 654, 799, 800, 801, 802, 803, 804, 805, 806, 807, 831, 832, 833, 834, 835, 836, 837, 838, 839, 846, 847, 848, 849] (by decide +kernel) (by decide +kernel)
set_option maxRecDepth 20000 in
theorem gL_law_X7_count : GoodIn wsL_law (wsV RL 148 RX7 yX7_count wsX7_count) := goodIn_app (goodIn_of _ (by decide +kernel)) ggL_law_X7_count
set_option maxRecDepth 20000 in
theorem ggL_law_X8_count : GoodIn wsL_law wsX8_count := goodIn_r _ [766, 110, 226, 590, 272, 767, 768, 769, 5, 770, 95, 92, 227, 328, 329, 330, 331, 91, 160, 161, 162, 163, 164, 165, 166, 663, 664, 665, 808, 809, 810, 811, 812, 813, 814, 815, 816, 817, 818, 819, 820, 821, 822, 823, 824, 825, 826, 827, 828, 829, 830] (by decide +kernel) (by decide +kernel)
set_option maxRecDepth 20000 in
theorem gL_law_X8_count : GoodIn wsL_law (wsV RL 151 RX8 yX8_count wsX8_count) := goodIn_app (goodIn_of _ (by decide +kernel)) ggL_law_X8_count
