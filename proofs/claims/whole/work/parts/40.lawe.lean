set_option maxRecDepth 20000 in
theorem ggL_law_X7_sheet : GoodIn wsL_law wsX7_sheet := goodIn_r _ [667, 17, 242, 243, 2, 244, 118, 119, 120, 668, 669, 670, 245, 246, 247, 248, 37, 671, 672, 673, 41, 674, 83, 84, 85, 86, 797, 798, 799, 800, 801, 802, 803, 804, 805, 848, 849, 850, 851] (by decide +kernel) (by decide +kernel)
set_option maxRecDepth 20000 in
theorem gL_law_X7_sheet : GoodIn wsL_law (wsV RL 123 RX7 yX7_sheet wsX7_sheet) := goodIn_app (goodIn_of _ (by decide +kernel)) ggL_law_X7_sheet
set_option maxRecDepth 20000 in
theorem ggL_law_X8_sheet : GoodIn wsL_law wsX8_sheet := goodIn_r _ [678, 105, 106, 107, 108, 263, 264, 5, 265, 136, 137, 138, 266, 267, 268, 269, 270, 806, 807, 808, 809, 810, 811, 812, 813, 814, 815, 816, 817, 818, 819, 820, 821, 822, 823, 824, 825, 826, 827, 828] (by decide +kernel) (by decide +kernel)
set_option maxRecDepth 20000 in
theorem gL_law_X8_sheet : GoodIn wsL_law (wsV RL 126 RX8 yX8_sheet wsX8_sheet) := goodIn_app (goodIn_of _ (by decide +kernel)) ggL_law_X8_sheet
set_option maxRecDepth 20000 in
theorem ggL_law_X7_lose : GoodIn wsL_law wsX7_lose := goodIn_r _ [682, 17, 241, 683, 242, 243, 2, 244, 118, 119, 120, 245, 246, 247, 248, 37, 797, 798, 799, 800, 801, 802, 803, 804, 805, 848, 849, 850, 851] (by decide +kernel) (by decide +kernel)
set_option maxRecDepth 20000 in
theorem gL_law_X7_lose : GoodIn wsL_law (wsV RL 127 RX7 yX7_lose wsX7_lose) := goodIn_app (goodIn_of _ (by decide +kernel)) ggL_law_X7_lose
set_option maxRecDepth 20000 in
theorem ggL_law_X8_lose : GoodIn wsL_law wsX8_lose := goodIn_r _ [687, 105, 107, 263, 264, 5, 265, 136, 137, 138, 266, 267, 268, 269, 270, 806, 807, 808, 809, 810, 811, 812, 813, 814, 815, 816, 817, 818, 819, 820, 821, 822, 823, 824, 825, 826, 827, 828] (by decide +kernel) (by decide +kernel)
set_option maxRecDepth 20000 in
theorem gL_law_X8_lose : GoodIn wsL_law (wsV RL 130 RX8 yX8_lose wsX8_lose) := goodIn_app (goodIn_of _ (by decide +kernel)) ggL_law_X8_lose
set_option maxRecDepth 20000 in
theorem ggL_law_X7_put : GoodIn wsL_law wsX7_put := goodIn_r _ [691, 17, 242, 243, 2, 244, 118, 119, 120, 668, 669, 670, 692, 693, 694, 41, 695, 86, 84, 696, 697, 698, 699, 85, 245, 246, 247, 248, 37, 700, 701, 702, 703, 83, 797, 798, 799, 800, 801, 802, 803, 804, 805, 848, 849, 850, 851] (by decide +kernel) (by decide +kernel)
set_option maxRecDepth 20000 in
theorem gL_law_X7_put : GoodIn wsL_law (wsV RL 131 RX7 yX7_put wsX7_put) := goodIn_app (goodIn_of _ (by decide +kernel)) ggL_law_X7_put
set_option maxRecDepth 20000 in
theorem ggL_law_X8_put : GoodIn wsL_law wsX8_put := goodIn_r _ [707, 263, 264, 5, 265, 136, 137, 138, 708, 709, 710, 711, 105, 106, 107, 266, 267, 268, 269, 270, 712, 713, 714, 715, 108, 806, 807, 808, 809, 810, 811, 812, 813, 814, 815, 816, 817, 818, 819, 820, 821, 822, 823, 824, 825, 826, 827, 828] (by decide +kernel) (by decide +kernel)
set_option maxRecDepth 20000 in
theorem gL_law_X8_put : GoodIn wsL_law (wsV RL 134 RX8 yX8_put wsX8_put) := goodIn_app (goodIn_of _ (by decide +kernel)) ggL_law_X8_put
set_option maxRecDepth 20000 in
theorem ggL_law_X7_get : GoodIn wsL_law wsX7_get := goodIn_r _ [719, 720, 17, 37, 721, 242, 243, 2, 244, 118, 119, 120, 668, 669, 670, 692, 693, 694, 41, 695, 86, 84, 696, 697, 698, 699, 85, 797, 798, 799, 800, 801, 802, 803, 804, 805, 848, 849, 850, 851] (by decide +kernel) (by decide +kernel)
set_option maxRecDepth 20000 in
theorem gL_law_X7_get : GoodIn wsL_law (wsV RL 135 RX7 yX7_get wsX7_get) := goodIn_app (goodIn_of _ (by decide +kernel)) ggL_law_X7_get
set_option maxRecDepth 20000 in
theorem ggL_law_X8_get : GoodIn wsL_law wsX8_get := goodIn_r _ [725, 726, 270, 108, 263, 264, 5, 265, 136, 137, 138, 708, 709, 710, 711, 105, 106, 107, 806, 807, 808, 809, 810, 811, 812, 813, 814, 815, 816, 817, 818, 819, 820, 821, 822, 823, 824, 825, 826, 827, 828] (by decide +kernel) (by decide +kernel)
set_option maxRecDepth 20000 in
theorem gL_law_X8_get : GoodIn wsL_law (wsV RL 138 RX8 yX8_get wsX8_get) := goodIn_app (goodIn_of _ (by decide +kernel)) ggL_law_X8_get
set_option maxRecDepth 20000 in
theorem ggL_law_X7_copy : GoodIn wsL_law wsX7_copy := goodIn_r _ [730, 17, 241, 731, 721, 732, 733, 734, 735, 242, 243, 2, 244, 118, 119, 120, 245, 246, 247, 248, 37, 736, 697, 698, 41, 699, 85, 797, 798, 799, 800, 801, 802, 803, 804, 805, 848, 849, 850, 851] (by decide +kernel) (by decide +kernel)
set_option maxRecDepth 20000 in
theorem gL_law_X7_copy : GoodIn wsL_law (wsV RL 139 RX7 yX7_copy wsX7_copy) := goodIn_app (goodIn_of _ (by decide +kernel)) ggL_law_X7_copy
set_option maxRecDepth 20000 in
theorem ggL_law_X8_copy : GoodIn wsL_law wsX8_copy := goodIn_r _ [740, 105, 106, 107, 109, 108, 263, 264, 5, 265, 136, 137, 138, 266, 267, 268, 269, 270, 806, 807, 808, 809, 810, 811, 812, 813, 814, 815, 816, 817, 818, 819, 820, 821, 822, 823, 824, 825, 826, 827, 828] (by decide +kernel) (by decide +kernel)
set_option maxRecDepth 20000 in
theorem gL_law_X8_copy : GoodIn wsL_law (wsV RL 143 RX8 yX8_copy wsX8_copy) := goodIn_app (goodIn_of _ (by decide +kernel)) ggL_law_X8_copy
set_option maxRecDepth 20000 in
theorem ggL_law_X7_write : GoodIn wsL_law wsX7_write := goodIn_r _ [744, 17, 241, 683, 745, 255, 256, 257, 342, 115, 116, 2, 117, 118, 119, 120, 242, 243, 244, 245, 246, 247, 248, 37, 282, 283, 284, 285, 15, 13, 21, 286, 287, 288, 27, 289, 61, 290, 63, 291, 292, 293, 39, 294, 78, 77, 295, 296, 297, 298, 76, 299, 300, 301, 302, 62, 303, 304, 305, 20, 306, 46, 700, 701, 702, 41, 703, 84, 83, 696, 697, 698, 699, 85, 797, 798, 799, 800, 801, 802, 803, 804, 805, 848, 849, 850, 851, 838, 839, 840, 844, 845, 846, 847, 829, 830, 831, 832, 833] (by decide +kernel) (by decide +kernel)
set_option maxRecDepth 20000 in
theorem gL_law_X7_write : GoodIn wsL_law (wsV RL 144 RX7 yX7_write wsX7_write) := goodIn_app (goodIn_of _ (by decide +kernel)) ggL_law_X7_write
set_option maxRecDepth 20000 in
theorem ggL_law_X8_write : GoodIn wsL_law wsX8_write := goodIn_r _ [749, 105, 107, 97, 133, 134, 5, 135, 136, 137, 138, 263, 264, 265, 266, 267, 268, 269, 270, 318, 319, 320, 321, 322, 323, 324, 325, 93, 98, 92, 96, 326, 327, 328, 329, 91, 160, 161, 162, 163, 164, 165, 166, 330, 331, 332, 333, 94, 334, 335, 336, 337, 110, 712, 713, 714, 715, 108, 106, 806, 807, 808, 809, 810, 811, 812, 813, 814, 815, 816, 817, 818, 819, 820, 821, 822, 823, 824, 825, 826, 827, 828] (by decide +kernel) (by decide +kernel)
set_option maxRecDepth 20000 in
theorem gL_law_X8_write : GoodIn wsL_law (wsV RL 147 RX8 yX8_write wsX8_write) := goodIn_app (goodIn_of _ (by decide +kernel)) ggL_law_X8_write
set_option maxRecDepth 20000 in
theorem ggL_law_X7_count : GoodIn wsL_law wsX7_count := goodIn_r _ [753, 13, 21, 211, 216, 25, 593, 221, 37, 754, 292, 293, 39, 294, 78, 77, 755, 756, 757, 2, 758, 759, 296, 297, 298, 76, 760, 512, 513, 20, 514, 47, 194, 195, 118, 119, 120, 646, 647, 648, 649, 650, 651, 652, 797, 798, 799, 800, 801, 802, 803, 804, 805, 829, 830, 831, 832, 833, 834, 835, 836, 837, 844, 845, 846, 847] (by decide +kernel) (by decide +kernel)
set_option maxRecDepth 20000 in
theorem gL_law_X7_count : GoodIn wsL_law (wsV RL 148 RX7 yX7_count wsX7_count) := goodIn_app (goodIn_of _ (by decide +kernel)) ggL_law_X7_count
set_option maxRecDepth 20000 in
theorem ggL_law_X8_count : GoodIn wsL_law wsX8_count := goodIn_r _ [764, 110, 226, 588, 270, 765, 766, 767, 5, 768, 95, 92, 227, 326, 327, 328, 329, 91, 160, 161, 162, 163, 164, 165, 166, 661, 662, 663, 806, 807, 808, 809, 810, 811, 812, 813, 814, 815, 816, 817, 818, 819, 820, 821, 822, 823, 824, 825, 826, 827, 828] (by decide +kernel) (by decide +kernel)
set_option maxRecDepth 20000 in
theorem gL_law_X8_count : GoodIn wsL_law (wsV RL 151 RX8 yX8_count wsX8_count) := goodIn_app (goodIn_of _ (by decide +kernel)) ggL_law_X8_count
