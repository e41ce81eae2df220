theorem dJ9_min_7cf53_0 : decode cJ9_min_7cf53 0 = .ok (.iload_n 0, 1) := by decide +kernel
theorem dJ9_min_7cf53_1 : decode cJ9_min_7cf53 1 = .ok (.iload_n 1, 1) := by decide +kernel
theorem dJ9_min_7cf53_2 : decode cJ9_min_7cf53 2 = .ok (.if_icmp .gt 7, 3) := by decide +kernel
theorem dJ9_min_7cf53_5 : decode cJ9_min_7cf53 5 = .ok (.iload_n 0, 1) := by decide +kernel
theorem dJ9_min_7cf53_6 : decode cJ9_min_7cf53 6 = .ok (.goto 4, 3) := by decide +kernel
theorem dJ9_min_7cf53_9 : decode cJ9_min_7cf53 9 = .ok (.iload_n 1, 1) := by decide +kernel
theorem dJ9_min_7cf53_10 : decode cJ9_min_7cf53 10 = .ok (.ireturn, 1) := by decide +kernel
set_option maxRecDepth 20000 in
theorem ggL_law_X7_init : GoodIn wsL_law wsX7_init := goodIn_r _ [8, 9, 10, 11, 12, 13, 14, 15, 16, 17, 18, 19, 20, 21, 22, 23, 24, 25, 26, 27, 28, 29, 30, 31, 32, 33, 34, 35, 36, 37, 38, 39, 40, 41, 42, 43, 44, 45, 46, 47, 48, 49, 50, 51, 52, 53, 54, 55, 56, 57, 58, 59, 60, 61, 62, 63, 64, 65, 66, 67, 68, 69, 70, 71, 72, 73, 74, 75, 76, 77, 78, 79, 80, 81, 82, 83, 84, 85, 86, 797, 798, 799, 800, 801, 802, 803, 804, 805, 829, 830, 831, 832, 833, 834, 835, 836, 837, 838, 839, 840, 841, 842, 843, 844, 845, 846, 847, 848, 849, 850, 851] (by decide +kernel) (by decide +kernel)
set_option maxRecDepth 20000 in
theorem gL_law_X7_init : GoodIn wsL_law (wsX7_init) := ggL_law_X7_init
set_option maxRecDepth 20000 in
theorem ggL_law_X8_init : GoodIn wsL_law wsX8_init := goodIn_r _ [89, 90, 10, 11, 45, 91, 92, 93, 94, 95, 96, 97, 98, 99, 100, 101, 102, 103, 104, 105, 106, 107, 108, 109, 110, 806, 807, 808, 809, 810, 811, 812, 813, 814, 815, 816, 817, 818, 819, 820, 821, 822, 823, 824, 825, 826, 827, 828] (by decide +kernel) (by decide +kernel)
set_option maxRecDepth 20000 in
theorem gL_law_X8_init : GoodIn wsL_law (wsX8_init) := ggL_law_X8_init
set_option maxRecDepth 20000 in
theorem ggL_law_X7_type : GoodIn wsL_law wsX7_type := goodIn_r _ [114, 13, 115, 116, 2, 117, 118, 119, 120, 121, 122, 123, 124, 125, 126, 127, 39, 128, 77, 78, 76, 797, 798, 799, 800, 801, 802, 803, 804, 805, 844, 845, 846, 847] (by decide +kernel) (by decide +kernel)
set_option maxRecDepth 20000 in
theorem gL_law_X7_type : GoodIn wsL_law (wsV RL 13 RX7 yX7_type wsX7_type) := goodIn_app (goodIn_of _ (by decide +kernel)) ggL_law_X7_type
set_option maxRecDepth 20000 in
theorem ggL_law_X8_type : GoodIn wsL_law wsX8_type := goodIn_r _ [132, 91, 92, 133, 134, 5, 135, 136, 137, 138, 806, 807, 808, 809, 810, 811, 812, 813, 814, 815, 816, 817, 818, 819, 820, 821, 822, 823, 824, 825, 826, 827, 828] (by decide +kernel) (by decide +kernel)
set_option maxRecDepth 20000 in
theorem gL_law_X8_type : GoodIn wsL_law (wsV RL 17 RX8 yX8_type wsX8_type) := goodIn_app (goodIn_of _ (by decide +kernel)) ggL_law_X8_type
set_option maxRecDepth 20000 in
theorem ggL_law_X7_wipe : GoodIn wsL_law wsX7_wipe := goodIn_r _ [142, 13, 115, 116, 2, 117, 118, 119, 120, 143, 144, 145, 39, 146, 77, 78, 797, 798, 799, 800, 801, 802, 803, 804, 805, 844, 845, 846, 847] (by decide +kernel) (by decide +kernel)
set_option maxRecDepth 20000 in
theorem gL_law_X7_wipe : GoodIn wsL_law (wsV RL 18 RX7 yX7_wipe wsX7_wipe) := goodIn_app (goodIn_of _ (by decide +kernel)) ggL_law_X7_wipe
set_option maxRecDepth 20000 in
theorem ggL_law_X8_wipe : GoodIn wsL_law wsX8_wipe := goodIn_r _ [150, 91, 133, 134, 5, 135, 136, 137, 138, 806, 807, 808, 809, 810, 811, 812, 813, 814, 815, 816, 817, 818, 819, 820, 821, 822, 823, 824, 825, 826, 827, 828] (by decide +kernel) (by decide +kernel)
set_option maxRecDepth 20000 in
theorem gL_law_X8_wipe : GoodIn wsL_law (wsV RL 22 RX8 yX8_wipe wsX8_wipe) := goodIn_app (goodIn_of _ (by decide +kernel)) ggL_law_X8_wipe
set_option maxRecDepth 20000 in
theorem ggL_law_X7_fault : GoodIn wsL_law wsX7_fault := goodIn_r _ [154, 13, 155, 115, 116, 2, 117, 118, 119, 120, 797, 798, 799, 800, 801, 802, 803, 804, 805, 844, 845, 846, 847] (by decide +kernel) (by decide +kernel)
set_option maxRecDepth 20000 in
theorem gL_law_X7_fault : GoodIn wsL_law (wsV RL 23 RX7 yX7_fault wsX7_fault) := goodIn_app (goodIn_of _ (by decide +kernel)) ggL_law_X7_fault
set_option maxRecDepth 20000 in
theorem ggL_law_X8_fault : GoodIn wsL_law wsX8_fault := goodIn_r _ [159, 133, 134, 5, 135, 136, 137, 138, 160, 161, 162, 163, 91, 92, 164, 165, 166, 806, 807, 808, 809, 810, 811, 812, 813, 814, 815, 816, 817, 818, 819, 820, 821, 822, 823, 824, 825, 826, 827, 828] (by decide +kernel) (by decide +kernel)
set_option maxRecDepth 20000 in
theorem gL_law_X8_fault : GoodIn wsL_law (wsV RL 26 RX8 yX8_fault wsX8_fault) := goodIn_app (goodIn_of _ (by decide +kernel)) ggL_law_X8_fault
set_option maxRecDepth 20000 in
theorem ggL_law_X7_undo : GoodIn wsL_law wsX7_undo := goodIn_r _ [170, 13, 115, 116, 2, 117, 118, 119, 120, 171, 172, 173, 39, 174, 77, 78, 797, 798, 799, 800, 801, 802, 803, 804, 805, 844, 845, 846, 847] (by decide +kernel) (by decide +kernel)
set_option maxRecDepth 20000 in
theorem gL_law_X7_undo : GoodIn wsL_law (wsV RL 27 RX7 yX7_undo wsX7_undo) := goodIn_app (goodIn_of _ (by decide +kernel)) ggL_law_X7_undo
set_option maxRecDepth 20000 in
theorem ggL_law_X8_undo : GoodIn wsL_law wsX8_undo := goodIn_r _ [178, 91, 133, 134, 5, 135, 136, 137, 138, 806, 807, 808, 809, 810, 811, 812, 813, 814, 815, 816, 817, 818, 819, 820, 821, 822, 823, 824, 825, 826, 827, 828] (by decide +kernel) (by decide +kernel)
set_option maxRecDepth 20000 in
theorem gL_law_X8_undo : GoodIn wsL_law (wsV RL 30 RX8 yX8_undo wsX8_undo) := goodIn_app (goodIn_of _ (by decide +kernel)) ggL_law_X8_undo
set_option maxRecDepth 20000 in
theorem ggL_law_X7_calm : GoodIn wsL_law wsX7_calm := goodIn_r _ [182, 13, 183, 115, 116, 2, 117, 118, 119, 120, 797, 798, 799, 800, 801, 802, 803, 804, 805, 844, 845, 846, 847] (by decide +kernel) (by decide +kernel)
set_option maxRecDepth 20000 in
theorem gL_law_X7_calm : GoodIn wsL_law (wsV RL 31 RX7 yX7_calm wsX7_calm) := goodIn_app (goodIn_of _ (by decide +kernel)) ggL_law_X7_calm
set_option maxRecDepth 20000 in
theorem ggL_law_X8_calm : GoodIn wsL_law wsX8_calm := goodIn_r _ [187, 93, 133, 134, 5, 135, 136, 137, 138, 806, 807, 808, 809, 810, 811, 812, 813, 814, 815, 816, 817, 818, 819, 820, 821, 822, 823, 824, 825, 826, 827, 828] (by decide +kernel) (by decide +kernel)
set_option maxRecDepth 20000 in
theorem gL_law_X8_calm : GoodIn wsL_law (wsV RL 34 RX8 yX8_calm wsX8_calm) := goodIn_app (goodIn_of _ (by decide +kernel)) ggL_law_X8_calm
set_option maxRecDepth 20000 in
theorem ggL_law_X7_does : GoodIn wsL_law wsX7_does := goodIn_r _ [191, 21, 192, 193, 194, 2, 195, 118, 119, 120, 797, 798, 799, 800, 801, 802, 803, 804, 805, 829, 830, 831, 832, 833] (by decide +kernel) (by decide +kernel)
set_option maxRecDepth 20000 in
theorem gL_law_X7_does : GoodIn wsL_law (wsV RL 35 RX7 yX7_does wsX7_does) := goodIn_app (goodIn_of _ (by decide +kernel)) ggL_law_X7_does
set_option maxRecDepth 20000 in
theorem ggL_law_X8_does : GoodIn wsL_law wsX8_does := goodIn_r _ [199, 94, 200, 201, 5, 202, 136, 137, 138, 806, 807, 808, 809, 810, 811, 812, 813, 814, 815, 816, 817, 818, 819, 820, 821, 822, 823, 824, 825, 826, 827, 828] (by decide +kernel) (by decide +kernel)
set_option maxRecDepth 20000 in
theorem gL_law_X8_does : GoodIn wsL_law (wsV RL 38 RX8 yX8_does wsX8_does) := goodIn_app (goodIn_of _ (by decide +kernel)) ggL_law_X8_does
set_option maxRecDepth 20000 in
theorem ggL_law_X7_set : GoodIn wsL_law wsX7_set := goodIn_r _ [206, 207, 208, 209, 2, 210, 21, 211, 118, 119, 120, 212, 213, 214, 215, 216, 217, 218, 219, 220, 221, 797, 798, 799, 800, 801, 802, 803, 804, 805, 829, 830, 831, 832, 833] (by decide +kernel) (by decide +kernel)
set_option maxRecDepth 20000 in
theorem gL_law_X7_set : GoodIn wsL_law (wsV RL 39 RX7 yX7_set wsX7_set) := goodIn_app (goodIn_of _ (by decide +kernel)) ggL_law_X7_set
set_option maxRecDepth 20000 in
theorem ggL_law_X8_set : GoodIn wsL_law wsX8_set := goodIn_r _ [225, 110, 226, 227, 136, 137, 5, 138, 806, 807, 808, 809, 810, 811, 812, 813, 814, 815, 816, 817, 818, 819, 820, 821, 822, 823, 824, 825, 826, 827, 828] (by decide +kernel) (by decide +kernel)
set_option maxRecDepth 20000 in
theorem gL_law_X8_set : GoodIn wsL_law (wsV RL 42 RX8 yX8_set wsX8_set) := goodIn_app (goodIn_of _ (by decide +kernel)) ggL_law_X8_set
set_option maxRecDepth 20000 in
theorem ggL_law_X7_price : GoodIn wsL_law wsX7_price := goodIn_r _ [231, 21, 232, 193, 194, 2, 195, 118, 119, 120, 797, 798, 799, 800, 801, 802, 803, 804, 805, 829, 830, 831, 832, 833] (by decide +kernel) (by decide +kernel)
set_option maxRecDepth 20000 in
theorem gL_law_X7_price : GoodIn wsL_law (wsV RL 43 RX7 yX7_price wsX7_price) := goodIn_app (goodIn_of _ (by decide +kernel)) ggL_law_X7_price
set_option maxRecDepth 20000 in
theorem ggL_law_X8_price : GoodIn wsL_law wsX8_price := goodIn_r _ [236, 95, 200, 201, 5, 202, 136, 137, 138, 806, 807, 808, 809, 810, 811, 812, 813, 814, 815, 816, 817, 818, 819, 820, 821, 822, 823, 824, 825, 826, 827, 828] (by decide +kernel) (by decide +kernel)
set_option maxRecDepth 20000 in
theorem gL_law_X8_price : GoodIn wsL_law (wsV RL 46 RX8 yX8_price wsX8_price) := goodIn_app (goodIn_of _ (by decide +kernel)) ggL_law_X8_price
set_option maxRecDepth 20000 in
theorem ggL_law_X7_read : GoodIn wsL_law wsX7_read := goodIn_r _ [240, 17, 241, 13, 242, 243, 2, 244, 118, 119, 120, 115, 116, 117, 245, 246, 247, 248, 37, 249, 250, 251, 39, 252, 253, 254, 255, 256, 257, 77, 78, 258, 76, 194, 195, 797, 798, 799, 800, 801, 802, 803, 804, 805, 848, 849, 850, 851, 844, 845, 846, 847] (by decide +kernel) (by decide +kernel)
set_option maxRecDepth 20000 in
theorem gL_law_X7_read : GoodIn wsL_law (wsV RL 47 RX7 yX7_read wsX7_read) := goodIn_app (goodIn_of _ (by decide +kernel)) ggL_law_X7_read
set_option maxRecDepth 20000 in
theorem ggL_law_X8_read : GoodIn wsL_law wsX8_read := goodIn_r _ [262, 105, 107, 108, 92, 91, 263, 264, 5, 265, 136, 137, 138, 133, 134, 135, 266, 267, 268, 269, 270, 200, 201, 202, 271, 272, 273, 806, 807, 808, 809, 810, 811, 812, 813, 814, 815, 816, 817, 818, 819, 820, 821, 822, 823, 824, 825, 826, 827, 828] (by decide +kernel) (by decide +kernel)
set_option maxRecDepth 20000 in
theorem gL_law_X8_read : GoodIn wsL_law (wsV RL 50 RX8 yX8_read wsX8_read) := goodIn_app (goodIn_of _ (by decide +kernel)) ggL_law_X8_read
set_option maxRecDepth 20000 in
theorem ggL_law_X7_dish : GoodIn wsL_law wsX7_dish := goodIn_r _ [277, 278, 115, 116, 2, 117, 118, 119, 120, 279, 280, 281, 282, 283, 284, 285, 15, 13, 21, 286, 287, 288, 27, 289, 61, 290, 63, 291, 292, 293, 39, 294, 78, 77, 295, 296, 297, 298, 76, 299, 300, 301, 302, 62, 303, 304, 305, 20, 306, 46, 838, 839, 840, 797, 798, 799, 800, 801, 802, 803, 804, 805, 844, 845, 846, 847, 829, 830, 831, 832, 833] (by decide +kernel) (by decide +kernel)
set_option maxRecDepth 20000 in
theorem gL_law_X7_dish : GoodIn wsL_law (wsV RL 51 RX7 yX7_dish wsX7_dish) := goodIn_app (goodIn_of _ (by decide +kernel)) ggL_law_X7_dish
set_option maxRecDepth 20000 in
theorem ggL_law_X8_dish : GoodIn wsL_law wsX8_dish := goodIn_r _ [310, 133, 134, 5, 135, 136, 137, 138, 311, 312, 313, 314, 315, 316, 317, 96, 318, 319, 320, 321, 322, 323, 324, 325, 93, 98, 92, 97, 326, 327, 328, 329, 91, 160, 161, 162, 163, 164, 165, 166, 330, 331, 332, 333, 94, 334, 335, 336, 337, 110, 806, 807, 808, 809, 810, 811, 812, 813, 814, 815, 816, 817, 818, 819, 820, 821, 822, 823, 824, 825, 826, 827, 828] (by decide +kernel) (by decide +kernel)
set_option maxRecDepth 20000 in
theorem gL_law_X8_dish : GoodIn wsL_law (wsV RL 54 RX8 yX8_dish wsX8_dish) := goodIn_app (goodIn_of _ (by decide +kernel)) ggL_law_X8_dish
set_option maxRecDepth 20000 in
theorem ggL_law_X7_level : GoodIn wsL_law wsX7_level := goodIn_r _ [341, 342, 115, 116, 2, 117, 118, 119, 120, 279, 280, 281, 282, 283, 284, 285, 15, 13, 21, 286, 287, 288, 27, 289, 61, 290, 63, 291, 292, 293, 39, 294, 78, 77, 295, 296, 297, 298, 76, 299, 300, 301, 302, 62, 303, 304, 305, 20, 306, 46, 838, 839, 840, 797, 798, 799, 800, 801, 802, 803, 804, 805, 844, 845, 846, 847, 829, 830, 831, 832, 833] (by decide +kernel) (by decide +kernel)
set_option maxRecDepth 20000 in
theorem gL_law_X7_level : GoodIn wsL_law (wsV RL 55 RX7 yX7_level wsX7_level) := goodIn_app (goodIn_of _ (by decide +kernel)) ggL_law_X7_level
set_option maxRecDepth 20000 in
theorem ggL_law_X8_level : GoodIn wsL_law wsX8_level := goodIn_r _ [346, 133, 134, 5, 135, 136, 137, 138, 311, 312, 313, 347, 348, 349, 350, 97, 318, 319, 320, 321, 322, 323, 324, 325, 93, 98, 92, 96, 326, 327, 328, 329, 91, 160, 161, 162, 163, 164, 165, 166, 330, 331, 332, 333, 94, 334, 335, 336, 337, 110, 806, 807, 808, 809, 810, 811, 812, 813, 814, 815, 816, 817, 818, 819, 820, 821, 822, 823, 824, 825, 826, 827, 828] (by decide +kernel) (by decide +kernel)
set_option maxRecDepth 20000 in
theorem gL_law_X8_level : GoodIn wsL_law (wsV RL 58 RX8 yX8_level wsX8_level) := goodIn_app (goodIn_of _ (by decide +kernel)) ggL_law_X8_level
set_option maxRecDepth 20000 in
theorem ggL_law_X7_hiccups : GoodIn wsL_law wsX7_hiccups := goodIn_r _ [354, 115, 116, 2, 117, 118, 119, 120, 355, 356, 357, 358, 21, 282, 283, 284, 285, 15, 13, 286, 287, 288, 27, 289, 61, 290, 63, 291, 292, 293, 39, 294, 78, 77, 295, 296, 297, 298, 76, 299, 300, 301, 302, 62, 303, 304, 305, 20, 306, 46, 359, 360, 361, 362, 363, 364, 365, 366, 48, 797, 798, 799, 800, 801, 802, 803, 804, 805, 838, 839, 840, 844, 845, 846, 847, 829, 830, 831, 832, 833] (by decide +kernel) (by decide +kernel)
set_option maxRecDepth 20000 in
theorem gL_law_X7_hiccups : GoodIn wsL_law (wsV RL 59 RX7 yX7_hiccups wsX7_hiccups) := goodIn_app (goodIn_of _ (by decide +kernel)) ggL_law_X7_hiccups
set_option maxRecDepth 20000 in
theorem ggL_law_X8_hiccups : GoodIn wsL_law wsX8_hiccups := goodIn_r _ [370, 133, 134, 5, 135, 136, 137, 138, 371, 372, 373, 374, 98, 318, 319, 320, 321, 322, 323, 324, 325, 93, 92, 96, 97, 326, 327, 328, 329, 91, 160, 161, 162, 163, 164, 165, 166, 330, 331, 332, 333, 94, 334, 335, 336, 337, 110, 806, 807, 808, 809, 810, 811, 812, 813, 814, 815, 816, 817, 818, 819, 820, 821, 822, 823, 824, 825, 826, 827, 828] (by decide +kernel) (by decide +kernel)
set_option maxRecDepth 20000 in
theorem gL_law_X8_hiccups : GoodIn wsL_law (wsV RL 62 RX8 yX8_hiccups wsX8_hiccups) := goodIn_app (goodIn_of _ (by decide +kernel)) ggL_law_X8_hiccups
set_option maxRecDepth 20000 in
theorem ggL_law_X7_broken : GoodIn wsL_law wsX7_broken := goodIn_r _ [378, 118, 119, 2, 120, 379, 380, 381, 382, 355, 356, 357, 358, 21, 282, 283, 284, 285, 15, 13, 286, 287, 288, 27, 289, 61, 290, 63, 291, 292, 293, 39, 294, 78, 77, 295, 296, 297, 298, 76, 299, 300, 301, 302, 62, 303, 304, 305, 20, 306, 46, 359, 360, 361, 362, 363, 364, 365, 366, 48, 797, 798, 799, 800, 801, 802, 803, 804, 805, 838, 839, 840, 844, 845, 846, 847, 829, 830, 831, 832, 833] (by decide +kernel) (by decide +kernel)
set_option maxRecDepth 20000 in
theorem gL_law_X7_broken : GoodIn wsL_law (wsV RL 63 RX7 yX7_broken wsX7_broken) := goodIn_app (goodIn_of _ (by decide +kernel)) ggL_law_X7_broken
set_option maxRecDepth 20000 in
theorem ggL_law_X8_broken : GoodIn wsL_law wsX8_broken := goodIn_r _ [386, 136, 137, 5, 138, 387, 388, 389, 390, 98, 391, 318, 319, 320, 321, 322, 323, 324, 325, 93, 92, 96, 97, 326, 327, 328, 329, 91, 160, 161, 162, 163, 164, 165, 166, 330, 331, 332, 333, 94, 334, 335, 336, 337, 110, 806, 807, 808, 809, 810, 811, 812, 813, 814, 815, 816, 817, 818, 819, 820, 821, 822, 823, 824, 825, 826, 827, 828] (by decide +kernel) (by decide +kernel)
set_option maxRecDepth 20000 in
theorem gL_law_X8_broken : GoodIn wsL_law (wsV RL 66 RX8 yX8_broken wsX8_broken) := goodIn_app (goodIn_of _ (by decide +kernel)) ggL_law_X8_broken
set_option maxRecDepth 20000 in
theorem ggL_law_X7_judged : GoodIn wsL_law wsX7_judged := goodIn_r _ [395, 21, 216, 379, 380, 381, 2, 382, 355, 356, 357, 358, 282, 283, 284, 285, 15, 13, 286, 287, 288, 27, 289, 61, 290, 63, 291, 292, 293, 39, 294, 78, 77, 295, 296, 297, 298, 76, 299, 300, 301, 302, 62, 303, 304, 305, 20, 306, 46, 359, 360, 361, 362, 363, 364, 365, 366, 48, 396, 397, 398, 797, 798, 799, 800, 801, 802, 803, 804, 805, 829, 830, 831, 832, 833, 838, 839, 840, 844, 845, 846, 847] (by decide +kernel) (by decide +kernel)
set_option maxRecDepth 20000 in
theorem gL_law_X7_judged : GoodIn wsL_law (wsV RL 67 RX7 yX7_judged wsX7_judged) := goodIn_app (goodIn_of _ (by decide +kernel)) ggL_law_X7_judged
set_option maxRecDepth 20000 in
theorem ggL_law_X8_judged : GoodIn wsL_law wsX8_judged := goodIn_r _ [402, 403, 404, 405, 5, 406, 226, 387, 388, 389, 390, 98, 391, 318, 319, 320, 321, 322, 323, 324, 325, 93, 92, 96, 97, 326, 327, 328, 329, 91, 160, 161, 162, 163, 164, 165, 166, 136, 137, 138, 330, 331, 332, 333, 94, 334, 335, 336, 337, 110, 407, 408, 409, 806, 807, 808, 809, 810, 811, 812, 813, 814, 815, 816, 817, 818, 819, 820, 821, 822, 823, 824, 825, 826, 827, 828] (by decide +kernel) (by decide +kernel)
set_option maxRecDepth 20000 in
theorem gL_law_X8_judged : GoodIn wsL_law (wsV RL 71 RX8 yX8_judged wsX8_judged) := goodIn_app (goodIn_of _ (by decide +kernel)) ggL_law_X8_judged
set_option maxRecDepth 20000 in
theorem ggL_law_X7_armistice : GoodIn wsL_law wsX7_armistice := goodIn_r _ [413, 21, 216, 118, 119, 2, 120, 379, 380, 381, 382, 355, 356, 357, 358, 282, 283, 284, 285, 15, 13, 286, 287, 288, 27, 289, 61, 290, 63, 291, 292, 293, 39, 294, 78, 77, 295, 296, 297, 298, 76, 299, 300, 301, 302, 62, 303, 304, 305, 20, 306, 46, 359, 360, 361, 362, 363, 364, 365, 366, 48, 396, 397, 398, 797, 798, 799, 800, 801, 802, 803, 804, 805, 829, 830, 831, 832, 833, 838, 839, 840, 844, 845, 846, 847] (by decide +kernel) (by decide +kernel)
set_option maxRecDepth 20000 in
theorem gL_law_X7_armistice : GoodIn wsL_law (wsV RL 72 RX7 yX7_armistice wsX7_armistice) := goodIn_app (goodIn_of _ (by decide +kernel)) ggL_law_X7_armistice
set_option maxRecDepth 20000 in
theorem ggL_law_X8_armistice : GoodIn wsL_law wsX8_armistice := goodIn_r _ [417, 136, 137, 5, 138, 418, 419, 420, 421, 226, 387, 388, 389, 390, 98, 391, 318, 319, 320, 321, 322, 323, 324, 325, 93, 92, 96, 97, 326, 327, 328, 329, 91, 160, 161, 162, 163, 164, 165, 166, 330, 331, 332, 333, 94, 334, 335, 336, 337, 110, 407, 408, 409, 806, 807, 808, 809, 810, 811, 812, 813, 814, 815, 816, 817, 818, 819, 820, 821, 822, 823, 824, 825, 826, 827, 828] (by decide +kernel) (by decide +kernel)
set_option maxRecDepth 20000 in
theorem gL_law_X8_armistice : GoodIn wsL_law (wsV RL 75 RX8 yX8_armistice wsX8_armistice) := goodIn_app (goodIn_of _ (by decide +kernel)) ggL_law_X8_armistice
set_option maxRecDepth 20000 in
theorem ggL_law_X7_led : GoodIn wsL_law wsX7_led := goodIn_r _ [425, 21, 342, 278, 211, 115, 116, 2, 117, 118, 119, 120, 279, 280, 281, 282, 283, 284, 285, 15, 13, 286, 287, 288, 27, 289, 61, 290, 63, 291, 292, 293, 39, 294, 78, 77, 295, 296, 297, 298, 76, 299, 300, 301, 302, 62, 303, 304, 305, 20, 306, 46, 426, 364, 365, 366, 48, 427, 428, 429, 430, 797, 798, 799, 800, 801, 802, 803, 804, 805, 838, 839, 840, 829, 830, 831, 832, 833, 844, 845, 846, 847] (by decide +kernel) (by decide +kernel)
set_option maxRecDepth 20000 in
theorem gL_law_X7_led : GoodIn wsL_law (wsV RL 76 RX7 yX7_led wsX7_led) := goodIn_app (goodIn_of _ (by decide +kernel)) ggL_law_X7_led
set_option maxRecDepth 20000 in
theorem ggL_law_X8_led : GoodIn wsL_law wsX8_led := goodIn_r _ [434, 133, 134, 5, 135, 136, 137, 138, 311, 312, 313, 435, 436, 437, 438, 98, 97, 110, 93, 318, 319, 320, 321, 322, 323, 324, 325, 92, 96, 326, 327, 328, 329, 91, 160, 161, 162, 163, 164, 165, 166, 330, 331, 332, 333, 94, 334, 335, 336, 337, 407, 408, 409, 806, 807, 808, 809, 810, 811, 812, 813, 814, 815, 816, 817, 818, 819, 820, 821, 822, 823, 824, 825, 826, 827, 828] (by decide +kernel) (by decide +kernel)
set_option maxRecDepth 20000 in
theorem gL_law_X8_led : GoodIn wsL_law (wsV RL 79 RX8 yX8_led wsX8_led) := goodIn_app (goodIn_of _ (by decide +kernel)) ggL_law_X8_led
set_option maxRecDepth 20000 in
theorem ggL_law_X7_odds : GoodIn wsL_law wsX7_odds := goodIn_r _ [442, 443, 444, 445, 279, 280, 2, 281, 118, 119, 120, 282, 283, 284, 285, 15, 13, 21, 286, 287, 288, 27, 289, 61, 290, 63, 291, 292, 293, 39, 294, 78, 77, 295, 296, 297, 298, 76, 299, 300, 301, 302, 62, 303, 304, 305, 20, 306, 46, 446, 447, 448, 449, 797, 798, 799, 800, 801, 802, 803, 804, 805, 838, 839, 840, 844, 845, 846, 847, 829, 830, 831, 832, 833] (by decide +kernel) (by decide +kernel)
set_option maxRecDepth 20000 in
theorem gL_law_X7_odds : GoodIn wsL_law (wsV RL 80 RX7 yX7_odds wsX7_odds) := goodIn_app (goodIn_of _ (by decide +kernel)) ggL_law_X7_odds
set_option maxRecDepth 20000 in
theorem ggL_law_X8_odds : GoodIn wsL_law wsX8_odds := goodIn_r _ [453, 311, 312, 5, 313, 136, 137, 138, 454, 455, 456, 457, 458, 318, 319, 320, 321, 322, 323, 324, 325, 93, 98, 92, 96, 97, 326, 327, 328, 329, 91, 160, 161, 162, 163, 164, 165, 166, 330, 331, 332, 333, 94, 334, 335, 336, 337, 110, 459, 460, 461, 462, 463, 464, 465, 466, 467, 468, 469, 806, 807, 808, 809, 810, 811, 812, 813, 814, 815, 816, 817, 818, 819, 820, 821, 822, 823, 824, 825, 826, 827, 828] (by decide +kernel) (by decide +kernel)
set_option maxRecDepth 20000 in
theorem gL_law_X8_odds : GoodIn wsL_law (wsV RL 84 RX8 yX8_odds wsX8_odds) := goodIn_app (goodIn_of _ (by decide +kernel)) ggL_law_X8_odds
set_option maxRecDepth 20000 in
theorem ggL_law_X7_heard : GoodIn wsL_law wsX7_heard := goodIn_r _ [473, 474, 115, 116, 2, 117, 118, 119, 120, 282, 283, 284, 285, 15, 13, 21, 286, 287, 288, 27, 289, 61, 290, 63, 291, 292, 293, 39, 294, 78, 77, 295, 296, 297, 298, 76, 299, 300, 301, 302, 62, 303, 304, 305, 20, 306, 46, 446, 447, 448, 449, 280, 281, 797, 798, 799, 800, 801, 802, 803, 804, 805, 838, 839, 840, 844, 845, 846, 847, 829, 830, 831, 832, 833] (by decide +kernel) (by decide +kernel)
set_option maxRecDepth 20000 in
theorem gL_law_X7_heard : GoodIn wsL_law (wsV RL 85 RX7 yX7_heard wsX7_heard) := goodIn_app (goodIn_of _ (by decide +kernel)) ggL_law_X7_heard
set_option maxRecDepth 20000 in
theorem ggL_law_X8_heard : GoodIn wsL_law wsX8_heard := goodIn_r _ [478, 133, 134, 5, 135, 136, 137, 138, 479, 480, 481, 482, 483, 318, 319, 320, 321, 322, 323, 324, 325, 93, 98, 92, 96, 97, 326, 327, 328, 329, 91, 160, 161, 162, 163, 164, 165, 166, 330, 331, 332, 333, 94, 334, 335, 336, 337, 110, 459, 460, 461, 462, 806, 807, 808, 809, 810, 811, 812, 813, 814, 815, 816, 817, 818, 819, 820, 821, 822, 823, 824, 825, 826, 827, 828] (by decide +kernel) (by decide +kernel)
set_option maxRecDepth 20000 in
theorem gL_law_X8_heard : GoodIn wsL_law (wsV RL 88 RX8 yX8_heard wsX8_heard) := goodIn_app (goodIn_of _ (by decide +kernel)) ggL_law_X8_heard
set_option maxRecDepth 20000 in
theorem ggL_law_X7_quiet : GoodIn wsL_law wsX7_quiet := goodIn_r _ [487, 32, 21, 488, 489, 490, 2, 491, 118, 119, 120, 279, 280, 281, 282, 283, 284, 285, 15, 13, 286, 287, 288, 27, 289, 61, 290, 63, 291, 292, 293, 39, 294, 78, 77, 295, 296, 297, 298, 76, 299, 300, 301, 302, 62, 303, 304, 305, 20, 306, 46, 427, 428, 429, 430, 355, 356, 357, 358, 359, 360, 361, 362, 363, 364, 365, 366, 48, 492, 493, 494, 31, 495, 67, 397, 398, 496, 497, 498, 499, 500, 68, 501, 502, 503, 504, 505, 506, 50, 507, 508, 509, 510, 511, 512, 513, 514, 47, 194, 195, 515, 516, 517, 518, 519, 520, 521, 522, 797, 798, 799, 800, 801, 802, 803, 804, 805, 838, 839, 840, 844, 845, 846, 847, 829, 830, 831, 832, 833, 841, 842] (by decide +kernel) (by decide +kernel)
set_option maxRecDepth 20000 in
theorem gL_law_X7_quiet : GoodIn wsL_law (wsV RL 89 RX7 yX7_quiet wsX7_quiet) := goodIn_app (goodIn_of _ (by decide +kernel)) ggL_law_X7_quiet
set_option maxRecDepth 20000 in
theorem ggL_law_X8_quiet : GoodIn wsL_law wsX8_quiet := goodIn_r _ [526, 136, 137, 5, 138, 311, 312, 313, 527, 528, 529, 530, 98, 99, 531, 95, 93, 97, 318, 319, 320, 321, 322, 323, 324, 325, 92, 96, 326, 327, 328, 329, 91, 160, 161, 162, 163, 164, 165, 166, 330, 331, 332, 333, 94, 334, 335, 336, 337, 110, 407, 408, 409, 532, 533, 534, 535, 226, 227, 806, 807, 808, 809, 810, 811, 812, 813, 814, 815, 816, 817, 818, 819, 820, 821, 822, 823, 824, 825, 826, 827, 828] (by decide +kernel) (by decide +kernel)
set_option maxRecDepth 20000 in
theorem gL_law_X8_quiet : GoodIn wsL_law (wsV RL 93 RX8 yX8_quiet wsX8_quiet) := goodIn_app (goodIn_of _ (by decide +kernel)) ggL_law_X8_quiet
set_option maxRecDepth 20000 in
theorem ggL_law_X7_force : GoodIn wsL_law wsX7_force := goodIn_r _ [539, 36, 21, 279, 280, 2, 281, 118, 119, 120, 282, 283, 284, 285, 15, 13, 286, 287, 288, 27, 289, 61, 290, 63, 291, 292, 293, 39, 294, 78, 77, 295, 296, 297, 298, 76, 299, 300, 301, 302, 62, 303, 304, 305, 20, 306, 46, 427, 428, 429, 430, 540, 541, 542, 35, 543, 72, 544, 545, 546, 547, 548, 549, 550, 551, 552, 504, 505, 506, 50, 553, 554, 555, 556, 557, 558, 364, 365, 366, 48, 559, 560, 561, 562, 563, 797, 798, 799, 800, 801, 802, 803, 804, 805, 838, 839, 840, 844, 845, 846, 847, 829, 830, 831, 832, 833, 843] (by decide +kernel) (by decide +kernel)
set_option maxRecDepth 20000 in
theorem gL_law_X7_force : GoodIn wsL_law (wsV RL 94 RX7 yX7_force wsX7_force) := goodIn_app (goodIn_of _ (by decide +kernel)) ggL_law_X7_force
set_option maxRecDepth 20000 in
theorem ggL_law_X8_force : GoodIn wsL_law wsX8_force := goodIn_r _ [567, 311, 312, 5, 313, 136, 137, 138, 568, 569, 570, 571, 101, 93, 97, 318, 319, 320, 321, 322, 323, 324, 325, 98, 92, 96, 326, 327, 328, 329, 91, 160, 161, 162, 163, 164, 165, 166, 330, 331, 332, 333, 94, 334, 335, 336, 337, 110, 572, 573, 574, 575, 227, 407, 408, 409, 806, 807, 808, 809, 810, 811, 812, 813, 814, 815, 816, 817, 818, 819, 820, 821, 822, 823, 824, 825, 826, 827, 828] (by decide +kernel) (by decide +kernel)
set_option maxRecDepth 20000 in
theorem gL_law_X8_force : GoodIn wsL_law (wsV RL 98 RX8 yX8_force wsX8_force) := goodIn_app (goodIn_of _ (by decide +kernel)) ggL_law_X8_force
set_option maxRecDepth 20000 in
theorem ggL_law_X7_seen : GoodIn wsL_law wsX7_seen := goodIn_r _ [579, 25, 115, 116, 2, 117, 118, 119, 120, 279, 280, 281, 580, 581, 582, 24, 583, 57, 54, 55, 56, 797, 798, 799, 800, 801, 802, 803, 804, 805, 834, 835, 836, 837] (by decide +kernel) (by decide +kernel)
set_option maxRecDepth 20000 in
theorem gL_law_X7_seen : GoodIn wsL_law (wsV RL 99 RX7 yX7_seen wsX7_seen) := goodIn_app (goodIn_of _ (by decide +kernel)) ggL_law_X7_seen
set_option maxRecDepth 20000 in
theorem ggL_law_X8_seen : GoodIn wsL_law wsX8_seen := goodIn_r _ [587, 588, 102, 103, 104, 133, 134, 5, 135, 136, 137, 138, 311, 312, 313, 806, 807, 808, 809, 810, 811, 812, 813, 814, 815, 816, 817, 818, 819, 820, 821, 822, 823, 824, 825, 826, 827, 828] (by decide +kernel) (by decide +kernel)
set_option maxRecDepth 20000 in
theorem gL_law_X8_seen : GoodIn wsL_law (wsV RL 102 RX8 yX8_seen wsX8_seen) := goodIn_app (goodIn_of _ (by decide +kernel)) ggL_law_X8_seen
set_option maxRecDepth 20000 in
theorem ggL_law_X7_forget : GoodIn wsL_law wsX7_forget := goodIn_r _ [592, 25, 593, 797, 798, 799, 800, 801, 802, 803, 804, 805, 834, 835, 836, 837] (by decide +kernel) (by decide +kernel)
set_option maxRecDepth 20000 in
theorem gL_law_X7_forget : GoodIn wsL_law (wsV RL 103 RX7 yX7_forget wsX7_forget) := goodIn_app (goodIn_of _ (by decide +kernel)) ggL_law_X7_forget
set_option maxRecDepth 20000 in
theorem ggL_law_X8_forget : GoodIn wsL_law wsX8_forget := goodIn_r _ [597, 588, 806, 807, 808, 809, 810, 811, 812, 813, 814, 815, 816, 817, 818, 819, 820, 821, 822, 823, 824, 825, 826, 827, 828] (by decide +kernel) (by decide +kernel)
set_option maxRecDepth 20000 in
theorem gL_law_X8_forget : GoodIn wsL_law (wsV RL 106 RX8 yX8_forget wsX8_forget) := goodIn_app (goodIn_of _ (by decide +kernel)) ggL_law_X8_forget
set_option maxRecDepth 20000 in
theorem ggL_law_X7_fright : GoodIn wsL_law wsX7_fright := goodIn_r _ [601, 28, 13, 278, 21, 25, 115, 116, 2, 117, 118, 119, 120, 286, 287, 288, 27, 289, 61, 290, 63, 291, 292, 293, 39, 294, 78, 77, 295, 296, 297, 298, 76, 299, 300, 301, 302, 62, 303, 304, 305, 20, 306, 46, 359, 360, 361, 362, 363, 364, 365, 366, 48, 602, 603, 604, 24, 605, 57, 54, 55, 56, 397, 398, 797, 798, 799, 800, 801, 802, 803, 804, 805, 838, 839, 840, 844, 845, 846, 847, 829, 830, 831, 832, 833, 834, 835, 836, 837] (by decide +kernel) (by decide +kernel)
set_option maxRecDepth 20000 in
theorem gL_law_X7_fright : GoodIn wsL_law (wsV RL 107 RX7 yX7_fright wsX7_fright) := goodIn_app (goodIn_of _ (by decide +kernel)) ggL_law_X7_fright
set_option maxRecDepth 20000 in
theorem ggL_law_X8_fright : GoodIn wsL_law wsX8_fright := goodIn_r _ [609, 133, 134, 5, 135, 136, 137, 138, 610, 611, 612, 613, 588, 102, 98, 103, 104, 322, 323, 324, 325, 93, 92, 96, 97, 326, 327, 328, 329, 91, 160, 161, 162, 163, 164, 165, 166, 330, 331, 332, 333, 94, 334, 335, 336, 337, 110, 806, 807, 808, 809, 810, 811, 812, 813, 814, 815, 816, 817, 818, 819, 820, 821, 822, 823, 824, 825, 826, 827, 828] (by decide +kernel) (by decide +kernel)
set_option maxRecDepth 20000 in
theorem gL_law_X8_fright : GoodIn wsL_law (wsV RL 110 RX8 yX8_fright wsX8_fright) := goodIn_app (goodIn_of _ (by decide +kernel)) ggL_law_X8_fright
set_option maxRecDepth 20000 in
theorem ggL_law_X7_unlike : GoodIn wsL_law wsX7_unlike := goodIn_r _ [617, 25, 355, 356, 357, 2, 358, 21, 282, 283, 284, 285, 15, 13, 286, 287, 288, 27, 289, 61, 290, 63, 291, 292, 293, 39, 294, 78, 77, 295, 296, 297, 298, 76, 299, 300, 301, 302, 62, 303, 304, 305, 20, 306, 46, 359, 360, 361, 362, 363, 364, 365, 366, 48, 602, 603, 604, 24, 605, 57, 54, 55, 56, 397, 398, 797, 798, 799, 800, 801, 802, 803, 804, 805, 838, 839, 840, 844, 845, 846, 847, 829, 830, 831, 832, 833, 834, 835, 836, 837] (by decide +kernel) (by decide +kernel)
set_option maxRecDepth 20000 in
theorem gL_law_X7_unlike : GoodIn wsL_law (wsV RL 111 RX7 yX7_unlike wsX7_unlike) := goodIn_app (goodIn_of _ (by decide +kernel)) ggL_law_X7_unlike
set_option maxRecDepth 20000 in
theorem ggL_law_X8_unlike : GoodIn wsL_law wsX8_unlike := goodIn_r _ [621, 622, 623, 624, 5, 625, 588, 98, 102, 103, 104, 318, 319, 320, 321, 322, 323, 324, 325, 93, 92, 96, 97, 326, 327, 328, 329, 91, 160, 161, 162, 163, 164, 165, 166, 136, 137, 138, 330, 331, 332, 333, 94, 334, 335, 336, 337, 110, 806, 807, 808, 809, 810, 811, 812, 813, 814, 815, 816, 817, 818, 819, 820, 821, 822, 823, 824, 825, 826, 827, 828] (by decide +kernel) (by decide +kernel)
set_option maxRecDepth 20000 in
theorem gL_law_X8_unlike : GoodIn wsL_law (wsV RL 114 RX8 yX8_unlike wsX8_unlike) := goodIn_app (goodIn_of _ (by decide +kernel)) ggL_law_X8_unlike
set_option maxRecDepth 20000 in
theorem ggL_law_X7_parrot : GoodIn wsL_law wsX7_parrot := goodIn_r _ [629, 489, 490, 2, 491, 118, 119, 120, 355, 356, 357, 358, 21, 282, 283, 284, 285, 15, 13, 286, 287, 288, 27, 289, 61, 290, 63, 291, 292, 293, 39, 294, 78, 77, 295, 296, 297, 298, 76, 299, 300, 301, 302, 62, 303, 304, 305, 20, 306, 46, 359, 360, 361, 362, 363, 364, 365, 366, 48, 797, 798, 799, 800, 801, 802, 803, 804, 805, 838, 839, 840, 844, 845, 846, 847, 829, 830, 831, 832, 833] (by decide +kernel) (by decide +kernel)
set_option maxRecDepth 20000 in
theorem gL_law_X7_parrot : GoodIn wsL_law (wsV RL 115 RX7 yX7_parrot wsX7_parrot) := goodIn_app (goodIn_of _ (by decide +kernel)) ggL_law_X7_parrot
set_option maxRecDepth 20000 in
theorem ggL_law_X8_parrot : GoodIn wsL_law wsX8_parrot := goodIn_r _ [633, 136, 137, 5, 138, 634, 635, 636, 637, 98, 391, 318, 319, 320, 321, 322, 323, 324, 325, 93, 92, 96, 97, 326, 327, 328, 329, 91, 160, 161, 162, 163, 164, 165, 166, 330, 331, 332, 333, 94, 334, 335, 336, 337, 110, 806, 807, 808, 809, 810, 811, 812, 813, 814, 815, 816, 817, 818, 819, 820, 821, 822, 823, 824, 825, 826, 827, 828] (by decide +kernel) (by decide +kernel)
set_option maxRecDepth 20000 in
theorem gL_law_X8_parrot : GoodIn wsL_law (wsV RL 118 RX8 yX8_parrot wsX8_parrot) := goodIn_app (goodIn_of _ (by decide +kernel)) ggL_law_X8_parrot
set_option maxRecDepth 20000 in
theorem ggL_law_X7_trained : GoodIn wsL_law wsX7_trained := goodIn_r _ [641, 489, 490, 2, 491, 118, 119, 120, 355, 356, 357, 358, 21, 282, 283, 284, 285, 15, 13, 286, 287, 288, 27, 289, 61, 290, 63, 291, 292, 293, 39, 294, 78, 77, 295, 296, 297, 298, 76, 299, 300, 301, 302, 62, 303, 304, 305, 20, 306, 46, 359, 360, 361, 362, 363, 364, 365, 366, 48, 642, 643, 644, 645, 28, 646, 647, 648, 649, 650, 651, 652, 797, 798, 799, 800, 801, 802, 803, 804, 805, 838, 839, 840, 844, 845, 846, 847, 829, 830, 831, 832, 833] (by decide +kernel) (by decide +kernel)
set_option maxRecDepth 20000 in
theorem gL_law_X7_trained : GoodIn wsL_law (wsV RL 119 RX7 yX7_trained wsX7_trained) := goodIn_app (goodIn_of _ (by decide +kernel)) ggL_law_X7_trained
set_option maxRecDepth 20000 in
theorem ggL_law_X8_trained : GoodIn wsL_law wsX8_trained := goodIn_r _ [656, 136, 137, 5, 138, 657, 658, 659, 660, 98, 318, 319, 320, 321, 322, 323, 324, 325, 93, 92, 96, 97, 326, 327, 328, 329, 91, 160, 161, 162, 163, 164, 165, 166, 330, 331, 332, 333, 94, 334, 335, 336, 337, 110, 661, 662, 663, 806, 807, 808, 809, 810, 811, 812, 813, 814, 815, 816, 817, 818, 819, 820, 821, 822, 823, 824, 825, 826, 827, 828] (by decide +kernel) (by decide +kernel)
set_option maxRecDepth 20000 in
theorem gL_law_X8_trained : GoodIn wsL_law (wsV RL 122 RX8 yX8_trained wsX8_trained) := goodIn_app (goodIn_of _ (by decide +kernel)) ggL_law_X8_trained
set_option maxRecDepth 20000 in
theorem ggL_law_X7_sheet : GoodIn wsL_law wsX7_sheet := goodIn_r _ [667, 17, 242, 243, 2, 244, 118, 119, 120, 668, 669, 670, 245, 246, 247, 248, 37, 671, 672, 673, 41, 674, 83, 84, 85, 86, 797, 798, 799, 800, 801, 802, 803, 804, 805, 848, 849, 850, 851] (by decide +kernel) (by decide +kernel)
set_option maxRecDepth 20000 in
theorem gL_law_X7_sheet : GoodIn wsL_law (wsV RL 123 RX7 yX7_sheet wsX7_sheet) := goodIn_app (goodIn_of _ (by decide +kernel)) ggL_law_X7_sheet
set_option maxRecDepth 20000 in
theorem ggL_law_X8_sheet : GoodIn wsL_law wsX8_sheet := goodIn_r _ [678, 105, 106, 107, 108, 263, 264, 5, 265, 136, 137, 138, 266, 267, 268, 269, 270, 806, 807, 808, 809, 810, 811, 812, 813, 814, 815, 816, 817, 818, 819, 820, 821, 822, 823, 824, 825, 826, 827, 828] (by decide +kernel) (by decide +kernel)
set_option maxRecDepth 20000 in
theorem gL_law_X8_sheet : GoodIn wsL_law (wsV RL 126 RX8 yX8_sheet wsX8_sheet) := goodIn_app (goodIn_of _ (by decide +kernel)) ggL_law_X8_sheet
set_option maxRecDepth 20000 in
theorem ggL_law_X7_lose : GoodIn wsL_law wsX7_lose := goodIn_r _ [682, 17, 241, 683, 242, 243, 2, 244, 118, 119, 120, 245, 246, 247, 248, 37, 797, 798, 799, 800, 801, 802, 803, 804, 805, 848, 849, 850, 851] (by decide +kernel) (by decide +kernel)
set_option maxRecDepth 20000 in
theorem gL_law_X7_lose : GoodIn wsL_law (wsV RL 127 RX7 yX7_lose wsX7_lose) := goodIn_app (goodIn_of _ (by decide +kernel)) ggL_law_X7_lose
set_option maxRecDepth 20000 in
theorem ggL_law_X8_lose : GoodIn wsL_law wsX8_lose := goodIn_r _ [687, 105, 107, 263, 264, 5, 265, 136, 137, 138, 266, 267, 268, 269, 270, 806, 807, 808, 809, 810, 811, 812, 813, 814, 815, 816, 817, 818, 819, 820, 821, 822, 823, 824, 825, 826, 827, 828] (by decide +kernel) (by decide +kernel)
set_option maxRecDepth 20000 in
theorem gL_law_X8_lose : GoodIn wsL_law (wsV RL 130 RX8 yX8_lose wsX8_lose) := goodIn_app (goodIn_of _ (by decide +kernel)) ggL_law_X8_lose
set_option maxRecDepth 20000 in
theorem ggL_law_X7_put : GoodIn wsL_law wsX7_put := goodIn_r _ [691, 17, 242, 243, 2, 244, 118, 119, 120, 668, 669, 670, 692, 693, 694, 41, 695, 86, 84, 696, 697, 698, 699, 85, 245, 246, 247, 248, 37, 700, 701, 702, 703, 83, 797, 798, 799, 800, 801, 802, 803, 804, 805, 848, 849, 850, 851] (by decide +kernel) (by decide +kernel)
set_option maxRecDepth 20000 in
theorem gL_law_X7_put : GoodIn wsL_law (wsV RL 131 RX7 yX7_put wsX7_put) := goodIn_app (goodIn_of _ (by decide +kernel)) ggL_law_X7_put
set_option maxRecDepth 20000 in
theorem ggL_law_X8_put : GoodIn wsL_law wsX8_put := goodIn_r _ [707, 263, 264, 5, 265, 136, 137, 138, 708, 709, 710, 711, 105, 106, 107, 266, 267, 268, 269, 270, 712, 713, 714, 715, 108, 806, 807, 808, 809, 810, 811, 812, 813, 814, 815, 816, 817, 818, 819, 820, 821, 822, 823, 824, 825, 826, 827, 828] (by decide +kernel) (by decide +kernel)
set_option maxRecDepth 20000 in
theorem gL_law_X8_put : GoodIn wsL_law (wsV RL 134 RX8 yX8_put wsX8_put) := goodIn_app (goodIn_of _ (by decide +kernel)) ggL_law_X8_put
set_option maxRecDepth 20000 in
theorem ggL_law_X7_get : GoodIn wsL_law wsX7_get := goodIn_r _ [719, 720, 17, 37, 721, 242, 243, 2, 244, 118, 119, 120, 668, 669, 670, 692, 693, 694, 41, 695, 86, 84, 696, 697, 698, 699, 85, 797, 798, 799, 800, 801, 802, 803, 804, 805, 848, 849, 850, 851] (by decide +kernel) (by decide +kernel)
set_option maxRecDepth 20000 in
theorem gL_law_X7_get : GoodIn wsL_law (wsV RL 135 RX7 yX7_get wsX7_get) := goodIn_app (goodIn_of _ (by decide +kernel)) ggL_law_X7_get
set_option maxRecDepth 20000 in
theorem ggL_law_X8_get : GoodIn wsL_law wsX8_get := goodIn_r _ [725, 726, 270, 108, 263, 264, 5, 265, 136, 137, 138, 708, 709, 710, 711, 105, 106, 107, 806, 807, 808, 809, 810, 811, 812, 813, 814, 815, 816, 817, 818, 819, 820, 821, 822, 823, 824, 825, 826, 827, 828] (by decide +kernel) (by decide +kernel)
set_option maxRecDepth 20000 in
theorem gL_law_X8_get : GoodIn wsL_law (wsV RL 138 RX8 yX8_get wsX8_get) := goodIn_app (goodIn_of _ (by decide +kernel)) ggL_law_X8_get
set_option maxRecDepth 20000 in
theorem ggL_law_X7_copy : GoodIn wsL_law wsX7_copy := goodIn_r _ [730, 17, 241, 731, 721, 732, 733, 734, 735, 242, 243, 2, 244, 118, 119, 120, 245, 246, 247, 248, 37, 736, 697, 698, 41, 699, 85, 797, 798, 799, 800, 801, 802, 803, 804, 805, 848, 849, 850, 851] (by decide +kernel) (by decide +kernel)
set_option maxRecDepth 20000 in
theorem gL_law_X7_copy : GoodIn wsL_law (wsV RL 139 RX7 yX7_copy wsX7_copy) := goodIn_app (goodIn_of _ (by decide +kernel)) ggL_law_X7_copy
set_option maxRecDepth 20000 in
theorem ggL_law_X8_copy : GoodIn wsL_law wsX8_copy := goodIn_r _ [740, 105, 106, 107, 109, 108, 263, 264, 5, 265, 136, 137, 138, 266, 267, 268, 269, 270, 806, 807, 808, 809, 810, 811, 812, 813, 814, 815, 816, 817, 818, 819, 820, 821, 822, 823, 824, 825, 826, 827, 828] (by decide +kernel) (by decide +kernel)
set_option maxRecDepth 20000 in
theorem gL_law_X8_copy : GoodIn wsL_law (wsV RL 143 RX8 yX8_copy wsX8_copy) := goodIn_app (goodIn_of _ (by decide +kernel)) ggL_law_X8_copy
set_option maxRecDepth 20000 in
theorem ggL_law_X7_write : GoodIn wsL_law wsX7_write := goodIn_r _ [744, 17, 241, 683, 745, 255, 256, 257, 342, 115, 116, 2, 117, 118, 119, 120, 242, 243, 244, 245, 246, 247, 248, 37, 282, 283, 284, 285, 15, 13, 21, 286, 287, 288, 27, 289, 61, 290, 63, 291, 292, 293, 39, 294, 78, 77, 295, 296, 297, 298, 76, 299, 300, 301, 302, 62, 303, 304, 305, 20, 306, 46, 700, 701, 702, 41, 703, 84, 83, 696, 697, 698, 699, 85, 797, 798, 799, 800, 801, 802, 803, 804, 805, 848, 849, 850, 851, 838, 839, 840, 844, 845, 846, 847, 829, 830, 831, 832, 833] (by decide +kernel) (by decide +kernel)
set_option maxRecDepth 20000 in
theorem gL_law_X7_write : GoodIn wsL_law (wsV RL 144 RX7 yX7_write wsX7_write) := goodIn_app (goodIn_of _ (by decide +kernel)) ggL_law_X7_write
set_option maxRecDepth 20000 in
theorem ggL_law_X8_write : GoodIn wsL_law wsX8_write := goodIn_r _ [749, 105, 107, 97, 133, 134, 5, 135, 136, 137, 138, 263, 264, 265, 266, 267, 268, 269, 270, 318, 319, 320, 321, 322, 323, 324, 325, 93, 98, 92, 96, 326, 327, 328, 329, 91, 160, 161, 162, 163, 164, 165, 166, 330, 331, 332, 333, 94, 334, 335, 336, 337, 110, 712, 713, 714, 715, 108, 106, 806, 807, 808, 809, 810, 811, 812, 813, 814, 815, 816, 817, 818, 819, 820, 821, 822, 823, 824, 825, 826, 827, 828] (by decide +kernel) (by decide +kernel)
set_option maxRecDepth 20000 in
theorem gL_law_X8_write : GoodIn wsL_law (wsV RL 147 RX8 yX8_write wsX8_write) := goodIn_app (goodIn_of _ (by decide +kernel)) ggL_law_X8_write
set_option maxRecDepth 20000 in
theorem ggL_law_X7_count : GoodIn wsL_law wsX7_count := goodIn_r _ [753, 13, 21, 211, 216, 25, 593, 221, 37, 754, 292, 293, 39, 294, 78, 77, 755, 756, 757, 2, 758, 759, 296, 297, 298, 76, 760, 512, 513, 20, 514, 47, 194, 195, 118, 119, 120, 646, 647, 648, 649, 650, 651, 652, 797, 798, 799, 800, 801, 802, 803, 804, 805, 829, 830, 831, 832, 833, 834, 835, 836, 837, 844, 845, 846, 847] (by decide +kernel) (by decide +kernel)
set_option maxRecDepth 20000 in
theorem gL_law_X7_count : GoodIn wsL_law (wsV RL 148 RX7 yX7_count wsX7_count) := goodIn_app (goodIn_of _ (by decide +kernel)) ggL_law_X7_count
set_option maxRecDepth 20000 in
theorem ggL_law_X8_count : GoodIn wsL_law wsX8_count := goodIn_r _ [764, 110, 226, 588, 270, 765, 766, 767, 5, 768, 95, 92, 227, 326, 327, 328, 329, 91, 160, 161, 162, 163, 164, 165, 166, 661, 662, 663, 806, 807, 808, 809, 810, 811, 812, 813, 814, 815, 816, 817, 818, 819, 820, 821, 822, 823, 824, 825, 826, 827, 828] (by decide +kernel) (by decide +kernel)
set_option maxRecDepth 20000 in
theorem gL_law_X8_count : GoodIn wsL_law (wsV RL 151 RX8 yX8_count wsX8_count) := goodIn_app (goodIn_of _ (by decide +kernel)) ggL_law_X8_count
set_option maxRecDepth 20000 in
theorem ggL_law_X7_digest : GoodIn wsL_law wsX7_digest := goodIn_r _ [772, 773, 774, 775, 751, 752, 2, 753, 13, 21, 211, 216, 25, 593, 221, 37, 754, 292, 293, 39, 294, 78, 77, 755, 756, 757, 758, 759, 296, 297, 298, 76, 760, 512, 513, 20, 514, 47, 194, 195, 118, 119, 120, 646, 647, 648, 649, 650, 651, 652, 776, 152, 153, 154, 155, 115, 116, 117, 777, 352, 353, 354, 355, 356, 357, 358, 282, 283, 284, 285, 15, 286, 287, 288, 27, 289, 61, 290, 63, 291, 295, 299, 300, 301, 302, 62, 303, 304, 305, 306, 46, 359, 360, 361, 362, 363, 364, 365, 366, 48, 778, 339, 340, 341, 342, 279, 280, 281, 779, 471, 472, 473, 474, 446, 447, 448, 449, 780, 599, 600, 601, 28, 278, 602, 603, 604, 24, 605, 57, 54, 55, 56, 397, 398, 781, 376, 377, 378, 379, 380, 381, 382, 782, 393, 394, 395, 396, 783, 411, 412, 413, 784, 440, 441, 442, 443, 444, 445, 785, 485, 486, 487, 32, 488, 489, 490, 491, 427, 428, 429, 430, 492, 493, 494, 31, 495, 67, 496, 497, 498, 499, 500, 68, 501, 502, 503, 504, 505, 506, 50, 507, 508, 509, 510, 511, 515, 516, 517, 518, 519, 520, 521, 522, 786, 537, 538, 539, 36, 540, 541, 542, 35, 543, 72, 544, 545, 546, 547, 548, 549, 550, 551, 552, 553, 554, 555, 556, 557, 558, 559, 560, 561, 562, 563, 787, 615, 616, 617, 788, 627, 628, 629, 789, 639, 640, 641, 642, 643, 644, 645, 797, 798, 799, 800, 801, 802, 803, 804, 805, 829, 830, 831, 832, 833, 834, 835, 836, 837, 844, 845, 846, 847, 838, 839, 840, 841, 842, 843] (by decide +kernel) (by decide +kernel)
set_option maxRecDepth 20000 in
theorem gL_law_X7_digest : GoodIn wsL_law (wsV RL 152 RX7 yX7_digest wsX7_digest) := goodIn_app (goodIn_of _ (by decide +kernel)) ggL_law_X7_digest
set_option maxRecDepth 20000 in
theorem ggL_law_X8_digest : GoodIn wsL_law wsX8_digest := goodIn_r _ [793, 794, 795, 796, 762, 763, 5, 764, 110, 226, 588, 270, 765, 766, 767, 768, 95, 92, 227, 326, 327, 328, 329, 91, 160, 161, 162, 163, 164, 165, 166, 661, 662, 663, 371, 372, 373, 374, 98, 318, 319, 320, 321, 322, 323, 324, 325, 93, 96, 97, 136, 137, 138, 330, 331, 332, 333, 94, 334, 335, 336, 337, 347, 348, 349, 350, 479, 480, 481, 482, 483, 459, 460, 461, 462, 610, 611, 612, 613, 102, 103, 104, 387, 388, 389, 390, 391, 403, 404, 405, 406, 407, 408, 409, 418, 419, 420, 421, 454, 455, 456, 457, 458, 463, 464, 465, 527, 528, 529, 530, 99, 531, 532, 533, 534, 535, 568, 569, 570, 571, 101, 572, 573, 574, 575, 622, 623, 624, 625, 634, 635, 636, 637, 657, 658, 659, 660, 806, 807, 808, 809, 810, 811, 812, 813, 814, 815, 816, 817, 818, 819, 820, 821, 822, 823, 824, 825, 826, 827, 828] (by decide +kernel) (by decide +kernel)
set_option maxRecDepth 20000 in
theorem gL_law_X8_digest : GoodIn wsL_law (wsV RL 156 RX8 yX8_digest wsX8_digest) := goodIn_app (goodIn_of _ (by decide +kernel)) ggL_law_X8_digest
theorem dL_law_0 : decode cL_law 0 = .ok (.new 7, 3) := by decide +kernel
theorem dL_law_3 : decode cL_law 3 = .ok (.dup, 1) := by decide +kernel
theorem dL_law_4 : decode cL_law 4 = .ok (.invokespecial 9, 3) := by decide +kernel
theorem dL_law_7 : decode cL_law 7 = .ok (.astore_n 1, 1) := by decide +kernel
theorem dL_law_8 : decode cL_law 8 = .ok (.new 10, 3) := by decide +kernel
theorem dL_law_11 : decode cL_law 11 = .ok (.dup, 1) := by decide +kernel
theorem dL_law_12 : decode cL_law 12 = .ok (.invokespecial 12, 3) := by decide +kernel
theorem dL_law_15 : decode cL_law 15 = .ok (.astore_n 2, 1) := by decide +kernel
theorem dL_law_16 : decode cL_law 16 = .ok (.iconst 0, 1) := by decide +kernel
theorem dL_law_17 : decode cL_law 17 = .ok (.istore_n 3, 1) := by decide +kernel
theorem dL_law_18 : decode cL_law 18 = .ok (.iload_n 3, 1) := by decide +kernel
theorem dL_law_19 : decode cL_law 19 = .ok (.aload_n 0, 1) := by decide +kernel
theorem dL_law_20 : decode cL_law 20 = .ok (.arraylength, 1) := by decide +kernel
theorem dL_law_21 : decode cL_law 21 = .ok (.bipush 6, 2) := by decide +kernel
theorem dL_law_23 : decode cL_law 23 = .ok (.isub, 1) := by decide +kernel
theorem dL_law_24 : decode cL_law 24 = .ok (.if_icmp .gt 1230, 3) := by decide +kernel
theorem dL_law_27 : decode cL_law 27 = .ok (.aload_n 0, 1) := by decide +kernel
theorem dL_law_28 : decode cL_law 28 = .ok (.iload_n 3, 1) := by decide +kernel
theorem dL_law_29 : decode cL_law 29 = .ok (.iaload, 1) := by decide +kernel
theorem dL_law_30 : decode cL_law 30 = .ok (.bipush 63, 2) := by decide +kernel
theorem dL_law_32 : decode cL_law 32 = .ok (.iand, 1) := by decide +kernel
theorem dL_law_33 : decode cL_law 33 = .ok (.tableswitch 1215 0 33 #[151, 184, 207, 230, 253, 286, 319, 352, 385, 418, 451, 484, 507, 530, 543, 566, 599, 643, 676, 729, 772, 815, 828, 851, 864, 887, 920, 963, 986, 1039, 1082, 1145, 1178, 1201], 151) := by decide +kernel
theorem dL_law_184 : decode cL_law 184 = .ok (.aload_n 1, 1) := by decide +kernel
theorem dL_law_185 : decode cL_law 185 = .ok (.aload_n 0, 1) := by decide +kernel
theorem dL_law_186 : decode cL_law 186 = .ok (.iload_n 3, 1) := by decide +kernel
theorem dL_law_187 : decode cL_law 187 = .ok (.iconst 1, 1) := by decide +kernel
theorem dL_law_188 : decode cL_law 188 = .ok (.iadd, 1) := by decide +kernel
theorem dL_law_189 : decode cL_law 189 = .ok (.iaload, 1) := by decide +kernel
theorem dL_law_190 : decode cL_law 190 = .ok (.aload_n 0, 1) := by decide +kernel
theorem dL_law_191 : decode cL_law 191 = .ok (.iload_n 3, 1) := by decide +kernel
theorem dL_law_192 : decode cL_law 192 = .ok (.iconst 2, 1) := by decide +kernel
theorem dL_law_193 : decode cL_law 193 = .ok (.iadd, 1) := by decide +kernel
theorem dL_law_194 : decode cL_law 194 = .ok (.iaload, 1) := by decide +kernel
theorem dL_law_195 : decode cL_law 195 = .ok (.invokevirtual 13, 3) := by decide +kernel
theorem dL_law_198 : decode cL_law 198 = .ok (.aload_n 2, 1) := by decide +kernel
theorem dL_law_199 : decode cL_law 199 = .ok (.aload_n 0, 1) := by decide +kernel
theorem dL_law_200 : decode cL_law 200 = .ok (.iload_n 3, 1) := by decide +kernel
theorem dL_law_201 : decode cL_law 201 = .ok (.iconst 1, 1) := by decide +kernel
theorem dL_law_202 : decode cL_law 202 = .ok (.iadd, 1) := by decide +kernel
theorem dL_law_203 : decode cL_law 203 = .ok (.iaload, 1) := by decide +kernel
theorem dL_law_204 : decode cL_law 204 = .ok (.aload_n 0, 1) := by decide +kernel
theorem dL_law_205 : decode cL_law 205 = .ok (.iload_n 3, 1) := by decide +kernel
theorem dL_law_206 : decode cL_law 206 = .ok (.iconst 2, 1) := by decide +kernel
theorem dL_law_207 : decode cL_law 207 = .ok (.iadd, 1) := by decide +kernel
theorem dL_law_208 : decode cL_law 208 = .ok (.iaload, 1) := by decide +kernel
theorem dL_law_209 : decode cL_law 209 = .ok (.invokevirtual 17, 3) := by decide +kernel
theorem dL_law_212 : decode cL_law 212 = .ok (.if_icmp .eq 1036, 3) := by decide +kernel
theorem dL_law_215 : decode cL_law 215 = .ok (.iconst 0, 1) := by decide +kernel
theorem dL_law_216 : decode cL_law 216 = .ok (.ireturn, 1) := by decide +kernel
theorem dL_law_217 : decode cL_law 217 = .ok (.aload_n 1, 1) := by decide +kernel
theorem dL_law_218 : decode cL_law 218 = .ok (.aload_n 0, 1) := by decide +kernel
theorem dL_law_219 : decode cL_law 219 = .ok (.iload_n 3, 1) := by decide +kernel
theorem dL_law_220 : decode cL_law 220 = .ok (.iconst 1, 1) := by decide +kernel
theorem dL_law_221 : decode cL_law 221 = .ok (.iadd, 1) := by decide +kernel
theorem dL_law_222 : decode cL_law 222 = .ok (.iaload, 1) := by decide +kernel
theorem dL_law_223 : decode cL_law 223 = .ok (.invokevirtual 18, 3) := by decide +kernel
theorem dL_law_226 : decode cL_law 226 = .ok (.aload_n 2, 1) := by decide +kernel
theorem dL_law_227 : decode cL_law 227 = .ok (.aload_n 0, 1) := by decide +kernel
theorem dL_law_228 : decode cL_law 228 = .ok (.iload_n 3, 1) := by decide +kernel
theorem dL_law_229 : decode cL_law 229 = .ok (.iconst 1, 1) := by decide +kernel
theorem dL_law_230 : decode cL_law 230 = .ok (.iadd, 1) := by decide +kernel
theorem dL_law_231 : decode cL_law 231 = .ok (.iaload, 1) := by decide +kernel
theorem dL_law_232 : decode cL_law 232 = .ok (.invokevirtual 22, 3) := by decide +kernel
theorem dL_law_235 : decode cL_law 235 = .ok (.if_icmp .eq 1013, 3) := by decide +kernel
theorem dL_law_238 : decode cL_law 238 = .ok (.iconst 0, 1) := by decide +kernel
theorem dL_law_239 : decode cL_law 239 = .ok (.ireturn, 1) := by decide +kernel
theorem dL_law_240 : decode cL_law 240 = .ok (.aload_n 1, 1) := by decide +kernel
theorem dL_law_241 : decode cL_law 241 = .ok (.aload_n 0, 1) := by decide +kernel
theorem dL_law_242 : decode cL_law 242 = .ok (.iload_n 3, 1) := by decide +kernel
theorem dL_law_243 : decode cL_law 243 = .ok (.iconst 1, 1) := by decide +kernel
theorem dL_law_244 : decode cL_law 244 = .ok (.iadd, 1) := by decide +kernel
theorem dL_law_245 : decode cL_law 245 = .ok (.iaload, 1) := by decide +kernel
theorem dL_law_246 : decode cL_law 246 = .ok (.invokevirtual 23, 3) := by decide +kernel
theorem dL_law_249 : decode cL_law 249 = .ok (.aload_n 2, 1) := by decide +kernel
theorem dL_law_250 : decode cL_law 250 = .ok (.aload_n 0, 1) := by decide +kernel
theorem dL_law_251 : decode cL_law 251 = .ok (.iload_n 3, 1) := by decide +kernel
theorem dL_law_252 : decode cL_law 252 = .ok (.iconst 1, 1) := by decide +kernel
theorem dL_law_253 : decode cL_law 253 = .ok (.iadd, 1) := by decide +kernel
theorem dL_law_254 : decode cL_law 254 = .ok (.iaload, 1) := by decide +kernel
theorem dL_law_255 : decode cL_law 255 = .ok (.invokevirtual 26, 3) := by decide +kernel
theorem dL_law_258 : decode cL_law 258 = .ok (.if_icmp .eq 990, 3) := by decide +kernel
theorem dL_law_261 : decode cL_law 261 = .ok (.iconst 0, 1) := by decide +kernel
theorem dL_law_262 : decode cL_law 262 = .ok (.ireturn, 1) := by decide +kernel
theorem dL_law_263 : decode cL_law 263 = .ok (.aload_n 1, 1) := by decide +kernel
theorem dL_law_264 : decode cL_law 264 = .ok (.aload_n 0, 1) := by decide +kernel
theorem dL_law_265 : decode cL_law 265 = .ok (.iload_n 3, 1) := by decide +kernel
theorem dL_law_266 : decode cL_law 266 = .ok (.iconst 1, 1) := by decide +kernel
theorem dL_law_267 : decode cL_law 267 = .ok (.iadd, 1) := by decide +kernel
theorem dL_law_268 : decode cL_law 268 = .ok (.iaload, 1) := by decide +kernel
theorem dL_law_269 : decode cL_law 269 = .ok (.invokevirtual 27, 3) := by decide +kernel
theorem dL_law_272 : decode cL_law 272 = .ok (.aload_n 2, 1) := by decide +kernel
theorem dL_law_273 : decode cL_law 273 = .ok (.aload_n 0, 1) := by decide +kernel
theorem dL_law_274 : decode cL_law 274 = .ok (.iload_n 3, 1) := by decide +kernel
theorem dL_law_275 : decode cL_law 275 = .ok (.iconst 1, 1) := by decide +kernel
theorem dL_law_276 : decode cL_law 276 = .ok (.iadd, 1) := by decide +kernel
theorem dL_law_277 : decode cL_law 277 = .ok (.iaload, 1) := by decide +kernel
theorem dL_law_278 : decode cL_law 278 = .ok (.invokevirtual 30, 3) := by decide +kernel
theorem dL_law_281 : decode cL_law 281 = .ok (.if_icmp .eq 967, 3) := by decide +kernel
theorem dL_law_284 : decode cL_law 284 = .ok (.iconst 0, 1) := by decide +kernel
theorem dL_law_285 : decode cL_law 285 = .ok (.ireturn, 1) := by decide +kernel
theorem dL_law_286 : decode cL_law 286 = .ok (.aload_n 1, 1) := by decide +kernel
theorem dL_law_287 : decode cL_law 287 = .ok (.aload_n 0, 1) := by decide +kernel
theorem dL_law_288 : decode cL_law 288 = .ok (.iload_n 3, 1) := by decide +kernel
theorem dL_law_289 : decode cL_law 289 = .ok (.iconst 1, 1) := by decide +kernel
theorem dL_law_290 : decode cL_law 290 = .ok (.iadd, 1) := by decide +kernel
theorem dL_law_291 : decode cL_law 291 = .ok (.iaload, 1) := by decide +kernel
theorem dL_law_292 : decode cL_law 292 = .ok (.aload_n 0, 1) := by decide +kernel
theorem dL_law_293 : decode cL_law 293 = .ok (.iload_n 3, 1) := by decide +kernel
theorem dL_law_294 : decode cL_law 294 = .ok (.iconst 2, 1) := by decide +kernel
theorem dL_law_295 : decode cL_law 295 = .ok (.iadd, 1) := by decide +kernel
theorem dL_law_296 : decode cL_law 296 = .ok (.iaload, 1) := by decide +kernel
theorem dL_law_297 : decode cL_law 297 = .ok (.invokevirtual 31, 3) := by decide +kernel
theorem dL_law_300 : decode cL_law 300 = .ok (.aload_n 2, 1) := by decide +kernel
theorem dL_law_301 : decode cL_law 301 = .ok (.aload_n 0, 1) := by decide +kernel
theorem dL_law_302 : decode cL_law 302 = .ok (.iload_n 3, 1) := by decide +kernel
theorem dL_law_303 : decode cL_law 303 = .ok (.iconst 1, 1) := by decide +kernel
theorem dL_law_304 : decode cL_law 304 = .ok (.iadd, 1) := by decide +kernel
theorem dL_law_305 : decode cL_law 305 = .ok (.iaload, 1) := by decide +kernel
theorem dL_law_306 : decode cL_law 306 = .ok (.aload_n 0, 1) := by decide +kernel
theorem dL_law_307 : decode cL_law 307 = .ok (.iload_n 3, 1) := by decide +kernel
theorem dL_law_308 : decode cL_law 308 = .ok (.iconst 2, 1) := by decide +kernel
theorem dL_law_309 : decode cL_law 309 = .ok (.iadd, 1) := by decide +kernel
theorem dL_law_310 : decode cL_law 310 = .ok (.iaload, 1) := by decide +kernel
theorem dL_law_311 : decode cL_law 311 = .ok (.invokevirtual 34, 3) := by decide +kernel
theorem dL_law_314 : decode cL_law 314 = .ok (.if_icmp .eq 934, 3) := by decide +kernel
theorem dL_law_317 : decode cL_law 317 = .ok (.iconst 0, 1) := by decide +kernel
theorem dL_law_318 : decode cL_law 318 = .ok (.ireturn, 1) := by decide +kernel
theorem dL_law_319 : decode cL_law 319 = .ok (.aload_n 1, 1) := by decide +kernel
theorem dL_law_320 : decode cL_law 320 = .ok (.aload_n 0, 1) := by decide +kernel
theorem dL_law_321 : decode cL_law 321 = .ok (.iload_n 3, 1) := by decide +kernel
theorem dL_law_322 : decode cL_law 322 = .ok (.iconst 1, 1) := by decide +kernel
theorem dL_law_323 : decode cL_law 323 = .ok (.iadd, 1) := by decide +kernel
theorem dL_law_324 : decode cL_law 324 = .ok (.iaload, 1) := by decide +kernel
theorem dL_law_325 : decode cL_law 325 = .ok (.aload_n 0, 1) := by decide +kernel
theorem dL_law_326 : decode cL_law 326 = .ok (.iload_n 3, 1) := by decide +kernel
theorem dL_law_327 : decode cL_law 327 = .ok (.iconst 2, 1) := by decide +kernel
theorem dL_law_328 : decode cL_law 328 = .ok (.iadd, 1) := by decide +kernel
theorem dL_law_329 : decode cL_law 329 = .ok (.iaload, 1) := by decide +kernel
theorem dL_law_330 : decode cL_law 330 = .ok (.invokevirtual 35, 3) := by decide +kernel
theorem dL_law_333 : decode cL_law 333 = .ok (.aload_n 2, 1) := by decide +kernel
theorem dL_law_334 : decode cL_law 334 = .ok (.aload_n 0, 1) := by decide +kernel
theorem dL_law_335 : decode cL_law 335 = .ok (.iload_n 3, 1) := by decide +kernel
theorem dL_law_336 : decode cL_law 336 = .ok (.iconst 1, 1) := by decide +kernel
theorem dL_law_337 : decode cL_law 337 = .ok (.iadd, 1) := by decide +kernel
theorem dL_law_338 : decode cL_law 338 = .ok (.iaload, 1) := by decide +kernel
theorem dL_law_339 : decode cL_law 339 = .ok (.aload_n 0, 1) := by decide +kernel
theorem dL_law_340 : decode cL_law 340 = .ok (.iload_n 3, 1) := by decide +kernel
theorem dL_law_341 : decode cL_law 341 = .ok (.iconst 2, 1) := by decide +kernel
theorem dL_law_342 : decode cL_law 342 = .ok (.iadd, 1) := by decide +kernel
theorem dL_law_343 : decode cL_law 343 = .ok (.iaload, 1) := by decide +kernel
theorem dL_law_344 : decode cL_law 344 = .ok (.invokevirtual 38, 3) := by decide +kernel
theorem dL_law_347 : decode cL_law 347 = .ok (.if_icmp .eq 901, 3) := by decide +kernel
theorem dL_law_350 : decode cL_law 350 = .ok (.iconst 0, 1) := by decide +kernel
theorem dL_law_351 : decode cL_law 351 = .ok (.ireturn, 1) := by decide +kernel
theorem dL_law_352 : decode cL_law 352 = .ok (.aload_n 1, 1) := by decide +kernel
theorem dL_law_353 : decode cL_law 353 = .ok (.aload_n 0, 1) := by decide +kernel
theorem dL_law_354 : decode cL_law 354 = .ok (.iload_n 3, 1) := by decide +kernel
theorem dL_law_355 : decode cL_law 355 = .ok (.iconst 1, 1) := by decide +kernel
theorem dL_law_356 : decode cL_law 356 = .ok (.iadd, 1) := by decide +kernel
theorem dL_law_357 : decode cL_law 357 = .ok (.iaload, 1) := by decide +kernel
theorem dL_law_358 : decode cL_law 358 = .ok (.aload_n 0, 1) := by decide +kernel
theorem dL_law_359 : decode cL_law 359 = .ok (.iload_n 3, 1) := by decide +kernel
theorem dL_law_360 : decode cL_law 360 = .ok (.iconst 2, 1) := by decide +kernel
theorem dL_law_361 : decode cL_law 361 = .ok (.iadd, 1) := by decide +kernel
theorem dL_law_362 : decode cL_law 362 = .ok (.iaload, 1) := by decide +kernel
theorem dL_law_363 : decode cL_law 363 = .ok (.invokevirtual 39, 3) := by decide +kernel
theorem dL_law_366 : decode cL_law 366 = .ok (.aload_n 2, 1) := by decide +kernel
theorem dL_law_367 : decode cL_law 367 = .ok (.aload_n 0, 1) := by decide +kernel
theorem dL_law_368 : decode cL_law 368 = .ok (.iload_n 3, 1) := by decide +kernel
theorem dL_law_369 : decode cL_law 369 = .ok (.iconst 1, 1) := by decide +kernel
theorem dL_law_370 : decode cL_law 370 = .ok (.iadd, 1) := by decide +kernel
theorem dL_law_371 : decode cL_law 371 = .ok (.iaload, 1) := by decide +kernel
theorem dL_law_372 : decode cL_law 372 = .ok (.aload_n 0, 1) := by decide +kernel
theorem dL_law_373 : decode cL_law 373 = .ok (.iload_n 3, 1) := by decide +kernel
theorem dL_law_374 : decode cL_law 374 = .ok (.iconst 2, 1) := by decide +kernel
theorem dL_law_375 : decode cL_law 375 = .ok (.iadd, 1) := by decide +kernel
theorem dL_law_376 : decode cL_law 376 = .ok (.iaload, 1) := by decide +kernel
theorem dL_law_377 : decode cL_law 377 = .ok (.invokevirtual 42, 3) := by decide +kernel
theorem dL_law_380 : decode cL_law 380 = .ok (.if_icmp .eq 868, 3) := by decide +kernel
theorem dL_law_383 : decode cL_law 383 = .ok (.iconst 0, 1) := by decide +kernel
theorem dL_law_384 : decode cL_law 384 = .ok (.ireturn, 1) := by decide +kernel
theorem dL_law_385 : decode cL_law 385 = .ok (.aload_n 1, 1) := by decide +kernel
theorem dL_law_386 : decode cL_law 386 = .ok (.aload_n 0, 1) := by decide +kernel
theorem dL_law_387 : decode cL_law 387 = .ok (.iload_n 3, 1) := by decide +kernel
theorem dL_law_388 : decode cL_law 388 = .ok (.iconst 1, 1) := by decide +kernel
theorem dL_law_389 : decode cL_law 389 = .ok (.iadd, 1) := by decide +kernel
theorem dL_law_390 : decode cL_law 390 = .ok (.iaload, 1) := by decide +kernel
theorem dL_law_391 : decode cL_law 391 = .ok (.aload_n 0, 1) := by decide +kernel
theorem dL_law_392 : decode cL_law 392 = .ok (.iload_n 3, 1) := by decide +kernel
theorem dL_law_393 : decode cL_law 393 = .ok (.iconst 2, 1) := by decide +kernel
theorem dL_law_394 : decode cL_law 394 = .ok (.iadd, 1) := by decide +kernel
theorem dL_law_395 : decode cL_law 395 = .ok (.iaload, 1) := by decide +kernel
theorem dL_law_396 : decode cL_law 396 = .ok (.invokevirtual 43, 3) := by decide +kernel
theorem dL_law_399 : decode cL_law 399 = .ok (.aload_n 2, 1) := by decide +kernel
theorem dL_law_400 : decode cL_law 400 = .ok (.aload_n 0, 1) := by decide +kernel
theorem dL_law_401 : decode cL_law 401 = .ok (.iload_n 3, 1) := by decide +kernel
theorem dL_law_402 : decode cL_law 402 = .ok (.iconst 1, 1) := by decide +kernel
theorem dL_law_403 : decode cL_law 403 = .ok (.iadd, 1) := by decide +kernel
theorem dL_law_404 : decode cL_law 404 = .ok (.iaload, 1) := by decide +kernel
theorem dL_law_405 : decode cL_law 405 = .ok (.aload_n 0, 1) := by decide +kernel
theorem dL_law_406 : decode cL_law 406 = .ok (.iload_n 3, 1) := by decide +kernel
theorem dL_law_407 : decode cL_law 407 = .ok (.iconst 2, 1) := by decide +kernel
theorem dL_law_408 : decode cL_law 408 = .ok (.iadd, 1) := by decide +kernel
theorem dL_law_409 : decode cL_law 409 = .ok (.iaload, 1) := by decide +kernel
theorem dL_law_410 : decode cL_law 410 = .ok (.invokevirtual 46, 3) := by decide +kernel
theorem dL_law_413 : decode cL_law 413 = .ok (.if_icmp .eq 835, 3) := by decide +kernel
theorem dL_law_416 : decode cL_law 416 = .ok (.iconst 0, 1) := by decide +kernel
theorem dL_law_417 : decode cL_law 417 = .ok (.ireturn, 1) := by decide +kernel
theorem dL_law_418 : decode cL_law 418 = .ok (.aload_n 1, 1) := by decide +kernel
theorem dL_law_419 : decode cL_law 419 = .ok (.aload_n 0, 1) := by decide +kernel
theorem dL_law_420 : decode cL_law 420 = .ok (.iload_n 3, 1) := by decide +kernel
theorem dL_law_421 : decode cL_law 421 = .ok (.iconst 1, 1) := by decide +kernel
theorem dL_law_422 : decode cL_law 422 = .ok (.iadd, 1) := by decide +kernel
theorem dL_law_423 : decode cL_law 423 = .ok (.iaload, 1) := by decide +kernel
theorem dL_law_424 : decode cL_law 424 = .ok (.aload_n 0, 1) := by decide +kernel
theorem dL_law_425 : decode cL_law 425 = .ok (.iload_n 3, 1) := by decide +kernel
theorem dL_law_426 : decode cL_law 426 = .ok (.iconst 2, 1) := by decide +kernel
theorem dL_law_427 : decode cL_law 427 = .ok (.iadd, 1) := by decide +kernel
theorem dL_law_428 : decode cL_law 428 = .ok (.iaload, 1) := by decide +kernel
theorem dL_law_429 : decode cL_law 429 = .ok (.invokevirtual 47, 3) := by decide +kernel
theorem dL_law_432 : decode cL_law 432 = .ok (.aload_n 2, 1) := by decide +kernel
theorem dL_law_433 : decode cL_law 433 = .ok (.aload_n 0, 1) := by decide +kernel
theorem dL_law_434 : decode cL_law 434 = .ok (.iload_n 3, 1) := by decide +kernel
theorem dL_law_435 : decode cL_law 435 = .ok (.iconst 1, 1) := by decide +kernel
theorem dL_law_436 : decode cL_law 436 = .ok (.iadd, 1) := by decide +kernel
theorem dL_law_437 : decode cL_law 437 = .ok (.iaload, 1) := by decide +kernel
theorem dL_law_438 : decode cL_law 438 = .ok (.aload_n 0, 1) := by decide +kernel
theorem dL_law_439 : decode cL_law 439 = .ok (.iload_n 3, 1) := by decide +kernel
theorem dL_law_440 : decode cL_law 440 = .ok (.iconst 2, 1) := by decide +kernel
theorem dL_law_441 : decode cL_law 441 = .ok (.iadd, 1) := by decide +kernel
theorem dL_law_442 : decode cL_law 442 = .ok (.iaload, 1) := by decide +kernel
theorem dL_law_443 : decode cL_law 443 = .ok (.invokevirtual 50, 3) := by decide +kernel
theorem dL_law_446 : decode cL_law 446 = .ok (.if_icmp .eq 802, 3) := by decide +kernel
theorem dL_law_449 : decode cL_law 449 = .ok (.iconst 0, 1) := by decide +kernel
theorem dL_law_450 : decode cL_law 450 = .ok (.ireturn, 1) := by decide +kernel
theorem dL_law_451 : decode cL_law 451 = .ok (.aload_n 1, 1) := by decide +kernel
theorem dL_law_452 : decode cL_law 452 = .ok (.aload_n 0, 1) := by decide +kernel
theorem dL_law_453 : decode cL_law 453 = .ok (.iload_n 3, 1) := by decide +kernel
theorem dL_law_454 : decode cL_law 454 = .ok (.iconst 1, 1) := by decide +kernel
theorem dL_law_455 : decode cL_law 455 = .ok (.iadd, 1) := by decide +kernel
theorem dL_law_456 : decode cL_law 456 = .ok (.iaload, 1) := by decide +kernel
theorem dL_law_457 : decode cL_law 457 = .ok (.aload_n 0, 1) := by decide +kernel
theorem dL_law_458 : decode cL_law 458 = .ok (.iload_n 3, 1) := by decide +kernel
theorem dL_law_459 : decode cL_law 459 = .ok (.iconst 2, 1) := by decide +kernel
theorem dL_law_460 : decode cL_law 460 = .ok (.iadd, 1) := by decide +kernel
theorem dL_law_461 : decode cL_law 461 = .ok (.iaload, 1) := by decide +kernel
theorem dL_law_462 : decode cL_law 462 = .ok (.invokevirtual 51, 3) := by decide +kernel
theorem dL_law_465 : decode cL_law 465 = .ok (.aload_n 2, 1) := by decide +kernel
theorem dL_law_466 : decode cL_law 466 = .ok (.aload_n 0, 1) := by decide +kernel
theorem dL_law_467 : decode cL_law 467 = .ok (.iload_n 3, 1) := by decide +kernel
theorem dL_law_468 : decode cL_law 468 = .ok (.iconst 1, 1) := by decide +kernel
theorem dL_law_469 : decode cL_law 469 = .ok (.iadd, 1) := by decide +kernel
theorem dL_law_470 : decode cL_law 470 = .ok (.iaload, 1) := by decide +kernel
theorem dL_law_471 : decode cL_law 471 = .ok (.aload_n 0, 1) := by decide +kernel
theorem dL_law_472 : decode cL_law 472 = .ok (.iload_n 3, 1) := by decide +kernel
theorem dL_law_473 : decode cL_law 473 = .ok (.iconst 2, 1) := by decide +kernel
theorem dL_law_474 : decode cL_law 474 = .ok (.iadd, 1) := by decide +kernel
theorem dL_law_475 : decode cL_law 475 = .ok (.iaload, 1) := by decide +kernel
theorem dL_law_476 : decode cL_law 476 = .ok (.invokevirtual 54, 3) := by decide +kernel
theorem dL_law_479 : decode cL_law 479 = .ok (.if_icmp .eq 769, 3) := by decide +kernel
theorem dL_law_482 : decode cL_law 482 = .ok (.iconst 0, 1) := by decide +kernel
theorem dL_law_483 : decode cL_law 483 = .ok (.ireturn, 1) := by decide +kernel
theorem dL_law_484 : decode cL_law 484 = .ok (.aload_n 1, 1) := by decide +kernel
theorem dL_law_485 : decode cL_law 485 = .ok (.aload_n 0, 1) := by decide +kernel
theorem dL_law_486 : decode cL_law 486 = .ok (.iload_n 3, 1) := by decide +kernel
theorem dL_law_487 : decode cL_law 487 = .ok (.iconst 1, 1) := by decide +kernel
theorem dL_law_488 : decode cL_law 488 = .ok (.iadd, 1) := by decide +kernel
theorem dL_law_489 : decode cL_law 489 = .ok (.iaload, 1) := by decide +kernel
theorem dL_law_490 : decode cL_law 490 = .ok (.aload_n 0, 1) := by decide +kernel
theorem dL_law_491 : decode cL_law 491 = .ok (.iload_n 3, 1) := by decide +kernel
theorem dL_law_492 : decode cL_law 492 = .ok (.iconst 2, 1) := by decide +kernel
theorem dL_law_493 : decode cL_law 493 = .ok (.iadd, 1) := by decide +kernel
theorem dL_law_494 : decode cL_law 494 = .ok (.iaload, 1) := by decide +kernel
theorem dL_law_495 : decode cL_law 495 = .ok (.invokevirtual 55, 3) := by decide +kernel
theorem dL_law_498 : decode cL_law 498 = .ok (.aload_n 2, 1) := by decide +kernel
theorem dL_law_499 : decode cL_law 499 = .ok (.aload_n 0, 1) := by decide +kernel
theorem dL_law_500 : decode cL_law 500 = .ok (.iload_n 3, 1) := by decide +kernel
theorem dL_law_501 : decode cL_law 501 = .ok (.iconst 1, 1) := by decide +kernel
theorem dL_law_502 : decode cL_law 502 = .ok (.iadd, 1) := by decide +kernel
theorem dL_law_503 : decode cL_law 503 = .ok (.iaload, 1) := by decide +kernel
theorem dL_law_504 : decode cL_law 504 = .ok (.aload_n 0, 1) := by decide +kernel
theorem dL_law_505 : decode cL_law 505 = .ok (.iload_n 3, 1) := by decide +kernel
theorem dL_law_506 : decode cL_law 506 = .ok (.iconst 2, 1) := by decide +kernel
theorem dL_law_507 : decode cL_law 507 = .ok (.iadd, 1) := by decide +kernel
theorem dL_law_508 : decode cL_law 508 = .ok (.iaload, 1) := by decide +kernel
theorem dL_law_509 : decode cL_law 509 = .ok (.invokevirtual 58, 3) := by decide +kernel
theorem dL_law_512 : decode cL_law 512 = .ok (.if_icmp .eq 736, 3) := by decide +kernel
theorem dL_law_515 : decode cL_law 515 = .ok (.iconst 0, 1) := by decide +kernel
theorem dL_law_516 : decode cL_law 516 = .ok (.ireturn, 1) := by decide +kernel
theorem dL_law_517 : decode cL_law 517 = .ok (.aload_n 1, 1) := by decide +kernel
theorem dL_law_518 : decode cL_law 518 = .ok (.aload_n 0, 1) := by decide +kernel
theorem dL_law_519 : decode cL_law 519 = .ok (.iload_n 3, 1) := by decide +kernel
theorem dL_law_520 : decode cL_law 520 = .ok (.iconst 1, 1) := by decide +kernel
theorem dL_law_521 : decode cL_law 521 = .ok (.iadd, 1) := by decide +kernel
theorem dL_law_522 : decode cL_law 522 = .ok (.iaload, 1) := by decide +kernel
theorem dL_law_523 : decode cL_law 523 = .ok (.invokevirtual 59, 3) := by decide +kernel
theorem dL_law_526 : decode cL_law 526 = .ok (.aload_n 2, 1) := by decide +kernel
theorem dL_law_527 : decode cL_law 527 = .ok (.aload_n 0, 1) := by decide +kernel
theorem dL_law_528 : decode cL_law 528 = .ok (.iload_n 3, 1) := by decide +kernel
theorem dL_law_529 : decode cL_law 529 = .ok (.iconst 1, 1) := by decide +kernel
theorem dL_law_530 : decode cL_law 530 = .ok (.iadd, 1) := by decide +kernel
theorem dL_law_531 : decode cL_law 531 = .ok (.iaload, 1) := by decide +kernel
theorem dL_law_532 : decode cL_law 532 = .ok (.invokevirtual 62, 3) := by decide +kernel
theorem dL_law_535 : decode cL_law 535 = .ok (.if_icmp .eq 713, 3) := by decide +kernel
theorem dL_law_538 : decode cL_law 538 = .ok (.iconst 0, 1) := by decide +kernel
theorem dL_law_539 : decode cL_law 539 = .ok (.ireturn, 1) := by decide +kernel
theorem dL_law_540 : decode cL_law 540 = .ok (.aload_n 1, 1) := by decide +kernel
theorem dL_law_541 : decode cL_law 541 = .ok (.aload_n 0, 1) := by decide +kernel
theorem dL_law_542 : decode cL_law 542 = .ok (.iload_n 3, 1) := by decide +kernel
theorem dL_law_543 : decode cL_law 543 = .ok (.iconst 1, 1) := by decide +kernel
theorem dL_law_544 : decode cL_law 544 = .ok (.iadd, 1) := by decide +kernel
theorem dL_law_545 : decode cL_law 545 = .ok (.iaload, 1) := by decide +kernel
theorem dL_law_546 : decode cL_law 546 = .ok (.invokevirtual 63, 3) := by decide +kernel
theorem dL_law_549 : decode cL_law 549 = .ok (.aload_n 2, 1) := by decide +kernel
theorem dL_law_550 : decode cL_law 550 = .ok (.aload_n 0, 1) := by decide +kernel
theorem dL_law_551 : decode cL_law 551 = .ok (.iload_n 3, 1) := by decide +kernel
theorem dL_law_552 : decode cL_law 552 = .ok (.iconst 1, 1) := by decide +kernel
theorem dL_law_553 : decode cL_law 553 = .ok (.iadd, 1) := by decide +kernel
theorem dL_law_554 : decode cL_law 554 = .ok (.iaload, 1) := by decide +kernel
theorem dL_law_555 : decode cL_law 555 = .ok (.invokevirtual 66, 3) := by decide +kernel
theorem dL_law_558 : decode cL_law 558 = .ok (.if_icmp .eq 690, 3) := by decide +kernel
theorem dL_law_561 : decode cL_law 561 = .ok (.iconst 0, 1) := by decide +kernel
theorem dL_law_562 : decode cL_law 562 = .ok (.ireturn, 1) := by decide +kernel
theorem dL_law_563 : decode cL_law 563 = .ok (.aload_n 1, 1) := by decide +kernel
theorem dL_law_564 : decode cL_law 564 = .ok (.invokevirtual 67, 3) := by decide +kernel
theorem dL_law_567 : decode cL_law 567 = .ok (.aload_n 2, 1) := by decide +kernel
theorem dL_law_568 : decode cL_law 568 = .ok (.invokevirtual 71, 3) := by decide +kernel
theorem dL_law_571 : decode cL_law 571 = .ok (.if_icmp .eq 677, 3) := by decide +kernel
theorem dL_law_574 : decode cL_law 574 = .ok (.iconst 0, 1) := by decide +kernel
theorem dL_law_575 : decode cL_law 575 = .ok (.ireturn, 1) := by decide +kernel
theorem dL_law_576 : decode cL_law 576 = .ok (.aload_n 1, 1) := by decide +kernel
theorem dL_law_577 : decode cL_law 577 = .ok (.aload_n 0, 1) := by decide +kernel
theorem dL_law_578 : decode cL_law 578 = .ok (.iload_n 3, 1) := by decide +kernel
theorem dL_law_579 : decode cL_law 579 = .ok (.iconst 1, 1) := by decide +kernel
theorem dL_law_580 : decode cL_law 580 = .ok (.iadd, 1) := by decide +kernel
theorem dL_law_581 : decode cL_law 581 = .ok (.iaload, 1) := by decide +kernel
theorem dL_law_582 : decode cL_law 582 = .ok (.invokevirtual 72, 3) := by decide +kernel
theorem dL_law_585 : decode cL_law 585 = .ok (.aload_n 2, 1) := by decide +kernel
theorem dL_law_586 : decode cL_law 586 = .ok (.aload_n 0, 1) := by decide +kernel
theorem dL_law_587 : decode cL_law 587 = .ok (.iload_n 3, 1) := by decide +kernel
theorem dL_law_588 : decode cL_law 588 = .ok (.iconst 1, 1) := by decide +kernel
theorem dL_law_589 : decode cL_law 589 = .ok (.iadd, 1) := by decide +kernel
theorem dL_law_590 : decode cL_law 590 = .ok (.iaload, 1) := by decide +kernel
theorem dL_law_591 : decode cL_law 591 = .ok (.invokevirtual 75, 3) := by decide +kernel
theorem dL_law_594 : decode cL_law 594 = .ok (.if_icmp .eq 654, 3) := by decide +kernel
theorem dL_law_597 : decode cL_law 597 = .ok (.iconst 0, 1) := by decide +kernel
theorem dL_law_598 : decode cL_law 598 = .ok (.ireturn, 1) := by decide +kernel
theorem dL_law_599 : decode cL_law 599 = .ok (.aload_n 1, 1) := by decide +kernel
theorem dL_law_600 : decode cL_law 600 = .ok (.aload_n 0, 1) := by decide +kernel
theorem dL_law_601 : decode cL_law 601 = .ok (.iload_n 3, 1) := by decide +kernel
theorem dL_law_602 : decode cL_law 602 = .ok (.iconst 1, 1) := by decide +kernel
theorem dL_law_603 : decode cL_law 603 = .ok (.iadd, 1) := by decide +kernel
theorem dL_law_604 : decode cL_law 604 = .ok (.iaload, 1) := by decide +kernel
theorem dL_law_605 : decode cL_law 605 = .ok (.aload_n 0, 1) := by decide +kernel
theorem dL_law_606 : decode cL_law 606 = .ok (.iload_n 3, 1) := by decide +kernel
theorem dL_law_607 : decode cL_law 607 = .ok (.iconst 2, 1) := by decide +kernel
theorem dL_law_608 : decode cL_law 608 = .ok (.iadd, 1) := by decide +kernel
theorem dL_law_609 : decode cL_law 609 = .ok (.iaload, 1) := by decide +kernel
theorem dL_law_610 : decode cL_law 610 = .ok (.invokevirtual 76, 3) := by decide +kernel
theorem dL_law_613 : decode cL_law 613 = .ok (.aload_n 2, 1) := by decide +kernel
theorem dL_law_614 : decode cL_law 614 = .ok (.aload_n 0, 1) := by decide +kernel
theorem dL_law_615 : decode cL_law 615 = .ok (.iload_n 3, 1) := by decide +kernel
theorem dL_law_616 : decode cL_law 616 = .ok (.iconst 1, 1) := by decide +kernel
theorem dL_law_617 : decode cL_law 617 = .ok (.iadd, 1) := by decide +kernel
theorem dL_law_618 : decode cL_law 618 = .ok (.iaload, 1) := by decide +kernel
theorem dL_law_619 : decode cL_law 619 = .ok (.aload_n 0, 1) := by decide +kernel
theorem dL_law_620 : decode cL_law 620 = .ok (.iload_n 3, 1) := by decide +kernel
theorem dL_law_621 : decode cL_law 621 = .ok (.iconst 2, 1) := by decide +kernel
theorem dL_law_622 : decode cL_law 622 = .ok (.iadd, 1) := by decide +kernel
theorem dL_law_623 : decode cL_law 623 = .ok (.iaload, 1) := by decide +kernel
theorem dL_law_624 : decode cL_law 624 = .ok (.invokevirtual 79, 3) := by decide +kernel
theorem dL_law_627 : decode cL_law 627 = .ok (.if_icmp .eq 621, 3) := by decide +kernel
theorem dL_law_630 : decode cL_law 630 = .ok (.iconst 0, 1) := by decide +kernel
theorem dL_law_631 : decode cL_law 631 = .ok (.ireturn, 1) := by decide +kernel
theorem dL_law_632 : decode cL_law 632 = .ok (.aload_n 1, 1) := by decide +kernel
theorem dL_law_633 : decode cL_law 633 = .ok (.aload_n 0, 1) := by decide +kernel
theorem dL_law_634 : decode cL_law 634 = .ok (.iload_n 3, 1) := by decide +kernel
theorem dL_law_635 : decode cL_law 635 = .ok (.iconst 1, 1) := by decide +kernel
theorem dL_law_636 : decode cL_law 636 = .ok (.iadd, 1) := by decide +kernel
theorem dL_law_637 : decode cL_law 637 = .ok (.iaload, 1) := by decide +kernel
theorem dL_law_638 : decode cL_law 638 = .ok (.aload_n 0, 1) := by decide +kernel
theorem dL_law_639 : decode cL_law 639 = .ok (.iload_n 3, 1) := by decide +kernel
theorem dL_law_640 : decode cL_law 640 = .ok (.iconst 2, 1) := by decide +kernel
theorem dL_law_641 : decode cL_law 641 = .ok (.iadd, 1) := by decide +kernel
theorem dL_law_642 : decode cL_law 642 = .ok (.iaload, 1) := by decide +kernel
theorem dL_law_643 : decode cL_law 643 = .ok (.aload_n 0, 1) := by decide +kernel
theorem dL_law_644 : decode cL_law 644 = .ok (.iload_n 3, 1) := by decide +kernel
theorem dL_law_645 : decode cL_law 645 = .ok (.iconst 3, 1) := by decide +kernel
theorem dL_law_646 : decode cL_law 646 = .ok (.iadd, 1) := by decide +kernel
theorem dL_law_647 : decode cL_law 647 = .ok (.iaload, 1) := by decide +kernel
theorem dL_law_648 : decode cL_law 648 = .ok (.invokevirtual 80, 3) := by decide +kernel
theorem dL_law_651 : decode cL_law 651 = .ok (.aload_n 2, 1) := by decide +kernel
theorem dL_law_652 : decode cL_law 652 = .ok (.aload_n 0, 1) := by decide +kernel
theorem dL_law_653 : decode cL_law 653 = .ok (.iload_n 3, 1) := by decide +kernel
theorem dL_law_654 : decode cL_law 654 = .ok (.iconst 1, 1) := by decide +kernel
theorem dL_law_655 : decode cL_law 655 = .ok (.iadd, 1) := by decide +kernel
theorem dL_law_656 : decode cL_law 656 = .ok (.iaload, 1) := by decide +kernel
theorem dL_law_657 : decode cL_law 657 = .ok (.aload_n 0, 1) := by decide +kernel
theorem dL_law_658 : decode cL_law 658 = .ok (.iload_n 3, 1) := by decide +kernel
theorem dL_law_659 : decode cL_law 659 = .ok (.iconst 2, 1) := by decide +kernel
theorem dL_law_660 : decode cL_law 660 = .ok (.iadd, 1) := by decide +kernel
theorem dL_law_661 : decode cL_law 661 = .ok (.iaload, 1) := by decide +kernel
theorem dL_law_662 : decode cL_law 662 = .ok (.aload_n 0, 1) := by decide +kernel
theorem dL_law_663 : decode cL_law 663 = .ok (.iload_n 3, 1) := by decide +kernel
theorem dL_law_664 : decode cL_law 664 = .ok (.iconst 3, 1) := by decide +kernel
theorem dL_law_665 : decode cL_law 665 = .ok (.iadd, 1) := by decide +kernel
theorem dL_law_666 : decode cL_law 666 = .ok (.iaload, 1) := by decide +kernel
theorem dL_law_667 : decode cL_law 667 = .ok (.invokevirtual 84, 3) := by decide +kernel
theorem dL_law_670 : decode cL_law 670 = .ok (.lcmp, 1) := by decide +kernel
theorem dL_law_671 : decode cL_law 671 = .ok (.ifCond .eq 577, 3) := by decide +kernel
theorem dL_law_674 : decode cL_law 674 = .ok (.iconst 0, 1) := by decide +kernel
theorem dL_law_675 : decode cL_law 675 = .ok (.ireturn, 1) := by decide +kernel
theorem dL_law_676 : decode cL_law 676 = .ok (.aload_n 1, 1) := by decide +kernel
theorem dL_law_677 : decode cL_law 677 = .ok (.aload_n 0, 1) := by decide +kernel
theorem dL_law_678 : decode cL_law 678 = .ok (.iload_n 3, 1) := by decide +kernel
theorem dL_law_679 : decode cL_law 679 = .ok (.iconst 1, 1) := by decide +kernel
theorem dL_law_680 : decode cL_law 680 = .ok (.iadd, 1) := by decide +kernel
theorem dL_law_681 : decode cL_law 681 = .ok (.iaload, 1) := by decide +kernel
theorem dL_law_682 : decode cL_law 682 = .ok (.aload_n 0, 1) := by decide +kernel
theorem dL_law_683 : decode cL_law 683 = .ok (.iload_n 3, 1) := by decide +kernel
theorem dL_law_684 : decode cL_law 684 = .ok (.iconst 2, 1) := by decide +kernel
theorem dL_law_685 : decode cL_law 685 = .ok (.iadd, 1) := by decide +kernel
theorem dL_law_686 : decode cL_law 686 = .ok (.iaload, 1) := by decide +kernel
theorem dL_law_687 : decode cL_law 687 = .ok (.invokevirtual 85, 3) := by decide +kernel
theorem dL_law_690 : decode cL_law 690 = .ok (.aload_n 2, 1) := by decide +kernel
theorem dL_law_691 : decode cL_law 691 = .ok (.aload_n 0, 1) := by decide +kernel
theorem dL_law_692 : decode cL_law 692 = .ok (.iload_n 3, 1) := by decide +kernel
theorem dL_law_693 : decode cL_law 693 = .ok (.iconst 1, 1) := by decide +kernel
theorem dL_law_694 : decode cL_law 694 = .ok (.iadd, 1) := by decide +kernel
theorem dL_law_695 : decode cL_law 695 = .ok (.iaload, 1) := by decide +kernel
theorem dL_law_696 : decode cL_law 696 = .ok (.aload_n 0, 1) := by decide +kernel
theorem dL_law_697 : decode cL_law 697 = .ok (.iload_n 3, 1) := by decide +kernel
theorem dL_law_698 : decode cL_law 698 = .ok (.iconst 2, 1) := by decide +kernel
theorem dL_law_699 : decode cL_law 699 = .ok (.iadd, 1) := by decide +kernel
theorem dL_law_700 : decode cL_law 700 = .ok (.iaload, 1) := by decide +kernel
theorem dL_law_701 : decode cL_law 701 = .ok (.invokevirtual 88, 3) := by decide +kernel
theorem dL_law_704 : decode cL_law 704 = .ok (.if_icmp .eq 544, 3) := by decide +kernel
theorem dL_law_707 : decode cL_law 707 = .ok (.iconst 0, 1) := by decide +kernel
theorem dL_law_708 : decode cL_law 708 = .ok (.ireturn, 1) := by decide +kernel
theorem dL_law_709 : decode cL_law 709 = .ok (.aload_n 1, 1) := by decide +kernel
theorem dL_law_710 : decode cL_law 710 = .ok (.aload_n 0, 1) := by decide +kernel
theorem dL_law_711 : decode cL_law 711 = .ok (.iload_n 3, 1) := by decide +kernel
theorem dL_law_712 : decode cL_law 712 = .ok (.iconst 1, 1) := by decide +kernel
theorem dL_law_713 : decode cL_law 713 = .ok (.iadd, 1) := by decide +kernel
theorem dL_law_714 : decode cL_law 714 = .ok (.iaload, 1) := by decide +kernel
theorem dL_law_715 : decode cL_law 715 = .ok (.aload_n 0, 1) := by decide +kernel
theorem dL_law_716 : decode cL_law 716 = .ok (.iload_n 3, 1) := by decide +kernel
theorem dL_law_717 : decode cL_law 717 = .ok (.iconst 2, 1) := by decide +kernel
theorem dL_law_718 : decode cL_law 718 = .ok (.iadd, 1) := by decide +kernel
theorem dL_law_719 : decode cL_law 719 = .ok (.iaload, 1) := by decide +kernel
theorem dL_law_720 : decode cL_law 720 = .ok (.aload_n 0, 1) := by decide +kernel
theorem dL_law_721 : decode cL_law 721 = .ok (.iload_n 3, 1) := by decide +kernel
theorem dL_law_722 : decode cL_law 722 = .ok (.iconst 3, 1) := by decide +kernel
theorem dL_law_723 : decode cL_law 723 = .ok (.iadd, 1) := by decide +kernel
theorem dL_law_724 : decode cL_law 724 = .ok (.iaload, 1) := by decide +kernel
theorem dL_law_725 : decode cL_law 725 = .ok (.aload_n 0, 1) := by decide +kernel
theorem dL_law_726 : decode cL_law 726 = .ok (.iload_n 3, 1) := by decide +kernel
theorem dL_law_727 : decode cL_law 727 = .ok (.iconst 4, 1) := by decide +kernel
theorem dL_law_728 : decode cL_law 728 = .ok (.iadd, 1) := by decide +kernel
theorem dL_law_729 : decode cL_law 729 = .ok (.iaload, 1) := by decide +kernel
theorem dL_law_730 : decode cL_law 730 = .ok (.invokevirtual 89, 3) := by decide +kernel
theorem dL_law_733 : decode cL_law 733 = .ok (.aload_n 2, 1) := by decide +kernel
theorem dL_law_734 : decode cL_law 734 = .ok (.aload_n 0, 1) := by decide +kernel
theorem dL_law_735 : decode cL_law 735 = .ok (.iload_n 3, 1) := by decide +kernel
theorem dL_law_736 : decode cL_law 736 = .ok (.iconst 1, 1) := by decide +kernel
theorem dL_law_737 : decode cL_law 737 = .ok (.iadd, 1) := by decide +kernel
theorem dL_law_738 : decode cL_law 738 = .ok (.iaload, 1) := by decide +kernel
theorem dL_law_739 : decode cL_law 739 = .ok (.aload_n 0, 1) := by decide +kernel
theorem dL_law_740 : decode cL_law 740 = .ok (.iload_n 3, 1) := by decide +kernel
theorem dL_law_741 : decode cL_law 741 = .ok (.iconst 2, 1) := by decide +kernel
theorem dL_law_742 : decode cL_law 742 = .ok (.iadd, 1) := by decide +kernel
theorem dL_law_743 : decode cL_law 743 = .ok (.iaload, 1) := by decide +kernel
theorem dL_law_744 : decode cL_law 744 = .ok (.aload_n 0, 1) := by decide +kernel
theorem dL_law_745 : decode cL_law 745 = .ok (.iload_n 3, 1) := by decide +kernel
theorem dL_law_746 : decode cL_law 746 = .ok (.iconst 3, 1) := by decide +kernel
theorem dL_law_747 : decode cL_law 747 = .ok (.iadd, 1) := by decide +kernel
theorem dL_law_748 : decode cL_law 748 = .ok (.iaload, 1) := by decide +kernel
theorem dL_law_749 : decode cL_law 749 = .ok (.aload_n 0, 1) := by decide +kernel
theorem dL_law_750 : decode cL_law 750 = .ok (.iload_n 3, 1) := by decide +kernel
theorem dL_law_751 : decode cL_law 751 = .ok (.iconst 4, 1) := by decide +kernel
theorem dL_law_752 : decode cL_law 752 = .ok (.iadd, 1) := by decide +kernel
theorem dL_law_753 : decode cL_law 753 = .ok (.iaload, 1) := by decide +kernel
theorem dL_law_754 : decode cL_law 754 = .ok (.invokevirtual 93, 3) := by decide +kernel
theorem dL_law_757 : decode cL_law 757 = .ok (.if_icmp .eq 491, 3) := by decide +kernel
theorem dL_law_760 : decode cL_law 760 = .ok (.iconst 0, 1) := by decide +kernel
theorem dL_law_761 : decode cL_law 761 = .ok (.ireturn, 1) := by decide +kernel
theorem dL_law_762 : decode cL_law 762 = .ok (.aload_n 1, 1) := by decide +kernel
theorem dL_law_763 : decode cL_law 763 = .ok (.aload_n 0, 1) := by decide +kernel
theorem dL_law_764 : decode cL_law 764 = .ok (.iload_n 3, 1) := by decide +kernel
theorem dL_law_765 : decode cL_law 765 = .ok (.iconst 1, 1) := by decide +kernel
theorem dL_law_766 : decode cL_law 766 = .ok (.iadd, 1) := by decide +kernel
theorem dL_law_767 : decode cL_law 767 = .ok (.iaload, 1) := by decide +kernel
theorem dL_law_768 : decode cL_law 768 = .ok (.aload_n 0, 1) := by decide +kernel
theorem dL_law_769 : decode cL_law 769 = .ok (.iload_n 3, 1) := by decide +kernel
theorem dL_law_770 : decode cL_law 770 = .ok (.iconst 2, 1) := by decide +kernel
theorem dL_law_771 : decode cL_law 771 = .ok (.iadd, 1) := by decide +kernel
theorem dL_law_772 : decode cL_law 772 = .ok (.iaload, 1) := by decide +kernel
theorem dL_law_773 : decode cL_law 773 = .ok (.aload_n 0, 1) := by decide +kernel
theorem dL_law_774 : decode cL_law 774 = .ok (.iload_n 3, 1) := by decide +kernel
theorem dL_law_775 : decode cL_law 775 = .ok (.iconst 3, 1) := by decide +kernel
theorem dL_law_776 : decode cL_law 776 = .ok (.iadd, 1) := by decide +kernel
theorem dL_law_777 : decode cL_law 777 = .ok (.iaload, 1) := by decide +kernel
theorem dL_law_778 : decode cL_law 778 = .ok (.invokevirtual 94, 3) := by decide +kernel
theorem dL_law_781 : decode cL_law 781 = .ok (.aload_n 2, 1) := by decide +kernel
theorem dL_law_782 : decode cL_law 782 = .ok (.aload_n 0, 1) := by decide +kernel
theorem dL_law_783 : decode cL_law 783 = .ok (.iload_n 3, 1) := by decide +kernel
theorem dL_law_784 : decode cL_law 784 = .ok (.iconst 1, 1) := by decide +kernel
theorem dL_law_785 : decode cL_law 785 = .ok (.iadd, 1) := by decide +kernel
theorem dL_law_786 : decode cL_law 786 = .ok (.iaload, 1) := by decide +kernel
theorem dL_law_787 : decode cL_law 787 = .ok (.aload_n 0, 1) := by decide +kernel
theorem dL_law_788 : decode cL_law 788 = .ok (.iload_n 3, 1) := by decide +kernel
theorem dL_law_789 : decode cL_law 789 = .ok (.iconst 2, 1) := by decide +kernel
theorem dL_law_790 : decode cL_law 790 = .ok (.iadd, 1) := by decide +kernel
theorem dL_law_791 : decode cL_law 791 = .ok (.iaload, 1) := by decide +kernel
theorem dL_law_792 : decode cL_law 792 = .ok (.aload_n 0, 1) := by decide +kernel
theorem dL_law_793 : decode cL_law 793 = .ok (.iload_n 3, 1) := by decide +kernel
theorem dL_law_794 : decode cL_law 794 = .ok (.iconst 3, 1) := by decide +kernel
theorem dL_law_795 : decode cL_law 795 = .ok (.iadd, 1) := by decide +kernel
theorem dL_law_796 : decode cL_law 796 = .ok (.iaload, 1) := by decide +kernel
theorem dL_law_797 : decode cL_law 797 = .ok (.invokevirtual 98, 3) := by decide +kernel
theorem dL_law_800 : decode cL_law 800 = .ok (.if_icmp .eq 448, 3) := by decide +kernel
theorem dL_law_803 : decode cL_law 803 = .ok (.iconst 0, 1) := by decide +kernel
theorem dL_law_804 : decode cL_law 804 = .ok (.ireturn, 1) := by decide +kernel
theorem dL_law_805 : decode cL_law 805 = .ok (.aload_n 1, 1) := by decide +kernel
theorem dL_law_806 : decode cL_law 806 = .ok (.aload_n 0, 1) := by decide +kernel
theorem dL_law_807 : decode cL_law 807 = .ok (.iload_n 3, 1) := by decide +kernel
theorem dL_law_808 : decode cL_law 808 = .ok (.iconst 1, 1) := by decide +kernel
theorem dL_law_809 : decode cL_law 809 = .ok (.iadd, 1) := by decide +kernel
theorem dL_law_810 : decode cL_law 810 = .ok (.iaload, 1) := by decide +kernel
theorem dL_law_811 : decode cL_law 811 = .ok (.aload_n 0, 1) := by decide +kernel
theorem dL_law_812 : decode cL_law 812 = .ok (.iload_n 3, 1) := by decide +kernel
theorem dL_law_813 : decode cL_law 813 = .ok (.iconst 2, 1) := by decide +kernel
theorem dL_law_814 : decode cL_law 814 = .ok (.iadd, 1) := by decide +kernel
theorem dL_law_815 : decode cL_law 815 = .ok (.iaload, 1) := by decide +kernel
theorem dL_law_816 : decode cL_law 816 = .ok (.aload_n 0, 1) := by decide +kernel
theorem dL_law_817 : decode cL_law 817 = .ok (.iload_n 3, 1) := by decide +kernel
theorem dL_law_818 : decode cL_law 818 = .ok (.iconst 3, 1) := by decide +kernel
theorem dL_law_819 : decode cL_law 819 = .ok (.iadd, 1) := by decide +kernel
theorem dL_law_820 : decode cL_law 820 = .ok (.iaload, 1) := by decide +kernel
theorem dL_law_821 : decode cL_law 821 = .ok (.invokevirtual 99, 3) := by decide +kernel
theorem dL_law_824 : decode cL_law 824 = .ok (.aload_n 2, 1) := by decide +kernel
theorem dL_law_825 : decode cL_law 825 = .ok (.aload_n 0, 1) := by decide +kernel
theorem dL_law_826 : decode cL_law 826 = .ok (.iload_n 3, 1) := by decide +kernel
theorem dL_law_827 : decode cL_law 827 = .ok (.iconst 1, 1) := by decide +kernel
theorem dL_law_828 : decode cL_law 828 = .ok (.iadd, 1) := by decide +kernel
theorem dL_law_829 : decode cL_law 829 = .ok (.iaload, 1) := by decide +kernel
theorem dL_law_830 : decode cL_law 830 = .ok (.aload_n 0, 1) := by decide +kernel
theorem dL_law_831 : decode cL_law 831 = .ok (.iload_n 3, 1) := by decide +kernel
theorem dL_law_832 : decode cL_law 832 = .ok (.iconst 2, 1) := by decide +kernel
theorem dL_law_833 : decode cL_law 833 = .ok (.iadd, 1) := by decide +kernel
theorem dL_law_834 : decode cL_law 834 = .ok (.iaload, 1) := by decide +kernel
theorem dL_law_835 : decode cL_law 835 = .ok (.aload_n 0, 1) := by decide +kernel
theorem dL_law_836 : decode cL_law 836 = .ok (.iload_n 3, 1) := by decide +kernel
theorem dL_law_837 : decode cL_law 837 = .ok (.iconst 3, 1) := by decide +kernel
theorem dL_law_838 : decode cL_law 838 = .ok (.iadd, 1) := by decide +kernel
theorem dL_law_839 : decode cL_law 839 = .ok (.iaload, 1) := by decide +kernel
theorem dL_law_840 : decode cL_law 840 = .ok (.invokevirtual 102, 3) := by decide +kernel
theorem dL_law_843 : decode cL_law 843 = .ok (.if_icmp .eq 405, 3) := by decide +kernel
theorem dL_law_846 : decode cL_law 846 = .ok (.iconst 0, 1) := by decide +kernel
theorem dL_law_847 : decode cL_law 847 = .ok (.ireturn, 1) := by decide +kernel
theorem dL_law_848 : decode cL_law 848 = .ok (.aload_n 1, 1) := by decide +kernel
theorem dL_law_849 : decode cL_law 849 = .ok (.invokevirtual 103, 3) := by decide +kernel
theorem dL_law_852 : decode cL_law 852 = .ok (.aload_n 2, 1) := by decide +kernel
theorem dL_law_853 : decode cL_law 853 = .ok (.invokevirtual 106, 3) := by decide +kernel
theorem dL_law_856 : decode cL_law 856 = .ok (.if_icmp .eq 392, 3) := by decide +kernel
theorem dL_law_859 : decode cL_law 859 = .ok (.iconst 0, 1) := by decide +kernel
theorem dL_law_860 : decode cL_law 860 = .ok (.ireturn, 1) := by decide +kernel
theorem dL_law_861 : decode cL_law 861 = .ok (.aload_n 1, 1) := by decide +kernel
theorem dL_law_862 : decode cL_law 862 = .ok (.aload_n 0, 1) := by decide +kernel
theorem dL_law_863 : decode cL_law 863 = .ok (.iload_n 3, 1) := by decide +kernel
theorem dL_law_864 : decode cL_law 864 = .ok (.iconst 1, 1) := by decide +kernel
theorem dL_law_865 : decode cL_law 865 = .ok (.iadd, 1) := by decide +kernel
theorem dL_law_866 : decode cL_law 866 = .ok (.iaload, 1) := by decide +kernel
theorem dL_law_867 : decode cL_law 867 = .ok (.invokevirtual 107, 3) := by decide +kernel
theorem dL_law_870 : decode cL_law 870 = .ok (.aload_n 2, 1) := by decide +kernel
theorem dL_law_871 : decode cL_law 871 = .ok (.aload_n 0, 1) := by decide +kernel
theorem dL_law_872 : decode cL_law 872 = .ok (.iload_n 3, 1) := by decide +kernel
theorem dL_law_873 : decode cL_law 873 = .ok (.iconst 1, 1) := by decide +kernel
theorem dL_law_874 : decode cL_law 874 = .ok (.iadd, 1) := by decide +kernel
theorem dL_law_875 : decode cL_law 875 = .ok (.iaload, 1) := by decide +kernel
theorem dL_law_876 : decode cL_law 876 = .ok (.invokevirtual 110, 3) := by decide +kernel
theorem dL_law_879 : decode cL_law 879 = .ok (.if_icmp .eq 369, 3) := by decide +kernel
theorem dL_law_882 : decode cL_law 882 = .ok (.iconst 0, 1) := by decide +kernel
theorem dL_law_883 : decode cL_law 883 = .ok (.ireturn, 1) := by decide +kernel
theorem dL_law_884 : decode cL_law 884 = .ok (.aload_n 1, 1) := by decide +kernel
theorem dL_law_885 : decode cL_law 885 = .ok (.invokevirtual 111, 3) := by decide +kernel
theorem dL_law_888 : decode cL_law 888 = .ok (.aload_n 2, 1) := by decide +kernel
theorem dL_law_889 : decode cL_law 889 = .ok (.invokevirtual 114, 3) := by decide +kernel
theorem dL_law_892 : decode cL_law 892 = .ok (.if_icmp .eq 356, 3) := by decide +kernel
theorem dL_law_895 : decode cL_law 895 = .ok (.iconst 0, 1) := by decide +kernel
theorem dL_law_896 : decode cL_law 896 = .ok (.ireturn, 1) := by decide +kernel
theorem dL_law_897 : decode cL_law 897 = .ok (.aload_n 1, 1) := by decide +kernel
theorem dL_law_898 : decode cL_law 898 = .ok (.aload_n 0, 1) := by decide +kernel
theorem dL_law_899 : decode cL_law 899 = .ok (.iload_n 3, 1) := by decide +kernel
theorem dL_law_900 : decode cL_law 900 = .ok (.iconst 1, 1) := by decide +kernel
theorem dL_law_901 : decode cL_law 901 = .ok (.iadd, 1) := by decide +kernel
theorem dL_law_902 : decode cL_law 902 = .ok (.iaload, 1) := by decide +kernel
theorem dL_law_903 : decode cL_law 903 = .ok (.invokevirtual 115, 3) := by decide +kernel
theorem dL_law_906 : decode cL_law 906 = .ok (.aload_n 2, 1) := by decide +kernel
theorem dL_law_907 : decode cL_law 907 = .ok (.aload_n 0, 1) := by decide +kernel
theorem dL_law_908 : decode cL_law 908 = .ok (.iload_n 3, 1) := by decide +kernel
theorem dL_law_909 : decode cL_law 909 = .ok (.iconst 1, 1) := by decide +kernel
theorem dL_law_910 : decode cL_law 910 = .ok (.iadd, 1) := by decide +kernel
theorem dL_law_911 : decode cL_law 911 = .ok (.iaload, 1) := by decide +kernel
theorem dL_law_912 : decode cL_law 912 = .ok (.invokevirtual 118, 3) := by decide +kernel
theorem dL_law_915 : decode cL_law 915 = .ok (.if_icmp .eq 333, 3) := by decide +kernel
theorem dL_law_918 : decode cL_law 918 = .ok (.iconst 0, 1) := by decide +kernel
theorem dL_law_919 : decode cL_law 919 = .ok (.ireturn, 1) := by decide +kernel
theorem dL_law_920 : decode cL_law 920 = .ok (.aload_n 1, 1) := by decide +kernel
theorem dL_law_921 : decode cL_law 921 = .ok (.aload_n 0, 1) := by decide +kernel
theorem dL_law_922 : decode cL_law 922 = .ok (.iload_n 3, 1) := by decide +kernel
theorem dL_law_923 : decode cL_law 923 = .ok (.iconst 1, 1) := by decide +kernel
theorem dL_law_924 : decode cL_law 924 = .ok (.iadd, 1) := by decide +kernel
theorem dL_law_925 : decode cL_law 925 = .ok (.iaload, 1) := by decide +kernel
theorem dL_law_926 : decode cL_law 926 = .ok (.aload_n 0, 1) := by decide +kernel
theorem dL_law_927 : decode cL_law 927 = .ok (.iload_n 3, 1) := by decide +kernel
theorem dL_law_928 : decode cL_law 928 = .ok (.iconst 2, 1) := by decide +kernel
theorem dL_law_929 : decode cL_law 929 = .ok (.iadd, 1) := by decide +kernel
theorem dL_law_930 : decode cL_law 930 = .ok (.iaload, 1) := by decide +kernel
theorem dL_law_931 : decode cL_law 931 = .ok (.invokevirtual 119, 3) := by decide +kernel
theorem dL_law_934 : decode cL_law 934 = .ok (.aload_n 2, 1) := by decide +kernel
theorem dL_law_935 : decode cL_law 935 = .ok (.aload_n 0, 1) := by decide +kernel
theorem dL_law_936 : decode cL_law 936 = .ok (.iload_n 3, 1) := by decide +kernel
theorem dL_law_937 : decode cL_law 937 = .ok (.iconst 1, 1) := by decide +kernel
theorem dL_law_938 : decode cL_law 938 = .ok (.iadd, 1) := by decide +kernel
theorem dL_law_939 : decode cL_law 939 = .ok (.iaload, 1) := by decide +kernel
theorem dL_law_940 : decode cL_law 940 = .ok (.aload_n 0, 1) := by decide +kernel
theorem dL_law_941 : decode cL_law 941 = .ok (.iload_n 3, 1) := by decide +kernel
theorem dL_law_942 : decode cL_law 942 = .ok (.iconst 2, 1) := by decide +kernel
theorem dL_law_943 : decode cL_law 943 = .ok (.iadd, 1) := by decide +kernel
theorem dL_law_944 : decode cL_law 944 = .ok (.iaload, 1) := by decide +kernel
theorem dL_law_945 : decode cL_law 945 = .ok (.invokevirtual 122, 3) := by decide +kernel
theorem dL_law_948 : decode cL_law 948 = .ok (.if_icmp .eq 300, 3) := by decide +kernel
theorem dL_law_951 : decode cL_law 951 = .ok (.iconst 0, 1) := by decide +kernel
theorem dL_law_952 : decode cL_law 952 = .ok (.ireturn, 1) := by decide +kernel
theorem dL_law_953 : decode cL_law 953 = .ok (.aload_n 1, 1) := by decide +kernel
theorem dL_law_954 : decode cL_law 954 = .ok (.aload_n 0, 1) := by decide +kernel
theorem dL_law_955 : decode cL_law 955 = .ok (.iload_n 3, 1) := by decide +kernel
theorem dL_law_956 : decode cL_law 956 = .ok (.iconst 1, 1) := by decide +kernel
theorem dL_law_957 : decode cL_law 957 = .ok (.iadd, 1) := by decide +kernel
theorem dL_law_958 : decode cL_law 958 = .ok (.iaload, 1) := by decide +kernel
theorem dL_law_959 : decode cL_law 959 = .ok (.aload_n 0, 1) := by decide +kernel
theorem dL_law_960 : decode cL_law 960 = .ok (.iload_n 3, 1) := by decide +kernel
theorem dL_law_961 : decode cL_law 961 = .ok (.iconst 2, 1) := by decide +kernel
theorem dL_law_962 : decode cL_law 962 = .ok (.iadd, 1) := by decide +kernel
theorem dL_law_963 : decode cL_law 963 = .ok (.iaload, 1) := by decide +kernel
theorem dL_law_964 : decode cL_law 964 = .ok (.aload_n 0, 1) := by decide +kernel
theorem dL_law_965 : decode cL_law 965 = .ok (.iload_n 3, 1) := by decide +kernel
theorem dL_law_966 : decode cL_law 966 = .ok (.iconst 3, 1) := by decide +kernel
theorem dL_law_967 : decode cL_law 967 = .ok (.iadd, 1) := by decide +kernel
theorem dL_law_968 : decode cL_law 968 = .ok (.iaload, 1) := by decide +kernel
theorem dL_law_969 : decode cL_law 969 = .ok (.invokevirtual 123, 3) := by decide +kernel
theorem dL_law_972 : decode cL_law 972 = .ok (.aload_n 2, 1) := by decide +kernel
theorem dL_law_973 : decode cL_law 973 = .ok (.aload_n 0, 1) := by decide +kernel
theorem dL_law_974 : decode cL_law 974 = .ok (.iload_n 3, 1) := by decide +kernel
theorem dL_law_975 : decode cL_law 975 = .ok (.iconst 1, 1) := by decide +kernel
theorem dL_law_976 : decode cL_law 976 = .ok (.iadd, 1) := by decide +kernel
theorem dL_law_977 : decode cL_law 977 = .ok (.iaload, 1) := by decide +kernel
theorem dL_law_978 : decode cL_law 978 = .ok (.aload_n 0, 1) := by decide +kernel
theorem dL_law_979 : decode cL_law 979 = .ok (.iload_n 3, 1) := by decide +kernel
theorem dL_law_980 : decode cL_law 980 = .ok (.iconst 2, 1) := by decide +kernel
theorem dL_law_981 : decode cL_law 981 = .ok (.iadd, 1) := by decide +kernel
theorem dL_law_982 : decode cL_law 982 = .ok (.iaload, 1) := by decide +kernel
theorem dL_law_983 : decode cL_law 983 = .ok (.aload_n 0, 1) := by decide +kernel
theorem dL_law_984 : decode cL_law 984 = .ok (.iload_n 3, 1) := by decide +kernel
theorem dL_law_985 : decode cL_law 985 = .ok (.iconst 3, 1) := by decide +kernel
theorem dL_law_986 : decode cL_law 986 = .ok (.iadd, 1) := by decide +kernel
theorem dL_law_987 : decode cL_law 987 = .ok (.iaload, 1) := by decide +kernel
theorem dL_law_988 : decode cL_law 988 = .ok (.invokevirtual 126, 3) := by decide +kernel
theorem dL_law_991 : decode cL_law 991 = .ok (.if_icmp .eq 257, 3) := by decide +kernel
theorem dL_law_994 : decode cL_law 994 = .ok (.iconst 0, 1) := by decide +kernel
theorem dL_law_995 : decode cL_law 995 = .ok (.ireturn, 1) := by decide +kernel
theorem dL_law_996 : decode cL_law 996 = .ok (.aload_n 1, 1) := by decide +kernel
theorem dL_law_997 : decode cL_law 997 = .ok (.aload_n 0, 1) := by decide +kernel
theorem dL_law_998 : decode cL_law 998 = .ok (.iload_n 3, 1) := by decide +kernel
theorem dL_law_999 : decode cL_law 999 = .ok (.iconst 1, 1) := by decide +kernel
theorem dL_law_1000 : decode cL_law 1000 = .ok (.iadd, 1) := by decide +kernel
theorem dL_law_1001 : decode cL_law 1001 = .ok (.iaload, 1) := by decide +kernel
theorem dL_law_1002 : decode cL_law 1002 = .ok (.invokevirtual 127, 3) := by decide +kernel
theorem dL_law_1005 : decode cL_law 1005 = .ok (.aload_n 2, 1) := by decide +kernel
theorem dL_law_1006 : decode cL_law 1006 = .ok (.aload_n 0, 1) := by decide +kernel
theorem dL_law_1007 : decode cL_law 1007 = .ok (.iload_n 3, 1) := by decide +kernel
theorem dL_law_1008 : decode cL_law 1008 = .ok (.iconst 1, 1) := by decide +kernel
theorem dL_law_1009 : decode cL_law 1009 = .ok (.iadd, 1) := by decide +kernel
theorem dL_law_1010 : decode cL_law 1010 = .ok (.iaload, 1) := by decide +kernel
theorem dL_law_1011 : decode cL_law 1011 = .ok (.invokevirtual 130, 3) := by decide +kernel
theorem dL_law_1014 : decode cL_law 1014 = .ok (.if_icmp .eq 234, 3) := by decide +kernel
theorem dL_law_1017 : decode cL_law 1017 = .ok (.iconst 0, 1) := by decide +kernel
theorem dL_law_1018 : decode cL_law 1018 = .ok (.ireturn, 1) := by decide +kernel
theorem dL_law_1019 : decode cL_law 1019 = .ok (.aload_n 1, 1) := by decide +kernel
theorem dL_law_1020 : decode cL_law 1020 = .ok (.aload_n 0, 1) := by decide +kernel
theorem dL_law_1021 : decode cL_law 1021 = .ok (.iload_n 3, 1) := by decide +kernel
theorem dL_law_1022 : decode cL_law 1022 = .ok (.iconst 1, 1) := by decide +kernel
theorem dL_law_1023 : decode cL_law 1023 = .ok (.iadd, 1) := by decide +kernel
theorem dL_law_1024 : decode cL_law 1024 = .ok (.iaload, 1) := by decide +kernel
theorem dL_law_1025 : decode cL_law 1025 = .ok (.aload_n 0, 1) := by decide +kernel
theorem dL_law_1026 : decode cL_law 1026 = .ok (.iload_n 3, 1) := by decide +kernel
theorem dL_law_1027 : decode cL_law 1027 = .ok (.iconst 2, 1) := by decide +kernel
theorem dL_law_1028 : decode cL_law 1028 = .ok (.iadd, 1) := by decide +kernel
theorem dL_law_1029 : decode cL_law 1029 = .ok (.iaload, 1) := by decide +kernel
theorem dL_law_1030 : decode cL_law 1030 = .ok (.aload_n 0, 1) := by decide +kernel
theorem dL_law_1031 : decode cL_law 1031 = .ok (.iload_n 3, 1) := by decide +kernel
theorem dL_law_1032 : decode cL_law 1032 = .ok (.iconst 3, 1) := by decide +kernel
theorem dL_law_1033 : decode cL_law 1033 = .ok (.iadd, 1) := by decide +kernel
theorem dL_law_1034 : decode cL_law 1034 = .ok (.iaload, 1) := by decide +kernel
theorem dL_law_1035 : decode cL_law 1035 = .ok (.aload_n 0, 1) := by decide +kernel
theorem dL_law_1036 : decode cL_law 1036 = .ok (.iload_n 3, 1) := by decide +kernel
theorem dL_law_1037 : decode cL_law 1037 = .ok (.iconst 4, 1) := by decide +kernel
theorem dL_law_1038 : decode cL_law 1038 = .ok (.iadd, 1) := by decide +kernel
theorem dL_law_1039 : decode cL_law 1039 = .ok (.iaload, 1) := by decide +kernel
theorem dL_law_1040 : decode cL_law 1040 = .ok (.invokevirtual 131, 3) := by decide +kernel
theorem dL_law_1043 : decode cL_law 1043 = .ok (.aload_n 2, 1) := by decide +kernel
theorem dL_law_1044 : decode cL_law 1044 = .ok (.aload_n 0, 1) := by decide +kernel
theorem dL_law_1045 : decode cL_law 1045 = .ok (.iload_n 3, 1) := by decide +kernel
theorem dL_law_1046 : decode cL_law 1046 = .ok (.iconst 1, 1) := by decide +kernel
theorem dL_law_1047 : decode cL_law 1047 = .ok (.iadd, 1) := by decide +kernel
theorem dL_law_1048 : decode cL_law 1048 = .ok (.iaload, 1) := by decide +kernel
theorem dL_law_1049 : decode cL_law 1049 = .ok (.aload_n 0, 1) := by decide +kernel
theorem dL_law_1050 : decode cL_law 1050 = .ok (.iload_n 3, 1) := by decide +kernel
theorem dL_law_1051 : decode cL_law 1051 = .ok (.iconst 2, 1) := by decide +kernel
theorem dL_law_1052 : decode cL_law 1052 = .ok (.iadd, 1) := by decide +kernel
theorem dL_law_1053 : decode cL_law 1053 = .ok (.iaload, 1) := by decide +kernel
theorem dL_law_1054 : decode cL_law 1054 = .ok (.aload_n 0, 1) := by decide +kernel
theorem dL_law_1055 : decode cL_law 1055 = .ok (.iload_n 3, 1) := by decide +kernel
theorem dL_law_1056 : decode cL_law 1056 = .ok (.iconst 3, 1) := by decide +kernel
theorem dL_law_1057 : decode cL_law 1057 = .ok (.iadd, 1) := by decide +kernel
theorem dL_law_1058 : decode cL_law 1058 = .ok (.iaload, 1) := by decide +kernel
theorem dL_law_1059 : decode cL_law 1059 = .ok (.aload_n 0, 1) := by decide +kernel
theorem dL_law_1060 : decode cL_law 1060 = .ok (.iload_n 3, 1) := by decide +kernel
theorem dL_law_1061 : decode cL_law 1061 = .ok (.iconst 4, 1) := by decide +kernel
theorem dL_law_1062 : decode cL_law 1062 = .ok (.iadd, 1) := by decide +kernel
theorem dL_law_1063 : decode cL_law 1063 = .ok (.iaload, 1) := by decide +kernel
theorem dL_law_1064 : decode cL_law 1064 = .ok (.invokevirtual 134, 3) := by decide +kernel
theorem dL_law_1067 : decode cL_law 1067 = .ok (.if_icmp .eq 181, 3) := by decide +kernel
theorem dL_law_1070 : decode cL_law 1070 = .ok (.iconst 0, 1) := by decide +kernel
theorem dL_law_1071 : decode cL_law 1071 = .ok (.ireturn, 1) := by decide +kernel
theorem dL_law_1072 : decode cL_law 1072 = .ok (.aload_n 1, 1) := by decide +kernel
theorem dL_law_1073 : decode cL_law 1073 = .ok (.aload_n 0, 1) := by decide +kernel
theorem dL_law_1074 : decode cL_law 1074 = .ok (.iload_n 3, 1) := by decide +kernel
theorem dL_law_1075 : decode cL_law 1075 = .ok (.iconst 1, 1) := by decide +kernel
theorem dL_law_1076 : decode cL_law 1076 = .ok (.iadd, 1) := by decide +kernel
theorem dL_law_1077 : decode cL_law 1077 = .ok (.iaload, 1) := by decide +kernel
theorem dL_law_1078 : decode cL_law 1078 = .ok (.aload_n 0, 1) := by decide +kernel
theorem dL_law_1079 : decode cL_law 1079 = .ok (.iload_n 3, 1) := by decide +kernel
theorem dL_law_1080 : decode cL_law 1080 = .ok (.iconst 2, 1) := by decide +kernel
theorem dL_law_1081 : decode cL_law 1081 = .ok (.iadd, 1) := by decide +kernel
theorem dL_law_1082 : decode cL_law 1082 = .ok (.iaload, 1) := by decide +kernel
theorem dL_law_1083 : decode cL_law 1083 = .ok (.aload_n 0, 1) := by decide +kernel
theorem dL_law_1084 : decode cL_law 1084 = .ok (.iload_n 3, 1) := by decide +kernel
theorem dL_law_1085 : decode cL_law 1085 = .ok (.iconst 3, 1) := by decide +kernel
theorem dL_law_1086 : decode cL_law 1086 = .ok (.iadd, 1) := by decide +kernel
theorem dL_law_1087 : decode cL_law 1087 = .ok (.iaload, 1) := by decide +kernel
theorem dL_law_1088 : decode cL_law 1088 = .ok (.invokevirtual 135, 3) := by decide +kernel
theorem dL_law_1091 : decode cL_law 1091 = .ok (.aload_n 2, 1) := by decide +kernel
theorem dL_law_1092 : decode cL_law 1092 = .ok (.aload_n 0, 1) := by decide +kernel
theorem dL_law_1093 : decode cL_law 1093 = .ok (.iload_n 3, 1) := by decide +kernel
theorem dL_law_1094 : decode cL_law 1094 = .ok (.iconst 1, 1) := by decide +kernel
theorem dL_law_1095 : decode cL_law 1095 = .ok (.iadd, 1) := by decide +kernel
theorem dL_law_1096 : decode cL_law 1096 = .ok (.iaload, 1) := by decide +kernel
theorem dL_law_1097 : decode cL_law 1097 = .ok (.aload_n 0, 1) := by decide +kernel
theorem dL_law_1098 : decode cL_law 1098 = .ok (.iload_n 3, 1) := by decide +kernel
theorem dL_law_1099 : decode cL_law 1099 = .ok (.iconst 2, 1) := by decide +kernel
theorem dL_law_1100 : decode cL_law 1100 = .ok (.iadd, 1) := by decide +kernel
theorem dL_law_1101 : decode cL_law 1101 = .ok (.iaload, 1) := by decide +kernel
theorem dL_law_1102 : decode cL_law 1102 = .ok (.aload_n 0, 1) := by decide +kernel
theorem dL_law_1103 : decode cL_law 1103 = .ok (.iload_n 3, 1) := by decide +kernel
theorem dL_law_1104 : decode cL_law 1104 = .ok (.iconst 3, 1) := by decide +kernel
theorem dL_law_1105 : decode cL_law 1105 = .ok (.iadd, 1) := by decide +kernel
theorem dL_law_1106 : decode cL_law 1106 = .ok (.iaload, 1) := by decide +kernel
theorem dL_law_1107 : decode cL_law 1107 = .ok (.invokevirtual 138, 3) := by decide +kernel
theorem dL_law_1110 : decode cL_law 1110 = .ok (.if_icmp .eq 138, 3) := by decide +kernel
theorem dL_law_1113 : decode cL_law 1113 = .ok (.iconst 0, 1) := by decide +kernel
theorem dL_law_1114 : decode cL_law 1114 = .ok (.ireturn, 1) := by decide +kernel
theorem dL_law_1115 : decode cL_law 1115 = .ok (.aload_n 1, 1) := by decide +kernel
theorem dL_law_1116 : decode cL_law 1116 = .ok (.aload_n 0, 1) := by decide +kernel
theorem dL_law_1117 : decode cL_law 1117 = .ok (.iload_n 3, 1) := by decide +kernel
theorem dL_law_1118 : decode cL_law 1118 = .ok (.iconst 1, 1) := by decide +kernel
theorem dL_law_1119 : decode cL_law 1119 = .ok (.iadd, 1) := by decide +kernel
theorem dL_law_1120 : decode cL_law 1120 = .ok (.iaload, 1) := by decide +kernel
theorem dL_law_1121 : decode cL_law 1121 = .ok (.aload_n 0, 1) := by decide +kernel
theorem dL_law_1122 : decode cL_law 1122 = .ok (.iload_n 3, 1) := by decide +kernel
theorem dL_law_1123 : decode cL_law 1123 = .ok (.iconst 2, 1) := by decide +kernel
theorem dL_law_1124 : decode cL_law 1124 = .ok (.iadd, 1) := by decide +kernel
theorem dL_law_1125 : decode cL_law 1125 = .ok (.iaload, 1) := by decide +kernel
theorem dL_law_1126 : decode cL_law 1126 = .ok (.aload_n 0, 1) := by decide +kernel
theorem dL_law_1127 : decode cL_law 1127 = .ok (.iload_n 3, 1) := by decide +kernel
theorem dL_law_1128 : decode cL_law 1128 = .ok (.iconst 3, 1) := by decide +kernel
theorem dL_law_1129 : decode cL_law 1129 = .ok (.iadd, 1) := by decide +kernel
theorem dL_law_1130 : decode cL_law 1130 = .ok (.iaload, 1) := by decide +kernel
theorem dL_law_1131 : decode cL_law 1131 = .ok (.aload_n 0, 1) := by decide +kernel
theorem dL_law_1132 : decode cL_law 1132 = .ok (.iload_n 3, 1) := by decide +kernel
theorem dL_law_1133 : decode cL_law 1133 = .ok (.iconst 4, 1) := by decide +kernel
theorem dL_law_1134 : decode cL_law 1134 = .ok (.iadd, 1) := by decide +kernel
theorem dL_law_1135 : decode cL_law 1135 = .ok (.iaload, 1) := by decide +kernel
theorem dL_law_1136 : decode cL_law 1136 = .ok (.aload_n 0, 1) := by decide +kernel
theorem dL_law_1137 : decode cL_law 1137 = .ok (.iload_n 3, 1) := by decide +kernel
theorem dL_law_1138 : decode cL_law 1138 = .ok (.iconst 5, 1) := by decide +kernel
theorem dL_law_1139 : decode cL_law 1139 = .ok (.iadd, 1) := by decide +kernel
theorem dL_law_1140 : decode cL_law 1140 = .ok (.iaload, 1) := by decide +kernel
theorem dL_law_1141 : decode cL_law 1141 = .ok (.invokevirtual 139, 3) := by decide +kernel
theorem dL_law_1144 : decode cL_law 1144 = .ok (.aload_n 2, 1) := by decide +kernel
theorem dL_law_1145 : decode cL_law 1145 = .ok (.aload_n 0, 1) := by decide +kernel
theorem dL_law_1146 : decode cL_law 1146 = .ok (.iload_n 3, 1) := by decide +kernel
theorem dL_law_1147 : decode cL_law 1147 = .ok (.iconst 1, 1) := by decide +kernel
theorem dL_law_1148 : decode cL_law 1148 = .ok (.iadd, 1) := by decide +kernel
theorem dL_law_1149 : decode cL_law 1149 = .ok (.iaload, 1) := by decide +kernel
theorem dL_law_1150 : decode cL_law 1150 = .ok (.aload_n 0, 1) := by decide +kernel
theorem dL_law_1151 : decode cL_law 1151 = .ok (.iload_n 3, 1) := by decide +kernel
theorem dL_law_1152 : decode cL_law 1152 = .ok (.iconst 2, 1) := by decide +kernel
theorem dL_law_1153 : decode cL_law 1153 = .ok (.iadd, 1) := by decide +kernel
theorem dL_law_1154 : decode cL_law 1154 = .ok (.iaload, 1) := by decide +kernel
theorem dL_law_1155 : decode cL_law 1155 = .ok (.aload_n 0, 1) := by decide +kernel
theorem dL_law_1156 : decode cL_law 1156 = .ok (.iload_n 3, 1) := by decide +kernel
theorem dL_law_1157 : decode cL_law 1157 = .ok (.iconst 3, 1) := by decide +kernel
theorem dL_law_1158 : decode cL_law 1158 = .ok (.iadd, 1) := by decide +kernel
theorem dL_law_1159 : decode cL_law 1159 = .ok (.iaload, 1) := by decide +kernel
theorem dL_law_1160 : decode cL_law 1160 = .ok (.aload_n 0, 1) := by decide +kernel
theorem dL_law_1161 : decode cL_law 1161 = .ok (.iload_n 3, 1) := by decide +kernel
theorem dL_law_1162 : decode cL_law 1162 = .ok (.iconst 4, 1) := by decide +kernel
theorem dL_law_1163 : decode cL_law 1163 = .ok (.iadd, 1) := by decide +kernel
theorem dL_law_1164 : decode cL_law 1164 = .ok (.iaload, 1) := by decide +kernel
theorem dL_law_1165 : decode cL_law 1165 = .ok (.aload_n 0, 1) := by decide +kernel
theorem dL_law_1166 : decode cL_law 1166 = .ok (.iload_n 3, 1) := by decide +kernel
theorem dL_law_1167 : decode cL_law 1167 = .ok (.iconst 5, 1) := by decide +kernel
theorem dL_law_1168 : decode cL_law 1168 = .ok (.iadd, 1) := by decide +kernel
theorem dL_law_1169 : decode cL_law 1169 = .ok (.iaload, 1) := by decide +kernel
theorem dL_law_1170 : decode cL_law 1170 = .ok (.invokevirtual 143, 3) := by decide +kernel
theorem dL_law_1173 : decode cL_law 1173 = .ok (.if_icmp .eq 75, 3) := by decide +kernel
theorem dL_law_1176 : decode cL_law 1176 = .ok (.iconst 0, 1) := by decide +kernel
theorem dL_law_1177 : decode cL_law 1177 = .ok (.ireturn, 1) := by decide +kernel
theorem dL_law_1178 : decode cL_law 1178 = .ok (.aload_n 1, 1) := by decide +kernel
theorem dL_law_1179 : decode cL_law 1179 = .ok (.aload_n 0, 1) := by decide +kernel
theorem dL_law_1180 : decode cL_law 1180 = .ok (.iload_n 3, 1) := by decide +kernel
theorem dL_law_1181 : decode cL_law 1181 = .ok (.iconst 1, 1) := by decide +kernel
theorem dL_law_1182 : decode cL_law 1182 = .ok (.iadd, 1) := by decide +kernel
theorem dL_law_1183 : decode cL_law 1183 = .ok (.iaload, 1) := by decide +kernel
theorem dL_law_1184 : decode cL_law 1184 = .ok (.aload_n 0, 1) := by decide +kernel
theorem dL_law_1185 : decode cL_law 1185 = .ok (.iload_n 3, 1) := by decide +kernel
theorem dL_law_1186 : decode cL_law 1186 = .ok (.iconst 2, 1) := by decide +kernel
theorem dL_law_1187 : decode cL_law 1187 = .ok (.iadd, 1) := by decide +kernel
theorem dL_law_1188 : decode cL_law 1188 = .ok (.iaload, 1) := by decide +kernel
theorem dL_law_1189 : decode cL_law 1189 = .ok (.invokevirtual 144, 3) := by decide +kernel
theorem dL_law_1192 : decode cL_law 1192 = .ok (.aload_n 2, 1) := by decide +kernel
theorem dL_law_1193 : decode cL_law 1193 = .ok (.aload_n 0, 1) := by decide +kernel
theorem dL_law_1194 : decode cL_law 1194 = .ok (.iload_n 3, 1) := by decide +kernel
theorem dL_law_1195 : decode cL_law 1195 = .ok (.iconst 1, 1) := by decide +kernel
theorem dL_law_1196 : decode cL_law 1196 = .ok (.iadd, 1) := by decide +kernel
theorem dL_law_1197 : decode cL_law 1197 = .ok (.iaload, 1) := by decide +kernel
theorem dL_law_1198 : decode cL_law 1198 = .ok (.aload_n 0, 1) := by decide +kernel
theorem dL_law_1199 : decode cL_law 1199 = .ok (.iload_n 3, 1) := by decide +kernel
theorem dL_law_1200 : decode cL_law 1200 = .ok (.iconst 2, 1) := by decide +kernel
theorem dL_law_1201 : decode cL_law 1201 = .ok (.iadd, 1) := by decide +kernel
theorem dL_law_1202 : decode cL_law 1202 = .ok (.iaload, 1) := by decide +kernel
theorem dL_law_1203 : decode cL_law 1203 = .ok (.invokevirtual 147, 3) := by decide +kernel
theorem dL_law_1206 : decode cL_law 1206 = .ok (.if_icmp .eq 42, 3) := by decide +kernel
theorem dL_law_1209 : decode cL_law 1209 = .ok (.iconst 0, 1) := by decide +kernel
theorem dL_law_1210 : decode cL_law 1210 = .ok (.ireturn, 1) := by decide +kernel
theorem dL_law_1211 : decode cL_law 1211 = .ok (.aload_n 1, 1) := by decide +kernel
theorem dL_law_1212 : decode cL_law 1212 = .ok (.aload_n 0, 1) := by decide +kernel
theorem dL_law_1213 : decode cL_law 1213 = .ok (.iload_n 3, 1) := by decide +kernel
theorem dL_law_1214 : decode cL_law 1214 = .ok (.iconst 1, 1) := by decide +kernel
theorem dL_law_1215 : decode cL_law 1215 = .ok (.iadd, 1) := by decide +kernel
theorem dL_law_1216 : decode cL_law 1216 = .ok (.iaload, 1) := by decide +kernel
theorem dL_law_1217 : decode cL_law 1217 = .ok (.invokevirtual 148, 3) := by decide +kernel
theorem dL_law_1220 : decode cL_law 1220 = .ok (.aload_n 2, 1) := by decide +kernel
theorem dL_law_1221 : decode cL_law 1221 = .ok (.aload_n 0, 1) := by decide +kernel
theorem dL_law_1222 : decode cL_law 1222 = .ok (.iload_n 3, 1) := by decide +kernel
theorem dL_law_1223 : decode cL_law 1223 = .ok (.iconst 1, 1) := by decide +kernel
theorem dL_law_1224 : decode cL_law 1224 = .ok (.iadd, 1) := by decide +kernel
theorem dL_law_1225 : decode cL_law 1225 = .ok (.iaload, 1) := by decide +kernel
theorem dL_law_1226 : decode cL_law 1226 = .ok (.invokevirtual 151, 3) := by decide +kernel
theorem dL_law_1229 : decode cL_law 1229 = .ok (.if_icmp .eq 19, 3) := by decide +kernel
theorem dL_law_1232 : decode cL_law 1232 = .ok (.iconst 0, 1) := by decide +kernel
theorem dL_law_1233 : decode cL_law 1233 = .ok (.ireturn, 1) := by decide +kernel
theorem dL_law_1234 : decode cL_law 1234 = .ok (.aload_n 1, 1) := by decide +kernel
theorem dL_law_1235 : decode cL_law 1235 = .ok (.invokevirtual 152, 3) := by decide +kernel
theorem dL_law_1238 : decode cL_law 1238 = .ok (.aload_n 2, 1) := by decide +kernel
theorem dL_law_1239 : decode cL_law 1239 = .ok (.invokevirtual 156, 3) := by decide +kernel
theorem dL_law_1242 : decode cL_law 1242 = .ok (.lcmp, 1) := by decide +kernel
theorem dL_law_1243 : decode cL_law 1243 = .ok (.ifCond .eq 5, 3) := by decide +kernel
theorem dL_law_1246 : decode cL_law 1246 = .ok (.iconst 0, 1) := by decide +kernel
theorem dL_law_1247 : decode cL_law 1247 = .ok (.ireturn, 1) := by decide +kernel
theorem dL_law_1248 : decode cL_law 1248 = .ok (.iinc 3 6, 3) := by decide +kernel
theorem dL_law_1251 : decode cL_law 1251 = .ok (.goto (-1233), 3) := by decide +kernel
theorem dL_law_1254 : decode cL_law 1254 = .ok (.iconst 1, 1) := by decide +kernel
theorem dL_law_1255 : decode cL_law 1255 = .ok (.ireturn, 1) := by decide +kernel
abbrev vwCl : List vw_C := [(RX0, TX0, 3), (RX1, TX1, 4), (RX2, TX2, 2), (RX3, TX3, 5), (RX4, TX4, 4), (RX5, TX5, 4), (RX6, TX6, 1), (RX7, TX7, 9), (RX8, TX8, 23)]
/-- the objects of HiccupPeace$Day, kind 0: what each holds, by its address -/
structure wK_O_Day where
  f_dishes : Nat → Option Nat
  f_levels : Nat → Option Nat
  f_startLevel : Nat → Int32
/-- the objects of HiccupPeace$General, kind 1: what each holds, by its address -/
structure wK_O_General where
  f_menu : Nat → Option Nat
  f_size : Nat → Int32
  f_faultPlace : Nat → Int32
  f_calmLevel : Nat → Int32
/-- the objects of HiccupPeace$Planner, kind 2: what each holds, by its address -/
structure wK_O_Planner where
  f_costs : Nat → Option Nat
  f_firstDishes : Nat → Option Nat
/-- the objects of HiccupPeace$Rules, kind 3: what each holds, by its address -/
structure wK_O_Rules where
  f_effects : Nat → Option Nat
  f_prices : Nat → Option Nat
  f_mark : Nat → Int32
  f_lawTold : Nat → Int32
  f_forbidden : Nat → Int32
/-- the objects of HiccupPeace$Sheet, kind 4: what each holds, by its address -/
structure wK_O_Sheet where
  f_items : Nat → Option Nat
  f_form : Nat → Int32
  f_size : Nat → Int32
  f_lost : Nat → Int32
/-- the objects of HiccupPeace$Sightings, kind 5: what each holds, by its address -/
structure wK_O_Sightings where
  f_whom : Nat → Option Nat
  f_when : Nat → Option Nat
  f_hiccuped : Nat → Option Nat
  f_size : Nat → Int32
/-- the objects of HiccupPeace$War, kind 6: what each holds, by its address -/
structure wK_O_War where
  f_hoursNeeded : Nat → Option Nat
/-- the objects of HiccupPeace, kind 7: what each holds, by its address -/
structure wK_O_HiccupPeace where
  f_generals : Nat → Option Nat
  f_days : Nat → Option Nat
  f_sheets : Nat → Option Nat
  f_rules : Nat → Option Nat
  f_sightings : Nat → Option Nat
  f_guess : Nat → Option Nat
  f_planner : Nat → Option Nat
  f_war : Nat → Option Nat
  f_latestFinding : Nat → Int32
/-- the objects of HiccupPeaceModel, kind 8: what each holds, by its address -/
structure wK_O_HiccupPeaceModel where
  f_typed : Nat → Option Nat
  f_texts : Nat → Option Nat
  f_calms : Nat → Option Nat
  f_deeds : Nat → Option Nat
  f_prices : Nat → Option Nat
  f_mark : Nat → Int32
  f_lawNow : Nat → Int32
  f_forbidden : Nat → Int32
  f_dishes : Nat → Option Nat
  f_levels : Nat → Option Nat
  f_bits : Nat → Option Nat
  f_costs : Nat → Option Nat
  f_can : Nat → Option Nat
  f_sights : Nat → Int32
  f_seenWho : Nat → Option Nat
  f_seenHour : Nat → Option Nat
  f_seenIs : Nat → Option Nat
  f_isThere : Nat → Option Nat
  f_forms : Nat → Option Nat
  f_sizes : Nat → Option Nat
  f_items : Nat → Option Nat
  f_moved : Nat → Option Nat
  f_finding : Nat → Int32
/-- the arrays of kind 9: what each holds, by its address -/
structure wK_R_I where
  len : Nat → Nat
  row : Nat → Nat → Int32
/-- the arrays of kind 10: what each holds, by its address -/
structure wK_R_Z where
  len : Nat → Nat
  row : Nat → Nat → Int32
/-- the arrays of kind 11: what each holds, by its address -/
structure wK_R_Day where
  len : Nat → Nat
  row : Nat → Nat → Option Nat
/-- the arrays of kind 12: what each holds, by its address -/
structure wK_R_General where
  len : Nat → Nat
  row : Nat → Nat → Option Nat
/-- the arrays of kind 13: what each holds, by its address -/
structure wK_R_Sheet where
  len : Nat → Nat
  row : Nat → Nat → Option Nat
/-- the pool: the addresses, the kind of each, and the kinds -/
structure wPS where
  L : List Nat
  K : Nat → Nat
  O_Day : wK_O_Day
  O_General : wK_O_General
  O_Planner : wK_O_Planner
  O_Rules : wK_O_Rules
  O_Sheet : wK_O_Sheet
  O_Sightings : wK_O_Sightings
  O_War : wK_O_War
  O_HiccupPeace : wK_O_HiccupPeace
  O_HiccupPeaceModel : wK_O_HiccupPeaceModel
  R_I : wK_R_I
  R_Z : wK_R_Z
  R_Day : wK_R_Day
  R_General : wK_R_General
  R_Sheet : wK_R_Sheet
/-- the empty pool -/
abbrev wP0 : wPS := { L := [], K := (fun _ => 0), O_Day := { f_dishes := (fun _ => none), f_levels := (fun _ => none), f_startLevel := (fun _ => 0) }, O_General := { f_menu := (fun _ => none), f_size := (fun _ => 0), f_faultPlace := (fun _ => 0), f_calmLevel := (fun _ => 0) }, O_Planner := { f_costs := (fun _ => none), f_firstDishes := (fun _ => none) }, O_Rules := { f_effects := (fun _ => none), f_prices := (fun _ => none), f_mark := (fun _ => 0), f_lawTold := (fun _ => 0), f_forbidden := (fun _ => 0) }, O_Sheet := { f_items := (fun _ => none), f_form := (fun _ => 0), f_size := (fun _ => 0), f_lost := (fun _ => 0) }, O_Sightings := { f_whom := (fun _ => none), f_when := (fun _ => none), f_hiccuped := (fun _ => none), f_size := (fun _ => 0) }, O_War := { f_hoursNeeded := (fun _ => none) }, O_HiccupPeace := { f_generals := (fun _ => none), f_days := (fun _ => none), f_sheets := (fun _ => none), f_rules := (fun _ => none), f_sightings := (fun _ => none), f_guess := (fun _ => none), f_planner := (fun _ => none), f_war := (fun _ => none), f_latestFinding := (fun _ => 0) }, O_HiccupPeaceModel := { f_typed := (fun _ => none), f_texts := (fun _ => none), f_calms := (fun _ => none), f_deeds := (fun _ => none), f_prices := (fun _ => none), f_mark := (fun _ => 0), f_lawNow := (fun _ => 0), f_forbidden := (fun _ => 0), f_dishes := (fun _ => none), f_levels := (fun _ => none), f_bits := (fun _ => none), f_costs := (fun _ => none), f_can := (fun _ => none), f_sights := (fun _ => 0), f_seenWho := (fun _ => none), f_seenHour := (fun _ => none), f_seenIs := (fun _ => none), f_isThere := (fun _ => none), f_forms := (fun _ => none), f_sizes := (fun _ => none), f_items := (fun _ => none), f_moved := (fun _ => none), f_finding := (fun _ => 0) }, R_I := { len := (fun _ => 0), row := (fun _ _ => 0) }, R_Z := { len := (fun _ => 0), row := (fun _ _ => 0) }, R_Day := { len := (fun _ => 0), row := (fun _ _ => none) }, R_General := { len := (fun _ => 0), row := (fun _ _ => none) }, R_Sheet := { len := (fun _ => 0), row := (fun _ _ => none) } }
/-- the pool's rows by their kinds -/
abbrev wPF (cyI : ClassId) (cyZ : ClassId) (cyO945b4 : ClassId) (cyOe3e36 : ClassId) (cyObfd44 : ClassId) (S : wPS) : Nat → va_E := fun a => if S.K a = 0 then .inr (0, [va_rf (S.O_Day.f_dishes a), va_rf (S.O_Day.f_levels a), .int (S.O_Day.f_startLevel a)]) else if S.K a = 1 then .inr (1, [va_rf (S.O_General.f_menu a), .int (S.O_General.f_size a), .int (S.O_General.f_faultPlace a), .int (S.O_General.f_calmLevel a)]) else if S.K a = 2 then .inr (2, [va_rf (S.O_Planner.f_costs a), va_rf (S.O_Planner.f_firstDishes a)]) else if S.K a = 3 then .inr (3, [va_rf (S.O_Rules.f_effects a), va_rf (S.O_Rules.f_prices a), .int (S.O_Rules.f_mark a), .int (S.O_Rules.f_lawTold a), .int (S.O_Rules.f_forbidden a)]) else if S.K a = 4 then .inr (4, [va_rf (S.O_Sheet.f_items a), .int (S.O_Sheet.f_form a), .int (S.O_Sheet.f_size a), .int (S.O_Sheet.f_lost a)]) else if S.K a = 5 then .inr (5, [va_rf (S.O_Sightings.f_whom a), va_rf (S.O_Sightings.f_when a), va_rf (S.O_Sightings.f_hiccuped a), .int (S.O_Sightings.f_size a)]) else if S.K a = 6 then .inr (6, [va_rf (S.O_War.f_hoursNeeded a)]) else if S.K a = 7 then .inr (7, [va_rf (S.O_HiccupPeace.f_generals a), va_rf (S.O_HiccupPeace.f_days a), va_rf (S.O_HiccupPeace.f_sheets a), va_rf (S.O_HiccupPeace.f_rules a), va_rf (S.O_HiccupPeace.f_sightings a), va_rf (S.O_HiccupPeace.f_guess a), va_rf (S.O_HiccupPeace.f_planner a), va_rf (S.O_HiccupPeace.f_war a), .int (S.O_HiccupPeace.f_latestFinding a)]) else if S.K a = 8 then .inr (8, [va_rf (S.O_HiccupPeaceModel.f_typed a), va_rf (S.O_HiccupPeaceModel.f_texts a), va_rf (S.O_HiccupPeaceModel.f_calms a), va_rf (S.O_HiccupPeaceModel.f_deeds a), va_rf (S.O_HiccupPeaceModel.f_prices a), .int (S.O_HiccupPeaceModel.f_mark a), .int (S.O_HiccupPeaceModel.f_lawNow a), .int (S.O_HiccupPeaceModel.f_forbidden a), va_rf (S.O_HiccupPeaceModel.f_dishes a), va_rf (S.O_HiccupPeaceModel.f_levels a), va_rf (S.O_HiccupPeaceModel.f_bits a), va_rf (S.O_HiccupPeaceModel.f_costs a), va_rf (S.O_HiccupPeaceModel.f_can a), .int (S.O_HiccupPeaceModel.f_sights a), va_rf (S.O_HiccupPeaceModel.f_seenWho a), va_rf (S.O_HiccupPeaceModel.f_seenHour a), va_rf (S.O_HiccupPeaceModel.f_seenIs a), va_rf (S.O_HiccupPeaceModel.f_isThere a), va_rf (S.O_HiccupPeaceModel.f_forms a), va_rf (S.O_HiccupPeaceModel.f_sizes a), va_rf (S.O_HiccupPeaceModel.f_items a), va_rf (S.O_HiccupPeaceModel.f_moved a), .int (S.O_HiccupPeaceModel.f_finding a)]) else if S.K a = 9 then .inl (cyI, S.R_I.len a, .inl (S.R_I.row a)) else if S.K a = 10 then .inl (cyZ, S.R_Z.len a, .inl (S.R_Z.row a)) else if S.K a = 11 then .inl (cyO945b4, S.R_Day.len a, .inr (.inr (.inr (.inr (S.R_Day.row a))))) else if S.K a = 12 then .inl (cyOe3e36, S.R_General.len a, .inr (.inr (.inr (.inr (S.R_General.row a))))) else .inl (cyObfd44, S.R_Sheet.len a, .inr (.inr (.inr (.inr (S.R_Sheet.row a)))))
theorem wAt_O_Day (cyI : ClassId) (cyZ : ClassId) (cyO945b4 : ClassId) (cyOe3e36 : ClassId) (cyObfd44 : ClassId) (S : wPS) {a : Nat} (h : S.K a = 0) : wPF cyI cyZ cyO945b4 cyOe3e36 cyObfd44 S a = .inr (0, [va_rf (S.O_Day.f_dishes a), va_rf (S.O_Day.f_levels a), .int (S.O_Day.f_startLevel a)]) := by simp [wPF, h]
theorem wGt_O_Day (cyI : ClassId) (cyZ : ClassId) (cyO945b4 : ClassId) (cyOe3e36 : ClassId) (cyObfd44 : ClassId) (X : va_W) (S : wPS) {a : Nat} (hL : a ∈ S.L) (h : S.K a = 0) : ∃ k : Nat, (X ++ va_pl S.L (wPF cyI cyZ cyO945b4 cyOe3e36 cyObfd44 S))[k]? = some (a, wPF cyI cyZ cyO945b4 cyOe3e36 cyObfd44 S a) ∧ (X ++ va_pl S.L (wPF cyI cyZ cyO945b4 cyOe3e36 cyObfd44 S))[k]? = some (a, .inr (0, [va_rf (S.O_Day.f_dishes a), va_rf (S.O_Day.f_levels a), .int (S.O_Day.f_startLevel a)])) := by
  obtain ⟨k, hk⟩ := va_pl_get (X := X) (f := wPF cyI cyZ cyO945b4 cyOe3e36 cyObfd44 S) hL
  exact ⟨k, hk, hk.trans (congrArg (fun e => some (a, e)) (wAt_O_Day cyI cyZ cyO945b4 cyOe3e36 cyObfd44 S h))⟩
theorem wSt_O_Day_f_dishes (cyI : ClassId) (cyZ : ClassId) (cyO945b4 : ClassId) (cyOe3e36 : ClassId) (cyObfd44 : ClassId) (S : wPS) {a : Nat} (h : S.K a = 0) (v : Option Nat) (b : Nat) : va_up (wPF cyI cyZ cyO945b4 cyOe3e36 cyObfd44 S) a (.inr (0, [va_rf v, va_rf (S.O_Day.f_levels a), .int (S.O_Day.f_startLevel a)])) b = wPF cyI cyZ cyO945b4 cyOe3e36 cyObfd44 { S with O_Day := { S.O_Day with f_dishes := va_up S.O_Day.f_dishes a v } } b := by by_cases hb : b = a <;> first | (simp only [wPF, va_up_ne _ _ hb]; done) | (simp only [wPF, va_up, if_neg hb]; done) | simp [wPF, va_re, va_up, va_rf, hb, h]
theorem wPu_O_Day_f_dishes (cyI : ClassId) (cyZ : ClassId) (cyO945b4 : ClassId) (cyOe3e36 : ClassId) (cyObfd44 : ClassId) (X : va_W) (S : wPS) {A : Nat → Prop} {a k : Nat} (hD : va_D A (X ++ va_pl S.L (wPF cyI cyZ cyO945b4 cyOe3e36 cyObfd44 S))) (hL : a ∈ S.L) (h : S.K a = 0) (hk : (X ++ va_pl S.L (wPF cyI cyZ cyO945b4 cyOe3e36 cyObfd44 S))[k]? = some (a, wPF cyI cyZ cyO945b4 cyOe3e36 cyObfd44 S a)) (v : Option Nat) : (X ++ va_pl S.L (wPF cyI cyZ cyO945b4 cyOe3e36 cyObfd44 S)).set k (a, .inr (0, [va_rf v, va_rf (S.O_Day.f_levels a), .int (S.O_Day.f_startLevel a)])) = X ++ va_pl S.L (wPF cyI cyZ cyO945b4 cyOe3e36 cyObfd44 { S with O_Day := { S.O_Day with f_dishes := va_up S.O_Day.f_dishes a v } }) := by
  rw [va_pl_set hD hL hk]
  exact congrArg (fun l => X ++ l) (va_pl_congr (wSt_O_Day_f_dishes cyI cyZ cyO945b4 cyOe3e36 cyObfd44 S h v))
theorem wSt_O_Day_f_levels (cyI : ClassId) (cyZ : ClassId) (cyO945b4 : ClassId) (cyOe3e36 : ClassId) (cyObfd44 : ClassId) (S : wPS) {a : Nat} (h : S.K a = 0) (v : Option Nat) (b : Nat) : va_up (wPF cyI cyZ cyO945b4 cyOe3e36 cyObfd44 S) a (.inr (0, [va_rf (S.O_Day.f_dishes a), va_rf v, .int (S.O_Day.f_startLevel a)])) b = wPF cyI cyZ cyO945b4 cyOe3e36 cyObfd44 { S with O_Day := { S.O_Day with f_levels := va_up S.O_Day.f_levels a v } } b := by by_cases hb : b = a <;> first | (simp only [wPF, va_up_ne _ _ hb]; done) | (simp only [wPF, va_up, if_neg hb]; done) | simp [wPF, va_re, va_up, va_rf, hb, h]
theorem wPu_O_Day_f_levels (cyI : ClassId) (cyZ : ClassId) (cyO945b4 : ClassId) (cyOe3e36 : ClassId) (cyObfd44 : ClassId) (X : va_W) (S : wPS) {A : Nat → Prop} {a k : Nat} (hD : va_D A (X ++ va_pl S.L (wPF cyI cyZ cyO945b4 cyOe3e36 cyObfd44 S))) (hL : a ∈ S.L) (h : S.K a = 0) (hk : (X ++ va_pl S.L (wPF cyI cyZ cyO945b4 cyOe3e36 cyObfd44 S))[k]? = some (a, wPF cyI cyZ cyO945b4 cyOe3e36 cyObfd44 S a)) (v : Option Nat) : (X ++ va_pl S.L (wPF cyI cyZ cyO945b4 cyOe3e36 cyObfd44 S)).set k (a, .inr (0, [va_rf (S.O_Day.f_dishes a), va_rf v, .int (S.O_Day.f_startLevel a)])) = X ++ va_pl S.L (wPF cyI cyZ cyO945b4 cyOe3e36 cyObfd44 { S with O_Day := { S.O_Day with f_levels := va_up S.O_Day.f_levels a v } }) := by
  rw [va_pl_set hD hL hk]
  exact congrArg (fun l => X ++ l) (va_pl_congr (wSt_O_Day_f_levels cyI cyZ cyO945b4 cyOe3e36 cyObfd44 S h v))
theorem wSt_O_Day_f_startLevel (cyI : ClassId) (cyZ : ClassId) (cyO945b4 : ClassId) (cyOe3e36 : ClassId) (cyObfd44 : ClassId) (S : wPS) {a : Nat} (h : S.K a = 0) (v : Int32) (b : Nat) : va_up (wPF cyI cyZ cyO945b4 cyOe3e36 cyObfd44 S) a (.inr (0, [va_rf (S.O_Day.f_dishes a), va_rf (S.O_Day.f_levels a), .int v])) b = wPF cyI cyZ cyO945b4 cyOe3e36 cyObfd44 { S with O_Day := { S.O_Day with f_startLevel := va_up S.O_Day.f_startLevel a v } } b := by by_cases hb : b = a <;> first | (simp only [wPF, va_up_ne _ _ hb]; done) | (simp only [wPF, va_up, if_neg hb]; done) | simp [wPF, va_re, va_up, va_rf, hb, h]
theorem wPu_O_Day_f_startLevel (cyI : ClassId) (cyZ : ClassId) (cyO945b4 : ClassId) (cyOe3e36 : ClassId) (cyObfd44 : ClassId) (X : va_W) (S : wPS) {A : Nat → Prop} {a k : Nat} (hD : va_D A (X ++ va_pl S.L (wPF cyI cyZ cyO945b4 cyOe3e36 cyObfd44 S))) (hL : a ∈ S.L) (h : S.K a = 0) (hk : (X ++ va_pl S.L (wPF cyI cyZ cyO945b4 cyOe3e36 cyObfd44 S))[k]? = some (a, wPF cyI cyZ cyO945b4 cyOe3e36 cyObfd44 S a)) (v : Int32) : (X ++ va_pl S.L (wPF cyI cyZ cyO945b4 cyOe3e36 cyObfd44 S)).set k (a, .inr (0, [va_rf (S.O_Day.f_dishes a), va_rf (S.O_Day.f_levels a), .int v])) = X ++ va_pl S.L (wPF cyI cyZ cyO945b4 cyOe3e36 cyObfd44 { S with O_Day := { S.O_Day with f_startLevel := va_up S.O_Day.f_startLevel a v } }) := by
  rw [va_pl_set hD hL hk]
  exact congrArg (fun l => X ++ l) (va_pl_congr (wSt_O_Day_f_startLevel cyI cyZ cyO945b4 cyOe3e36 cyObfd44 S h v))
theorem wNw_O_Day (cyI : ClassId) (cyZ : ClassId) (cyO945b4 : ClassId) (cyOe3e36 : ClassId) (cyObfd44 : ClassId) (S : wPS) (a b : Nat) : va_up (wPF cyI cyZ cyO945b4 cyOe3e36 cyObfd44 S) a (.inr (0, [.null, .null, .int 0])) b = wPF cyI cyZ cyO945b4 cyOe3e36 cyObfd44 { S with L := S.L ++ [a], K := va_up S.K a 0, O_Day := { f_dishes := va_up S.O_Day.f_dishes a none, f_levels := va_up S.O_Day.f_levels a none, f_startLevel := va_up S.O_Day.f_startLevel a 0 } } b := by by_cases hb : b = a <;> first | (simp only [wPF, va_up_ne _ _ hb]; done) | (simp only [wPF, va_up, if_neg hb]; done) | simp [wPF, va_re, va_up, va_rf, hb]
theorem wPn_O_Day (cyI : ClassId) (cyZ : ClassId) (cyO945b4 : ClassId) (cyOe3e36 : ClassId) (cyObfd44 : ClassId) (X : va_W) (S : wPS) {a : Nat} (ha : a ∉ S.L) : (X ++ va_pl S.L (wPF cyI cyZ cyO945b4 cyOe3e36 cyObfd44 S)) ++ [(a, .inr (0, [.null, .null, .int 0]))] = X ++ va_pl (S.L ++ [a]) (wPF cyI cyZ cyO945b4 cyOe3e36 cyObfd44 { S with L := S.L ++ [a], K := va_up S.K a 0, O_Day := { f_dishes := va_up S.O_Day.f_dishes a none, f_levels := va_up S.O_Day.f_levels a none, f_startLevel := va_up S.O_Day.f_startLevel a 0 } }) := by
  rw [List.append_assoc, va_pl_push ha]
  exact congrArg (fun l => X ++ l) (va_pl_congr (wNw_O_Day cyI cyZ cyO945b4 cyOe3e36 cyObfd44 S a))
theorem wAt_O_General (cyI : ClassId) (cyZ : ClassId) (cyO945b4 : ClassId) (cyOe3e36 : ClassId) (cyObfd44 : ClassId) (S : wPS) {a : Nat} (h : S.K a = 1) : wPF cyI cyZ cyO945b4 cyOe3e36 cyObfd44 S a = .inr (1, [va_rf (S.O_General.f_menu a), .int (S.O_General.f_size a), .int (S.O_General.f_faultPlace a), .int (S.O_General.f_calmLevel a)]) := by simp [wPF, h]
theorem wGt_O_General (cyI : ClassId) (cyZ : ClassId) (cyO945b4 : ClassId) (cyOe3e36 : ClassId) (cyObfd44 : ClassId) (X : va_W) (S : wPS) {a : Nat} (hL : a ∈ S.L) (h : S.K a = 1) : ∃ k : Nat, (X ++ va_pl S.L (wPF cyI cyZ cyO945b4 cyOe3e36 cyObfd44 S))[k]? = some (a, wPF cyI cyZ cyO945b4 cyOe3e36 cyObfd44 S a) ∧ (X ++ va_pl S.L (wPF cyI cyZ cyO945b4 cyOe3e36 cyObfd44 S))[k]? = some (a, .inr (1, [va_rf (S.O_General.f_menu a), .int (S.O_General.f_size a), .int (S.O_General.f_faultPlace a), .int (S.O_General.f_calmLevel a)])) := by
  obtain ⟨k, hk⟩ := va_pl_get (X := X) (f := wPF cyI cyZ cyO945b4 cyOe3e36 cyObfd44 S) hL
  exact ⟨k, hk, hk.trans (congrArg (fun e => some (a, e)) (wAt_O_General cyI cyZ cyO945b4 cyOe3e36 cyObfd44 S h))⟩
theorem wSt_O_General_f_menu (cyI : ClassId) (cyZ : ClassId) (cyO945b4 : ClassId) (cyOe3e36 : ClassId) (cyObfd44 : ClassId) (S : wPS) {a : Nat} (h : S.K a = 1) (v : Option Nat) (b : Nat) : va_up (wPF cyI cyZ cyO945b4 cyOe3e36 cyObfd44 S) a (.inr (1, [va_rf v, .int (S.O_General.f_size a), .int (S.O_General.f_faultPlace a), .int (S.O_General.f_calmLevel a)])) b = wPF cyI cyZ cyO945b4 cyOe3e36 cyObfd44 { S with O_General := { S.O_General with f_menu := va_up S.O_General.f_menu a v } } b := by by_cases hb : b = a <;> first | (simp only [wPF, va_up_ne _ _ hb]; done) | (simp only [wPF, va_up, if_neg hb]; done) | simp [wPF, va_re, va_up, va_rf, hb, h]
theorem wPu_O_General_f_menu (cyI : ClassId) (cyZ : ClassId) (cyO945b4 : ClassId) (cyOe3e36 : ClassId) (cyObfd44 : ClassId) (X : va_W) (S : wPS) {A : Nat → Prop} {a k : Nat} (hD : va_D A (X ++ va_pl S.L (wPF cyI cyZ cyO945b4 cyOe3e36 cyObfd44 S))) (hL : a ∈ S.L) (h : S.K a = 1) (hk : (X ++ va_pl S.L (wPF cyI cyZ cyO945b4 cyOe3e36 cyObfd44 S))[k]? = some (a, wPF cyI cyZ cyO945b4 cyOe3e36 cyObfd44 S a)) (v : Option Nat) : (X ++ va_pl S.L (wPF cyI cyZ cyO945b4 cyOe3e36 cyObfd44 S)).set k (a, .inr (1, [va_rf v, .int (S.O_General.f_size a), .int (S.O_General.f_faultPlace a), .int (S.O_General.f_calmLevel a)])) = X ++ va_pl S.L (wPF cyI cyZ cyO945b4 cyOe3e36 cyObfd44 { S with O_General := { S.O_General with f_menu := va_up S.O_General.f_menu a v } }) := by
  rw [va_pl_set hD hL hk]
  exact congrArg (fun l => X ++ l) (va_pl_congr (wSt_O_General_f_menu cyI cyZ cyO945b4 cyOe3e36 cyObfd44 S h v))
theorem wSt_O_General_f_size (cyI : ClassId) (cyZ : ClassId) (cyO945b4 : ClassId) (cyOe3e36 : ClassId) (cyObfd44 : ClassId) (S : wPS) {a : Nat} (h : S.K a = 1) (v : Int32) (b : Nat) : va_up (wPF cyI cyZ cyO945b4 cyOe3e36 cyObfd44 S) a (.inr (1, [va_rf (S.O_General.f_menu a), .int v, .int (S.O_General.f_faultPlace a), .int (S.O_General.f_calmLevel a)])) b = wPF cyI cyZ cyO945b4 cyOe3e36 cyObfd44 { S with O_General := { S.O_General with f_size := va_up S.O_General.f_size a v } } b := by by_cases hb : b = a <;> first | (simp only [wPF, va_up_ne _ _ hb]; done) | (simp only [wPF, va_up, if_neg hb]; done) | simp [wPF, va_re, va_up, va_rf, hb, h]
theorem wPu_O_General_f_size (cyI : ClassId) (cyZ : ClassId) (cyO945b4 : ClassId) (cyOe3e36 : ClassId) (cyObfd44 : ClassId) (X : va_W) (S : wPS) {A : Nat → Prop} {a k : Nat} (hD : va_D A (X ++ va_pl S.L (wPF cyI cyZ cyO945b4 cyOe3e36 cyObfd44 S))) (hL : a ∈ S.L) (h : S.K a = 1) (hk : (X ++ va_pl S.L (wPF cyI cyZ cyO945b4 cyOe3e36 cyObfd44 S))[k]? = some (a, wPF cyI cyZ cyO945b4 cyOe3e36 cyObfd44 S a)) (v : Int32) : (X ++ va_pl S.L (wPF cyI cyZ cyO945b4 cyOe3e36 cyObfd44 S)).set k (a, .inr (1, [va_rf (S.O_General.f_menu a), .int v, .int (S.O_General.f_faultPlace a), .int (S.O_General.f_calmLevel a)])) = X ++ va_pl S.L (wPF cyI cyZ cyO945b4 cyOe3e36 cyObfd44 { S with O_General := { S.O_General with f_size := va_up S.O_General.f_size a v } }) := by
  rw [va_pl_set hD hL hk]
  exact congrArg (fun l => X ++ l) (va_pl_congr (wSt_O_General_f_size cyI cyZ cyO945b4 cyOe3e36 cyObfd44 S h v))
theorem wSt_O_General_f_faultPlace (cyI : ClassId) (cyZ : ClassId) (cyO945b4 : ClassId) (cyOe3e36 : ClassId) (cyObfd44 : ClassId) (S : wPS) {a : Nat} (h : S.K a = 1) (v : Int32) (b : Nat) : va_up (wPF cyI cyZ cyO945b4 cyOe3e36 cyObfd44 S) a (.inr (1, [va_rf (S.O_General.f_menu a), .int (S.O_General.f_size a), .int v, .int (S.O_General.f_calmLevel a)])) b = wPF cyI cyZ cyO945b4 cyOe3e36 cyObfd44 { S with O_General := { S.O_General with f_faultPlace := va_up S.O_General.f_faultPlace a v } } b := by by_cases hb : b = a <;> first | (simp only [wPF, va_up_ne _ _ hb]; done) | (simp only [wPF, va_up, if_neg hb]; done) | simp [wPF, va_re, va_up, va_rf, hb, h]
theorem wPu_O_General_f_faultPlace (cyI : ClassId) (cyZ : ClassId) (cyO945b4 : ClassId) (cyOe3e36 : ClassId) (cyObfd44 : ClassId) (X : va_W) (S : wPS) {A : Nat → Prop} {a k : Nat} (hD : va_D A (X ++ va_pl S.L (wPF cyI cyZ cyO945b4 cyOe3e36 cyObfd44 S))) (hL : a ∈ S.L) (h : S.K a = 1) (hk : (X ++ va_pl S.L (wPF cyI cyZ cyO945b4 cyOe3e36 cyObfd44 S))[k]? = some (a, wPF cyI cyZ cyO945b4 cyOe3e36 cyObfd44 S a)) (v : Int32) : (X ++ va_pl S.L (wPF cyI cyZ cyO945b4 cyOe3e36 cyObfd44 S)).set k (a, .inr (1, [va_rf (S.O_General.f_menu a), .int (S.O_General.f_size a), .int v, .int (S.O_General.f_calmLevel a)])) = X ++ va_pl S.L (wPF cyI cyZ cyO945b4 cyOe3e36 cyObfd44 { S with O_General := { S.O_General with f_faultPlace := va_up S.O_General.f_faultPlace a v } }) := by
  rw [va_pl_set hD hL hk]
  exact congrArg (fun l => X ++ l) (va_pl_congr (wSt_O_General_f_faultPlace cyI cyZ cyO945b4 cyOe3e36 cyObfd44 S h v))
theorem wSt_O_General_f_calmLevel (cyI : ClassId) (cyZ : ClassId) (cyO945b4 : ClassId) (cyOe3e36 : ClassId) (cyObfd44 : ClassId) (S : wPS) {a : Nat} (h : S.K a = 1) (v : Int32) (b : Nat) : va_up (wPF cyI cyZ cyO945b4 cyOe3e36 cyObfd44 S) a (.inr (1, [va_rf (S.O_General.f_menu a), .int (S.O_General.f_size a), .int (S.O_General.f_faultPlace a), .int v])) b = wPF cyI cyZ cyO945b4 cyOe3e36 cyObfd44 { S with O_General := { S.O_General with f_calmLevel := va_up S.O_General.f_calmLevel a v } } b := by by_cases hb : b = a <;> first | (simp only [wPF, va_up_ne _ _ hb]; done) | (simp only [wPF, va_up, if_neg hb]; done) | simp [wPF, va_re, va_up, va_rf, hb, h]
theorem wPu_O_General_f_calmLevel (cyI : ClassId) (cyZ : ClassId) (cyO945b4 : ClassId) (cyOe3e36 : ClassId) (cyObfd44 : ClassId) (X : va_W) (S : wPS) {A : Nat → Prop} {a k : Nat} (hD : va_D A (X ++ va_pl S.L (wPF cyI cyZ cyO945b4 cyOe3e36 cyObfd44 S))) (hL : a ∈ S.L) (h : S.K a = 1) (hk : (X ++ va_pl S.L (wPF cyI cyZ cyO945b4 cyOe3e36 cyObfd44 S))[k]? = some (a, wPF cyI cyZ cyO945b4 cyOe3e36 cyObfd44 S a)) (v : Int32) : (X ++ va_pl S.L (wPF cyI cyZ cyO945b4 cyOe3e36 cyObfd44 S)).set k (a, .inr (1, [va_rf (S.O_General.f_menu a), .int (S.O_General.f_size a), .int (S.O_General.f_faultPlace a), .int v])) = X ++ va_pl S.L (wPF cyI cyZ cyO945b4 cyOe3e36 cyObfd44 { S with O_General := { S.O_General with f_calmLevel := va_up S.O_General.f_calmLevel a v } }) := by
  rw [va_pl_set hD hL hk]
  exact congrArg (fun l => X ++ l) (va_pl_congr (wSt_O_General_f_calmLevel cyI cyZ cyO945b4 cyOe3e36 cyObfd44 S h v))
theorem wNw_O_General (cyI : ClassId) (cyZ : ClassId) (cyO945b4 : ClassId) (cyOe3e36 : ClassId) (cyObfd44 : ClassId) (S : wPS) (a b : Nat) : va_up (wPF cyI cyZ cyO945b4 cyOe3e36 cyObfd44 S) a (.inr (1, [.null, .int 0, .int 0, .int 0])) b = wPF cyI cyZ cyO945b4 cyOe3e36 cyObfd44 { S with L := S.L ++ [a], K := va_up S.K a 1, O_General := { f_menu := va_up S.O_General.f_menu a none, f_size := va_up S.O_General.f_size a 0, f_faultPlace := va_up S.O_General.f_faultPlace a 0, f_calmLevel := va_up S.O_General.f_calmLevel a 0 } } b := by by_cases hb : b = a <;> first | (simp only [wPF, va_up_ne _ _ hb]; done) | (simp only [wPF, va_up, if_neg hb]; done) | simp [wPF, va_re, va_up, va_rf, hb]
theorem wPn_O_General (cyI : ClassId) (cyZ : ClassId) (cyO945b4 : ClassId) (cyOe3e36 : ClassId) (cyObfd44 : ClassId) (X : va_W) (S : wPS) {a : Nat} (ha : a ∉ S.L) : (X ++ va_pl S.L (wPF cyI cyZ cyO945b4 cyOe3e36 cyObfd44 S)) ++ [(a, .inr (1, [.null, .int 0, .int 0, .int 0]))] = X ++ va_pl (S.L ++ [a]) (wPF cyI cyZ cyO945b4 cyOe3e36 cyObfd44 { S with L := S.L ++ [a], K := va_up S.K a 1, O_General := { f_menu := va_up S.O_General.f_menu a none, f_size := va_up S.O_General.f_size a 0, f_faultPlace := va_up S.O_General.f_faultPlace a 0, f_calmLevel := va_up S.O_General.f_calmLevel a 0 } }) := by
  rw [List.append_assoc, va_pl_push ha]
  exact congrArg (fun l => X ++ l) (va_pl_congr (wNw_O_General cyI cyZ cyO945b4 cyOe3e36 cyObfd44 S a))
theorem wAt_O_Planner (cyI : ClassId) (cyZ : ClassId) (cyO945b4 : ClassId) (cyOe3e36 : ClassId) (cyObfd44 : ClassId) (S : wPS) {a : Nat} (h : S.K a = 2) : wPF cyI cyZ cyO945b4 cyOe3e36 cyObfd44 S a = .inr (2, [va_rf (S.O_Planner.f_costs a), va_rf (S.O_Planner.f_firstDishes a)]) := by simp [wPF, h]
theorem wGt_O_Planner (cyI : ClassId) (cyZ : ClassId) (cyO945b4 : ClassId) (cyOe3e36 : ClassId) (cyObfd44 : ClassId) (X : va_W) (S : wPS) {a : Nat} (hL : a ∈ S.L) (h : S.K a = 2) : ∃ k : Nat, (X ++ va_pl S.L (wPF cyI cyZ cyO945b4 cyOe3e36 cyObfd44 S))[k]? = some (a, wPF cyI cyZ cyO945b4 cyOe3e36 cyObfd44 S a) ∧ (X ++ va_pl S.L (wPF cyI cyZ cyO945b4 cyOe3e36 cyObfd44 S))[k]? = some (a, .inr (2, [va_rf (S.O_Planner.f_costs a), va_rf (S.O_Planner.f_firstDishes a)])) := by
  obtain ⟨k, hk⟩ := va_pl_get (X := X) (f := wPF cyI cyZ cyO945b4 cyOe3e36 cyObfd44 S) hL
  exact ⟨k, hk, hk.trans (congrArg (fun e => some (a, e)) (wAt_O_Planner cyI cyZ cyO945b4 cyOe3e36 cyObfd44 S h))⟩
theorem wSt_O_Planner_f_costs (cyI : ClassId) (cyZ : ClassId) (cyO945b4 : ClassId) (cyOe3e36 : ClassId) (cyObfd44 : ClassId) (S : wPS) {a : Nat} (h : S.K a = 2) (v : Option Nat) (b : Nat) : va_up (wPF cyI cyZ cyO945b4 cyOe3e36 cyObfd44 S) a (.inr (2, [va_rf v, va_rf (S.O_Planner.f_firstDishes a)])) b = wPF cyI cyZ cyO945b4 cyOe3e36 cyObfd44 { S with O_Planner := { S.O_Planner with f_costs := va_up S.O_Planner.f_costs a v } } b := by by_cases hb : b = a <;> first | (simp only [wPF, va_up_ne _ _ hb]; done) | (simp only [wPF, va_up, if_neg hb]; done) | simp [wPF, va_re, va_up, va_rf, hb, h]
theorem wPu_O_Planner_f_costs (cyI : ClassId) (cyZ : ClassId) (cyO945b4 : ClassId) (cyOe3e36 : ClassId) (cyObfd44 : ClassId) (X : va_W) (S : wPS) {A : Nat → Prop} {a k : Nat} (hD : va_D A (X ++ va_pl S.L (wPF cyI cyZ cyO945b4 cyOe3e36 cyObfd44 S))) (hL : a ∈ S.L) (h : S.K a = 2) (hk : (X ++ va_pl S.L (wPF cyI cyZ cyO945b4 cyOe3e36 cyObfd44 S))[k]? = some (a, wPF cyI cyZ cyO945b4 cyOe3e36 cyObfd44 S a)) (v : Option Nat) : (X ++ va_pl S.L (wPF cyI cyZ cyO945b4 cyOe3e36 cyObfd44 S)).set k (a, .inr (2, [va_rf v, va_rf (S.O_Planner.f_firstDishes a)])) = X ++ va_pl S.L (wPF cyI cyZ cyO945b4 cyOe3e36 cyObfd44 { S with O_Planner := { S.O_Planner with f_costs := va_up S.O_Planner.f_costs a v } }) := by
  rw [va_pl_set hD hL hk]
  exact congrArg (fun l => X ++ l) (va_pl_congr (wSt_O_Planner_f_costs cyI cyZ cyO945b4 cyOe3e36 cyObfd44 S h v))
theorem wSt_O_Planner_f_firstDishes (cyI : ClassId) (cyZ : ClassId) (cyO945b4 : ClassId) (cyOe3e36 : ClassId) (cyObfd44 : ClassId) (S : wPS) {a : Nat} (h : S.K a = 2) (v : Option Nat) (b : Nat) : va_up (wPF cyI cyZ cyO945b4 cyOe3e36 cyObfd44 S) a (.inr (2, [va_rf (S.O_Planner.f_costs a), va_rf v])) b = wPF cyI cyZ cyO945b4 cyOe3e36 cyObfd44 { S with O_Planner := { S.O_Planner with f_firstDishes := va_up S.O_Planner.f_firstDishes a v } } b := by by_cases hb : b = a <;> first | (simp only [wPF, va_up_ne _ _ hb]; done) | (simp only [wPF, va_up, if_neg hb]; done) | simp [wPF, va_re, va_up, va_rf, hb, h]
theorem wPu_O_Planner_f_firstDishes (cyI : ClassId) (cyZ : ClassId) (cyO945b4 : ClassId) (cyOe3e36 : ClassId) (cyObfd44 : ClassId) (X : va_W) (S : wPS) {A : Nat → Prop} {a k : Nat} (hD : va_D A (X ++ va_pl S.L (wPF cyI cyZ cyO945b4 cyOe3e36 cyObfd44 S))) (hL : a ∈ S.L) (h : S.K a = 2) (hk : (X ++ va_pl S.L (wPF cyI cyZ cyO945b4 cyOe3e36 cyObfd44 S))[k]? = some (a, wPF cyI cyZ cyO945b4 cyOe3e36 cyObfd44 S a)) (v : Option Nat) : (X ++ va_pl S.L (wPF cyI cyZ cyO945b4 cyOe3e36 cyObfd44 S)).set k (a, .inr (2, [va_rf (S.O_Planner.f_costs a), va_rf v])) = X ++ va_pl S.L (wPF cyI cyZ cyO945b4 cyOe3e36 cyObfd44 { S with O_Planner := { S.O_Planner with f_firstDishes := va_up S.O_Planner.f_firstDishes a v } }) := by
  rw [va_pl_set hD hL hk]
  exact congrArg (fun l => X ++ l) (va_pl_congr (wSt_O_Planner_f_firstDishes cyI cyZ cyO945b4 cyOe3e36 cyObfd44 S h v))
theorem wNw_O_Planner (cyI : ClassId) (cyZ : ClassId) (cyO945b4 : ClassId) (cyOe3e36 : ClassId) (cyObfd44 : ClassId) (S : wPS) (a b : Nat) : va_up (wPF cyI cyZ cyO945b4 cyOe3e36 cyObfd44 S) a (.inr (2, [.null, .null])) b = wPF cyI cyZ cyO945b4 cyOe3e36 cyObfd44 { S with L := S.L ++ [a], K := va_up S.K a 2, O_Planner := { f_costs := va_up S.O_Planner.f_costs a none, f_firstDishes := va_up S.O_Planner.f_firstDishes a none } } b := by by_cases hb : b = a <;> first | (simp only [wPF, va_up_ne _ _ hb]; done) | (simp only [wPF, va_up, if_neg hb]; done) | simp [wPF, va_re, va_up, va_rf, hb]
theorem wPn_O_Planner (cyI : ClassId) (cyZ : ClassId) (cyO945b4 : ClassId) (cyOe3e36 : ClassId) (cyObfd44 : ClassId) (X : va_W) (S : wPS) {a : Nat} (ha : a ∉ S.L) : (X ++ va_pl S.L (wPF cyI cyZ cyO945b4 cyOe3e36 cyObfd44 S)) ++ [(a, .inr (2, [.null, .null]))] = X ++ va_pl (S.L ++ [a]) (wPF cyI cyZ cyO945b4 cyOe3e36 cyObfd44 { S with L := S.L ++ [a], K := va_up S.K a 2, O_Planner := { f_costs := va_up S.O_Planner.f_costs a none, f_firstDishes := va_up S.O_Planner.f_firstDishes a none } }) := by
  rw [List.append_assoc, va_pl_push ha]
  exact congrArg (fun l => X ++ l) (va_pl_congr (wNw_O_Planner cyI cyZ cyO945b4 cyOe3e36 cyObfd44 S a))
theorem wAt_O_Rules (cyI : ClassId) (cyZ : ClassId) (cyO945b4 : ClassId) (cyOe3e36 : ClassId) (cyObfd44 : ClassId) (S : wPS) {a : Nat} (h : S.K a = 3) : wPF cyI cyZ cyO945b4 cyOe3e36 cyObfd44 S a = .inr (3, [va_rf (S.O_Rules.f_effects a), va_rf (S.O_Rules.f_prices a), .int (S.O_Rules.f_mark a), .int (S.O_Rules.f_lawTold a), .int (S.O_Rules.f_forbidden a)]) := by simp [wPF, h]
theorem wGt_O_Rules (cyI : ClassId) (cyZ : ClassId) (cyO945b4 : ClassId) (cyOe3e36 : ClassId) (cyObfd44 : ClassId) (X : va_W) (S : wPS) {a : Nat} (hL : a ∈ S.L) (h : S.K a = 3) : ∃ k : Nat, (X ++ va_pl S.L (wPF cyI cyZ cyO945b4 cyOe3e36 cyObfd44 S))[k]? = some (a, wPF cyI cyZ cyO945b4 cyOe3e36 cyObfd44 S a) ∧ (X ++ va_pl S.L (wPF cyI cyZ cyO945b4 cyOe3e36 cyObfd44 S))[k]? = some (a, .inr (3, [va_rf (S.O_Rules.f_effects a), va_rf (S.O_Rules.f_prices a), .int (S.O_Rules.f_mark a), .int (S.O_Rules.f_lawTold a), .int (S.O_Rules.f_forbidden a)])) := by
  obtain ⟨k, hk⟩ := va_pl_get (X := X) (f := wPF cyI cyZ cyO945b4 cyOe3e36 cyObfd44 S) hL
  exact ⟨k, hk, hk.trans (congrArg (fun e => some (a, e)) (wAt_O_Rules cyI cyZ cyO945b4 cyOe3e36 cyObfd44 S h))⟩
theorem wSt_O_Rules_f_effects (cyI : ClassId) (cyZ : ClassId) (cyO945b4 : ClassId) (cyOe3e36 : ClassId) (cyObfd44 : ClassId) (S : wPS) {a : Nat} (h : S.K a = 3) (v : Option Nat) (b : Nat) : va_up (wPF cyI cyZ cyO945b4 cyOe3e36 cyObfd44 S) a (.inr (3, [va_rf v, va_rf (S.O_Rules.f_prices a), .int (S.O_Rules.f_mark a), .int (S.O_Rules.f_lawTold a), .int (S.O_Rules.f_forbidden a)])) b = wPF cyI cyZ cyO945b4 cyOe3e36 cyObfd44 { S with O_Rules := { S.O_Rules with f_effects := va_up S.O_Rules.f_effects a v } } b := by by_cases hb : b = a <;> first | (simp only [wPF, va_up_ne _ _ hb]; done) | (simp only [wPF, va_up, if_neg hb]; done) | simp [wPF, va_re, va_up, va_rf, hb, h]
theorem wPu_O_Rules_f_effects (cyI : ClassId) (cyZ : ClassId) (cyO945b4 : ClassId) (cyOe3e36 : ClassId) (cyObfd44 : ClassId) (X : va_W) (S : wPS) {A : Nat → Prop} {a k : Nat} (hD : va_D A (X ++ va_pl S.L (wPF cyI cyZ cyO945b4 cyOe3e36 cyObfd44 S))) (hL : a ∈ S.L) (h : S.K a = 3) (hk : (X ++ va_pl S.L (wPF cyI cyZ cyO945b4 cyOe3e36 cyObfd44 S))[k]? = some (a, wPF cyI cyZ cyO945b4 cyOe3e36 cyObfd44 S a)) (v : Option Nat) : (X ++ va_pl S.L (wPF cyI cyZ cyO945b4 cyOe3e36 cyObfd44 S)).set k (a, .inr (3, [va_rf v, va_rf (S.O_Rules.f_prices a), .int (S.O_Rules.f_mark a), .int (S.O_Rules.f_lawTold a), .int (S.O_Rules.f_forbidden a)])) = X ++ va_pl S.L (wPF cyI cyZ cyO945b4 cyOe3e36 cyObfd44 { S with O_Rules := { S.O_Rules with f_effects := va_up S.O_Rules.f_effects a v } }) := by
  rw [va_pl_set hD hL hk]
  exact congrArg (fun l => X ++ l) (va_pl_congr (wSt_O_Rules_f_effects cyI cyZ cyO945b4 cyOe3e36 cyObfd44 S h v))
theorem wSt_O_Rules_f_prices (cyI : ClassId) (cyZ : ClassId) (cyO945b4 : ClassId) (cyOe3e36 : ClassId) (cyObfd44 : ClassId) (S : wPS) {a : Nat} (h : S.K a = 3) (v : Option Nat) (b : Nat) : va_up (wPF cyI cyZ cyO945b4 cyOe3e36 cyObfd44 S) a (.inr (3, [va_rf (S.O_Rules.f_effects a), va_rf v, .int (S.O_Rules.f_mark a), .int (S.O_Rules.f_lawTold a), .int (S.O_Rules.f_forbidden a)])) b = wPF cyI cyZ cyO945b4 cyOe3e36 cyObfd44 { S with O_Rules := { S.O_Rules with f_prices := va_up S.O_Rules.f_prices a v } } b := by by_cases hb : b = a <;> first | (simp only [wPF, va_up_ne _ _ hb]; done) | (simp only [wPF, va_up, if_neg hb]; done) | simp [wPF, va_re, va_up, va_rf, hb, h]
theorem wPu_O_Rules_f_prices (cyI : ClassId) (cyZ : ClassId) (cyO945b4 : ClassId) (cyOe3e36 : ClassId) (cyObfd44 : ClassId) (X : va_W) (S : wPS) {A : Nat → Prop} {a k : Nat} (hD : va_D A (X ++ va_pl S.L (wPF cyI cyZ cyO945b4 cyOe3e36 cyObfd44 S))) (hL : a ∈ S.L) (h : S.K a = 3) (hk : (X ++ va_pl S.L (wPF cyI cyZ cyO945b4 cyOe3e36 cyObfd44 S))[k]? = some (a, wPF cyI cyZ cyO945b4 cyOe3e36 cyObfd44 S a)) (v : Option Nat) : (X ++ va_pl S.L (wPF cyI cyZ cyO945b4 cyOe3e36 cyObfd44 S)).set k (a, .inr (3, [va_rf (S.O_Rules.f_effects a), va_rf v, .int (S.O_Rules.f_mark a), .int (S.O_Rules.f_lawTold a), .int (S.O_Rules.f_forbidden a)])) = X ++ va_pl S.L (wPF cyI cyZ cyO945b4 cyOe3e36 cyObfd44 { S with O_Rules := { S.O_Rules with f_prices := va_up S.O_Rules.f_prices a v } }) := by
  rw [va_pl_set hD hL hk]
  exact congrArg (fun l => X ++ l) (va_pl_congr (wSt_O_Rules_f_prices cyI cyZ cyO945b4 cyOe3e36 cyObfd44 S h v))
theorem wSt_O_Rules_f_mark (cyI : ClassId) (cyZ : ClassId) (cyO945b4 : ClassId) (cyOe3e36 : ClassId) (cyObfd44 : ClassId) (S : wPS) {a : Nat} (h : S.K a = 3) (v : Int32) (b : Nat) : va_up (wPF cyI cyZ cyO945b4 cyOe3e36 cyObfd44 S) a (.inr (3, [va_rf (S.O_Rules.f_effects a), va_rf (S.O_Rules.f_prices a), .int v, .int (S.O_Rules.f_lawTold a), .int (S.O_Rules.f_forbidden a)])) b = wPF cyI cyZ cyO945b4 cyOe3e36 cyObfd44 { S with O_Rules := { S.O_Rules with f_mark := va_up S.O_Rules.f_mark a v } } b := by by_cases hb : b = a <;> first | (simp only [wPF, va_up_ne _ _ hb]; done) | (simp only [wPF, va_up, if_neg hb]; done) | simp [wPF, va_re, va_up, va_rf, hb, h]
theorem wPu_O_Rules_f_mark (cyI : ClassId) (cyZ : ClassId) (cyO945b4 : ClassId) (cyOe3e36 : ClassId) (cyObfd44 : ClassId) (X : va_W) (S : wPS) {A : Nat → Prop} {a k : Nat} (hD : va_D A (X ++ va_pl S.L (wPF cyI cyZ cyO945b4 cyOe3e36 cyObfd44 S))) (hL : a ∈ S.L) (h : S.K a = 3) (hk : (X ++ va_pl S.L (wPF cyI cyZ cyO945b4 cyOe3e36 cyObfd44 S))[k]? = some (a, wPF cyI cyZ cyO945b4 cyOe3e36 cyObfd44 S a)) (v : Int32) : (X ++ va_pl S.L (wPF cyI cyZ cyO945b4 cyOe3e36 cyObfd44 S)).set k (a, .inr (3, [va_rf (S.O_Rules.f_effects a), va_rf (S.O_Rules.f_prices a), .int v, .int (S.O_Rules.f_lawTold a), .int (S.O_Rules.f_forbidden a)])) = X ++ va_pl S.L (wPF cyI cyZ cyO945b4 cyOe3e36 cyObfd44 { S with O_Rules := { S.O_Rules with f_mark := va_up S.O_Rules.f_mark a v } }) := by
  rw [va_pl_set hD hL hk]
  exact congrArg (fun l => X ++ l) (va_pl_congr (wSt_O_Rules_f_mark cyI cyZ cyO945b4 cyOe3e36 cyObfd44 S h v))
theorem wSt_O_Rules_f_lawTold (cyI : ClassId) (cyZ : ClassId) (cyO945b4 : ClassId) (cyOe3e36 : ClassId) (cyObfd44 : ClassId) (S : wPS) {a : Nat} (h : S.K a = 3) (v : Int32) (b : Nat) : va_up (wPF cyI cyZ cyO945b4 cyOe3e36 cyObfd44 S) a (.inr (3, [va_rf (S.O_Rules.f_effects a), va_rf (S.O_Rules.f_prices a), .int (S.O_Rules.f_mark a), .int v, .int (S.O_Rules.f_forbidden a)])) b = wPF cyI cyZ cyO945b4 cyOe3e36 cyObfd44 { S with O_Rules := { S.O_Rules with f_lawTold := va_up S.O_Rules.f_lawTold a v } } b := by by_cases hb : b = a <;> first | (simp only [wPF, va_up_ne _ _ hb]; done) | (simp only [wPF, va_up, if_neg hb]; done) | simp [wPF, va_re, va_up, va_rf, hb, h]
theorem wPu_O_Rules_f_lawTold (cyI : ClassId) (cyZ : ClassId) (cyO945b4 : ClassId) (cyOe3e36 : ClassId) (cyObfd44 : ClassId) (X : va_W) (S : wPS) {A : Nat → Prop} {a k : Nat} (hD : va_D A (X ++ va_pl S.L (wPF cyI cyZ cyO945b4 cyOe3e36 cyObfd44 S))) (hL : a ∈ S.L) (h : S.K a = 3) (hk : (X ++ va_pl S.L (wPF cyI cyZ cyO945b4 cyOe3e36 cyObfd44 S))[k]? = some (a, wPF cyI cyZ cyO945b4 cyOe3e36 cyObfd44 S a)) (v : Int32) : (X ++ va_pl S.L (wPF cyI cyZ cyO945b4 cyOe3e36 cyObfd44 S)).set k (a, .inr (3, [va_rf (S.O_Rules.f_effects a), va_rf (S.O_Rules.f_prices a), .int (S.O_Rules.f_mark a), .int v, .int (S.O_Rules.f_forbidden a)])) = X ++ va_pl S.L (wPF cyI cyZ cyO945b4 cyOe3e36 cyObfd44 { S with O_Rules := { S.O_Rules with f_lawTold := va_up S.O_Rules.f_lawTold a v } }) := by
  rw [va_pl_set hD hL hk]
  exact congrArg (fun l => X ++ l) (va_pl_congr (wSt_O_Rules_f_lawTold cyI cyZ cyO945b4 cyOe3e36 cyObfd44 S h v))
theorem wSt_O_Rules_f_forbidden (cyI : ClassId) (cyZ : ClassId) (cyO945b4 : ClassId) (cyOe3e36 : ClassId) (cyObfd44 : ClassId) (S : wPS) {a : Nat} (h : S.K a = 3) (v : Int32) (b : Nat) : va_up (wPF cyI cyZ cyO945b4 cyOe3e36 cyObfd44 S) a (.inr (3, [va_rf (S.O_Rules.f_effects a), va_rf (S.O_Rules.f_prices a), .int (S.O_Rules.f_mark a), .int (S.O_Rules.f_lawTold a), .int v])) b = wPF cyI cyZ cyO945b4 cyOe3e36 cyObfd44 { S with O_Rules := { S.O_Rules with f_forbidden := va_up S.O_Rules.f_forbidden a v } } b := by by_cases hb : b = a <;> first | (simp only [wPF, va_up_ne _ _ hb]; done) | (simp only [wPF, va_up, if_neg hb]; done) | simp [wPF, va_re, va_up, va_rf, hb, h]
theorem wPu_O_Rules_f_forbidden (cyI : ClassId) (cyZ : ClassId) (cyO945b4 : ClassId) (cyOe3e36 : ClassId) (cyObfd44 : ClassId) (X : va_W) (S : wPS) {A : Nat → Prop} {a k : Nat} (hD : va_D A (X ++ va_pl S.L (wPF cyI cyZ cyO945b4 cyOe3e36 cyObfd44 S))) (hL : a ∈ S.L) (h : S.K a = 3) (hk : (X ++ va_pl S.L (wPF cyI cyZ cyO945b4 cyOe3e36 cyObfd44 S))[k]? = some (a, wPF cyI cyZ cyO945b4 cyOe3e36 cyObfd44 S a)) (v : Int32) : (X ++ va_pl S.L (wPF cyI cyZ cyO945b4 cyOe3e36 cyObfd44 S)).set k (a, .inr (3, [va_rf (S.O_Rules.f_effects a), va_rf (S.O_Rules.f_prices a), .int (S.O_Rules.f_mark a), .int (S.O_Rules.f_lawTold a), .int v])) = X ++ va_pl S.L (wPF cyI cyZ cyO945b4 cyOe3e36 cyObfd44 { S with O_Rules := { S.O_Rules with f_forbidden := va_up S.O_Rules.f_forbidden a v } }) := by
  rw [va_pl_set hD hL hk]
  exact congrArg (fun l => X ++ l) (va_pl_congr (wSt_O_Rules_f_forbidden cyI cyZ cyO945b4 cyOe3e36 cyObfd44 S h v))
theorem wNw_O_Rules (cyI : ClassId) (cyZ : ClassId) (cyO945b4 : ClassId) (cyOe3e36 : ClassId) (cyObfd44 : ClassId) (S : wPS) (a b : Nat) : va_up (wPF cyI cyZ cyO945b4 cyOe3e36 cyObfd44 S) a (.inr (3, [.null, .null, .int 0, .int 0, .int 0])) b = wPF cyI cyZ cyO945b4 cyOe3e36 cyObfd44 { S with L := S.L ++ [a], K := va_up S.K a 3, O_Rules := { f_effects := va_up S.O_Rules.f_effects a none, f_prices := va_up S.O_Rules.f_prices a none, f_mark := va_up S.O_Rules.f_mark a 0, f_lawTold := va_up S.O_Rules.f_lawTold a 0, f_forbidden := va_up S.O_Rules.f_forbidden a 0 } } b := by by_cases hb : b = a <;> first | (simp only [wPF, va_up_ne _ _ hb]; done) | (simp only [wPF, va_up, if_neg hb]; done) | simp [wPF, va_re, va_up, va_rf, hb]
theorem wPn_O_Rules (cyI : ClassId) (cyZ : ClassId) (cyO945b4 : ClassId) (cyOe3e36 : ClassId) (cyObfd44 : ClassId) (X : va_W) (S : wPS) {a : Nat} (ha : a ∉ S.L) : (X ++ va_pl S.L (wPF cyI cyZ cyO945b4 cyOe3e36 cyObfd44 S)) ++ [(a, .inr (3, [.null, .null, .int 0, .int 0, .int 0]))] = X ++ va_pl (S.L ++ [a]) (wPF cyI cyZ cyO945b4 cyOe3e36 cyObfd44 { S with L := S.L ++ [a], K := va_up S.K a 3, O_Rules := { f_effects := va_up S.O_Rules.f_effects a none, f_prices := va_up S.O_Rules.f_prices a none, f_mark := va_up S.O_Rules.f_mark a 0, f_lawTold := va_up S.O_Rules.f_lawTold a 0, f_forbidden := va_up S.O_Rules.f_forbidden a 0 } }) := by
  rw [List.append_assoc, va_pl_push ha]
  exact congrArg (fun l => X ++ l) (va_pl_congr (wNw_O_Rules cyI cyZ cyO945b4 cyOe3e36 cyObfd44 S a))
theorem wAt_O_Sheet (cyI : ClassId) (cyZ : ClassId) (cyO945b4 : ClassId) (cyOe3e36 : ClassId) (cyObfd44 : ClassId) (S : wPS) {a : Nat} (h : S.K a = 4) : wPF cyI cyZ cyO945b4 cyOe3e36 cyObfd44 S a = .inr (4, [va_rf (S.O_Sheet.f_items a), .int (S.O_Sheet.f_form a), .int (S.O_Sheet.f_size a), .int (S.O_Sheet.f_lost a)]) := by simp [wPF, h]
theorem wGt_O_Sheet (cyI : ClassId) (cyZ : ClassId) (cyO945b4 : ClassId) (cyOe3e36 : ClassId) (cyObfd44 : ClassId) (X : va_W) (S : wPS) {a : Nat} (hL : a ∈ S.L) (h : S.K a = 4) : ∃ k : Nat, (X ++ va_pl S.L (wPF cyI cyZ cyO945b4 cyOe3e36 cyObfd44 S))[k]? = some (a, wPF cyI cyZ cyO945b4 cyOe3e36 cyObfd44 S a) ∧ (X ++ va_pl S.L (wPF cyI cyZ cyO945b4 cyOe3e36 cyObfd44 S))[k]? = some (a, .inr (4, [va_rf (S.O_Sheet.f_items a), .int (S.O_Sheet.f_form a), .int (S.O_Sheet.f_size a), .int (S.O_Sheet.f_lost a)])) := by
  obtain ⟨k, hk⟩ := va_pl_get (X := X) (f := wPF cyI cyZ cyO945b4 cyOe3e36 cyObfd44 S) hL
  exact ⟨k, hk, hk.trans (congrArg (fun e => some (a, e)) (wAt_O_Sheet cyI cyZ cyO945b4 cyOe3e36 cyObfd44 S h))⟩
theorem wSt_O_Sheet_f_items (cyI : ClassId) (cyZ : ClassId) (cyO945b4 : ClassId) (cyOe3e36 : ClassId) (cyObfd44 : ClassId) (S : wPS) {a : Nat} (h : S.K a = 4) (v : Option Nat) (b : Nat) : va_up (wPF cyI cyZ cyO945b4 cyOe3e36 cyObfd44 S) a (.inr (4, [va_rf v, .int (S.O_Sheet.f_form a), .int (S.O_Sheet.f_size a), .int (S.O_Sheet.f_lost a)])) b = wPF cyI cyZ cyO945b4 cyOe3e36 cyObfd44 { S with O_Sheet := { S.O_Sheet with f_items := va_up S.O_Sheet.f_items a v } } b := by by_cases hb : b = a <;> first | (simp only [wPF, va_up_ne _ _ hb]; done) | (simp only [wPF, va_up, if_neg hb]; done) | simp [wPF, va_re, va_up, va_rf, hb, h]
theorem wPu_O_Sheet_f_items (cyI : ClassId) (cyZ : ClassId) (cyO945b4 : ClassId) (cyOe3e36 : ClassId) (cyObfd44 : ClassId) (X : va_W) (S : wPS) {A : Nat → Prop} {a k : Nat} (hD : va_D A (X ++ va_pl S.L (wPF cyI cyZ cyO945b4 cyOe3e36 cyObfd44 S))) (hL : a ∈ S.L) (h : S.K a = 4) (hk : (X ++ va_pl S.L (wPF cyI cyZ cyO945b4 cyOe3e36 cyObfd44 S))[k]? = some (a, wPF cyI cyZ cyO945b4 cyOe3e36 cyObfd44 S a)) (v : Option Nat) : (X ++ va_pl S.L (wPF cyI cyZ cyO945b4 cyOe3e36 cyObfd44 S)).set k (a, .inr (4, [va_rf v, .int (S.O_Sheet.f_form a), .int (S.O_Sheet.f_size a), .int (S.O_Sheet.f_lost a)])) = X ++ va_pl S.L (wPF cyI cyZ cyO945b4 cyOe3e36 cyObfd44 { S with O_Sheet := { S.O_Sheet with f_items := va_up S.O_Sheet.f_items a v } }) := by
  rw [va_pl_set hD hL hk]
  exact congrArg (fun l => X ++ l) (va_pl_congr (wSt_O_Sheet_f_items cyI cyZ cyO945b4 cyOe3e36 cyObfd44 S h v))
theorem wSt_O_Sheet_f_form (cyI : ClassId) (cyZ : ClassId) (cyO945b4 : ClassId) (cyOe3e36 : ClassId) (cyObfd44 : ClassId) (S : wPS) {a : Nat} (h : S.K a = 4) (v : Int32) (b : Nat) : va_up (wPF cyI cyZ cyO945b4 cyOe3e36 cyObfd44 S) a (.inr (4, [va_rf (S.O_Sheet.f_items a), .int v, .int (S.O_Sheet.f_size a), .int (S.O_Sheet.f_lost a)])) b = wPF cyI cyZ cyO945b4 cyOe3e36 cyObfd44 { S with O_Sheet := { S.O_Sheet with f_form := va_up S.O_Sheet.f_form a v } } b := by by_cases hb : b = a <;> first | (simp only [wPF, va_up_ne _ _ hb]; done) | (simp only [wPF, va_up, if_neg hb]; done) | simp [wPF, va_re, va_up, va_rf, hb, h]
theorem wPu_O_Sheet_f_form (cyI : ClassId) (cyZ : ClassId) (cyO945b4 : ClassId) (cyOe3e36 : ClassId) (cyObfd44 : ClassId) (X : va_W) (S : wPS) {A : Nat → Prop} {a k : Nat} (hD : va_D A (X ++ va_pl S.L (wPF cyI cyZ cyO945b4 cyOe3e36 cyObfd44 S))) (hL : a ∈ S.L) (h : S.K a = 4) (hk : (X ++ va_pl S.L (wPF cyI cyZ cyO945b4 cyOe3e36 cyObfd44 S))[k]? = some (a, wPF cyI cyZ cyO945b4 cyOe3e36 cyObfd44 S a)) (v : Int32) : (X ++ va_pl S.L (wPF cyI cyZ cyO945b4 cyOe3e36 cyObfd44 S)).set k (a, .inr (4, [va_rf (S.O_Sheet.f_items a), .int v, .int (S.O_Sheet.f_size a), .int (S.O_Sheet.f_lost a)])) = X ++ va_pl S.L (wPF cyI cyZ cyO945b4 cyOe3e36 cyObfd44 { S with O_Sheet := { S.O_Sheet with f_form := va_up S.O_Sheet.f_form a v } }) := by
  rw [va_pl_set hD hL hk]
  exact congrArg (fun l => X ++ l) (va_pl_congr (wSt_O_Sheet_f_form cyI cyZ cyO945b4 cyOe3e36 cyObfd44 S h v))
theorem wSt_O_Sheet_f_size (cyI : ClassId) (cyZ : ClassId) (cyO945b4 : ClassId) (cyOe3e36 : ClassId) (cyObfd44 : ClassId) (S : wPS) {a : Nat} (h : S.K a = 4) (v : Int32) (b : Nat) : va_up (wPF cyI cyZ cyO945b4 cyOe3e36 cyObfd44 S) a (.inr (4, [va_rf (S.O_Sheet.f_items a), .int (S.O_Sheet.f_form a), .int v, .int (S.O_Sheet.f_lost a)])) b = wPF cyI cyZ cyO945b4 cyOe3e36 cyObfd44 { S with O_Sheet := { S.O_Sheet with f_size := va_up S.O_Sheet.f_size a v } } b := by by_cases hb : b = a <;> first | (simp only [wPF, va_up_ne _ _ hb]; done) | (simp only [wPF, va_up, if_neg hb]; done) | simp [wPF, va_re, va_up, va_rf, hb, h]
theorem wPu_O_Sheet_f_size (cyI : ClassId) (cyZ : ClassId) (cyO945b4 : ClassId) (cyOe3e36 : ClassId) (cyObfd44 : ClassId) (X : va_W) (S : wPS) {A : Nat → Prop} {a k : Nat} (hD : va_D A (X ++ va_pl S.L (wPF cyI cyZ cyO945b4 cyOe3e36 cyObfd44 S))) (hL : a ∈ S.L) (h : S.K a = 4) (hk : (X ++ va_pl S.L (wPF cyI cyZ cyO945b4 cyOe3e36 cyObfd44 S))[k]? = some (a, wPF cyI cyZ cyO945b4 cyOe3e36 cyObfd44 S a)) (v : Int32) : (X ++ va_pl S.L (wPF cyI cyZ cyO945b4 cyOe3e36 cyObfd44 S)).set k (a, .inr (4, [va_rf (S.O_Sheet.f_items a), .int (S.O_Sheet.f_form a), .int v, .int (S.O_Sheet.f_lost a)])) = X ++ va_pl S.L (wPF cyI cyZ cyO945b4 cyOe3e36 cyObfd44 { S with O_Sheet := { S.O_Sheet with f_size := va_up S.O_Sheet.f_size a v } }) := by
  rw [va_pl_set hD hL hk]
  exact congrArg (fun l => X ++ l) (va_pl_congr (wSt_O_Sheet_f_size cyI cyZ cyO945b4 cyOe3e36 cyObfd44 S h v))
theorem wSt_O_Sheet_f_lost (cyI : ClassId) (cyZ : ClassId) (cyO945b4 : ClassId) (cyOe3e36 : ClassId) (cyObfd44 : ClassId) (S : wPS) {a : Nat} (h : S.K a = 4) (v : Int32) (b : Nat) : va_up (wPF cyI cyZ cyO945b4 cyOe3e36 cyObfd44 S) a (.inr (4, [va_rf (S.O_Sheet.f_items a), .int (S.O_Sheet.f_form a), .int (S.O_Sheet.f_size a), .int v])) b = wPF cyI cyZ cyO945b4 cyOe3e36 cyObfd44 { S with O_Sheet := { S.O_Sheet with f_lost := va_up S.O_Sheet.f_lost a v } } b := by by_cases hb : b = a <;> first | (simp only [wPF, va_up_ne _ _ hb]; done) | (simp only [wPF, va_up, if_neg hb]; done) | simp [wPF, va_re, va_up, va_rf, hb, h]
theorem wPu_O_Sheet_f_lost (cyI : ClassId) (cyZ : ClassId) (cyO945b4 : ClassId) (cyOe3e36 : ClassId) (cyObfd44 : ClassId) (X : va_W) (S : wPS) {A : Nat → Prop} {a k : Nat} (hD : va_D A (X ++ va_pl S.L (wPF cyI cyZ cyO945b4 cyOe3e36 cyObfd44 S))) (hL : a ∈ S.L) (h : S.K a = 4) (hk : (X ++ va_pl S.L (wPF cyI cyZ cyO945b4 cyOe3e36 cyObfd44 S))[k]? = some (a, wPF cyI cyZ cyO945b4 cyOe3e36 cyObfd44 S a)) (v : Int32) : (X ++ va_pl S.L (wPF cyI cyZ cyO945b4 cyOe3e36 cyObfd44 S)).set k (a, .inr (4, [va_rf (S.O_Sheet.f_items a), .int (S.O_Sheet.f_form a), .int (S.O_Sheet.f_size a), .int v])) = X ++ va_pl S.L (wPF cyI cyZ cyO945b4 cyOe3e36 cyObfd44 { S with O_Sheet := { S.O_Sheet with f_lost := va_up S.O_Sheet.f_lost a v } }) := by
  rw [va_pl_set hD hL hk]
  exact congrArg (fun l => X ++ l) (va_pl_congr (wSt_O_Sheet_f_lost cyI cyZ cyO945b4 cyOe3e36 cyObfd44 S h v))
theorem wNw_O_Sheet (cyI : ClassId) (cyZ : ClassId) (cyO945b4 : ClassId) (cyOe3e36 : ClassId) (cyObfd44 : ClassId) (S : wPS) (a b : Nat) : va_up (wPF cyI cyZ cyO945b4 cyOe3e36 cyObfd44 S) a (.inr (4, [.null, .int 0, .int 0, .int 0])) b = wPF cyI cyZ cyO945b4 cyOe3e36 cyObfd44 { S with L := S.L ++ [a], K := va_up S.K a 4, O_Sheet := { f_items := va_up S.O_Sheet.f_items a none, f_form := va_up S.O_Sheet.f_form a 0, f_size := va_up S.O_Sheet.f_size a 0, f_lost := va_up S.O_Sheet.f_lost a 0 } } b := by by_cases hb : b = a <;> first | (simp only [wPF, va_up_ne _ _ hb]; done) | (simp only [wPF, va_up, if_neg hb]; done) | simp [wPF, va_re, va_up, va_rf, hb]
theorem wPn_O_Sheet (cyI : ClassId) (cyZ : ClassId) (cyO945b4 : ClassId) (cyOe3e36 : ClassId) (cyObfd44 : ClassId) (X : va_W) (S : wPS) {a : Nat} (ha : a ∉ S.L) : (X ++ va_pl S.L (wPF cyI cyZ cyO945b4 cyOe3e36 cyObfd44 S)) ++ [(a, .inr (4, [.null, .int 0, .int 0, .int 0]))] = X ++ va_pl (S.L ++ [a]) (wPF cyI cyZ cyO945b4 cyOe3e36 cyObfd44 { S with L := S.L ++ [a], K := va_up S.K a 4, O_Sheet := { f_items := va_up S.O_Sheet.f_items a none, f_form := va_up S.O_Sheet.f_form a 0, f_size := va_up S.O_Sheet.f_size a 0, f_lost := va_up S.O_Sheet.f_lost a 0 } }) := by
  rw [List.append_assoc, va_pl_push ha]
  exact congrArg (fun l => X ++ l) (va_pl_congr (wNw_O_Sheet cyI cyZ cyO945b4 cyOe3e36 cyObfd44 S a))
theorem wAt_O_Sightings (cyI : ClassId) (cyZ : ClassId) (cyO945b4 : ClassId) (cyOe3e36 : ClassId) (cyObfd44 : ClassId) (S : wPS) {a : Nat} (h : S.K a = 5) : wPF cyI cyZ cyO945b4 cyOe3e36 cyObfd44 S a = .inr (5, [va_rf (S.O_Sightings.f_whom a), va_rf (S.O_Sightings.f_when a), va_rf (S.O_Sightings.f_hiccuped a), .int (S.O_Sightings.f_size a)]) := by simp [wPF, h]
theorem wGt_O_Sightings (cyI : ClassId) (cyZ : ClassId) (cyO945b4 : ClassId) (cyOe3e36 : ClassId) (cyObfd44 : ClassId) (X : va_W) (S : wPS) {a : Nat} (hL : a ∈ S.L) (h : S.K a = 5) : ∃ k : Nat, (X ++ va_pl S.L (wPF cyI cyZ cyO945b4 cyOe3e36 cyObfd44 S))[k]? = some (a, wPF cyI cyZ cyO945b4 cyOe3e36 cyObfd44 S a) ∧ (X ++ va_pl S.L (wPF cyI cyZ cyO945b4 cyOe3e36 cyObfd44 S))[k]? = some (a, .inr (5, [va_rf (S.O_Sightings.f_whom a), va_rf (S.O_Sightings.f_when a), va_rf (S.O_Sightings.f_hiccuped a), .int (S.O_Sightings.f_size a)])) := by
  obtain ⟨k, hk⟩ := va_pl_get (X := X) (f := wPF cyI cyZ cyO945b4 cyOe3e36 cyObfd44 S) hL
  exact ⟨k, hk, hk.trans (congrArg (fun e => some (a, e)) (wAt_O_Sightings cyI cyZ cyO945b4 cyOe3e36 cyObfd44 S h))⟩
theorem wSt_O_Sightings_f_whom (cyI : ClassId) (cyZ : ClassId) (cyO945b4 : ClassId) (cyOe3e36 : ClassId) (cyObfd44 : ClassId) (S : wPS) {a : Nat} (h : S.K a = 5) (v : Option Nat) (b : Nat) : va_up (wPF cyI cyZ cyO945b4 cyOe3e36 cyObfd44 S) a (.inr (5, [va_rf v, va_rf (S.O_Sightings.f_when a), va_rf (S.O_Sightings.f_hiccuped a), .int (S.O_Sightings.f_size a)])) b = wPF cyI cyZ cyO945b4 cyOe3e36 cyObfd44 { S with O_Sightings := { S.O_Sightings with f_whom := va_up S.O_Sightings.f_whom a v } } b := by by_cases hb : b = a <;> first | (simp only [wPF, va_up_ne _ _ hb]; done) | (simp only [wPF, va_up, if_neg hb]; done) | simp [wPF, va_re, va_up, va_rf, hb, h]
theorem wPu_O_Sightings_f_whom (cyI : ClassId) (cyZ : ClassId) (cyO945b4 : ClassId) (cyOe3e36 : ClassId) (cyObfd44 : ClassId) (X : va_W) (S : wPS) {A : Nat → Prop} {a k : Nat} (hD : va_D A (X ++ va_pl S.L (wPF cyI cyZ cyO945b4 cyOe3e36 cyObfd44 S))) (hL : a ∈ S.L) (h : S.K a = 5) (hk : (X ++ va_pl S.L (wPF cyI cyZ cyO945b4 cyOe3e36 cyObfd44 S))[k]? = some (a, wPF cyI cyZ cyO945b4 cyOe3e36 cyObfd44 S a)) (v : Option Nat) : (X ++ va_pl S.L (wPF cyI cyZ cyO945b4 cyOe3e36 cyObfd44 S)).set k (a, .inr (5, [va_rf v, va_rf (S.O_Sightings.f_when a), va_rf (S.O_Sightings.f_hiccuped a), .int (S.O_Sightings.f_size a)])) = X ++ va_pl S.L (wPF cyI cyZ cyO945b4 cyOe3e36 cyObfd44 { S with O_Sightings := { S.O_Sightings with f_whom := va_up S.O_Sightings.f_whom a v } }) := by
  rw [va_pl_set hD hL hk]
  exact congrArg (fun l => X ++ l) (va_pl_congr (wSt_O_Sightings_f_whom cyI cyZ cyO945b4 cyOe3e36 cyObfd44 S h v))
theorem wSt_O_Sightings_f_when (cyI : ClassId) (cyZ : ClassId) (cyO945b4 : ClassId) (cyOe3e36 : ClassId) (cyObfd44 : ClassId) (S : wPS) {a : Nat} (h : S.K a = 5) (v : Option Nat) (b : Nat) : va_up (wPF cyI cyZ cyO945b4 cyOe3e36 cyObfd44 S) a (.inr (5, [va_rf (S.O_Sightings.f_whom a), va_rf v, va_rf (S.O_Sightings.f_hiccuped a), .int (S.O_Sightings.f_size a)])) b = wPF cyI cyZ cyO945b4 cyOe3e36 cyObfd44 { S with O_Sightings := { S.O_Sightings with f_when := va_up S.O_Sightings.f_when a v } } b := by by_cases hb : b = a <;> first | (simp only [wPF, va_up_ne _ _ hb]; done) | (simp only [wPF, va_up, if_neg hb]; done) | simp [wPF, va_re, va_up, va_rf, hb, h]
theorem wPu_O_Sightings_f_when (cyI : ClassId) (cyZ : ClassId) (cyO945b4 : ClassId) (cyOe3e36 : ClassId) (cyObfd44 : ClassId) (X : va_W) (S : wPS) {A : Nat → Prop} {a k : Nat} (hD : va_D A (X ++ va_pl S.L (wPF cyI cyZ cyO945b4 cyOe3e36 cyObfd44 S))) (hL : a ∈ S.L) (h : S.K a = 5) (hk : (X ++ va_pl S.L (wPF cyI cyZ cyO945b4 cyOe3e36 cyObfd44 S))[k]? = some (a, wPF cyI cyZ cyO945b4 cyOe3e36 cyObfd44 S a)) (v : Option Nat) : (X ++ va_pl S.L (wPF cyI cyZ cyO945b4 cyOe3e36 cyObfd44 S)).set k (a, .inr (5, [va_rf (S.O_Sightings.f_whom a), va_rf v, va_rf (S.O_Sightings.f_hiccuped a), .int (S.O_Sightings.f_size a)])) = X ++ va_pl S.L (wPF cyI cyZ cyO945b4 cyOe3e36 cyObfd44 { S with O_Sightings := { S.O_Sightings with f_when := va_up S.O_Sightings.f_when a v } }) := by
  rw [va_pl_set hD hL hk]
  exact congrArg (fun l => X ++ l) (va_pl_congr (wSt_O_Sightings_f_when cyI cyZ cyO945b4 cyOe3e36 cyObfd44 S h v))
theorem wSt_O_Sightings_f_hiccuped (cyI : ClassId) (cyZ : ClassId) (cyO945b4 : ClassId) (cyOe3e36 : ClassId) (cyObfd44 : ClassId) (S : wPS) {a : Nat} (h : S.K a = 5) (v : Option Nat) (b : Nat) : va_up (wPF cyI cyZ cyO945b4 cyOe3e36 cyObfd44 S) a (.inr (5, [va_rf (S.O_Sightings.f_whom a), va_rf (S.O_Sightings.f_when a), va_rf v, .int (S.O_Sightings.f_size a)])) b = wPF cyI cyZ cyO945b4 cyOe3e36 cyObfd44 { S with O_Sightings := { S.O_Sightings with f_hiccuped := va_up S.O_Sightings.f_hiccuped a v } } b := by by_cases hb : b = a <;> first | (simp only [wPF, va_up_ne _ _ hb]; done) | (simp only [wPF, va_up, if_neg hb]; done) | simp [wPF, va_re, va_up, va_rf, hb, h]
theorem wPu_O_Sightings_f_hiccuped (cyI : ClassId) (cyZ : ClassId) (cyO945b4 : ClassId) (cyOe3e36 : ClassId) (cyObfd44 : ClassId) (X : va_W) (S : wPS) {A : Nat → Prop} {a k : Nat} (hD : va_D A (X ++ va_pl S.L (wPF cyI cyZ cyO945b4 cyOe3e36 cyObfd44 S))) (hL : a ∈ S.L) (h : S.K a = 5) (hk : (X ++ va_pl S.L (wPF cyI cyZ cyO945b4 cyOe3e36 cyObfd44 S))[k]? = some (a, wPF cyI cyZ cyO945b4 cyOe3e36 cyObfd44 S a)) (v : Option Nat) : (X ++ va_pl S.L (wPF cyI cyZ cyO945b4 cyOe3e36 cyObfd44 S)).set k (a, .inr (5, [va_rf (S.O_Sightings.f_whom a), va_rf (S.O_Sightings.f_when a), va_rf v, .int (S.O_Sightings.f_size a)])) = X ++ va_pl S.L (wPF cyI cyZ cyO945b4 cyOe3e36 cyObfd44 { S with O_Sightings := { S.O_Sightings with f_hiccuped := va_up S.O_Sightings.f_hiccuped a v } }) := by
  rw [va_pl_set hD hL hk]
  exact congrArg (fun l => X ++ l) (va_pl_congr (wSt_O_Sightings_f_hiccuped cyI cyZ cyO945b4 cyOe3e36 cyObfd44 S h v))
theorem wSt_O_Sightings_f_size (cyI : ClassId) (cyZ : ClassId) (cyO945b4 : ClassId) (cyOe3e36 : ClassId) (cyObfd44 : ClassId) (S : wPS) {a : Nat} (h : S.K a = 5) (v : Int32) (b : Nat) : va_up (wPF cyI cyZ cyO945b4 cyOe3e36 cyObfd44 S) a (.inr (5, [va_rf (S.O_Sightings.f_whom a), va_rf (S.O_Sightings.f_when a), va_rf (S.O_Sightings.f_hiccuped a), .int v])) b = wPF cyI cyZ cyO945b4 cyOe3e36 cyObfd44 { S with O_Sightings := { S.O_Sightings with f_size := va_up S.O_Sightings.f_size a v } } b := by by_cases hb : b = a <;> first | (simp only [wPF, va_up_ne _ _ hb]; done) | (simp only [wPF, va_up, if_neg hb]; done) | simp [wPF, va_re, va_up, va_rf, hb, h]
theorem wPu_O_Sightings_f_size (cyI : ClassId) (cyZ : ClassId) (cyO945b4 : ClassId) (cyOe3e36 : ClassId) (cyObfd44 : ClassId) (X : va_W) (S : wPS) {A : Nat → Prop} {a k : Nat} (hD : va_D A (X ++ va_pl S.L (wPF cyI cyZ cyO945b4 cyOe3e36 cyObfd44 S))) (hL : a ∈ S.L) (h : S.K a = 5) (hk : (X ++ va_pl S.L (wPF cyI cyZ cyO945b4 cyOe3e36 cyObfd44 S))[k]? = some (a, wPF cyI cyZ cyO945b4 cyOe3e36 cyObfd44 S a)) (v : Int32) : (X ++ va_pl S.L (wPF cyI cyZ cyO945b4 cyOe3e36 cyObfd44 S)).set k (a, .inr (5, [va_rf (S.O_Sightings.f_whom a), va_rf (S.O_Sightings.f_when a), va_rf (S.O_Sightings.f_hiccuped a), .int v])) = X ++ va_pl S.L (wPF cyI cyZ cyO945b4 cyOe3e36 cyObfd44 { S with O_Sightings := { S.O_Sightings with f_size := va_up S.O_Sightings.f_size a v } }) := by
  rw [va_pl_set hD hL hk]
  exact congrArg (fun l => X ++ l) (va_pl_congr (wSt_O_Sightings_f_size cyI cyZ cyO945b4 cyOe3e36 cyObfd44 S h v))
theorem wNw_O_Sightings (cyI : ClassId) (cyZ : ClassId) (cyO945b4 : ClassId) (cyOe3e36 : ClassId) (cyObfd44 : ClassId) (S : wPS) (a b : Nat) : va_up (wPF cyI cyZ cyO945b4 cyOe3e36 cyObfd44 S) a (.inr (5, [.null, .null, .null, .int 0])) b = wPF cyI cyZ cyO945b4 cyOe3e36 cyObfd44 { S with L := S.L ++ [a], K := va_up S.K a 5, O_Sightings := { f_whom := va_up S.O_Sightings.f_whom a none, f_when := va_up S.O_Sightings.f_when a none, f_hiccuped := va_up S.O_Sightings.f_hiccuped a none, f_size := va_up S.O_Sightings.f_size a 0 } } b := by by_cases hb : b = a <;> first | (simp only [wPF, va_up_ne _ _ hb]; done) | (simp only [wPF, va_up, if_neg hb]; done) | simp [wPF, va_re, va_up, va_rf, hb]
theorem wPn_O_Sightings (cyI : ClassId) (cyZ : ClassId) (cyO945b4 : ClassId) (cyOe3e36 : ClassId) (cyObfd44 : ClassId) (X : va_W) (S : wPS) {a : Nat} (ha : a ∉ S.L) : (X ++ va_pl S.L (wPF cyI cyZ cyO945b4 cyOe3e36 cyObfd44 S)) ++ [(a, .inr (5, [.null, .null, .null, .int 0]))] = X ++ va_pl (S.L ++ [a]) (wPF cyI cyZ cyO945b4 cyOe3e36 cyObfd44 { S with L := S.L ++ [a], K := va_up S.K a 5, O_Sightings := { f_whom := va_up S.O_Sightings.f_whom a none, f_when := va_up S.O_Sightings.f_when a none, f_hiccuped := va_up S.O_Sightings.f_hiccuped a none, f_size := va_up S.O_Sightings.f_size a 0 } }) := by
  rw [List.append_assoc, va_pl_push ha]
  exact congrArg (fun l => X ++ l) (va_pl_congr (wNw_O_Sightings cyI cyZ cyO945b4 cyOe3e36 cyObfd44 S a))
theorem wAt_O_War (cyI : ClassId) (cyZ : ClassId) (cyO945b4 : ClassId) (cyOe3e36 : ClassId) (cyObfd44 : ClassId) (S : wPS) {a : Nat} (h : S.K a = 6) : wPF cyI cyZ cyO945b4 cyOe3e36 cyObfd44 S a = .inr (6, [va_rf (S.O_War.f_hoursNeeded a)]) := by simp [wPF, h]
theorem wGt_O_War (cyI : ClassId) (cyZ : ClassId) (cyO945b4 : ClassId) (cyOe3e36 : ClassId) (cyObfd44 : ClassId) (X : va_W) (S : wPS) {a : Nat} (hL : a ∈ S.L) (h : S.K a = 6) : ∃ k : Nat, (X ++ va_pl S.L (wPF cyI cyZ cyO945b4 cyOe3e36 cyObfd44 S))[k]? = some (a, wPF cyI cyZ cyO945b4 cyOe3e36 cyObfd44 S a) ∧ (X ++ va_pl S.L (wPF cyI cyZ cyO945b4 cyOe3e36 cyObfd44 S))[k]? = some (a, .inr (6, [va_rf (S.O_War.f_hoursNeeded a)])) := by
  obtain ⟨k, hk⟩ := va_pl_get (X := X) (f := wPF cyI cyZ cyO945b4 cyOe3e36 cyObfd44 S) hL
  exact ⟨k, hk, hk.trans (congrArg (fun e => some (a, e)) (wAt_O_War cyI cyZ cyO945b4 cyOe3e36 cyObfd44 S h))⟩
theorem wSt_O_War_f_hoursNeeded (cyI : ClassId) (cyZ : ClassId) (cyO945b4 : ClassId) (cyOe3e36 : ClassId) (cyObfd44 : ClassId) (S : wPS) {a : Nat} (h : S.K a = 6) (v : Option Nat) (b : Nat) : va_up (wPF cyI cyZ cyO945b4 cyOe3e36 cyObfd44 S) a (.inr (6, [va_rf v])) b = wPF cyI cyZ cyO945b4 cyOe3e36 cyObfd44 { S with O_War := { f_hoursNeeded := va_up S.O_War.f_hoursNeeded a v } } b := by by_cases hb : b = a <;> first | (simp only [wPF, va_up_ne _ _ hb]; done) | (simp only [wPF, va_up, if_neg hb]; done) | simp [wPF, va_re, va_up, va_rf, hb, h]
theorem wPu_O_War_f_hoursNeeded (cyI : ClassId) (cyZ : ClassId) (cyO945b4 : ClassId) (cyOe3e36 : ClassId) (cyObfd44 : ClassId) (X : va_W) (S : wPS) {A : Nat → Prop} {a k : Nat} (hD : va_D A (X ++ va_pl S.L (wPF cyI cyZ cyO945b4 cyOe3e36 cyObfd44 S))) (hL : a ∈ S.L) (h : S.K a = 6) (hk : (X ++ va_pl S.L (wPF cyI cyZ cyO945b4 cyOe3e36 cyObfd44 S))[k]? = some (a, wPF cyI cyZ cyO945b4 cyOe3e36 cyObfd44 S a)) (v : Option Nat) : (X ++ va_pl S.L (wPF cyI cyZ cyO945b4 cyOe3e36 cyObfd44 S)).set k (a, .inr (6, [va_rf v])) = X ++ va_pl S.L (wPF cyI cyZ cyO945b4 cyOe3e36 cyObfd44 { S with O_War := { f_hoursNeeded := va_up S.O_War.f_hoursNeeded a v } }) := by
  rw [va_pl_set hD hL hk]
  exact congrArg (fun l => X ++ l) (va_pl_congr (wSt_O_War_f_hoursNeeded cyI cyZ cyO945b4 cyOe3e36 cyObfd44 S h v))
theorem wNw_O_War (cyI : ClassId) (cyZ : ClassId) (cyO945b4 : ClassId) (cyOe3e36 : ClassId) (cyObfd44 : ClassId) (S : wPS) (a b : Nat) : va_up (wPF cyI cyZ cyO945b4 cyOe3e36 cyObfd44 S) a (.inr (6, [.null])) b = wPF cyI cyZ cyO945b4 cyOe3e36 cyObfd44 { S with L := S.L ++ [a], K := va_up S.K a 6, O_War := { f_hoursNeeded := va_up S.O_War.f_hoursNeeded a none } } b := by by_cases hb : b = a <;> first | (simp only [wPF, va_up_ne _ _ hb]; done) | (simp only [wPF, va_up, if_neg hb]; done) | simp [wPF, va_re, va_up, va_rf, hb]
theorem wPn_O_War (cyI : ClassId) (cyZ : ClassId) (cyO945b4 : ClassId) (cyOe3e36 : ClassId) (cyObfd44 : ClassId) (X : va_W) (S : wPS) {a : Nat} (ha : a ∉ S.L) : (X ++ va_pl S.L (wPF cyI cyZ cyO945b4 cyOe3e36 cyObfd44 S)) ++ [(a, .inr (6, [.null]))] = X ++ va_pl (S.L ++ [a]) (wPF cyI cyZ cyO945b4 cyOe3e36 cyObfd44 { S with L := S.L ++ [a], K := va_up S.K a 6, O_War := { f_hoursNeeded := va_up S.O_War.f_hoursNeeded a none } }) := by
  rw [List.append_assoc, va_pl_push ha]
  exact congrArg (fun l => X ++ l) (va_pl_congr (wNw_O_War cyI cyZ cyO945b4 cyOe3e36 cyObfd44 S a))
theorem wAt_O_HiccupPeace (cyI : ClassId) (cyZ : ClassId) (cyO945b4 : ClassId) (cyOe3e36 : ClassId) (cyObfd44 : ClassId) (S : wPS) {a : Nat} (h : S.K a = 7) : wPF cyI cyZ cyO945b4 cyOe3e36 cyObfd44 S a = .inr (7, [va_rf (S.O_HiccupPeace.f_generals a), va_rf (S.O_HiccupPeace.f_days a), va_rf (S.O_HiccupPeace.f_sheets a), va_rf (S.O_HiccupPeace.f_rules a), va_rf (S.O_HiccupPeace.f_sightings a), va_rf (S.O_HiccupPeace.f_guess a), va_rf (S.O_HiccupPeace.f_planner a), va_rf (S.O_HiccupPeace.f_war a), .int (S.O_HiccupPeace.f_latestFinding a)]) := by simp [wPF, h]
theorem wGt_O_HiccupPeace (cyI : ClassId) (cyZ : ClassId) (cyO945b4 : ClassId) (cyOe3e36 : ClassId) (cyObfd44 : ClassId) (X : va_W) (S : wPS) {a : Nat} (hL : a ∈ S.L) (h : S.K a = 7) : ∃ k : Nat, (X ++ va_pl S.L (wPF cyI cyZ cyO945b4 cyOe3e36 cyObfd44 S))[k]? = some (a, wPF cyI cyZ cyO945b4 cyOe3e36 cyObfd44 S a) ∧ (X ++ va_pl S.L (wPF cyI cyZ cyO945b4 cyOe3e36 cyObfd44 S))[k]? = some (a, .inr (7, [va_rf (S.O_HiccupPeace.f_generals a), va_rf (S.O_HiccupPeace.f_days a), va_rf (S.O_HiccupPeace.f_sheets a), va_rf (S.O_HiccupPeace.f_rules a), va_rf (S.O_HiccupPeace.f_sightings a), va_rf (S.O_HiccupPeace.f_guess a), va_rf (S.O_HiccupPeace.f_planner a), va_rf (S.O_HiccupPeace.f_war a), .int (S.O_HiccupPeace.f_latestFinding a)])) := by
  obtain ⟨k, hk⟩ := va_pl_get (X := X) (f := wPF cyI cyZ cyO945b4 cyOe3e36 cyObfd44 S) hL
  exact ⟨k, hk, hk.trans (congrArg (fun e => some (a, e)) (wAt_O_HiccupPeace cyI cyZ cyO945b4 cyOe3e36 cyObfd44 S h))⟩
theorem wSt_O_HiccupPeace_f_generals (cyI : ClassId) (cyZ : ClassId) (cyO945b4 : ClassId) (cyOe3e36 : ClassId) (cyObfd44 : ClassId) (S : wPS) {a : Nat} (h : S.K a = 7) (v : Option Nat) (b : Nat) : va_up (wPF cyI cyZ cyO945b4 cyOe3e36 cyObfd44 S) a (.inr (7, [va_rf v, va_rf (S.O_HiccupPeace.f_days a), va_rf (S.O_HiccupPeace.f_sheets a), va_rf (S.O_HiccupPeace.f_rules a), va_rf (S.O_HiccupPeace.f_sightings a), va_rf (S.O_HiccupPeace.f_guess a), va_rf (S.O_HiccupPeace.f_planner a), va_rf (S.O_HiccupPeace.f_war a), .int (S.O_HiccupPeace.f_latestFinding a)])) b = wPF cyI cyZ cyO945b4 cyOe3e36 cyObfd44 { S with O_HiccupPeace := { S.O_HiccupPeace with f_generals := va_up S.O_HiccupPeace.f_generals a v } } b := by by_cases hb : b = a <;> first | (simp only [wPF, va_up_ne _ _ hb]; done) | (simp only [wPF, va_up, if_neg hb]; done) | simp [wPF, va_re, va_up, va_rf, hb, h]
theorem wPu_O_HiccupPeace_f_generals (cyI : ClassId) (cyZ : ClassId) (cyO945b4 : ClassId) (cyOe3e36 : ClassId) (cyObfd44 : ClassId) (X : va_W) (S : wPS) {A : Nat → Prop} {a k : Nat} (hD : va_D A (X ++ va_pl S.L (wPF cyI cyZ cyO945b4 cyOe3e36 cyObfd44 S))) (hL : a ∈ S.L) (h : S.K a = 7) (hk : (X ++ va_pl S.L (wPF cyI cyZ cyO945b4 cyOe3e36 cyObfd44 S))[k]? = some (a, wPF cyI cyZ cyO945b4 cyOe3e36 cyObfd44 S a)) (v : Option Nat) : (X ++ va_pl S.L (wPF cyI cyZ cyO945b4 cyOe3e36 cyObfd44 S)).set k (a, .inr (7, [va_rf v, va_rf (S.O_HiccupPeace.f_days a), va_rf (S.O_HiccupPeace.f_sheets a), va_rf (S.O_HiccupPeace.f_rules a), va_rf (S.O_HiccupPeace.f_sightings a), va_rf (S.O_HiccupPeace.f_guess a), va_rf (S.O_HiccupPeace.f_planner a), va_rf (S.O_HiccupPeace.f_war a), .int (S.O_HiccupPeace.f_latestFinding a)])) = X ++ va_pl S.L (wPF cyI cyZ cyO945b4 cyOe3e36 cyObfd44 { S with O_HiccupPeace := { S.O_HiccupPeace with f_generals := va_up S.O_HiccupPeace.f_generals a v } }) := by
  rw [va_pl_set hD hL hk]
  exact congrArg (fun l => X ++ l) (va_pl_congr (wSt_O_HiccupPeace_f_generals cyI cyZ cyO945b4 cyOe3e36 cyObfd44 S h v))
theorem wSt_O_HiccupPeace_f_days (cyI : ClassId) (cyZ : ClassId) (cyO945b4 : ClassId) (cyOe3e36 : ClassId) (cyObfd44 : ClassId) (S : wPS) {a : Nat} (h : S.K a = 7) (v : Option Nat) (b : Nat) : va_up (wPF cyI cyZ cyO945b4 cyOe3e36 cyObfd44 S) a (.inr (7, [va_rf (S.O_HiccupPeace.f_generals a), va_rf v, va_rf (S.O_HiccupPeace.f_sheets a), va_rf (S.O_HiccupPeace.f_rules a), va_rf (S.O_HiccupPeace.f_sightings a), va_rf (S.O_HiccupPeace.f_guess a), va_rf (S.O_HiccupPeace.f_planner a), va_rf (S.O_HiccupPeace.f_war a), .int (S.O_HiccupPeace.f_latestFinding a)])) b = wPF cyI cyZ cyO945b4 cyOe3e36 cyObfd44 { S with O_HiccupPeace := { S.O_HiccupPeace with f_days := va_up S.O_HiccupPeace.f_days a v } } b := by by_cases hb : b = a <;> first | (simp only [wPF, va_up_ne _ _ hb]; done) | (simp only [wPF, va_up, if_neg hb]; done) | simp [wPF, va_re, va_up, va_rf, hb, h]
theorem wPu_O_HiccupPeace_f_days (cyI : ClassId) (cyZ : ClassId) (cyO945b4 : ClassId) (cyOe3e36 : ClassId) (cyObfd44 : ClassId) (X : va_W) (S : wPS) {A : Nat → Prop} {a k : Nat} (hD : va_D A (X ++ va_pl S.L (wPF cyI cyZ cyO945b4 cyOe3e36 cyObfd44 S))) (hL : a ∈ S.L) (h : S.K a = 7) (hk : (X ++ va_pl S.L (wPF cyI cyZ cyO945b4 cyOe3e36 cyObfd44 S))[k]? = some (a, wPF cyI cyZ cyO945b4 cyOe3e36 cyObfd44 S a)) (v : Option Nat) : (X ++ va_pl S.L (wPF cyI cyZ cyO945b4 cyOe3e36 cyObfd44 S)).set k (a, .inr (7, [va_rf (S.O_HiccupPeace.f_generals a), va_rf v, va_rf (S.O_HiccupPeace.f_sheets a), va_rf (S.O_HiccupPeace.f_rules a), va_rf (S.O_HiccupPeace.f_sightings a), va_rf (S.O_HiccupPeace.f_guess a), va_rf (S.O_HiccupPeace.f_planner a), va_rf (S.O_HiccupPeace.f_war a), .int (S.O_HiccupPeace.f_latestFinding a)])) = X ++ va_pl S.L (wPF cyI cyZ cyO945b4 cyOe3e36 cyObfd44 { S with O_HiccupPeace := { S.O_HiccupPeace with f_days := va_up S.O_HiccupPeace.f_days a v } }) := by
  rw [va_pl_set hD hL hk]
  exact congrArg (fun l => X ++ l) (va_pl_congr (wSt_O_HiccupPeace_f_days cyI cyZ cyO945b4 cyOe3e36 cyObfd44 S h v))
theorem wSt_O_HiccupPeace_f_sheets (cyI : ClassId) (cyZ : ClassId) (cyO945b4 : ClassId) (cyOe3e36 : ClassId) (cyObfd44 : ClassId) (S : wPS) {a : Nat} (h : S.K a = 7) (v : Option Nat) (b : Nat) : va_up (wPF cyI cyZ cyO945b4 cyOe3e36 cyObfd44 S) a (.inr (7, [va_rf (S.O_HiccupPeace.f_generals a), va_rf (S.O_HiccupPeace.f_days a), va_rf v, va_rf (S.O_HiccupPeace.f_rules a), va_rf (S.O_HiccupPeace.f_sightings a), va_rf (S.O_HiccupPeace.f_guess a), va_rf (S.O_HiccupPeace.f_planner a), va_rf (S.O_HiccupPeace.f_war a), .int (S.O_HiccupPeace.f_latestFinding a)])) b = wPF cyI cyZ cyO945b4 cyOe3e36 cyObfd44 { S with O_HiccupPeace := { S.O_HiccupPeace with f_sheets := va_up S.O_HiccupPeace.f_sheets a v } } b := by by_cases hb : b = a <;> first | (simp only [wPF, va_up_ne _ _ hb]; done) | (simp only [wPF, va_up, if_neg hb]; done) | simp [wPF, va_re, va_up, va_rf, hb, h]
theorem wPu_O_HiccupPeace_f_sheets (cyI : ClassId) (cyZ : ClassId) (cyO945b4 : ClassId) (cyOe3e36 : ClassId) (cyObfd44 : ClassId) (X : va_W) (S : wPS) {A : Nat → Prop} {a k : Nat} (hD : va_D A (X ++ va_pl S.L (wPF cyI cyZ cyO945b4 cyOe3e36 cyObfd44 S))) (hL : a ∈ S.L) (h : S.K a = 7) (hk : (X ++ va_pl S.L (wPF cyI cyZ cyO945b4 cyOe3e36 cyObfd44 S))[k]? = some (a, wPF cyI cyZ cyO945b4 cyOe3e36 cyObfd44 S a)) (v : Option Nat) : (X ++ va_pl S.L (wPF cyI cyZ cyO945b4 cyOe3e36 cyObfd44 S)).set k (a, .inr (7, [va_rf (S.O_HiccupPeace.f_generals a), va_rf (S.O_HiccupPeace.f_days a), va_rf v, va_rf (S.O_HiccupPeace.f_rules a), va_rf (S.O_HiccupPeace.f_sightings a), va_rf (S.O_HiccupPeace.f_guess a), va_rf (S.O_HiccupPeace.f_planner a), va_rf (S.O_HiccupPeace.f_war a), .int (S.O_HiccupPeace.f_latestFinding a)])) = X ++ va_pl S.L (wPF cyI cyZ cyO945b4 cyOe3e36 cyObfd44 { S with O_HiccupPeace := { S.O_HiccupPeace with f_sheets := va_up S.O_HiccupPeace.f_sheets a v } }) := by
  rw [va_pl_set hD hL hk]
  exact congrArg (fun l => X ++ l) (va_pl_congr (wSt_O_HiccupPeace_f_sheets cyI cyZ cyO945b4 cyOe3e36 cyObfd44 S h v))
theorem wSt_O_HiccupPeace_f_rules (cyI : ClassId) (cyZ : ClassId) (cyO945b4 : ClassId) (cyOe3e36 : ClassId) (cyObfd44 : ClassId) (S : wPS) {a : Nat} (h : S.K a = 7) (v : Option Nat) (b : Nat) : va_up (wPF cyI cyZ cyO945b4 cyOe3e36 cyObfd44 S) a (.inr (7, [va_rf (S.O_HiccupPeace.f_generals a), va_rf (S.O_HiccupPeace.f_days a), va_rf (S.O_HiccupPeace.f_sheets a), va_rf v, va_rf (S.O_HiccupPeace.f_sightings a), va_rf (S.O_HiccupPeace.f_guess a), va_rf (S.O_HiccupPeace.f_planner a), va_rf (S.O_HiccupPeace.f_war a), .int (S.O_HiccupPeace.f_latestFinding a)])) b = wPF cyI cyZ cyO945b4 cyOe3e36 cyObfd44 { S with O_HiccupPeace := { S.O_HiccupPeace with f_rules := va_up S.O_HiccupPeace.f_rules a v } } b := by by_cases hb : b = a <;> first | (simp only [wPF, va_up_ne _ _ hb]; done) | (simp only [wPF, va_up, if_neg hb]; done) | simp [wPF, va_re, va_up, va_rf, hb, h]
theorem wPu_O_HiccupPeace_f_rules (cyI : ClassId) (cyZ : ClassId) (cyO945b4 : ClassId) (cyOe3e36 : ClassId) (cyObfd44 : ClassId) (X : va_W) (S : wPS) {A : Nat → Prop} {a k : Nat} (hD : va_D A (X ++ va_pl S.L (wPF cyI cyZ cyO945b4 cyOe3e36 cyObfd44 S))) (hL : a ∈ S.L) (h : S.K a = 7) (hk : (X ++ va_pl S.L (wPF cyI cyZ cyO945b4 cyOe3e36 cyObfd44 S))[k]? = some (a, wPF cyI cyZ cyO945b4 cyOe3e36 cyObfd44 S a)) (v : Option Nat) : (X ++ va_pl S.L (wPF cyI cyZ cyO945b4 cyOe3e36 cyObfd44 S)).set k (a, .inr (7, [va_rf (S.O_HiccupPeace.f_generals a), va_rf (S.O_HiccupPeace.f_days a), va_rf (S.O_HiccupPeace.f_sheets a), va_rf v, va_rf (S.O_HiccupPeace.f_sightings a), va_rf (S.O_HiccupPeace.f_guess a), va_rf (S.O_HiccupPeace.f_planner a), va_rf (S.O_HiccupPeace.f_war a), .int (S.O_HiccupPeace.f_latestFinding a)])) = X ++ va_pl S.L (wPF cyI cyZ cyO945b4 cyOe3e36 cyObfd44 { S with O_HiccupPeace := { S.O_HiccupPeace with f_rules := va_up S.O_HiccupPeace.f_rules a v } }) := by
  rw [va_pl_set hD hL hk]
  exact congrArg (fun l => X ++ l) (va_pl_congr (wSt_O_HiccupPeace_f_rules cyI cyZ cyO945b4 cyOe3e36 cyObfd44 S h v))
theorem wSt_O_HiccupPeace_f_sightings (cyI : ClassId) (cyZ : ClassId) (cyO945b4 : ClassId) (cyOe3e36 : ClassId) (cyObfd44 : ClassId) (S : wPS) {a : Nat} (h : S.K a = 7) (v : Option Nat) (b : Nat) : va_up (wPF cyI cyZ cyO945b4 cyOe3e36 cyObfd44 S) a (.inr (7, [va_rf (S.O_HiccupPeace.f_generals a), va_rf (S.O_HiccupPeace.f_days a), va_rf (S.O_HiccupPeace.f_sheets a), va_rf (S.O_HiccupPeace.f_rules a), va_rf v, va_rf (S.O_HiccupPeace.f_guess a), va_rf (S.O_HiccupPeace.f_planner a), va_rf (S.O_HiccupPeace.f_war a), .int (S.O_HiccupPeace.f_latestFinding a)])) b = wPF cyI cyZ cyO945b4 cyOe3e36 cyObfd44 { S with O_HiccupPeace := { S.O_HiccupPeace with f_sightings := va_up S.O_HiccupPeace.f_sightings a v } } b := by by_cases hb : b = a <;> first | (simp only [wPF, va_up_ne _ _ hb]; done) | (simp only [wPF, va_up, if_neg hb]; done) | simp [wPF, va_re, va_up, va_rf, hb, h]
theorem wPu_O_HiccupPeace_f_sightings (cyI : ClassId) (cyZ : ClassId) (cyO945b4 : ClassId) (cyOe3e36 : ClassId) (cyObfd44 : ClassId) (X : va_W) (S : wPS) {A : Nat → Prop} {a k : Nat} (hD : va_D A (X ++ va_pl S.L (wPF cyI cyZ cyO945b4 cyOe3e36 cyObfd44 S))) (hL : a ∈ S.L) (h : S.K a = 7) (hk : (X ++ va_pl S.L (wPF cyI cyZ cyO945b4 cyOe3e36 cyObfd44 S))[k]? = some (a, wPF cyI cyZ cyO945b4 cyOe3e36 cyObfd44 S a)) (v : Option Nat) : (X ++ va_pl S.L (wPF cyI cyZ cyO945b4 cyOe3e36 cyObfd44 S)).set k (a, .inr (7, [va_rf (S.O_HiccupPeace.f_generals a), va_rf (S.O_HiccupPeace.f_days a), va_rf (S.O_HiccupPeace.f_sheets a), va_rf (S.O_HiccupPeace.f_rules a), va_rf v, va_rf (S.O_HiccupPeace.f_guess a), va_rf (S.O_HiccupPeace.f_planner a), va_rf (S.O_HiccupPeace.f_war a), .int (S.O_HiccupPeace.f_latestFinding a)])) = X ++ va_pl S.L (wPF cyI cyZ cyO945b4 cyOe3e36 cyObfd44 { S with O_HiccupPeace := { S.O_HiccupPeace with f_sightings := va_up S.O_HiccupPeace.f_sightings a v } }) := by
  rw [va_pl_set hD hL hk]
  exact congrArg (fun l => X ++ l) (va_pl_congr (wSt_O_HiccupPeace_f_sightings cyI cyZ cyO945b4 cyOe3e36 cyObfd44 S h v))
theorem wSt_O_HiccupPeace_f_guess (cyI : ClassId) (cyZ : ClassId) (cyO945b4 : ClassId) (cyOe3e36 : ClassId) (cyObfd44 : ClassId) (S : wPS) {a : Nat} (h : S.K a = 7) (v : Option Nat) (b : Nat) : va_up (wPF cyI cyZ cyO945b4 cyOe3e36 cyObfd44 S) a (.inr (7, [va_rf (S.O_HiccupPeace.f_generals a), va_rf (S.O_HiccupPeace.f_days a), va_rf (S.O_HiccupPeace.f_sheets a), va_rf (S.O_HiccupPeace.f_rules a), va_rf (S.O_HiccupPeace.f_sightings a), va_rf v, va_rf (S.O_HiccupPeace.f_planner a), va_rf (S.O_HiccupPeace.f_war a), .int (S.O_HiccupPeace.f_latestFinding a)])) b = wPF cyI cyZ cyO945b4 cyOe3e36 cyObfd44 { S with O_HiccupPeace := { S.O_HiccupPeace with f_guess := va_up S.O_HiccupPeace.f_guess a v } } b := by by_cases hb : b = a <;> first | (simp only [wPF, va_up_ne _ _ hb]; done) | (simp only [wPF, va_up, if_neg hb]; done) | simp [wPF, va_re, va_up, va_rf, hb, h]
theorem wPu_O_HiccupPeace_f_guess (cyI : ClassId) (cyZ : ClassId) (cyO945b4 : ClassId) (cyOe3e36 : ClassId) (cyObfd44 : ClassId) (X : va_W) (S : wPS) {A : Nat → Prop} {a k : Nat} (hD : va_D A (X ++ va_pl S.L (wPF cyI cyZ cyO945b4 cyOe3e36 cyObfd44 S))) (hL : a ∈ S.L) (h : S.K a = 7) (hk : (X ++ va_pl S.L (wPF cyI cyZ cyO945b4 cyOe3e36 cyObfd44 S))[k]? = some (a, wPF cyI cyZ cyO945b4 cyOe3e36 cyObfd44 S a)) (v : Option Nat) : (X ++ va_pl S.L (wPF cyI cyZ cyO945b4 cyOe3e36 cyObfd44 S)).set k (a, .inr (7, [va_rf (S.O_HiccupPeace.f_generals a), va_rf (S.O_HiccupPeace.f_days a), va_rf (S.O_HiccupPeace.f_sheets a), va_rf (S.O_HiccupPeace.f_rules a), va_rf (S.O_HiccupPeace.f_sightings a), va_rf v, va_rf (S.O_HiccupPeace.f_planner a), va_rf (S.O_HiccupPeace.f_war a), .int (S.O_HiccupPeace.f_latestFinding a)])) = X ++ va_pl S.L (wPF cyI cyZ cyO945b4 cyOe3e36 cyObfd44 { S with O_HiccupPeace := { S.O_HiccupPeace with f_guess := va_up S.O_HiccupPeace.f_guess a v } }) := by
  rw [va_pl_set hD hL hk]
  exact congrArg (fun l => X ++ l) (va_pl_congr (wSt_O_HiccupPeace_f_guess cyI cyZ cyO945b4 cyOe3e36 cyObfd44 S h v))
theorem wSt_O_HiccupPeace_f_planner (cyI : ClassId) (cyZ : ClassId) (cyO945b4 : ClassId) (cyOe3e36 : ClassId) (cyObfd44 : ClassId) (S : wPS) {a : Nat} (h : S.K a = 7) (v : Option Nat) (b : Nat) : va_up (wPF cyI cyZ cyO945b4 cyOe3e36 cyObfd44 S) a (.inr (7, [va_rf (S.O_HiccupPeace.f_generals a), va_rf (S.O_HiccupPeace.f_days a), va_rf (S.O_HiccupPeace.f_sheets a), va_rf (S.O_HiccupPeace.f_rules a), va_rf (S.O_HiccupPeace.f_sightings a), va_rf (S.O_HiccupPeace.f_guess a), va_rf v, va_rf (S.O_HiccupPeace.f_war a), .int (S.O_HiccupPeace.f_latestFinding a)])) b = wPF cyI cyZ cyO945b4 cyOe3e36 cyObfd44 { S with O_HiccupPeace := { S.O_HiccupPeace with f_planner := va_up S.O_HiccupPeace.f_planner a v } } b := by by_cases hb : b = a <;> first | (simp only [wPF, va_up_ne _ _ hb]; done) | (simp only [wPF, va_up, if_neg hb]; done) | simp [wPF, va_re, va_up, va_rf, hb, h]
theorem wPu_O_HiccupPeace_f_planner (cyI : ClassId) (cyZ : ClassId) (cyO945b4 : ClassId) (cyOe3e36 : ClassId) (cyObfd44 : ClassId) (X : va_W) (S : wPS) {A : Nat → Prop} {a k : Nat} (hD : va_D A (X ++ va_pl S.L (wPF cyI cyZ cyO945b4 cyOe3e36 cyObfd44 S))) (hL : a ∈ S.L) (h : S.K a = 7) (hk : (X ++ va_pl S.L (wPF cyI cyZ cyO945b4 cyOe3e36 cyObfd44 S))[k]? = some (a, wPF cyI cyZ cyO945b4 cyOe3e36 cyObfd44 S a)) (v : Option Nat) : (X ++ va_pl S.L (wPF cyI cyZ cyO945b4 cyOe3e36 cyObfd44 S)).set k (a, .inr (7, [va_rf (S.O_HiccupPeace.f_generals a), va_rf (S.O_HiccupPeace.f_days a), va_rf (S.O_HiccupPeace.f_sheets a), va_rf (S.O_HiccupPeace.f_rules a), va_rf (S.O_HiccupPeace.f_sightings a), va_rf (S.O_HiccupPeace.f_guess a), va_rf v, va_rf (S.O_HiccupPeace.f_war a), .int (S.O_HiccupPeace.f_latestFinding a)])) = X ++ va_pl S.L (wPF cyI cyZ cyO945b4 cyOe3e36 cyObfd44 { S with O_HiccupPeace := { S.O_HiccupPeace with f_planner := va_up S.O_HiccupPeace.f_planner a v } }) := by
  rw [va_pl_set hD hL hk]
  exact congrArg (fun l => X ++ l) (va_pl_congr (wSt_O_HiccupPeace_f_planner cyI cyZ cyO945b4 cyOe3e36 cyObfd44 S h v))
theorem wSt_O_HiccupPeace_f_war (cyI : ClassId) (cyZ : ClassId) (cyO945b4 : ClassId) (cyOe3e36 : ClassId) (cyObfd44 : ClassId) (S : wPS) {a : Nat} (h : S.K a = 7) (v : Option Nat) (b : Nat) : va_up (wPF cyI cyZ cyO945b4 cyOe3e36 cyObfd44 S) a (.inr (7, [va_rf (S.O_HiccupPeace.f_generals a), va_rf (S.O_HiccupPeace.f_days a), va_rf (S.O_HiccupPeace.f_sheets a), va_rf (S.O_HiccupPeace.f_rules a), va_rf (S.O_HiccupPeace.f_sightings a), va_rf (S.O_HiccupPeace.f_guess a), va_rf (S.O_HiccupPeace.f_planner a), va_rf v, .int (S.O_HiccupPeace.f_latestFinding a)])) b = wPF cyI cyZ cyO945b4 cyOe3e36 cyObfd44 { S with O_HiccupPeace := { S.O_HiccupPeace with f_war := va_up S.O_HiccupPeace.f_war a v } } b := by by_cases hb : b = a <;> first | (simp only [wPF, va_up_ne _ _ hb]; done) | (simp only [wPF, va_up, if_neg hb]; done) | simp [wPF, va_re, va_up, va_rf, hb, h]
theorem wPu_O_HiccupPeace_f_war (cyI : ClassId) (cyZ : ClassId) (cyO945b4 : ClassId) (cyOe3e36 : ClassId) (cyObfd44 : ClassId) (X : va_W) (S : wPS) {A : Nat → Prop} {a k : Nat} (hD : va_D A (X ++ va_pl S.L (wPF cyI cyZ cyO945b4 cyOe3e36 cyObfd44 S))) (hL : a ∈ S.L) (h : S.K a = 7) (hk : (X ++ va_pl S.L (wPF cyI cyZ cyO945b4 cyOe3e36 cyObfd44 S))[k]? = some (a, wPF cyI cyZ cyO945b4 cyOe3e36 cyObfd44 S a)) (v : Option Nat) : (X ++ va_pl S.L (wPF cyI cyZ cyO945b4 cyOe3e36 cyObfd44 S)).set k (a, .inr (7, [va_rf (S.O_HiccupPeace.f_generals a), va_rf (S.O_HiccupPeace.f_days a), va_rf (S.O_HiccupPeace.f_sheets a), va_rf (S.O_HiccupPeace.f_rules a), va_rf (S.O_HiccupPeace.f_sightings a), va_rf (S.O_HiccupPeace.f_guess a), va_rf (S.O_HiccupPeace.f_planner a), va_rf v, .int (S.O_HiccupPeace.f_latestFinding a)])) = X ++ va_pl S.L (wPF cyI cyZ cyO945b4 cyOe3e36 cyObfd44 { S with O_HiccupPeace := { S.O_HiccupPeace with f_war := va_up S.O_HiccupPeace.f_war a v } }) := by
  rw [va_pl_set hD hL hk]
  exact congrArg (fun l => X ++ l) (va_pl_congr (wSt_O_HiccupPeace_f_war cyI cyZ cyO945b4 cyOe3e36 cyObfd44 S h v))
theorem wSt_O_HiccupPeace_f_latestFinding (cyI : ClassId) (cyZ : ClassId) (cyO945b4 : ClassId) (cyOe3e36 : ClassId) (cyObfd44 : ClassId) (S : wPS) {a : Nat} (h : S.K a = 7) (v : Int32) (b : Nat) : va_up (wPF cyI cyZ cyO945b4 cyOe3e36 cyObfd44 S) a (.inr (7, [va_rf (S.O_HiccupPeace.f_generals a), va_rf (S.O_HiccupPeace.f_days a), va_rf (S.O_HiccupPeace.f_sheets a), va_rf (S.O_HiccupPeace.f_rules a), va_rf (S.O_HiccupPeace.f_sightings a), va_rf (S.O_HiccupPeace.f_guess a), va_rf (S.O_HiccupPeace.f_planner a), va_rf (S.O_HiccupPeace.f_war a), .int v])) b = wPF cyI cyZ cyO945b4 cyOe3e36 cyObfd44 { S with O_HiccupPeace := { S.O_HiccupPeace with f_latestFinding := va_up S.O_HiccupPeace.f_latestFinding a v } } b := by by_cases hb : b = a <;> first | (simp only [wPF, va_up_ne _ _ hb]; done) | (simp only [wPF, va_up, if_neg hb]; done) | simp [wPF, va_re, va_up, va_rf, hb, h]
theorem wPu_O_HiccupPeace_f_latestFinding (cyI : ClassId) (cyZ : ClassId) (cyO945b4 : ClassId) (cyOe3e36 : ClassId) (cyObfd44 : ClassId) (X : va_W) (S : wPS) {A : Nat → Prop} {a k : Nat} (hD : va_D A (X ++ va_pl S.L (wPF cyI cyZ cyO945b4 cyOe3e36 cyObfd44 S))) (hL : a ∈ S.L) (h : S.K a = 7) (hk : (X ++ va_pl S.L (wPF cyI cyZ cyO945b4 cyOe3e36 cyObfd44 S))[k]? = some (a, wPF cyI cyZ cyO945b4 cyOe3e36 cyObfd44 S a)) (v : Int32) : (X ++ va_pl S.L (wPF cyI cyZ cyO945b4 cyOe3e36 cyObfd44 S)).set k (a, .inr (7, [va_rf (S.O_HiccupPeace.f_generals a), va_rf (S.O_HiccupPeace.f_days a), va_rf (S.O_HiccupPeace.f_sheets a), va_rf (S.O_HiccupPeace.f_rules a), va_rf (S.O_HiccupPeace.f_sightings a), va_rf (S.O_HiccupPeace.f_guess a), va_rf (S.O_HiccupPeace.f_planner a), va_rf (S.O_HiccupPeace.f_war a), .int v])) = X ++ va_pl S.L (wPF cyI cyZ cyO945b4 cyOe3e36 cyObfd44 { S with O_HiccupPeace := { S.O_HiccupPeace with f_latestFinding := va_up S.O_HiccupPeace.f_latestFinding a v } }) := by
  rw [va_pl_set hD hL hk]
  exact congrArg (fun l => X ++ l) (va_pl_congr (wSt_O_HiccupPeace_f_latestFinding cyI cyZ cyO945b4 cyOe3e36 cyObfd44 S h v))
theorem wNw_O_HiccupPeace (cyI : ClassId) (cyZ : ClassId) (cyO945b4 : ClassId) (cyOe3e36 : ClassId) (cyObfd44 : ClassId) (S : wPS) (a b : Nat) : va_up (wPF cyI cyZ cyO945b4 cyOe3e36 cyObfd44 S) a (.inr (7, [.null, .null, .null, .null, .null, .null, .null, .null, .int 0])) b = wPF cyI cyZ cyO945b4 cyOe3e36 cyObfd44 { S with L := S.L ++ [a], K := va_up S.K a 7, O_HiccupPeace := { f_generals := va_up S.O_HiccupPeace.f_generals a none, f_days := va_up S.O_HiccupPeace.f_days a none, f_sheets := va_up S.O_HiccupPeace.f_sheets a none, f_rules := va_up S.O_HiccupPeace.f_rules a none, f_sightings := va_up S.O_HiccupPeace.f_sightings a none, f_guess := va_up S.O_HiccupPeace.f_guess a none, f_planner := va_up S.O_HiccupPeace.f_planner a none, f_war := va_up S.O_HiccupPeace.f_war a none, f_latestFinding := va_up S.O_HiccupPeace.f_latestFinding a 0 } } b := by by_cases hb : b = a <;> first | (simp only [wPF, va_up_ne _ _ hb]; done) | (simp only [wPF, va_up, if_neg hb]; done) | simp [wPF, va_re, va_up, va_rf, hb]
theorem wPn_O_HiccupPeace (cyI : ClassId) (cyZ : ClassId) (cyO945b4 : ClassId) (cyOe3e36 : ClassId) (cyObfd44 : ClassId) (X : va_W) (S : wPS) {a : Nat} (ha : a ∉ S.L) : (X ++ va_pl S.L (wPF cyI cyZ cyO945b4 cyOe3e36 cyObfd44 S)) ++ [(a, .inr (7, [.null, .null, .null, .null, .null, .null, .null, .null, .int 0]))] = X ++ va_pl (S.L ++ [a]) (wPF cyI cyZ cyO945b4 cyOe3e36 cyObfd44 { S with L := S.L ++ [a], K := va_up S.K a 7, O_HiccupPeace := { f_generals := va_up S.O_HiccupPeace.f_generals a none, f_days := va_up S.O_HiccupPeace.f_days a none, f_sheets := va_up S.O_HiccupPeace.f_sheets a none, f_rules := va_up S.O_HiccupPeace.f_rules a none, f_sightings := va_up S.O_HiccupPeace.f_sightings a none, f_guess := va_up S.O_HiccupPeace.f_guess a none, f_planner := va_up S.O_HiccupPeace.f_planner a none, f_war := va_up S.O_HiccupPeace.f_war a none, f_latestFinding := va_up S.O_HiccupPeace.f_latestFinding a 0 } }) := by
  rw [List.append_assoc, va_pl_push ha]
  exact congrArg (fun l => X ++ l) (va_pl_congr (wNw_O_HiccupPeace cyI cyZ cyO945b4 cyOe3e36 cyObfd44 S a))
theorem wAt_O_HiccupPeaceModel (cyI : ClassId) (cyZ : ClassId) (cyO945b4 : ClassId) (cyOe3e36 : ClassId) (cyObfd44 : ClassId) (S : wPS) {a : Nat} (h : S.K a = 8) : wPF cyI cyZ cyO945b4 cyOe3e36 cyObfd44 S a = .inr (8, [va_rf (S.O_HiccupPeaceModel.f_typed a), va_rf (S.O_HiccupPeaceModel.f_texts a), va_rf (S.O_HiccupPeaceModel.f_calms a), va_rf (S.O_HiccupPeaceModel.f_deeds a), va_rf (S.O_HiccupPeaceModel.f_prices a), .int (S.O_HiccupPeaceModel.f_mark a), .int (S.O_HiccupPeaceModel.f_lawNow a), .int (S.O_HiccupPeaceModel.f_forbidden a), va_rf (S.O_HiccupPeaceModel.f_dishes a), va_rf (S.O_HiccupPeaceModel.f_levels a), va_rf (S.O_HiccupPeaceModel.f_bits a), va_rf (S.O_HiccupPeaceModel.f_costs a), va_rf (S.O_HiccupPeaceModel.f_can a), .int (S.O_HiccupPeaceModel.f_sights a), va_rf (S.O_HiccupPeaceModel.f_seenWho a), va_rf (S.O_HiccupPeaceModel.f_seenHour a), va_rf (S.O_HiccupPeaceModel.f_seenIs a), va_rf (S.O_HiccupPeaceModel.f_isThere a), va_rf (S.O_HiccupPeaceModel.f_forms a), va_rf (S.O_HiccupPeaceModel.f_sizes a), va_rf (S.O_HiccupPeaceModel.f_items a), va_rf (S.O_HiccupPeaceModel.f_moved a), .int (S.O_HiccupPeaceModel.f_finding a)]) := by simp [wPF, h]
theorem wGt_O_HiccupPeaceModel (cyI : ClassId) (cyZ : ClassId) (cyO945b4 : ClassId) (cyOe3e36 : ClassId) (cyObfd44 : ClassId) (X : va_W) (S : wPS) {a : Nat} (hL : a ∈ S.L) (h : S.K a = 8) : ∃ k : Nat, (X ++ va_pl S.L (wPF cyI cyZ cyO945b4 cyOe3e36 cyObfd44 S))[k]? = some (a, wPF cyI cyZ cyO945b4 cyOe3e36 cyObfd44 S a) ∧ (X ++ va_pl S.L (wPF cyI cyZ cyO945b4 cyOe3e36 cyObfd44 S))[k]? = some (a, .inr (8, [va_rf (S.O_HiccupPeaceModel.f_typed a), va_rf (S.O_HiccupPeaceModel.f_texts a), va_rf (S.O_HiccupPeaceModel.f_calms a), va_rf (S.O_HiccupPeaceModel.f_deeds a), va_rf (S.O_HiccupPeaceModel.f_prices a), .int (S.O_HiccupPeaceModel.f_mark a), .int (S.O_HiccupPeaceModel.f_lawNow a), .int (S.O_HiccupPeaceModel.f_forbidden a), va_rf (S.O_HiccupPeaceModel.f_dishes a), va_rf (S.O_HiccupPeaceModel.f_levels a), va_rf (S.O_HiccupPeaceModel.f_bits a), va_rf (S.O_HiccupPeaceModel.f_costs a), va_rf (S.O_HiccupPeaceModel.f_can a), .int (S.O_HiccupPeaceModel.f_sights a), va_rf (S.O_HiccupPeaceModel.f_seenWho a), va_rf (S.O_HiccupPeaceModel.f_seenHour a), va_rf (S.O_HiccupPeaceModel.f_seenIs a), va_rf (S.O_HiccupPeaceModel.f_isThere a), va_rf (S.O_HiccupPeaceModel.f_forms a), va_rf (S.O_HiccupPeaceModel.f_sizes a), va_rf (S.O_HiccupPeaceModel.f_items a), va_rf (S.O_HiccupPeaceModel.f_moved a), .int (S.O_HiccupPeaceModel.f_finding a)])) := by
  obtain ⟨k, hk⟩ := va_pl_get (X := X) (f := wPF cyI cyZ cyO945b4 cyOe3e36 cyObfd44 S) hL
  exact ⟨k, hk, hk.trans (congrArg (fun e => some (a, e)) (wAt_O_HiccupPeaceModel cyI cyZ cyO945b4 cyOe3e36 cyObfd44 S h))⟩
theorem wSt_O_HiccupPeaceModel_f_typed (cyI : ClassId) (cyZ : ClassId) (cyO945b4 : ClassId) (cyOe3e36 : ClassId) (cyObfd44 : ClassId) (S : wPS) {a : Nat} (h : S.K a = 8) (v : Option Nat) (b : Nat) : va_up (wPF cyI cyZ cyO945b4 cyOe3e36 cyObfd44 S) a (.inr (8, [va_rf v, va_rf (S.O_HiccupPeaceModel.f_texts a), va_rf (S.O_HiccupPeaceModel.f_calms a), va_rf (S.O_HiccupPeaceModel.f_deeds a), va_rf (S.O_HiccupPeaceModel.f_prices a), .int (S.O_HiccupPeaceModel.f_mark a), .int (S.O_HiccupPeaceModel.f_lawNow a), .int (S.O_HiccupPeaceModel.f_forbidden a), va_rf (S.O_HiccupPeaceModel.f_dishes a), va_rf (S.O_HiccupPeaceModel.f_levels a), va_rf (S.O_HiccupPeaceModel.f_bits a), va_rf (S.O_HiccupPeaceModel.f_costs a), va_rf (S.O_HiccupPeaceModel.f_can a), .int (S.O_HiccupPeaceModel.f_sights a), va_rf (S.O_HiccupPeaceModel.f_seenWho a), va_rf (S.O_HiccupPeaceModel.f_seenHour a), va_rf (S.O_HiccupPeaceModel.f_seenIs a), va_rf (S.O_HiccupPeaceModel.f_isThere a), va_rf (S.O_HiccupPeaceModel.f_forms a), va_rf (S.O_HiccupPeaceModel.f_sizes a), va_rf (S.O_HiccupPeaceModel.f_items a), va_rf (S.O_HiccupPeaceModel.f_moved a), .int (S.O_HiccupPeaceModel.f_finding a)])) b = wPF cyI cyZ cyO945b4 cyOe3e36 cyObfd44 { S with O_HiccupPeaceModel := { S.O_HiccupPeaceModel with f_typed := va_up S.O_HiccupPeaceModel.f_typed a v } } b := by by_cases hb : b = a <;> first | (simp only [wPF, va_up_ne _ _ hb]; done) | (simp only [wPF, va_up, if_neg hb]; done) | simp [wPF, va_re, va_up, va_rf, hb, h]
theorem wPu_O_HiccupPeaceModel_f_typed (cyI : ClassId) (cyZ : ClassId) (cyO945b4 : ClassId) (cyOe3e36 : ClassId) (cyObfd44 : ClassId) (X : va_W) (S : wPS) {A : Nat → Prop} {a k : Nat} (hD : va_D A (X ++ va_pl S.L (wPF cyI cyZ cyO945b4 cyOe3e36 cyObfd44 S))) (hL : a ∈ S.L) (h : S.K a = 8) (hk : (X ++ va_pl S.L (wPF cyI cyZ cyO945b4 cyOe3e36 cyObfd44 S))[k]? = some (a, wPF cyI cyZ cyO945b4 cyOe3e36 cyObfd44 S a)) (v : Option Nat) : (X ++ va_pl S.L (wPF cyI cyZ cyO945b4 cyOe3e36 cyObfd44 S)).set k (a, .inr (8, [va_rf v, va_rf (S.O_HiccupPeaceModel.f_texts a), va_rf (S.O_HiccupPeaceModel.f_calms a), va_rf (S.O_HiccupPeaceModel.f_deeds a), va_rf (S.O_HiccupPeaceModel.f_prices a), .int (S.O_HiccupPeaceModel.f_mark a), .int (S.O_HiccupPeaceModel.f_lawNow a), .int (S.O_HiccupPeaceModel.f_forbidden a), va_rf (S.O_HiccupPeaceModel.f_dishes a), va_rf (S.O_HiccupPeaceModel.f_levels a), va_rf (S.O_HiccupPeaceModel.f_bits a), va_rf (S.O_HiccupPeaceModel.f_costs a), va_rf (S.O_HiccupPeaceModel.f_can a), .int (S.O_HiccupPeaceModel.f_sights a), va_rf (S.O_HiccupPeaceModel.f_seenWho a), va_rf (S.O_HiccupPeaceModel.f_seenHour a), va_rf (S.O_HiccupPeaceModel.f_seenIs a), va_rf (S.O_HiccupPeaceModel.f_isThere a), va_rf (S.O_HiccupPeaceModel.f_forms a), va_rf (S.O_HiccupPeaceModel.f_sizes a), va_rf (S.O_HiccupPeaceModel.f_items a), va_rf (S.O_HiccupPeaceModel.f_moved a), .int (S.O_HiccupPeaceModel.f_finding a)])) = X ++ va_pl S.L (wPF cyI cyZ cyO945b4 cyOe3e36 cyObfd44 { S with O_HiccupPeaceModel := { S.O_HiccupPeaceModel with f_typed := va_up S.O_HiccupPeaceModel.f_typed a v } }) := by
  rw [va_pl_set hD hL hk]
  exact congrArg (fun l => X ++ l) (va_pl_congr (wSt_O_HiccupPeaceModel_f_typed cyI cyZ cyO945b4 cyOe3e36 cyObfd44 S h v))
theorem wSt_O_HiccupPeaceModel_f_texts (cyI : ClassId) (cyZ : ClassId) (cyO945b4 : ClassId) (cyOe3e36 : ClassId) (cyObfd44 : ClassId) (S : wPS) {a : Nat} (h : S.K a = 8) (v : Option Nat) (b : Nat) : va_up (wPF cyI cyZ cyO945b4 cyOe3e36 cyObfd44 S) a (.inr (8, [va_rf (S.O_HiccupPeaceModel.f_typed a), va_rf v, va_rf (S.O_HiccupPeaceModel.f_calms a), va_rf (S.O_HiccupPeaceModel.f_deeds a), va_rf (S.O_HiccupPeaceModel.f_prices a), .int (S.O_HiccupPeaceModel.f_mark a), .int (S.O_HiccupPeaceModel.f_lawNow a), .int (S.O_HiccupPeaceModel.f_forbidden a), va_rf (S.O_HiccupPeaceModel.f_dishes a), va_rf (S.O_HiccupPeaceModel.f_levels a), va_rf (S.O_HiccupPeaceModel.f_bits a), va_rf (S.O_HiccupPeaceModel.f_costs a), va_rf (S.O_HiccupPeaceModel.f_can a), .int (S.O_HiccupPeaceModel.f_sights a), va_rf (S.O_HiccupPeaceModel.f_seenWho a), va_rf (S.O_HiccupPeaceModel.f_seenHour a), va_rf (S.O_HiccupPeaceModel.f_seenIs a), va_rf (S.O_HiccupPeaceModel.f_isThere a), va_rf (S.O_HiccupPeaceModel.f_forms a), va_rf (S.O_HiccupPeaceModel.f_sizes a), va_rf (S.O_HiccupPeaceModel.f_items a), va_rf (S.O_HiccupPeaceModel.f_moved a), .int (S.O_HiccupPeaceModel.f_finding a)])) b = wPF cyI cyZ cyO945b4 cyOe3e36 cyObfd44 { S with O_HiccupPeaceModel := { S.O_HiccupPeaceModel with f_texts := va_up S.O_HiccupPeaceModel.f_texts a v } } b := by by_cases hb : b = a <;> first | (simp only [wPF, va_up_ne _ _ hb]; done) | (simp only [wPF, va_up, if_neg hb]; done) | simp [wPF, va_re, va_up, va_rf, hb, h]
theorem wPu_O_HiccupPeaceModel_f_texts (cyI : ClassId) (cyZ : ClassId) (cyO945b4 : ClassId) (cyOe3e36 : ClassId) (cyObfd44 : ClassId) (X : va_W) (S : wPS) {A : Nat → Prop} {a k : Nat} (hD : va_D A (X ++ va_pl S.L (wPF cyI cyZ cyO945b4 cyOe3e36 cyObfd44 S))) (hL : a ∈ S.L) (h : S.K a = 8) (hk : (X ++ va_pl S.L (wPF cyI cyZ cyO945b4 cyOe3e36 cyObfd44 S))[k]? = some (a, wPF cyI cyZ cyO945b4 cyOe3e36 cyObfd44 S a)) (v : Option Nat) : (X ++ va_pl S.L (wPF cyI cyZ cyO945b4 cyOe3e36 cyObfd44 S)).set k (a, .inr (8, [va_rf (S.O_HiccupPeaceModel.f_typed a), va_rf v, va_rf (S.O_HiccupPeaceModel.f_calms a), va_rf (S.O_HiccupPeaceModel.f_deeds a), va_rf (S.O_HiccupPeaceModel.f_prices a), .int (S.O_HiccupPeaceModel.f_mark a), .int (S.O_HiccupPeaceModel.f_lawNow a), .int (S.O_HiccupPeaceModel.f_forbidden a), va_rf (S.O_HiccupPeaceModel.f_dishes a), va_rf (S.O_HiccupPeaceModel.f_levels a), va_rf (S.O_HiccupPeaceModel.f_bits a), va_rf (S.O_HiccupPeaceModel.f_costs a), va_rf (S.O_HiccupPeaceModel.f_can a), .int (S.O_HiccupPeaceModel.f_sights a), va_rf (S.O_HiccupPeaceModel.f_seenWho a), va_rf (S.O_HiccupPeaceModel.f_seenHour a), va_rf (S.O_HiccupPeaceModel.f_seenIs a), va_rf (S.O_HiccupPeaceModel.f_isThere a), va_rf (S.O_HiccupPeaceModel.f_forms a), va_rf (S.O_HiccupPeaceModel.f_sizes a), va_rf (S.O_HiccupPeaceModel.f_items a), va_rf (S.O_HiccupPeaceModel.f_moved a), .int (S.O_HiccupPeaceModel.f_finding a)])) = X ++ va_pl S.L (wPF cyI cyZ cyO945b4 cyOe3e36 cyObfd44 { S with O_HiccupPeaceModel := { S.O_HiccupPeaceModel with f_texts := va_up S.O_HiccupPeaceModel.f_texts a v } }) := by
  rw [va_pl_set hD hL hk]
  exact congrArg (fun l => X ++ l) (va_pl_congr (wSt_O_HiccupPeaceModel_f_texts cyI cyZ cyO945b4 cyOe3e36 cyObfd44 S h v))
theorem wSt_O_HiccupPeaceModel_f_calms (cyI : ClassId) (cyZ : ClassId) (cyO945b4 : ClassId) (cyOe3e36 : ClassId) (cyObfd44 : ClassId) (S : wPS) {a : Nat} (h : S.K a = 8) (v : Option Nat) (b : Nat) : va_up (wPF cyI cyZ cyO945b4 cyOe3e36 cyObfd44 S) a (.inr (8, [va_rf (S.O_HiccupPeaceModel.f_typed a), va_rf (S.O_HiccupPeaceModel.f_texts a), va_rf v, va_rf (S.O_HiccupPeaceModel.f_deeds a), va_rf (S.O_HiccupPeaceModel.f_prices a), .int (S.O_HiccupPeaceModel.f_mark a), .int (S.O_HiccupPeaceModel.f_lawNow a), .int (S.O_HiccupPeaceModel.f_forbidden a), va_rf (S.O_HiccupPeaceModel.f_dishes a), va_rf (S.O_HiccupPeaceModel.f_levels a), va_rf (S.O_HiccupPeaceModel.f_bits a), va_rf (S.O_HiccupPeaceModel.f_costs a), va_rf (S.O_HiccupPeaceModel.f_can a), .int (S.O_HiccupPeaceModel.f_sights a), va_rf (S.O_HiccupPeaceModel.f_seenWho a), va_rf (S.O_HiccupPeaceModel.f_seenHour a), va_rf (S.O_HiccupPeaceModel.f_seenIs a), va_rf (S.O_HiccupPeaceModel.f_isThere a), va_rf (S.O_HiccupPeaceModel.f_forms a), va_rf (S.O_HiccupPeaceModel.f_sizes a), va_rf (S.O_HiccupPeaceModel.f_items a), va_rf (S.O_HiccupPeaceModel.f_moved a), .int (S.O_HiccupPeaceModel.f_finding a)])) b = wPF cyI cyZ cyO945b4 cyOe3e36 cyObfd44 { S with O_HiccupPeaceModel := { S.O_HiccupPeaceModel with f_calms := va_up S.O_HiccupPeaceModel.f_calms a v } } b := by by_cases hb : b = a <;> first | (simp only [wPF, va_up_ne _ _ hb]; done) | (simp only [wPF, va_up, if_neg hb]; done) | simp [wPF, va_re, va_up, va_rf, hb, h]
theorem wPu_O_HiccupPeaceModel_f_calms (cyI : ClassId) (cyZ : ClassId) (cyO945b4 : ClassId) (cyOe3e36 : ClassId) (cyObfd44 : ClassId) (X : va_W) (S : wPS) {A : Nat → Prop} {a k : Nat} (hD : va_D A (X ++ va_pl S.L (wPF cyI cyZ cyO945b4 cyOe3e36 cyObfd44 S))) (hL : a ∈ S.L) (h : S.K a = 8) (hk : (X ++ va_pl S.L (wPF cyI cyZ cyO945b4 cyOe3e36 cyObfd44 S))[k]? = some (a, wPF cyI cyZ cyO945b4 cyOe3e36 cyObfd44 S a)) (v : Option Nat) : (X ++ va_pl S.L (wPF cyI cyZ cyO945b4 cyOe3e36 cyObfd44 S)).set k (a, .inr (8, [va_rf (S.O_HiccupPeaceModel.f_typed a), va_rf (S.O_HiccupPeaceModel.f_texts a), va_rf v, va_rf (S.O_HiccupPeaceModel.f_deeds a), va_rf (S.O_HiccupPeaceModel.f_prices a), .int (S.O_HiccupPeaceModel.f_mark a), .int (S.O_HiccupPeaceModel.f_lawNow a), .int (S.O_HiccupPeaceModel.f_forbidden a), va_rf (S.O_HiccupPeaceModel.f_dishes a), va_rf (S.O_HiccupPeaceModel.f_levels a), va_rf (S.O_HiccupPeaceModel.f_bits a), va_rf (S.O_HiccupPeaceModel.f_costs a), va_rf (S.O_HiccupPeaceModel.f_can a), .int (S.O_HiccupPeaceModel.f_sights a), va_rf (S.O_HiccupPeaceModel.f_seenWho a), va_rf (S.O_HiccupPeaceModel.f_seenHour a), va_rf (S.O_HiccupPeaceModel.f_seenIs a), va_rf (S.O_HiccupPeaceModel.f_isThere a), va_rf (S.O_HiccupPeaceModel.f_forms a), va_rf (S.O_HiccupPeaceModel.f_sizes a), va_rf (S.O_HiccupPeaceModel.f_items a), va_rf (S.O_HiccupPeaceModel.f_moved a), .int (S.O_HiccupPeaceModel.f_finding a)])) = X ++ va_pl S.L (wPF cyI cyZ cyO945b4 cyOe3e36 cyObfd44 { S with O_HiccupPeaceModel := { S.O_HiccupPeaceModel with f_calms := va_up S.O_HiccupPeaceModel.f_calms a v } }) := by
  rw [va_pl_set hD hL hk]
  exact congrArg (fun l => X ++ l) (va_pl_congr (wSt_O_HiccupPeaceModel_f_calms cyI cyZ cyO945b4 cyOe3e36 cyObfd44 S h v))
theorem wSt_O_HiccupPeaceModel_f_deeds (cyI : ClassId) (cyZ : ClassId) (cyO945b4 : ClassId) (cyOe3e36 : ClassId) (cyObfd44 : ClassId) (S : wPS) {a : Nat} (h : S.K a = 8) (v : Option Nat) (b : Nat) : va_up (wPF cyI cyZ cyO945b4 cyOe3e36 cyObfd44 S) a (.inr (8, [va_rf (S.O_HiccupPeaceModel.f_typed a), va_rf (S.O_HiccupPeaceModel.f_texts a), va_rf (S.O_HiccupPeaceModel.f_calms a), va_rf v, va_rf (S.O_HiccupPeaceModel.f_prices a), .int (S.O_HiccupPeaceModel.f_mark a), .int (S.O_HiccupPeaceModel.f_lawNow a), .int (S.O_HiccupPeaceModel.f_forbidden a), va_rf (S.O_HiccupPeaceModel.f_dishes a), va_rf (S.O_HiccupPeaceModel.f_levels a), va_rf (S.O_HiccupPeaceModel.f_bits a), va_rf (S.O_HiccupPeaceModel.f_costs a), va_rf (S.O_HiccupPeaceModel.f_can a), .int (S.O_HiccupPeaceModel.f_sights a), va_rf (S.O_HiccupPeaceModel.f_seenWho a), va_rf (S.O_HiccupPeaceModel.f_seenHour a), va_rf (S.O_HiccupPeaceModel.f_seenIs a), va_rf (S.O_HiccupPeaceModel.f_isThere a), va_rf (S.O_HiccupPeaceModel.f_forms a), va_rf (S.O_HiccupPeaceModel.f_sizes a), va_rf (S.O_HiccupPeaceModel.f_items a), va_rf (S.O_HiccupPeaceModel.f_moved a), .int (S.O_HiccupPeaceModel.f_finding a)])) b = wPF cyI cyZ cyO945b4 cyOe3e36 cyObfd44 { S with O_HiccupPeaceModel := { S.O_HiccupPeaceModel with f_deeds := va_up S.O_HiccupPeaceModel.f_deeds a v } } b := by by_cases hb : b = a <;> first | (simp only [wPF, va_up_ne _ _ hb]; done) | (simp only [wPF, va_up, if_neg hb]; done) | simp [wPF, va_re, va_up, va_rf, hb, h]
theorem wPu_O_HiccupPeaceModel_f_deeds (cyI : ClassId) (cyZ : ClassId) (cyO945b4 : ClassId) (cyOe3e36 : ClassId) (cyObfd44 : ClassId) (X : va_W) (S : wPS) {A : Nat → Prop} {a k : Nat} (hD : va_D A (X ++ va_pl S.L (wPF cyI cyZ cyO945b4 cyOe3e36 cyObfd44 S))) (hL : a ∈ S.L) (h : S.K a = 8) (hk : (X ++ va_pl S.L (wPF cyI cyZ cyO945b4 cyOe3e36 cyObfd44 S))[k]? = some (a, wPF cyI cyZ cyO945b4 cyOe3e36 cyObfd44 S a)) (v : Option Nat) : (X ++ va_pl S.L (wPF cyI cyZ cyO945b4 cyOe3e36 cyObfd44 S)).set k (a, .inr (8, [va_rf (S.O_HiccupPeaceModel.f_typed a), va_rf (S.O_HiccupPeaceModel.f_texts a), va_rf (S.O_HiccupPeaceModel.f_calms a), va_rf v, va_rf (S.O_HiccupPeaceModel.f_prices a), .int (S.O_HiccupPeaceModel.f_mark a), .int (S.O_HiccupPeaceModel.f_lawNow a), .int (S.O_HiccupPeaceModel.f_forbidden a), va_rf (S.O_HiccupPeaceModel.f_dishes a), va_rf (S.O_HiccupPeaceModel.f_levels a), va_rf (S.O_HiccupPeaceModel.f_bits a), va_rf (S.O_HiccupPeaceModel.f_costs a), va_rf (S.O_HiccupPeaceModel.f_can a), .int (S.O_HiccupPeaceModel.f_sights a), va_rf (S.O_HiccupPeaceModel.f_seenWho a), va_rf (S.O_HiccupPeaceModel.f_seenHour a), va_rf (S.O_HiccupPeaceModel.f_seenIs a), va_rf (S.O_HiccupPeaceModel.f_isThere a), va_rf (S.O_HiccupPeaceModel.f_forms a), va_rf (S.O_HiccupPeaceModel.f_sizes a), va_rf (S.O_HiccupPeaceModel.f_items a), va_rf (S.O_HiccupPeaceModel.f_moved a), .int (S.O_HiccupPeaceModel.f_finding a)])) = X ++ va_pl S.L (wPF cyI cyZ cyO945b4 cyOe3e36 cyObfd44 { S with O_HiccupPeaceModel := { S.O_HiccupPeaceModel with f_deeds := va_up S.O_HiccupPeaceModel.f_deeds a v } }) := by
  rw [va_pl_set hD hL hk]
  exact congrArg (fun l => X ++ l) (va_pl_congr (wSt_O_HiccupPeaceModel_f_deeds cyI cyZ cyO945b4 cyOe3e36 cyObfd44 S h v))
