set_option maxRecDepth 20000 in
theorem ggL_law_X7_read : GoodIn wsL_law wsX7_read := goodIn_r _ [240, 17, 241, 13, 242, 243, 2, 244, 118, 119, 120, 115, 116, 117, 245, 246, 247, 248, 37, 249, 250, 251, 39, 252, 253, 254, 255, 256, 257, 77, 78, 258, 76, 194, 195, 797, 798, 799, 800, 801, 802, 803, 804, 805, 848, 849, 850, 851, 844, 845, 846, 847] (by decide +kernel) (by decide +kernel)
set_option maxRecDepth 20000 in
theorem gL_law_X7_read : GoodIn wsL_law (wsV RL 47 RX7 yX7_read wsX7_read) := goodIn_app (goodIn_of _ (by decide +kernel)) ggL_law_X7_read
set_option maxRecDepth 20000 in
theorem ggL_law_X8_read : GoodIn wsL_law wsX8_read := goodIn_r _ [262, 105, 107, 108, 92, 91, 263, 264, 5, 265, 136, 137, 138, 133, 134, 135, 266, 267, 268, 269, 270, 200, 201, 202, 271, 272, 273, 806, 807, 808, 809, 810, 811, 812, 813, 814, 815, 816, 817, 818, 819, 820, 821, 822, 823, 824, 825, 826, 827, 828] (by decide +kernel) (by decide +kernel)
set_option maxRecDepth 20000 in
theorem gL_law_X8_read : GoodIn wsL_law (wsV RL 50 RX8 yX8_read wsX8_read) := goodIn_app (goodIn_of _ (by decide +kernel)) ggL_law_X8_read
set_option maxRecDepth 20000 in
theorem ggL_law_X7_dish : GoodIn wsL_law wsX7_dish := goodIn_r _ [277, 278, 115, 116, 2, 117, 118, 119, 120, 279, 280, 281, 282, 283, 284, 285, 15, 13, 21, 286, 287, 288, 27, 289, 61, 290, 63, 291, 292, 293, 39, 294, 78, 77, 295, 296, 297, 298, 76, 299, 300, 301, 302, 62, 303, 304, 305, 20, 306, 46, 838, 839, 840, 797, 798, 799, 800, 801, 802, 803, 804, 805, 844, 845, 846, 847, 829, 830, 831, 832, 833] (by decide +kernel) (by decide +kernel)
set_option maxRecDepth 20000 in
theorem gL_law_X7_dish : GoodIn wsL_law (wsV RL 51 RX7 yX7_dish wsX7_dish) := goodIn_app (goodIn_of _ (by decide +kernel)) ggL_law_X7_dish
set_option maxRecDepth 20000 in
theorem ggL_law_X8_dish : GoodIn wsL_law wsX8_dish := goodIn_r _ [310, 133, 134, 5, 135, 136, 137, 138, 311, 312, 313, 314, 315, 316, 317, 96, 318, 319, 320, 321, 322, 323, 324, 325, 93, 98, 92, 97, 326, 327, 328, 329, 91, 160, 161, 162, 163, 164, 165, 166, 330, 331, 332, 333, 94, 334, 335, 336, 337, 110, 806, 807, 808, 809, 810, 811, 812, 813, 814, 815, 816, 817, 818, 819, 820, 821, 822, 823, 824, 825, 826, 827, 828] (by decide +kernel) (by decide +kernel)
set_option maxRecDepth 20000 in
theorem gL_law_X8_dish : GoodIn wsL_law (wsV RL 54 RX8 yX8_dish wsX8_dish) := goodIn_app (goodIn_of _ (by decide +kernel)) ggL_law_X8_dish
set_option maxRecDepth 20000 in
theorem ggL_law_X7_level : GoodIn wsL_law wsX7_level := goodIn_r _ [341, 342, 115, 116, 2, 117, 118, 119, 120, 279, 280, 281, 282, 283, 284, 285, 15, 13, 21, 286, 287, 288, 27, 289, 61, 290, 63, 291, 292, 293, 39, 294, 78, 77, 295, 296, 297, 298, 76, 299, 300, 301, 302, 62, 303, 304, 305, 20, 306, 46, 838, 839, 840, 797, 798, 799, 800, 801, 802, 803, 804, 805, 844, 845, 846, 847, 829, 830, 831, 832, 833] (by decide +kernel) (by decide +kernel)
set_option maxRecDepth 20000 in
theorem gL_law_X7_level : GoodIn wsL_law (wsV RL 55 RX7 yX7_level wsX7_level) := goodIn_app (goodIn_of _ (by decide +kernel)) ggL_law_X7_level
set_option maxRecDepth 20000 in
theorem ggL_law_X8_level : GoodIn wsL_law wsX8_level := goodIn_r _ [346, 133, 134, 5, 135, 136, 137, 138, 311, 312, 313, 347, 348, 349, 350, 97, 318, 319, 320, 321, 322, 323, 324, 325, 93, 98, 92, 96, 326, 327, 328, 329, 91, 160, 161, 162, 163, 164, 165, 166, 330, 331, 332, 333, 94, 334, 335, 336, 337, 110, 806, 807, 808, 809, 810, 811, 812, 813, 814, 815, 816, 817, 818, 819, 820, 821, 822, 823, 824, 825, 826, 827, 828] (by decide +kernel) (by decide +kernel)
set_option maxRecDepth 20000 in
theorem gL_law_X8_level : GoodIn wsL_law (wsV RL 58 RX8 yX8_level wsX8_level) := goodIn_app (goodIn_of _ (by decide +kernel)) ggL_law_X8_level
set_option maxRecDepth 20000 in
theorem ggL_law_X7_hiccups : GoodIn wsL_law wsX7_hiccups := goodIn_r _ [354, 115, 116, 2, 117, 118, 119, 120, 355, 356, 357, 358, 21, 282, 283, 284, 285, 15, 13, 286, 287, 288, 27, 289, 61, 290, 63, 291, 292, 293, 39, 294, 78, 77, 295, 296, 297, 298, 76, 299, 300, 301, 302, 62, 303, 304, 305, 20, 306, 46, 359, 360, 361, 362, 363, 364, 365, 366, 48, 797, 798, 799, 800, 801, 802, 803, 804, 805, 838, 839, 840, 844, 845, 846, 847, 829, 830, 831, 832, 833] (by decide +kernel) (by decide +kernel)
set_option maxRecDepth 20000 in
theorem gL_law_X7_hiccups : GoodIn wsL_law (wsV RL 59 RX7 yX7_hiccups wsX7_hiccups) := goodIn_app (goodIn_of _ (by decide +kernel)) ggL_law_X7_hiccups
set_option maxRecDepth 20000 in
theorem ggL_law_X8_hiccups : GoodIn wsL_law wsX8_hiccups := goodIn_r _ [370, 133, 134, 5, 135, 136, 137, 138, 371, 372, 373, 374, 98, 318, 319, 320, 321, 322, 323, 324, 325, 93, 92, 96, 97, 326, 327, 328, 329, 91, 160, 161, 162, 163, 164, 165, 166, 330, 331, 332, 333, 94, 334, 335, 336, 337, 110, 806, 807, 808, 809, 810, 811, 812, 813, 814, 815, 816, 817, 818, 819, 820, 821, 822, 823, 824, 825, 826, 827, 828] (by decide +kernel) (by decide +kernel)
set_option maxRecDepth 20000 in
theorem gL_law_X8_hiccups : GoodIn wsL_law (wsV RL 62 RX8 yX8_hiccups wsX8_hiccups) := goodIn_app (goodIn_of _ (by decide +kernel)) ggL_law_X8_hiccups
set_option maxRecDepth 20000 in
theorem ggL_law_X7_broken : GoodIn wsL_law wsX7_broken := goodIn_r _ [378, 118, 119, 2, 120, 379, 380, 381, 382, 355, 356, 357, 358, 21, 282, 283, 284, 285, 15, 13, 286, 287, 288, 27, 289, 61, 290, 63, 291, 292, 293, 39, 294, 78, 77, 295, 296, 297, 298, 76, 299, 300, 301, 302, 62, 303, 304, 305, 20, 306, 46, 359, 360, 361, 362, 363, 364, 365, 366, 48, 797, 798, 799, 800, 801, 802, 803, 804, 805, 838, 839, 840, 844, 845, 846, 847, 829, 830, 831, 832, 833] (by decide +kernel) (by decide +kernel)
set_option maxRecDepth 20000 in
theorem gL_law_X7_broken : GoodIn wsL_law (wsV RL 63 RX7 yX7_broken wsX7_broken) := goodIn_app (goodIn_of _ (by decide +kernel)) ggL_law_X7_broken
set_option maxRecDepth 20000 in
theorem ggL_law_X8_broken : GoodIn wsL_law wsX8_broken := goodIn_r _ [386, 136, 137, 5, 138, 387, 388, 389, 390, 98, 391, 318, 319, 320, 321, 322, 323, 324, 325, 93, 92, 96, 97, 326, 327, 328, 329, 91, 160, 161, 162, 163, 164, 165, 166, 330, 331, 332, 333, 94, 334, 335, 336, 337, 110, 806, 807, 808, 809, 810, 811, 812, 813, 814, 815, 816, 817, 818, 819, 820, 821, 822, 823, 824, 825, 826, 827, 828] (by decide +kernel) (by decide +kernel)
set_option maxRecDepth 20000 in
theorem gL_law_X8_broken : GoodIn wsL_law (wsV RL 66 RX8 yX8_broken wsX8_broken) := goodIn_app (goodIn_of _ (by decide +kernel)) ggL_law_X8_broken
set_option maxRecDepth 20000 in
theorem ggL_law_X7_judged : GoodIn wsL_law wsX7_judged := goodIn_r _ [395, 21, 216, 379, 380, 381, 2, 382, 355, 356, 357, 358, 282, 283, 284, 285, 15, 13, 286, 287, 288, 27, 289, 61, 290, 63, 291, 292, 293, 39, 294, 78, 77, 295, 296, 297, 298, 76, 299, 300, 301, 302, 62, 303, 304, 305, 20, 306, 46, 359, 360, 361, 362, 363, 364, 365, 366, 48, 396, 397, 398, 797, 798, 799, 800, 801, 802, 803, 804, 805, 829, 830, 831, 832, 833, 838, 839, 840, 844, 845, 846, 847] (by decide +kernel) (by decide +kernel)
set_option maxRecDepth 20000 in
theorem gL_law_X7_judged : GoodIn wsL_law (wsV RL 67 RX7 yX7_judged wsX7_judged) := goodIn_app (goodIn_of _ (by decide +kernel)) ggL_law_X7_judged
set_option maxRecDepth 20000 in
theorem ggL_law_X8_judged : GoodIn wsL_law wsX8_judged := goodIn_r _ [402, 403, 404, 405, 5, 406, 226, 387, 388, 389, 390, 98, 391, 318, 319, 320, 321, 322, 323, 324, 325, 93, 92, 96, 97, 326, 327, 328, 329, 91, 160, 161, 162, 163, 164, 165, 166, 136, 137, 138, 330, 331, 332, 333, 94, 334, 335, 336, 337, 110, 407, 408, 409, 806, 807, 808, 809, 810, 811, 812, 813, 814, 815, 816, 817, 818, 819, 820, 821, 822, 823, 824, 825, 826, 827, 828] (by decide +kernel) (by decide +kernel)
set_option maxRecDepth 20000 in
theorem gL_law_X8_judged : GoodIn wsL_law (wsV RL 71 RX8 yX8_judged wsX8_judged) := goodIn_app (goodIn_of _ (by decide +kernel)) ggL_law_X8_judged
set_option maxRecDepth 20000 in
theorem ggL_law_X7_armistice : GoodIn wsL_law wsX7_armistice := goodIn_r _ [413, 21, 216, 118, 119, 2, 120, 379, 380, 381, 382, 355, 356, 357, 358, 282, 283, 284, 285, 15, 13, 286, 287, 288, 27, 289, 61, 290, 63, 291, 292, 293, 39, 294, 78, 77, 295, 296, 297, 298, 76, 299, 300, 301, 302, 62, 303, 304, 305, 20, 306, 46, 359, 360, 361, 362, 363, 364, 365, 366, 48, 396, 397, 398, 797, 798, 799, 800, 801, 802, 803, 804, 805, 829, 830, 831, 832, 833, 838, 839, 840, 844, 845, 846, 847] (by decide +kernel) (by decide +kernel)
set_option maxRecDepth 20000 in
theorem gL_law_X7_armistice : GoodIn wsL_law (wsV RL 72 RX7 yX7_armistice wsX7_armistice) := goodIn_app (goodIn_of _ (by decide +kernel)) ggL_law_X7_armistice
set_option maxRecDepth 20000 in
theorem ggL_law_X8_armistice : GoodIn wsL_law wsX8_armistice := goodIn_r _ [417, 136, 137, 5, 138, 418, 419, 420, 421, 226, 387, 388, 389, 390, 98, 391, 318, 319, 320, 321, 322, 323, 324, 325, 93, 92, 96, 97, 326, 327, 328, 329, 91, 160, 161, 162, 163, 164, 165, 166, 330, 331, 332, 333, 94, 334, 335, 336, 337, 110, 407, 408, 409, 806, 807, 808, 809, 810, 811, 812, 813, 814, 815, 816, 817, 818, 819, 820, 821, 822, 823, 824, 825, 826, 827, 828] (by decide +kernel) (by decide +kernel)
set_option maxRecDepth 20000 in
theorem gL_law_X8_armistice : GoodIn wsL_law (wsV RL 75 RX8 yX8_armistice wsX8_armistice) := goodIn_app (goodIn_of _ (by decide +kernel)) ggL_law_X8_armistice
set_option maxRecDepth 20000 in
theorem ggL_law_X7_led : GoodIn wsL_law wsX7_led := goodIn_r _ [425, 21, 342, 278, 211, 115, 116, 2, 117, 118, 119, 120, 279, 280, 281, 282, 283, 284, 285, 15, 13, 286, 287, 288, 27, 289, 61, 290, 63, 291, 292, 293, 39, 294, 78, 77, 295, 296, 297, 298, 76, 299, 300, 301, 302, 62, 303, 304, 305, 20, 306, 46, 426, 364, 365, 366, 48, 427, 428, 429, 430, 797, 798, 799, 800, 801, 802, 803, 804, 805, 838, 839, 840, 829, 830, 831, 832, 833, 844, 845, 846, 847] (by decide +kernel) (by decide +kernel)
set_option maxRecDepth 20000 in
theorem gL_law_X7_led : GoodIn wsL_law (wsV RL 76 RX7 yX7_led wsX7_led) := goodIn_app (goodIn_of _ (by decide +kernel)) ggL_law_X7_led
set_option maxRecDepth 20000 in
theorem ggL_law_X8_led : GoodIn wsL_law wsX8_led := goodIn_r _ [434, 133, 134, 5, 135, 136, 137, 138, 311, 312, 313, 435, 436, 437, 438, 98, 97, 110, 93, 318, 319, 320, 321, 322, 323, 324, 325, 92, 96, 326, 327, 328, 329, 91, 160, 161, 162, 163, 164, 165, 166, 330, 331, 332, 333, 94, 334, 335, 336, 337, 407, 408, 409, 806, 807, 808, 809, 810, 811, 812, 813, 814, 815, 816, 817, 818, 819, 820, 821, 822, 823, 824, 825, 826, 827, 828] (by decide +kernel) (by decide +kernel)
set_option maxRecDepth 20000 in
theorem gL_law_X8_led : GoodIn wsL_law (wsV RL 79 RX8 yX8_led wsX8_led) := goodIn_app (goodIn_of _ (by decide +kernel)) ggL_law_X8_led
set_option maxRecDepth 20000 in
theorem ggL_law_X7_odds : GoodIn wsL_law wsX7_odds := goodIn_r _ [442, 443, 444, 445, 279, 280, 2, 281, 118, 119, 120, 282, 283, 284, 285, 15, 13, 21, 286, 287, 288, 27, 289, 61, 290, 63, 291, 292, 293, 39, 294, 78, 77, 295, 296, 297, 298, 76, 299, 300, 301, 302, 62, 303, 304, 305, 20, 306, 46, 446, 447, 448, 449, 797, 798, 799, 800, 801, 802, 803, 804, 805, 838, 839, 840, 844, 845, 846, 847, 829, 830, 831, 832, 833] (by decide +kernel) (by decide +kernel)
set_option maxRecDepth 20000 in
theorem gL_law_X7_odds : GoodIn wsL_law (wsV RL 80 RX7 yX7_odds wsX7_odds) := goodIn_app (goodIn_of _ (by decide +kernel)) ggL_law_X7_odds
set_option maxRecDepth 20000 in
theorem ggL_law_X8_odds : GoodIn wsL_law wsX8_odds := goodIn_r _ [453, 311, 312, 5, 313, 136, 137, 138, 454, 455, 456, 457, 458, 318, 319, 320, 321, 322, 323, 324, 325, 93, 98, 92, 96, 97, 326, 327, 328, 329, 91, 160, 161, 162, 163, 164, 165, 166, 330, 331, 332, 333, 94, 334, 335, 336, 337, 110, 459, 460, 461, 462, 463, 464, 465, 466, 467, 468, 469, 806, 807, 808, 809, 810, 811, 812, 813, 814, 815, 816, 817, 818, 819, 820, 821, 822, 823, 824, 825, 826, 827, 828] (by decide +kernel) (by decide +kernel)
set_option maxRecDepth 20000 in
theorem gL_law_X8_odds : GoodIn wsL_law (wsV RL 84 RX8 yX8_odds wsX8_odds) := goodIn_app (goodIn_of _ (by decide +kernel)) ggL_law_X8_odds
