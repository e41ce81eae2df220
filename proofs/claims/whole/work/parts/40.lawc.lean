set_option maxRecDepth 20000 in
theorem ggL_law_X7_read : GoodIn wsL_law wsX7_read := goodIn_r _ [240, 17, 241, 13, 242, 243, 2, 244, 118, 119, 120, 115, 116, 117, 245, 246, 247, 248, 37, 249, 250, 251, 39, 252, 253, 254, 255, 256, 257, 258, 77, 259, 144, 145, 146, 78, 194, 195, 260, 126, 127, 128, 76, 799, 800, 801, 802, 803, 804, 805, 806, 807, 850, 851, 852, 853, 846, 847, 848, 849] (by decide +kernel) (by decide +kernel)
set_option maxRecDepth 20000 in
theorem gL_law_X7_read : GoodIn wsL_law (wsV RL 47 RX7 yX7_read wsX7_read) := goodIn_app (goodIn_of _ (by decide +kernel)) ggL_law_X7_read
set_option maxRecDepth 20000 in
theorem ggL_law_X8_read : GoodIn wsL_law wsX8_read := goodIn_r _ [264, 105, 107, 108, 92, 91, 265, 266, 5, 267, 136, 137, 138, 133, 134, 135, 268, 269, 270, 271, 272, 200, 201, 202, 273, 274, 275, 808, 809, 810, 811, 812, 813, 814, 815, 816, 817, 818, 819, 820, 821, 822, 823, 824, 825, 826, 827, 828, 829, 830] (by decide +kernel) (by decide +kernel)
set_option maxRecDepth 20000 in
theorem gL_law_X8_read : GoodIn wsL_law (wsV RL 50 RX8 yX8_read wsX8_read) := goodIn_app (goodIn_of _ (by decide +kernel)) ggL_law_X8_read
set_option maxRecDepth 20000 in
theorem ggL_law_X7_dish : GoodIn wsL_law wsX7_dish := goodIn_r _ [279, 280, 115, 116, 2, 117, 118, 119, 120, 281, 282, 283, 284, 285, 286, 287, 15, 13, 21, 288, 289, 290, 27, 291, 61, 292, 63, 293, 294, 295, 39, 296, 78, 77, 297, 298, 299, 300, 76, 301, 302, 303, 304, 62, 305, 306, 307, 20, 308, 46, 840, 841, 842, 799, 800, 801, 802, 803, 804, 805, 806, 807, 846, 847, 848, 849, 831, 832, 833, 834, 835] (by decide +kernel) (by decide +kernel)
set_option maxRecDepth 20000 in
theorem gL_law_X7_dish : GoodIn wsL_law (wsV RL 51 RX7 yX7_dish wsX7_dish) := goodIn_app (goodIn_of _ (by decide +kernel)) ggL_law_X7_dish
set_option maxRecDepth 20000 in
theorem ggL_law_X8_dish : GoodIn wsL_law wsX8_dish := goodIn_r _ [312, 133, 134, 5, 135, 136, 137, 138, 313, 314, 315, 316, 317, 318, 319, 96, 320, 321, 322, 323, 324, 325, 326, 327, 93, 98, 92, 97, 328, 329, 330, 331, 91, 160, 161, 162, 163, 164, 165, 166, 332, 333, 334, 335, 94, 336, 337, 338, 339, 110, 808, 809, 810, 811, 812, 813, 814, 815, 816, 817, 818, 819, 820, 821, 822, 823, 824, 825, 826, 827, 828, 829, 830] (by decide +kernel) (by decide +kernel)
set_option maxRecDepth 20000 in
theorem gL_law_X8_dish : GoodIn wsL_law (wsV RL 54 RX8 yX8_dish wsX8_dish) := goodIn_app (goodIn_of _ (by decide +kernel)) ggL_law_X8_dish
set_option maxRecDepth 20000 in
theorem ggL_law_X7_level : GoodIn wsL_law wsX7_level := goodIn_r _ [343, 344, 115, 116, 2, 117, 118, 119, 120, 281, 282, 283, 284, 285, 286, 287, 15, 13, 21, 288, 289, 290, 27, 291, 61, 292, 63, 293, 294, 295, 39, 296, 78, 77, 297, 298, 299, 300, 76, 301, 302, 303, 304, 62, 305, 306, 307, 20, 308, 46, 840, 841, 842, 799, 800, 801, 802, 803, 804, 805, 806, 807, 846, 847, 848, 849, 831, 832, 833, 834, 835] (by decide +kernel) (by decide +kernel)
set_option maxRecDepth 20000 in
theorem gL_law_X7_level : GoodIn wsL_law (wsV RL 55 RX7 yX7_level wsX7_level) := goodIn_app (goodIn_of _ (by decide +kernel)) ggL_law_X7_level
set_option maxRecDepth 20000 in
theorem ggL_law_X8_level : GoodIn wsL_law wsX8_level := goodIn_r _ [348, 133, 134, 5, 135, 136, 137, 138, 313, 314, 315, 349, 350, 351, 352, 97, 320, 321, 322, 323, 324, 325, 326, 327, 93, 98, 92, 96, 328, 329, 330, 331, 91, 160, 161, 162, 163, 164, 165, 166, 332, 333, 334, 335, 94, 336, 337, 338, 339, 110, 808, 809, 810, 811, 812, 813, 814, 815, 816, 817, 818, 819, 820, 821, 822, 823, 824, 825, 826, 827, 828, 829, 830] (by decide +kernel) (by decide +kernel)
set_option maxRecDepth 20000 in
theorem gL_law_X8_level : GoodIn wsL_law (wsV RL 58 RX8 yX8_level wsX8_level) := goodIn_app (goodIn_of _ (by decide +kernel)) ggL_law_X8_level
set_option maxRecDepth 20000 in
theorem ggL_law_X7_hiccups : GoodIn wsL_law wsX7_hiccups := goodIn_r _ [356, 115, 116, 2, 117, 118, 119, 120, 357, 358, 359, 360, 21, 284, 285, 286, 287, 15, 13, 288, 289, 290, 27, 291, 61, 292, 63, 293, 294, 295, 39, 296, 78, 77, 297, 298, 299, 300, 76, 301, 302, 303, 304, 62, 305, 306, 307, 20, 308, 46, 361, 362, 363, 364, 365, 366, 367, 368, 48, 799, 800, 801, 802, 803, 804, 805, 806, 807, 840, 841, 842, 846, 847, 848, 849, 831, 832, 833, 834, 835] (by decide +kernel) (by decide +kernel)
set_option maxRecDepth 20000 in
theorem gL_law_X7_hiccups : GoodIn wsL_law (wsV RL 59 RX7 yX7_hiccups wsX7_hiccups) := goodIn_app (goodIn_of _ (by decide +kernel)) ggL_law_X7_hiccups
set_option maxRecDepth 20000 in
theorem ggL_law_X8_hiccups : GoodIn wsL_law wsX8_hiccups := goodIn_r _ [372, 133, 134, 5, 135, 136, 137, 138, 373, 374, 375, 376, 98, 320, 321, 322, 323, 324, 325, 326, 327, 93, 92, 96, 97, 328, 329, 330, 331, 91, 160, 161, 162, 163, 164, 165, 166, 332, 333, 334, 335, 94, 336, 337, 338, 339, 110, 808, 809, 810, 811, 812, 813, 814, 815, 816, 817, 818, 819, 820, 821, 822, 823, 824, 825, 826, 827, 828, 829, 830] (by decide +kernel) (by decide +kernel)
set_option maxRecDepth 20000 in
theorem gL_law_X8_hiccups : GoodIn wsL_law (wsV RL 62 RX8 yX8_hiccups wsX8_hiccups) := goodIn_app (goodIn_of _ (by decide +kernel)) ggL_law_X8_hiccups
set_option maxRecDepth 20000 in
theorem ggL_law_X7_broken : GoodIn wsL_law wsX7_broken := goodIn_r _ [380, 118, 119, 2, 120, 381, 382, 383, 384, 357, 358, 359, 360, 21, 284, 285, 286, 287, 15, 13, 288, 289, 290, 27, 291, 61, 292, 63, 293, 294, 295, 39, 296, 78, 77, 297, 298, 299, 300, 76, 301, 302, 303, 304, 62, 305, 306, 307, 20, 308, 46, 361, 362, 363, 364, 365, 366, 367, 368, 48, 799, 800, 801, 802, 803, 804, 805, 806, 807, 840, 841, 842, 846, 847, 848, 849, 831, 832, 833, 834, 835] (by decide +kernel) (by decide +kernel)
set_option maxRecDepth 20000 in
theorem gL_law_X7_broken : GoodIn wsL_law (wsV RL 63 RX7 yX7_broken wsX7_broken) := goodIn_app (goodIn_of _ (by decide +kernel)) ggL_law_X7_broken
set_option maxRecDepth 20000 in
theorem ggL_law_X8_broken : GoodIn wsL_law wsX8_broken := goodIn_r _ [388, 136, 137, 5, 138, 389, 390, 391, 392, 98, 393, 320, 321, 322, 323, 324, 325, 326, 327, 93, 92, 96, 97, 328, 329, 330, 331, 91, 160, 161, 162, 163, 164, 165, 166, 332, 333, 334, 335, 94, 336, 337, 338, 339, 110, 808, 809, 810, 811, 812, 813, 814, 815, 816, 817, 818, 819, 820, 821, 822, 823, 824, 825, 826, 827, 828, 829, 830] (by decide +kernel) (by decide +kernel)
set_option maxRecDepth 20000 in
theorem gL_law_X8_broken : GoodIn wsL_law (wsV RL 66 RX8 yX8_broken wsX8_broken) := goodIn_app (goodIn_of _ (by decide +kernel)) ggL_law_X8_broken
set_option maxRecDepth 20000 in
theorem ggL_law_X7_judged : GoodIn wsL_law wsX7_judged := goodIn_r _ [397, 21, 216, 381, 382, 383, 2, 384, 357, 358, 359, 360, 284, 285, 286, 287, 15, 13, 288, 289, 290, 27, 291, 61, 292, 63, 293, 294, 295, 39, 296, 78, 77, 297, 298, 299, 300, 76, 301, 302, 303, 304, 62, 305, 306, 307, 20, 308, 46, 361, 362, 363, 364, 365, 366, 367, 368, 48, 398, 399, 400, 799, 800, 801, 802, 803, 804, 805, 806, 807, 831, 832, 833, 834, 835, 840, 841, 842, 846, 847, 848, 849] (by decide +kernel) (by decide +kernel)
set_option maxRecDepth 20000 in
theorem gL_law_X7_judged : GoodIn wsL_law (wsV RL 67 RX7 yX7_judged wsX7_judged) := goodIn_app (goodIn_of _ (by decide +kernel)) ggL_law_X7_judged
set_option maxRecDepth 20000 in
theorem ggL_law_X8_judged : GoodIn wsL_law wsX8_judged := goodIn_r _ [404, 405, 406, 407, 5, 408, 226, 389, 390, 391, 392, 98, 393, 320, 321, 322, 323, 324, 325, 326, 327, 93, 92, 96, 97, 328, 329, 330, 331, 91, 160, 161, 162, 163, 164, 165, 166, 136, 137, 138, 332, 333, 334, 335, 94, 336, 337, 338, 339, 110, 409, 410, 411, 808, 809, 810, 811, 812, 813, 814, 815, 816, 817, 818, 819, 820, 821, 822, 823, 824, 825, 826, 827, 828, 829, 830] (by decide +kernel) (by decide +kernel)
set_option maxRecDepth 20000 in
theorem gL_law_X8_judged : GoodIn wsL_law (wsV RL 71 RX8 yX8_judged wsX8_judged) := goodIn_app (goodIn_of _ (by decide +kernel)) ggL_law_X8_judged
set_option maxRecDepth 20000 in
theorem ggL_law_X7_armistice : GoodIn wsL_law wsX7_armistice := goodIn_r _ [415, 21, 216, 118, 119, 2, 120, 381, 382, 383, 384, 357, 358, 359, 360, 284, 285, 286, 287, 15, 13, 288, 289, 290, 27, 291, 61, 292, 63, 293, 294, 295, 39, 296, 78, 77, 297, 298, 299, 300, 76, 301, 302, 303, 304, 62, 305, 306, 307, 20, 308, 46, 361, 362, 363, 364, 365, 366, 367, 368, 48, 398, 399, 400, 799, 800, 801, 802, 803, 804, 805, 806, 807, 831, 832, 833, 834, 835, 840, 841, 842, 846, 847, 848, 849] (by decide +kernel) (by decide +kernel)
set_option maxRecDepth 20000 in
theorem gL_law_X7_armistice : GoodIn wsL_law (wsV RL 72 RX7 yX7_armistice wsX7_armistice) := goodIn_app (goodIn_of _ (by decide +kernel)) ggL_law_X7_armistice
set_option maxRecDepth 20000 in
theorem ggL_law_X8_armistice : GoodIn wsL_law wsX8_armistice := goodIn_r _ [419, 136, 137, 5, 138, 420, 421, 422, 423, 226, 389, 390, 391, 392, 98, 393, 320, 321, 322, 323, 324, 325, 326, 327, 93, 92, 96, 97, 328, 329, 330, 331, 91, 160, 161, 162, 163, 164, 165, 166, 332, 333, 334, 335, 94, 336, 337, 338, 339, 110, 409, 410, 411, 808, 809, 810, 811, 812, 813, 814, 815, 816, 817, 818, 819, 820, 821, 822, 823, 824, 825, 826, 827, 828, 829, 830] (by decide +kernel) (by decide +kernel)
set_option maxRecDepth 20000 in
theorem gL_law_X8_armistice : GoodIn wsL_law (wsV RL 75 RX8 yX8_armistice wsX8_armistice) := goodIn_app (goodIn_of _ (by decide +kernel)) ggL_law_X8_armistice
set_option maxRecDepth 20000 in
theorem ggL_law_X7_led : GoodIn wsL_law wsX7_led := goodIn_r _ [427, 21, 344, 280, 211, 115, 116, 2, 117, 118, 119, 120, 281, 282, 283, 284, 285, 286, 287, 15, 13, 288, 289, 290, 27, 291, 61, 292, 63, 293, 294, 295, 39, 296, 78, 77, 297, 298, 299, 300, 76, 301, 302, 303, 304, 62, 305, 306, 307, 20, 308, 46, 428, 366, 367, 368, 48, 429, 430, 431, 432, 799, 800, 801, 802, 803, 804, 805, 806, 807, 840, 841, 842, 831, 832, 833, 834, 835, 846, 847, 848, 849] (by decide +kernel) (by decide +kernel)
set_option maxRecDepth 20000 in
theorem gL_law_X7_led : GoodIn wsL_law (wsV RL 76 RX7 yX7_led wsX7_led) := goodIn_app (goodIn_of _ (by decide +kernel)) ggL_law_X7_led
set_option maxRecDepth 20000 in
theorem ggL_law_X8_led : GoodIn wsL_law wsX8_led := goodIn_r _ [436, 133, 134, 5, 135, 136, 137, 138, 313, 314, 315, 437, 438, 439, 440, 98, 97, 110, 93, 320, 321, 322, 323, 324, 325, 326, 327, 92, 96, 328, 329, 330, 331, 91, 160, 161, 162, 163, 164, 165, 166, 332, 333, 334, 335, 94, 336, 337, 338, 339, 409, 410, 411, 808, 809, 810, 811, 812, 813, 814, 815, 816, 817, 818, 819, 820, 821, 822, 823, 824, 825, 826, 827, 828, 829, 830] (by decide +kernel) (by decide +kernel)
set_option maxRecDepth 20000 in
theorem gL_law_X8_led : GoodIn wsL_law (wsV RL 79 RX8 yX8_led wsX8_led) := goodIn_app (goodIn_of _ (by decide +kernel)) ggL_law_X8_led
set_option maxRecDepth 20000 in
theorem ggL_law_X7_odds : GoodIn wsL_law wsX7_odds := goodIn_r _ [444, 445, 446, 447, 281, 282, 2, 283, 118, 119, 120, 284, 285, 286, 287, 15, 13, 21, 288, 289, 290, 27, 291, 61, 292, 63, 293, 294, 295, 39, 296, 78, 77, 297, 298, 299, 300, 76, 301, 302, 303, 304, 62, 305, 306, 307, 20, 308, 46, 448, 449, 450, 451, 799, 800, 801, 802, 803, 804, 805, 806, 807, 840, 841, 842, 846, 847, 848, 849, 831, 832, 833, 834, 835] (by decide +kernel) (by decide +kernel)
set_option maxRecDepth 20000 in
theorem gL_law_X7_odds : GoodIn wsL_law (wsV RL 80 RX7 yX7_odds wsX7_odds) := goodIn_app (goodIn_of _ (by decide +kernel)) ggL_law_X7_odds
set_option maxRecDepth 20000 in
theorem ggL_law_X8_odds : GoodIn wsL_law wsX8_odds := goodIn_r _ [455, 313, 314, 5, 315, 136, 137, 138, 456, 457, 458, 459, 460, 320, 321, 322, 323, 324, 325, 326, 327, 93, 98, 92, 96, 97, 328, 329, 330, 331, 91, 160, 161, 162, 163, 164, 165, 166, 332, 333, 334, 335, 94, 336, 337, 338, 339, 110, 461, 462, 463, 464, 465, 466, 467, 468, 469, 470, 471, 808, 809, 810, 811, 812, 813, 814, 815, 816, 817, 818, 819, 820, 821, 822, 823, 824, 825, 826, 827, 828, 829, 830] (by decide +kernel) (by decide +kernel)
set_option maxRecDepth 20000 in
theorem gL_law_X8_odds : GoodIn wsL_law (wsV RL 84 RX8 yX8_odds wsX8_odds) := goodIn_app (goodIn_of _ (by decide +kernel)) ggL_law_X8_odds
