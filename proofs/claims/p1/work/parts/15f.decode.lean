set_option maxRecDepth 20000 in
theorem ggL_law_X7_mark : GoodIn wsL_law wsX7_mark := goodIn_r _ [193, 15, 194, 195, 174, 175, 176, 2, 177, 125, 126, 127, 128, 831, 832, 833, 834, 835, 836, 837, 838, 839, 840, 841, 842, 843, 844, 868, 869, 870, 871, 872] (by decide +kernel) (by decide +kernel)
set_option maxRecDepth 20000 in
theorem gL_law_X7_mark : GoodIn wsL_law (wsV RL 28 RX7 yX7_mark wsX7_mark) := goodIn_app (goodIn_of _ (by decide +kernel)) ggL_law_X7_mark
set_option maxRecDepth 20000 in
theorem ggL_law_X8_mark : GoodIn wsL_law wsX8_mark := goodIn_r _ [199, 133, 103, 200, 845, 846, 847, 848, 849, 850, 851, 852, 853, 854, 855, 856, 857, 858, 859, 860, 861, 862, 863, 864, 865, 866, 867] (by decide +kernel) (by decide +kernel)
set_option maxRecDepth 20000 in
theorem gL_law_X8_mark : GoodIn wsL_law (wsV RL 31 RX8 yX8_mark wsX8_mark) := goodIn_app (goodIn_of _ (by decide +kernel)) ggL_law_X8_mark
set_option maxRecDepth 20000 in
theorem ggL_law_X7_cls : GoodIn wsL_law wsX7_cls := goodIn_r _ [204, 15, 205, 174, 175, 176, 2, 177, 125, 831, 832, 833, 834, 835, 836, 837, 838, 839, 840, 841, 842, 843, 844, 868, 869, 870, 871, 872] (by decide +kernel) (by decide +kernel)
set_option maxRecDepth 20000 in
theorem gL_law_X7_cls : GoodIn wsL_law (wsV RL 32 RX7 yX7_cls wsX7_cls) := goodIn_app (goodIn_of _ (by decide +kernel)) ggL_law_X7_cls
set_option maxRecDepth 20000 in
theorem ggL_law_X8_cls : GoodIn wsL_law wsX8_cls := goodIn_r _ [209, 133, 104, 845, 846, 847, 848, 849, 850, 851, 852, 853, 854, 855, 856, 857, 858, 859, 860, 861, 862, 863, 864, 865, 866, 867] (by decide +kernel) (by decide +kernel)
set_option maxRecDepth 20000 in
theorem gL_law_X8_cls : GoodIn wsL_law (wsV RL 35 RX8 yX8_cls wsX8_cls) := goodIn_app (goodIn_of _ (by decide +kernel)) ggL_law_X8_cls
set_option maxRecDepth 20000 in
theorem ggL_law_X7_grow : GoodIn wsL_law wsX7_grow := goodIn_r _ [213, 43, 19, 23, 214, 215, 2, 216, 217, 218, 219, 18, 220, 63, 221, 59, 222, 159, 160, 161, 223, 62, 224, 225, 226, 227, 38, 37, 228, 229, 230, 231, 232, 233, 10, 11, 39, 234, 235, 236, 237, 238, 239, 240, 241, 242, 243, 22, 244, 245, 246, 247, 248, 249, 250, 72, 251, 252, 253, 254, 255, 68, 256, 257, 258, 259, 260, 261, 262, 263, 264, 265, 266, 267, 268, 269, 270, 271, 272, 273, 274, 275, 276, 277, 278, 279, 280, 281, 282, 283, 284, 285, 286, 287, 288, 289, 290, 291, 292, 293, 294, 69, 71, 295, 296, 297, 298, 299, 300, 301, 302, 70, 303, 304, 305, 306, 307, 308, 309, 310, 311, 312, 313, 314, 315, 316, 317, 60, 318, 319, 320, 321, 322, 323, 61, 831, 832, 833, 834, 835, 836, 837, 838, 839, 840, 841, 842, 843, 844, 873, 874, 875, 876, 877, 868, 869, 870, 871, 872, 914, 915, 916, 917, 918, 919, 920, 878, 879, 880, 881, 882, 883, 884, 885, 886, 887, 888, 889] (by decide +kernel) (by decide +kernel)
set_option maxRecDepth 20000 in
theorem gL_law_X7_grow : GoodIn wsL_law (wsV RL 36 RX7 yX7_grow wsX7_grow) := goodIn_app (goodIn_of _ (by decide +kernel)) ggL_law_X7_grow
set_option maxRecDepth 20000 in
theorem ggL_law_X8_grow : GoodIn wsL_law wsX8_grow := goodIn_r _ [327, 134, 133, 109, 328, 108, 329, 330, 5, 331, 332, 333, 334, 335, 336, 337, 107, 338, 339, 340, 341, 114, 342, 343, 344, 345, 104, 346, 347, 348, 349, 350, 351, 352, 353, 354, 355, 356, 357, 358, 359, 360, 361, 362, 363, 364, 365, 103, 115, 366, 367, 368, 369, 370, 371, 372, 373, 374, 375, 376, 377, 378, 379, 380, 105, 381, 382, 383, 384, 385, 386, 387, 388, 389, 390, 391, 392, 845, 846, 847, 848, 849, 850, 851, 852, 853, 854, 855, 856, 857, 858, 859, 860, 861, 862, 863, 864, 865, 866, 867] (by decide +kernel) (by decide +kernel)
set_option maxRecDepth 20000 in
theorem gL_law_X8_grow : GoodIn wsL_law (wsV RL 39 RX8 yX8_grow wsX8_grow) := goodIn_app (goodIn_of _ (by decide +kernel)) ggL_law_X8_grow
set_option maxRecDepth 20000 in
theorem ggL_law_X7_best : GoodIn wsL_law wsX7_best := goodIn_r _ [396, 15, 125, 43, 19, 27, 397, 398, 399, 14, 400, 54, 52, 53, 217, 218, 219, 18, 220, 63, 221, 59, 222, 159, 160, 161, 223, 62, 224, 225, 226, 2, 227, 38, 37, 228, 229, 230, 231, 232, 233, 10, 11, 39, 234, 235, 236, 237, 238, 239, 240, 401, 402, 403, 26, 404, 80, 405, 406, 407, 408, 409, 77, 410, 411, 412, 413, 414, 261, 262, 263, 264, 265, 266, 267, 268, 269, 270, 415, 272, 273, 274, 275, 416, 417, 418, 419, 420, 421, 422, 423, 424, 425, 426, 427, 60, 428, 429, 430, 431, 432, 433, 79, 434, 435, 276, 277, 436, 283, 284, 285, 286, 287, 288, 289, 290, 437, 438, 439, 440, 441, 78, 442, 443, 444, 445, 446, 447, 448, 449, 450, 451, 452, 453, 454, 455, 456, 314, 315, 316, 317, 318, 319, 320, 321, 322, 323, 61, 457, 310, 311, 312, 831, 832, 833, 834, 835, 836, 837, 838, 839, 840, 841, 842, 843, 844, 868, 869, 870, 871, 872, 873, 874, 875, 876, 877, 914, 915, 916, 917, 918, 919, 920, 890, 891, 892, 893, 894, 895, 896, 897, 898, 899, 900, 901] (by decide +kernel) (by decide +kernel)
set_option maxRecDepth 20000 in
theorem gL_law_X7_best : GoodIn wsL_law (wsV RL 40 RX7 yX7_best wsX7_best) := goodIn_app (goodIn_of _ (by decide +kernel)) ggL_law_X7_best
