set_option maxRecDepth 20000 in
theorem ggL_law_X8_best : GoodIn wsL_law wsX8_best := goodIn_r _ [461, 133, 103, 134, 109, 328, 108, 462, 463, 464, 5, 465, 119, 120, 107, 338, 339, 340, 341, 114, 342, 343, 344, 345, 104, 346, 347, 348, 349, 466, 467, 468, 469, 117, 118, 389, 390, 391, 392, 381, 382, 383, 384, 377, 378, 379, 380, 105, 470, 471, 472, 473, 373, 374, 375, 376, 385, 386, 387, 388, 845, 846, 847, 848, 849, 850, 851, 852, 853, 854, 855, 856, 857, 858, 859, 860, 861, 862, 863, 864, 865, 866, 867] (by decide +kernel) (by decide +kernel)
set_option maxRecDepth 20000 in
theorem gL_law_X8_best : GoodIn wsL_law (wsV RL 43 RX8 yX8_best wsX8_best) := goodIn_app (goodIn_of _ (by decide +kernel)) ggL_law_X8_best
set_option maxRecDepth 20000 in
theorem ggL_law_X7_cut : GoodIn wsL_law wsX7_cut := goodIn_r _ [477, 43, 31, 478, 479, 480, 2, 481, 38, 224, 225, 226, 227, 37, 228, 229, 230, 231, 232, 233, 10, 11, 39, 234, 235, 236, 237, 238, 239, 240, 482, 483, 484, 30, 485, 486, 487, 488, 84, 489, 490, 246, 247, 248, 491, 492, 493, 494, 495, 496, 497, 498, 499, 500, 501, 502, 503, 504, 505, 506, 276, 277, 507, 508, 509, 510, 511, 512, 513, 514, 127, 128, 515, 516, 517, 518, 519, 520, 521, 522, 523, 272, 273, 274, 275, 159, 160, 161, 524, 310, 311, 312, 831, 832, 833, 834, 835, 836, 837, 838, 839, 840, 841, 842, 843, 844, 914, 915, 916, 917, 918, 919, 920, 902, 903, 904, 905, 906] (by decide +kernel) (by decide +kernel)
set_option maxRecDepth 20000 in
theorem gL_law_X7_cut : GoodIn wsL_law (wsV RL 44 RX7 yX7_cut wsX7_cut) := goodIn_app (goodIn_of _ (by decide +kernel)) ggL_law_X7_cut
set_option maxRecDepth 20000 in
theorem ggL_law_X8_cut : GoodIn wsL_law wsX8_cut := goodIn_r _ [528, 134, 328, 108, 529, 530, 531, 5, 532, 533, 534, 535, 536, 107, 346, 347, 348, 349, 537, 538, 539, 540, 541, 542, 543, 544, 350, 351, 352, 353, 354, 355, 356, 357, 358, 359, 360, 361, 845, 846, 847, 848, 849, 850, 851, 852, 853, 854, 855, 856, 857, 858, 859, 860, 861, 862, 863, 864, 865, 866, 867] (by decide +kernel) (by decide +kernel)
set_option maxRecDepth 20000 in
theorem gL_law_X8_cut : GoodIn wsL_law (wsV RL 48 RX8 yX8_cut wsX8_cut) := goodIn_app (goodIn_of _ (by decide +kernel)) ggL_law_X8_cut
set_option maxRecDepth 20000 in
theorem ggL_law_X7_price : GoodIn wsL_law wsX7_price := goodIn_r _ [548, 230, 31, 549, 550, 478, 479, 480, 2, 481, 43, 38, 551, 552, 553, 30, 554, 85, 86, 488, 507, 508, 509, 229, 510, 234, 236, 511, 512, 513, 514, 240, 127, 128, 555, 556, 557, 558, 559, 495, 496, 497, 498, 239, 499, 500, 501, 502, 503, 504, 505, 506, 276, 277, 560, 561, 562, 914, 915, 916, 917, 918, 919, 920, 831, 832, 833, 834, 835, 836, 837, 838, 839, 840, 841, 842, 843, 844, 902, 903, 904, 905, 906] (by decide +kernel) (by decide +kernel)
set_option maxRecDepth 20000 in
theorem gL_law_X7_price : GoodIn wsL_law (wsV RL 49 RX7 yX7_price wsX7_price) := goodIn_app (goodIn_of _ (by decide +kernel)) ggL_law_X7_price
set_option maxRecDepth 20000 in
theorem ggL_law_X8_price : GoodIn wsL_law wsX8_price := goodIn_r _ [566, 108, 529, 530, 531, 5, 532, 134, 346, 347, 348, 349, 537, 538, 539, 540, 107, 350, 351, 352, 353, 354, 355, 356, 357, 358, 359, 360, 361, 567, 568, 569, 570, 571, 572, 573, 574, 845, 846, 847, 848, 849, 850, 851, 852, 853, 854, 855, 856, 857, 858, 859, 860, 861, 862, 863, 864, 865, 866, 867] (by decide +kernel) (by decide +kernel)
set_option maxRecDepth 20000 in
theorem gL_law_X8_price : GoodIn wsL_law (wsV RL 52 RX8 yX8_price wsX8_price) := goodIn_app (goodIn_of _ (by decide +kernel)) ggL_law_X8_price
set_option maxRecDepth 20000 in
theorem ggL_law_X7_folds : GoodIn wsL_law wsX7_folds := goodIn_r _ [578, 19, 23, 15, 125, 214, 215, 2, 216, 224, 225, 226, 227, 38, 37, 228, 229, 230, 231, 232, 233, 10, 11, 39, 234, 235, 236, 237, 238, 239, 240, 579, 580, 581, 18, 582, 62, 63, 223, 221, 59, 241, 242, 243, 22, 244, 245, 246, 247, 248, 249, 250, 72, 251, 252, 253, 254, 255, 68, 256, 257, 258, 259, 260, 261, 262, 263, 264, 265, 266, 267, 268, 269, 270, 271, 272, 273, 274, 275, 159, 160, 161, 276, 277, 278, 279, 280, 281, 282, 283, 284, 285, 286, 287, 288, 289, 290, 291, 292, 293, 294, 69, 71, 295, 296, 297, 298, 299, 300, 301, 302, 70, 303, 304, 305, 306, 307, 308, 309, 310, 311, 312, 313, 314, 315, 316, 317, 60, 318, 319, 320, 321, 322, 323, 61, 222, 583, 584, 585, 586, 194, 35, 205, 587, 588, 589, 590, 591, 508, 509, 510, 511, 512, 513, 514, 127, 128, 592, 504, 505, 506, 831, 832, 833, 834, 835, 836, 837, 838, 839, 840, 841, 842, 843, 844, 868, 869, 870, 871, 872, 914, 915, 916, 917, 918, 919, 920, 873, 874, 875, 876, 877, 878, 879, 880, 881, 882, 883, 884, 885, 886, 887, 888, 889] (by decide +kernel) (by decide +kernel)
set_option maxRecDepth 20000 in
theorem gL_law_X7_folds : GoodIn wsL_law (wsV RL 53 RX7 yX7_folds wsX7_folds) := goodIn_app (goodIn_of _ (by decide +kernel)) ggL_law_X7_folds
set_option maxRecDepth 20000 in
theorem ggL_law_X8_folds : GoodIn wsL_law wsX8_folds := goodIn_r _ [596, 133, 109, 328, 108, 329, 330, 5, 331, 332, 333, 334, 335, 336, 337, 107, 338, 339, 340, 341, 114, 342, 343, 344, 345, 104, 346, 347, 348, 349, 350, 351, 352, 353, 354, 355, 356, 357, 358, 359, 360, 361, 362, 363, 364, 365, 103, 115, 366, 367, 368, 369, 370, 371, 372, 373, 374, 375, 376, 377, 378, 379, 380, 105, 381, 382, 383, 384, 385, 386, 387, 388, 389, 390, 391, 392, 597, 598, 599, 600, 601, 602, 603, 604, 110, 605, 606, 607, 608, 537, 538, 539, 540, 845, 846, 847, 848, 849, 850, 851, 852, 853, 854, 855, 856, 857, 858, 859, 860, 861, 862, 863, 864, 865, 866, 867] (by decide +kernel) (by decide +kernel)
set_option maxRecDepth 20000 in
theorem gL_law_X8_folds : GoodIn wsL_law (wsV RL 56 RX8 yX8_folds wsX8_folds) := goodIn_app (goodIn_of _ (by decide +kernel)) ggL_law_X8_folds
set_option maxRecDepth 20000 in
theorem ggL_law_X7_remove : GoodIn wsL_law wsX7_remove := goodIn_r _ [612, 43, 831, 832, 833, 834, 835, 836, 837, 838, 839, 840, 841, 842, 843, 844] (by decide +kernel) (by decide +kernel)
set_option maxRecDepth 20000 in
theorem gL_law_X7_remove : GoodIn wsL_law (wsV RL 57 RX7 yX7_remove wsX7_remove) := goodIn_app (goodIn_of _ (by decide +kernel)) ggL_law_X7_remove
