set_option maxRecDepth 20000 in
theorem ggL_law_X8_remove : GoodIn wsL_law wsX8_remove := goodIn_r _ [616, 134, 845, 846, 847, 848, 849, 850, 851, 852, 853, 854, 855, 856, 857, 858, 859, 860, 861, 862, 863, 864, 865, 866, 867] (by decide +kernel) (by decide +kernel)
set_option maxRecDepth 20000 in
theorem gL_law_X8_remove : GoodIn wsL_law (wsV RL 61 RX8 yX8_remove wsX8_remove) := goodIn_app (goodIn_of _ (by decide +kernel)) ggL_law_X8_remove
set_option maxRecDepth 20000 in
theorem ggL_law_X7_tree : GoodIn wsL_law wsX7_tree := goodIn_r _ [620, 230, 478, 479, 480, 2, 481, 43, 38, 621, 622, 623, 229, 624, 240, 625, 626, 627, 628, 238, 629, 630, 247, 631, 632, 633, 634, 635, 591, 508, 509, 510, 234, 236, 511, 512, 513, 514, 127, 128, 636, 496, 497, 498, 239, 499, 500, 501, 502, 503, 504, 505, 506, 276, 277, 637, 638, 639, 640, 641, 15, 125, 583, 584, 585, 586, 194, 35, 205, 587, 588, 589, 590, 235, 237, 318, 319, 592, 914, 915, 916, 917, 918, 919, 920, 831, 832, 833, 834, 835, 836, 837, 838, 839, 840, 841, 842, 843, 844, 868, 869, 870, 871, 872] (by decide +kernel) (by decide +kernel)
set_option maxRecDepth 20000 in
theorem gL_law_X7_tree : GoodIn wsL_law (wsV RL 62 RX7 yX7_tree wsX7_tree) := goodIn_app (goodIn_of _ (by decide +kernel)) ggL_law_X7_tree
set_option maxRecDepth 20000 in
theorem ggL_law_X8_tree : GoodIn wsL_law wsX8_tree := goodIn_r _ [645, 108, 107, 133, 529, 530, 531, 5, 532, 134, 346, 347, 348, 349, 354, 355, 356, 357, 537, 538, 539, 540, 350, 351, 352, 353, 358, 359, 360, 361, 597, 598, 599, 600, 104, 601, 602, 603, 604, 110, 103, 605, 606, 607, 608, 377, 378, 379, 380, 105, 845, 846, 847, 848, 849, 850, 851, 852, 853, 854, 855, 856, 857, 858, 859, 860, 861, 862, 863, 864, 865, 866, 867] (by decide +kernel) (by decide +kernel)
set_option maxRecDepth 20000 in
theorem gL_law_X8_tree : GoodIn wsL_law (wsV RL 65 RX8 yX8_tree wsX8_tree) := goodIn_app (goodIn_of _ (by decide +kernel)) ggL_law_X8_tree
set_option maxRecDepth 20000 in
theorem ggL_law_X7_node : GoodIn wsL_law wsX7_node := goodIn_r _ [649, 650, 651, 652, 653, 654, 478, 479, 480, 2, 481, 43, 38, 655, 512, 513, 229, 514, 240, 656, 508, 509, 510, 234, 236, 511, 127, 128, 592, 504, 505, 506, 239, 276, 277, 637, 500, 501, 502, 657, 496, 497, 498, 499, 503, 914, 915, 916, 917, 918, 919, 920, 831, 832, 833, 834, 835, 836, 837, 838, 839, 840, 841, 842, 843, 844] (by decide +kernel) (by decide +kernel)
set_option maxRecDepth 20000 in
theorem gL_law_X7_node : GoodIn wsL_law (wsV RL 66 RX7 yX7_node wsX7_node) := goodIn_app (goodIn_of _ (by decide +kernel)) ggL_law_X7_node
set_option maxRecDepth 20000 in
theorem ggL_law_X8_node : GoodIn wsL_law wsX8_node := goodIn_r _ [661, 108, 107, 529, 530, 531, 5, 532, 134, 346, 347, 348, 349, 358, 359, 360, 361, 354, 355, 356, 357, 350, 351, 352, 353, 845, 846, 847, 848, 849, 850, 851, 852, 853, 854, 855, 856, 857, 858, 859, 860, 861, 862, 863, 864, 865, 866, 867] (by decide +kernel) (by decide +kernel)
set_option maxRecDepth 20000 in
theorem gL_law_X8_node : GoodIn wsL_law (wsV RL 69 RX8 yX8_node wsX8_node) := goodIn_app (goodIn_of _ (by decide +kernel)) ggL_law_X8_node
set_option maxRecDepth 20000 in
theorem ggL_law_X7_share : GoodIn wsL_law wsX7_share := goodIn_r _ [665, 666, 478, 479, 480, 2, 481, 43, 38, 655, 512, 513, 229, 514, 240, 139, 140, 141, 914, 915, 916, 917, 918, 919, 920, 831, 832, 833, 834, 835, 836, 837, 838, 839, 840, 841, 842, 843, 844] (by decide +kernel) (by decide +kernel)
set_option maxRecDepth 20000 in
theorem gL_law_X7_share : GoodIn wsL_law (wsV RL 70 RX7 yX7_share wsX7_share) := goodIn_app (goodIn_of _ (by decide +kernel)) ggL_law_X7_share
set_option maxRecDepth 20000 in
theorem ggL_law_X8_share : GoodIn wsL_law wsX8_share := goodIn_r _ [670, 108, 107, 529, 530, 531, 5, 532, 134, 346, 347, 348, 349, 845, 846, 847, 848, 849, 850, 851, 852, 853, 854, 855, 856, 857, 858, 859, 860, 861, 862, 863, 864, 865, 866, 867] (by decide +kernel) (by decide +kernel)
set_option maxRecDepth 20000 in
theorem gL_law_X8_share : GoodIn wsL_law (wsV RL 73 RX8 yX8_share wsX8_share) := goodIn_app (goodIn_of _ (by decide +kernel)) ggL_law_X8_share
