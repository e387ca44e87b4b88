set_option maxRecDepth 20000 in
theorem ggL_law_X8_init : GoodIn wsL_law wsX8_init := goodIn_r _ [101, 102, 10, 11, 39, 103, 104, 96, 105, 106, 107, 108, 109, 110, 111, 112, 113, 114, 115, 116, 117, 118, 119, 120, 845, 846, 847, 848, 849, 850, 851, 852, 853, 854, 855, 856, 857, 858, 859, 860, 861, 862, 863, 864, 865, 866, 867] (by decide +kernel) (by decide +kernel)
set_option maxRecDepth 20000 in
theorem gL_law_X8_init : GoodIn wsL_law (wsX8_init) := ggL_law_X8_init
set_option maxRecDepth 20000 in
theorem ggL_law_X7_sort : GoodIn wsL_law wsX7_sort := goodIn_r _ [124, 15, 125, 43, 35, 126, 127, 2, 128, 831, 832, 833, 834, 835, 836, 837, 838, 839, 840, 841, 842, 843, 844, 868, 869, 870, 871, 872] (by decide +kernel) (by decide +kernel)
set_option maxRecDepth 20000 in
theorem gL_law_X7_sort : GoodIn wsL_law (wsV RL 13 RX7 yX7_sort wsX7_sort) := goodIn_app (goodIn_of _ (by decide +kernel)) ggL_law_X7_sort
set_option maxRecDepth 20000 in
theorem ggL_law_X8_sort : GoodIn wsL_law wsX8_sort := goodIn_r _ [132, 133, 134, 105, 845, 846, 847, 848, 849, 850, 851, 852, 853, 854, 855, 856, 857, 858, 859, 860, 861, 862, 863, 864, 865, 866, 867] (by decide +kernel) (by decide +kernel)
set_option maxRecDepth 20000 in
theorem gL_law_X8_sort : GoodIn wsL_law (wsV RL 17 RX8 yX8_sort wsX8_sort) := goodIn_app (goodIn_of _ (by decide +kernel)) ggL_law_X8_sort
set_option maxRecDepth 20000 in
theorem ggL_law_X7_add : GoodIn wsL_law wsX7_add := goodIn_r _ [138, 15, 125, 40, 139, 140, 2, 141, 142, 143, 144, 145, 146, 147, 148, 149, 150, 151, 152, 14, 153, 54, 51, 52, 154, 155, 156, 157, 53, 158, 159, 160, 161, 831, 832, 833, 834, 835, 836, 837, 838, 839, 840, 841, 842, 843, 844, 868, 869, 870, 871, 872] (by decide +kernel) (by decide +kernel)
set_option maxRecDepth 20000 in
theorem gL_law_X7_add : GoodIn wsL_law (wsV RL 18 RX7 yX7_add wsX7_add) := goodIn_app (goodIn_of _ (by decide +kernel)) ggL_law_X7_add
set_option maxRecDepth 20000 in
theorem ggL_law_X8_add : GoodIn wsL_law wsX8_add := goodIn_r _ [165, 133, 103, 110, 104, 166, 167, 168, 5, 169, 845, 846, 847, 848, 849, 850, 851, 852, 853, 854, 855, 856, 857, 858, 859, 860, 861, 862, 863, 864, 865, 866, 867] (by decide +kernel) (by decide +kernel)
set_option maxRecDepth 20000 in
theorem gL_law_X8_add : GoodIn wsL_law (wsV RL 22 RX8 yX8_add wsX8_add) := goodIn_app (goodIn_of _ (by decide +kernel)) ggL_law_X8_add
set_option maxRecDepth 20000 in
theorem ggL_law_X7_drop : GoodIn wsL_law wsX7_drop := goodIn_r _ [173, 15, 125, 174, 175, 176, 2, 177, 178, 179, 180, 14, 181, 54, 51, 158, 159, 160, 161, 52, 182, 183, 184, 185, 53, 831, 832, 833, 834, 835, 836, 837, 838, 839, 840, 841, 842, 843, 844, 868, 869, 870, 871, 872] (by decide +kernel) (by decide +kernel)
set_option maxRecDepth 20000 in
theorem gL_law_X7_drop : GoodIn wsL_law (wsV RL 23 RX7 yX7_drop wsX7_drop) := goodIn_app (goodIn_of _ (by decide +kernel)) ggL_law_X7_drop
set_option maxRecDepth 20000 in
theorem ggL_law_X8_drop : GoodIn wsL_law wsX8_drop := goodIn_r _ [189, 133, 104, 103, 845, 846, 847, 848, 849, 850, 851, 852, 853, 854, 855, 856, 857, 858, 859, 860, 861, 862, 863, 864, 865, 866, 867] (by decide +kernel) (by decide +kernel)
set_option maxRecDepth 20000 in
theorem gL_law_X8_drop : GoodIn wsL_law (wsV RL 27 RX8 yX8_drop wsX8_drop) := goodIn_app (goodIn_of _ (by decide +kernel)) ggL_law_X8_drop
