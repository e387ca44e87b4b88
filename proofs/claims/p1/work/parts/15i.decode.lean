set_option maxRecDepth 20000 in
theorem ggL_law_X7_say : GoodIn wsL_law wsX7_say := goodIn_r _ [674, 40, 15, 35, 44, 478, 479, 480, 2, 481, 43, 38, 142, 143, 144, 145, 146, 147, 148, 149, 587, 588, 589, 229, 590, 234, 235, 237, 236, 591, 508, 509, 510, 511, 512, 513, 514, 240, 127, 128, 318, 319, 592, 504, 505, 506, 239, 276, 277, 831, 832, 833, 834, 835, 836, 837, 838, 839, 840, 841, 842, 843, 844, 868, 869, 870, 871, 872, 914, 915, 916, 917, 918, 919, 920] (by decide +kernel) (by decide +kernel)
set_option maxRecDepth 20000 in
theorem gL_law_X7_say : GoodIn wsL_law (wsV RL 74 RX7 yX7_say wsX7_say) := goodIn_app (goodIn_of _ (by decide +kernel)) ggL_law_X7_say
set_option maxRecDepth 20000 in
theorem ggL_law_X8_say : GoodIn wsL_law wsX8_say := goodIn_r _ [678, 112, 529, 530, 531, 5, 532, 134, 166, 167, 168, 169, 110, 605, 606, 607, 608, 107, 346, 347, 348, 349, 537, 538, 539, 540, 377, 378, 379, 380, 105, 358, 359, 360, 361, 845, 846, 847, 848, 849, 850, 851, 852, 853, 854, 855, 856, 857, 858, 859, 860, 861, 862, 863, 864, 865, 866, 867] (by decide +kernel) (by decide +kernel)
set_option maxRecDepth 20000 in
theorem gL_law_X8_say : GoodIn wsL_law (wsV RL 77 RX8 yX8_say wsX8_say) := goodIn_app (goodIn_of _ (by decide +kernel)) ggL_law_X8_say
set_option maxRecDepth 20000 in
theorem ggL_law_X7_said : GoodIn wsL_law wsX7_said := goodIn_r _ [682, 44, 831, 832, 833, 834, 835, 836, 837, 838, 839, 840, 841, 842, 843, 844] (by decide +kernel) (by decide +kernel)
set_option maxRecDepth 20000 in
theorem gL_law_X7_said : GoodIn wsL_law (wsV RL 78 RX7 yX7_said wsX7_said) := goodIn_app (goodIn_of _ (by decide +kernel)) ggL_law_X7_said
set_option maxRecDepth 20000 in
theorem ggL_law_X8_said : GoodIn wsL_law wsX8_said := goodIn_r _ [686, 112, 845, 846, 847, 848, 849, 850, 851, 852, 853, 854, 855, 856, 857, 858, 859, 860, 861, 862, 863, 864, 865, 866, 867] (by decide +kernel) (by decide +kernel)
set_option maxRecDepth 20000 in
theorem gL_law_X8_said : GoodIn wsL_law (wsV RL 81 RX8 yX8_said wsX8_said) := goodIn_app (goodIn_of _ (by decide +kernel)) ggL_law_X8_said
set_option maxRecDepth 20000 in
theorem ggL_law_X7_vote : GoodIn wsL_law wsX7_vote := goodIn_r _ [690, 43, 42, 40, 15, 35, 45, 142, 143, 144, 2, 145, 146, 147, 148, 149, 691, 265, 266, 478, 479, 480, 481, 38, 587, 588, 589, 229, 590, 234, 235, 237, 236, 591, 508, 509, 510, 511, 512, 513, 514, 240, 127, 128, 318, 319, 592, 504, 505, 506, 239, 276, 277, 692, 831, 832, 833, 834, 835, 836, 837, 838, 839, 840, 841, 842, 843, 844, 868, 869, 870, 871, 872, 914, 915, 916, 917, 918, 919, 920] (by decide +kernel) (by decide +kernel)
set_option maxRecDepth 20000 in
theorem gL_law_X7_vote : GoodIn wsL_law (wsV RL 82 RX7 yX7_vote wsX7_vote) := goodIn_app (goodIn_of _ (by decide +kernel)) ggL_law_X7_vote
set_option maxRecDepth 20000 in
theorem ggL_law_X8_vote : GoodIn wsL_law wsX8_vote := goodIn_r _ [696, 134, 114, 113, 166, 167, 168, 5, 169, 110, 605, 606, 607, 608, 107, 346, 347, 348, 349, 537, 538, 539, 540, 377, 378, 379, 380, 105, 358, 359, 360, 361, 845, 846, 847, 848, 849, 850, 851, 852, 853, 854, 855, 856, 857, 858, 859, 860, 861, 862, 863, 864, 865, 866, 867] (by decide +kernel) (by decide +kernel)
set_option maxRecDepth 20000 in
theorem gL_law_X8_vote : GoodIn wsL_law (wsV RL 86 RX8 yX8_vote wsX8_vote) := goodIn_app (goodIn_of _ (by decide +kernel)) ggL_law_X8_vote
set_option maxRecDepth 20000 in
theorem ggL_law_X7_voices : GoodIn wsL_law wsX7_voices := goodIn_r _ [700, 45, 831, 832, 833, 834, 835, 836, 837, 838, 839, 840, 841, 842, 843, 844] (by decide +kernel) (by decide +kernel)
set_option maxRecDepth 20000 in
theorem gL_law_X7_voices : GoodIn wsL_law (wsV RL 87 RX7 yX7_voices wsX7_voices) := goodIn_app (goodIn_of _ (by decide +kernel)) ggL_law_X7_voices
set_option maxRecDepth 20000 in
theorem ggL_law_X8_voices : GoodIn wsL_law wsX8_voices := goodIn_r _ [704, 113, 845, 846, 847, 848, 849, 850, 851, 852, 853, 854, 855, 856, 857, 858, 859, 860, 861, 862, 863, 864, 865, 866, 867] (by decide +kernel) (by decide +kernel)
set_option maxRecDepth 20000 in
theorem gL_law_X8_voices : GoodIn wsL_law (wsV RL 90 RX8 yX8_voices wsX8_voices) := goodIn_app (goodIn_of _ (by decide +kernel)) ggL_law_X8_voices
