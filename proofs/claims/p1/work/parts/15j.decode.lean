set_option maxRecDepth 20000 in
theorem ggL_law_X7_rule : GoodIn wsL_law wsX7_rule := goodIn_r _ [708, 195, 36, 478, 479, 480, 2, 481, 43, 38, 655, 512, 513, 229, 514, 240, 656, 508, 509, 510, 234, 236, 511, 127, 128, 126, 709, 710, 711, 34, 712, 91, 92, 93, 94, 97, 713, 714, 715, 716, 717, 718, 719, 720, 98, 721, 246, 247, 248, 722, 630, 631, 723, 724, 725, 726, 95, 727, 728, 729, 730, 731, 732, 733, 734, 735, 736, 737, 738, 739, 740, 741, 742, 831, 832, 833, 834, 835, 836, 837, 838, 839, 840, 841, 842, 843, 844, 914, 915, 916, 917, 918, 919, 920, 907, 908, 909, 910, 911, 912, 913] (by decide +kernel) (by decide +kernel)
set_option maxRecDepth 20000 in
theorem gL_law_X7_rule : GoodIn wsL_law (wsV RL 91 RX7 yX7_rule wsX7_rule) := goodIn_app (goodIn_of _ (by decide +kernel)) ggL_law_X7_rule
set_option maxRecDepth 20000 in
theorem ggL_law_X8_rule : GoodIn wsL_law wsX8_rule := goodIn_r _ [746, 108, 200, 529, 530, 531, 5, 532, 134, 346, 347, 348, 349, 537, 538, 539, 540, 107, 747, 748, 749, 750, 105, 751, 752, 753, 754, 116, 755, 756, 757, 758, 759, 760, 761, 762, 763, 764, 765, 766, 767, 768, 769, 770, 377, 378, 379, 380, 845, 846, 847, 848, 849, 850, 851, 852, 853, 854, 855, 856, 857, 858, 859, 860, 861, 862, 863, 864, 865, 866, 867] (by decide +kernel) (by decide +kernel)
set_option maxRecDepth 20000 in
theorem gL_law_X8_rule : GoodIn wsL_law (wsV RL 94 RX8 yX8_rule wsX8_rule) := goodIn_app (goodIn_of _ (by decide +kernel)) ggL_law_X8_rule
set_option maxRecDepth 20000 in
theorem ggL_law_X7_near : GoodIn wsL_law wsX7_near := goodIn_r _ [774, 36, 41, 40, 46, 478, 479, 480, 2, 481, 43, 38, 142, 143, 144, 145, 146, 147, 148, 149, 775, 776, 777, 778, 779, 780, 781, 782, 15, 35, 230, 587, 588, 589, 229, 590, 234, 235, 237, 236, 591, 508, 509, 510, 511, 512, 513, 514, 240, 127, 128, 318, 319, 592, 504, 505, 506, 239, 276, 277, 656, 709, 710, 711, 34, 712, 91, 92, 93, 94, 97, 713, 714, 715, 716, 717, 718, 719, 720, 98, 721, 246, 247, 248, 722, 630, 631, 723, 724, 725, 726, 95, 727, 728, 729, 730, 783, 784, 785, 786, 735, 736, 737, 738, 787, 788, 789, 790, 791, 792, 793, 794, 795, 796, 797, 798, 799, 800, 801, 802, 803, 804, 805, 831, 832, 833, 834, 835, 836, 837, 838, 839, 840, 841, 842, 843, 844, 868, 869, 870, 871, 872, 914, 915, 916, 917, 918, 919, 920, 907, 908, 909, 910, 911, 912, 913] (by decide +kernel) (by decide +kernel)
set_option maxRecDepth 20000 in
theorem gL_law_X7_near : GoodIn wsL_law (wsV RL 95 RX7 yX7_near wsX7_near) := goodIn_app (goodIn_of _ (by decide +kernel)) ggL_law_X7_near
set_option maxRecDepth 20000 in
theorem ggL_law_X8_near : GoodIn wsL_law wsX8_near := goodIn_r _ [809, 108, 110, 105, 111, 810, 529, 530, 531, 5, 532, 134, 166, 167, 168, 169, 605, 606, 607, 608, 107, 346, 347, 348, 349, 537, 538, 539, 540, 377, 378, 379, 380, 358, 359, 360, 361, 811, 812, 813, 814, 767, 768, 769, 770, 116, 751, 752, 753, 754, 747, 748, 749, 750, 755, 756, 757, 758, 759, 760, 761, 762, 763, 764, 765, 766, 845, 846, 847, 848, 849, 850, 851, 852, 853, 854, 855, 856, 857, 858, 859, 860, 861, 862, 863, 864, 865, 866, 867] (by decide +kernel) (by decide +kernel)
set_option maxRecDepth 20000 in
theorem gL_law_X8_near : GoodIn wsL_law (wsV RL 98 RX8 yX8_near wsX8_near) := goodIn_app (goodIn_of _ (by decide +kernel)) ggL_law_X8_near
set_option maxRecDepth 20000 in
theorem ggL_law_X7_turned : GoodIn wsL_law wsX7_turned := goodIn_r _ [818, 46, 41, 195, 126, 127, 2, 128, 831, 832, 833, 834, 835, 836, 837, 838, 839, 840, 841, 842, 843, 844] (by decide +kernel) (by decide +kernel)
set_option maxRecDepth 20000 in
theorem gL_law_X7_turned : GoodIn wsL_law (wsV RL 99 RX7 yX7_turned wsX7_turned) := goodIn_app (goodIn_of _ (by decide +kernel)) ggL_law_X7_turned
set_option maxRecDepth 20000 in
theorem ggL_law_X8_turned : GoodIn wsL_law wsX8_turned := goodIn_r _ [822, 810, 111, 200, 845, 846, 847, 848, 849, 850, 851, 852, 853, 854, 855, 856, 857, 858, 859, 860, 861, 862, 863, 864, 865, 866, 867] (by decide +kernel) (by decide +kernel)
set_option maxRecDepth 20000 in
theorem gL_law_X8_turned : GoodIn wsL_law (wsV RL 102 RX8 yX8_turned wsX8_turned) := goodIn_app (goodIn_of _ (by decide +kernel)) ggL_law_X8_turned
set_option maxRecDepth 20000 in
theorem ggL_law_X7_count : GoodIn wsL_law wsX7_count := goodIn_r _ [826, 15, 125, 43, 831, 832, 833, 834, 835, 836, 837, 838, 839, 840, 841, 842, 843, 844, 868, 869, 870, 871, 872] (by decide +kernel) (by decide +kernel)
set_option maxRecDepth 20000 in
theorem gL_law_X7_count : GoodIn wsL_law (wsV RL 103 RX7 yX7_count wsX7_count) := goodIn_app (goodIn_of _ (by decide +kernel)) ggL_law_X7_count
set_option maxRecDepth 20000 in
theorem ggL_law_X8_count : GoodIn wsL_law wsX8_count := goodIn_r _ [830, 133, 134, 845, 846, 847, 848, 849, 850, 851, 852, 853, 854, 855, 856, 857, 858, 859, 860, 861, 862, 863, 864, 865, 866, 867] (by decide +kernel) (by decide +kernel)
set_option maxRecDepth 20000 in
theorem gL_law_X8_count : GoodIn wsL_law (wsV RL 106 RX8 yX8_count wsX8_count) := goodIn_app (goodIn_of _ (by decide +kernel)) ggL_law_X8_count
