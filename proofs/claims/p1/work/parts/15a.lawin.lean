theorem mem_r {big : List Cond} (ws : List Cond) (ps : List Nat) (hp : ws = ps.filterMap (fun i => big[i]?)) : ∀ w ∈ ws, w ∈ big := by
  intro w hw
  rw [hp] at hw
  obtain ⟨i, -, hi⟩ := List.mem_filterMap.mp hw
  first | exact List.mem_of_getElem? hi | exact List.getElem?_mem hi
set_option maxRecDepth 20000 in
theorem lin_r1 : ∀ w ∈ wsL_law_r1, w ∈ lw_tbl := mem_r _ [78, 79, 67, 792, 793, 74, 80, 81, 82, 83, 84, 85, 86, 87, 68, 289, 123, 124, 69, 290, 148, 149, 70, 291] (by decide +kernel)
set_option maxRecDepth 20000 in
theorem lin_r2 : ∀ w ∈ wsL_law_r2, w ∈ lw_tbl := mem_r _ [191, 192, 71, 292, 234, 235, 72, 293, 258, 259, 73, 93, 294, 287, 295, 122, 296, 297, 298, 299, 300, 301, 302, 89] (by decide +kernel)
set_option maxRecDepth 20000 in
theorem lin_r3 : ∀ w ∈ wsL_law_r3, w ∈ lw_tbl := mem_r _ [90, 91, 92, 97, 102, 106, 108, 125, 126, 127, 128, 129, 130, 132, 134, 133, 150, 151, 152, 153, 156, 157, 158, 154] (by decide +kernel)
set_option maxRecDepth 20000 in
theorem lin_r4 : ∀ w ∈ wsL_law_r4, w ∈ lw_tbl := mem_r _ [155, 193, 194, 195, 196, 199, 200, 197, 198, 237, 238, 239, 240, 243, 245, 260, 261, 262, 263, 265, 266, 267, 268, 269] (by decide +kernel)
set_option maxRecDepth 20000 in
theorem lin_r5 : ∀ w ∈ wsL_law_r5, w ∈ lw_tbl := mem_r _ [286, 270, 264, 794, 795, 796, 797, 799, 800, 802, 798, 803, 804, 806, 810, 811, 813, 814, 815, 816, 817, 818, 819, 820] (by decide +kernel)
set_option maxRecDepth 20000 in
theorem lin_r6 : ∀ w ∈ wsL_law_r6, w ∈ lw_tbl := mem_r _ [821, 332, 333, 334, 335, 109, 336, 337, 338, 869, 870, 871, 872, 801, 805, 339, 340, 341, 342, 343, 344, 345, 346, 348] (by decide +kernel)
set_option maxRecDepth 20000 in
theorem lin_r7 : ∀ w ∈ wsL_law_r7, w ∈ lw_tbl := mem_r _ [0, 349, 350, 352, 1, 353, 354, 355, 356, 357, 358, 360, 2, 361, 362, 364, 363, 75, 873, 874, 875, 876, 877, 879] (by decide +kernel)
set_option maxRecDepth 20000 in
theorem lin_r8 : ∀ w ∈ wsL_law_r8, w ∈ lw_tbl := mem_r _ [32, 880, 365, 366, 367, 368, 369, 371, 3, 372, 373, 374, 375, 376, 377, 379, 4, 380, 881, 882, 883, 884, 381, 382] (by decide +kernel)
set_option maxRecDepth 20000 in
theorem lin_r9 : ∀ w ∈ wsL_law_r9, w ∈ lw_tbl := mem_r _ [383, 384, 104, 385, 885, 886, 887, 888, 889, 386, 387, 388, 389, 99, 890, 891, 892, 893, 390, 391, 392, 393, 394, 395] (by decide +kernel)
set_option maxRecDepth 20000 in
theorem lin_r10 : ∀ w ∈ wsL_law_r10, w ∈ lw_tbl := mem_r _ [396, 397, 398, 399, 400, 107, 401, 110, 402, 404, 5, 405, 406, 76, 436, 408, 409, 410, 411, 415, 419, 425, 428, 431] (by decide +kernel)
set_option maxRecDepth 20000 in
theorem lin_r11 : ∀ w ∈ wsL_law_r11, w ∈ lw_tbl := mem_r _ [434, 452, 453, 454, 455, 456, 457, 77, 458, 159, 160, 136, 459, 461, 6, 462, 161, 162, 163, 422, 463, 464, 465, 466] (by decide +kernel)
set_option maxRecDepth 20000 in
theorem lin_r12 : ∀ w ∈ wsL_law_r12, w ∈ lw_tbl := mem_r _ [100, 468, 469, 470, 471, 472, 473, 474, 475, 476, 477, 478, 480, 481, 482, 484, 7, 485, 486, 487, 488, 489, 490, 491] (by decide +kernel)
set_option maxRecDepth 20000 in
theorem lin_r13 : ∀ w ∈ wsL_law_r13, w ∈ lw_tbl := mem_r _ [492, 493, 103, 494, 496, 8, 497, 98, 499, 500, 501, 503, 9, 504, 95, 505, 507, 10, 508, 165, 164, 509, 510, 511] (by decide +kernel)
set_option maxRecDepth 20000 in
theorem lin_r14 : ∀ w ∈ wsL_law_r14, w ∈ lw_tbl := mem_r _ [512, 513, 514, 515, 516, 96, 518, 519, 520, 522, 11, 523, 894, 895, 896, 897, 807, 898, 899, 900, 901, 903, 33, 904] (by decide +kernel)
set_option maxRecDepth 20000 in
theorem lin_r15 : ∀ w ∈ wsL_law_r15, w ∈ lw_tbl := mem_r _ [808, 809, 905, 907, 34, 908, 909, 911, 35, 912, 913, 915, 36, 916, 917, 919, 37, 920, 921, 923, 38, 924, 925, 927] (by decide +kernel)
set_option maxRecDepth 20000 in
theorem lin_r16 : ∀ w ∈ wsL_law_r16, w ∈ lw_tbl := mem_r _ [39, 928, 929, 931, 40, 932, 933, 934, 935, 936, 938, 41, 939, 940, 942, 42, 943, 944, 946, 43, 947, 948, 950, 44] (by decide +kernel)
set_option maxRecDepth 20000 in
theorem lin_r17 : ∀ w ∈ wsL_law_r17, w ∈ lw_tbl := mem_r _ [951, 952, 954, 45, 955, 956, 958, 46, 959, 524, 525, 526, 527, 528, 529, 530, 531, 532, 533, 534, 535, 135, 536, 538] (by decide +kernel)
set_option maxRecDepth 20000 in
theorem lin_r18 : ∀ w ∈ wsL_law_r18, w ∈ lw_tbl := mem_r _ [12, 539, 207, 205, 206, 423, 540, 541, 542, 544, 13, 545, 201, 202, 203, 208, 546, 547, 548, 549, 550, 552, 14, 553] (by decide +kernel)
set_option maxRecDepth 20000 in
theorem lin_r19 : ∀ w ∈ wsL_law_r19, w ∈ lw_tbl := mem_r _ [204, 131, 101, 555, 557, 558, 560, 15, 561, 94, 105, 562, 564, 16, 565, 566, 568, 17, 569, 570, 571, 573, 18, 574] (by decide +kernel)
set_option maxRecDepth 20000 in
theorem lin_r20 : ∀ w ∈ wsL_law_r20, w ∈ lw_tbl := mem_r _ [575, 576, 960, 961, 962, 963, 964, 966, 47, 967, 968, 970, 48, 971, 972, 974, 49, 975, 577, 578, 579, 580, 581, 583] (by decide +kernel)
set_option maxRecDepth 20000 in
theorem lin_r21 : ∀ w ∈ wsL_law_r21, w ∈ lw_tbl := mem_r _ [19, 584, 585, 586, 587, 588, 241, 242, 435, 420, 615, 589, 591, 20, 592, 593, 594, 595, 596, 597, 598, 599, 600, 601] (by decide +kernel)
set_option maxRecDepth 20000 in
theorem lin_r22 : ∀ w ∈ wsL_law_r22, w ∈ lw_tbl := mem_r _ [602, 603, 604, 606, 607, 608, 609, 610, 611, 612, 613, 616, 618, 21, 619, 432, 413, 417, 426, 620, 621, 976, 977, 978] (by decide +kernel)
set_option maxRecDepth 20000 in
theorem lin_r23 : ∀ w ∈ wsL_law_r23, w ∈ lw_tbl := mem_r _ [979, 980, 982, 50, 983, 984, 986, 51, 987, 988, 990, 52, 991, 992, 994, 53, 995, 622, 623, 624, 625, 244, 246, 626] (by decide +kernel)
set_option maxRecDepth 20000 in
theorem lin_r24 : ∀ w ∈ wsL_law_r24, w ∈ lw_tbl := mem_r _ [627, 628, 629, 630, 632, 22, 633, 429, 634, 635, 636, 996, 997, 998, 999, 1000, 1002, 54, 1003, 1004, 1006, 55, 1007, 637] (by decide +kernel)
set_option maxRecDepth 20000 in
theorem lin_r25 : ∀ w ∈ wsL_law_r25, w ∈ lw_tbl := mem_r _ [638, 639, 640, 641, 642, 643, 644, 645, 647, 23, 648, 649, 650, 651, 652, 653, 655, 1008, 1009, 1010, 1011, 1012, 1014, 56] (by decide +kernel)
set_option maxRecDepth 20000 in
theorem lin_r26 : ∀ w ∈ wsL_law_r26, w ∈ lw_tbl := mem_r _ [1015, 1016, 1018, 57, 1019, 1020, 1022, 58, 1023, 656, 657, 658, 659, 1024, 1025, 1026, 1027, 660, 661, 662, 663, 664, 665, 666] (by decide +kernel)
set_option maxRecDepth 20000 in
theorem lin_r27 : ∀ w ∈ wsL_law_r27, w ∈ lw_tbl := mem_r _ [667, 668, 669, 670, 671, 672, 673, 674, 675, 676, 677, 678, 679, 680, 681, 683, 24, 684, 1028, 1029, 1030, 1031, 685, 686] (by decide +kernel)
set_option maxRecDepth 20000 in
theorem lin_r28 : ∀ w ∈ wsL_law_r28, w ∈ lw_tbl := mem_r _ [687, 688, 414, 418, 424, 430, 427, 689, 690, 691, 1032, 1033, 1034, 1035, 692, 693, 694, 695, 433, 1036, 1037, 1038, 1039, 696] (by decide +kernel)
set_option maxRecDepth 20000 in
theorem lin_r29 : ∀ w ∈ wsL_law_r29, w ∈ lw_tbl := mem_r _ [697, 698, 699, 1040, 1041, 1042, 1043, 700, 701, 702, 703, 1044, 1045, 1046, 1047, 704, 705, 706, 707, 708, 709, 1048, 1049, 1050] (by decide +kernel)
set_option maxRecDepth 20000 in
theorem lin_r30 : ∀ w ∈ wsL_law_r30, w ∈ lw_tbl := mem_r _ [1051, 710, 711, 712, 713, 1052, 1053, 1054, 1055, 714, 715, 716, 717, 718, 719, 720, 721, 421, 412, 416, 722, 723, 725, 25] (by decide +kernel)
set_option maxRecDepth 20000 in
theorem lin_r31 : ∀ w ∈ wsL_law_r31, w ∈ lw_tbl := mem_r _ [726, 735, 736, 727, 729, 26, 730, 731, 733, 27, 734, 737, 738, 739, 740, 741, 743, 28, 744, 745, 746, 747, 748, 1056] (by decide +kernel)
set_option maxRecDepth 20000 in
theorem lin_r32 : ∀ w ∈ wsL_law_r32, w ∈ lw_tbl := mem_r _ [1057, 1058, 1059, 1060, 1062, 59, 1063, 1064, 1066, 60, 1067, 1068, 1070, 61, 1071, 1072, 1074, 62, 1075, 1076, 1078, 63, 1079, 1080] (by decide +kernel)
set_option maxRecDepth 20000 in
theorem lin_r33 : ∀ w ∈ wsL_law_r33, w ∈ lw_tbl := mem_r _ [1082, 64, 1083, 749, 750, 751, 752, 753, 755, 29, 756, 757, 759, 30, 760, 761, 762, 763, 764, 765, 766, 767, 768, 769] (by decide +kernel)
set_option maxRecDepth 20000 in
theorem lin_r34 : ∀ w ∈ wsL_law_r34, w ∈ lw_tbl := mem_r _ [771, 31, 772, 773, 774, 775, 776, 777, 778, 779, 780, 781, 782, 783, 1084, 1085, 1086, 1087, 812, 1088, 1090, 65, 1091, 784] (by decide +kernel)
set_option maxRecDepth 20000 in
theorem lin_r35 : ∀ w ∈ wsL_law_r35, w ∈ lw_tbl := mem_r _ [785, 786, 787, 1092, 1093, 1094, 1095, 788, 789, 790, 791, 1096, 1097, 1098, 1099] (by decide +kernel)
set_option maxRecDepth 20000 in
theorem inX0 : ∀ w ∈ wsX00, w ∈ lw_tbl := mem_r _ [111, 113, 115, 117, 119] (by decide +kernel)
set_option maxRecDepth 20000 in
theorem inX1 : ∀ w ∈ wsX10, w ∈ lw_tbl := mem_r _ [209, 211, 213, 215, 217, 219, 221, 223, 225, 227, 229, 231] (by decide +kernel)
set_option maxRecDepth 20000 in
theorem inX2 : ∀ w ∈ wsX20, w ∈ lw_tbl := mem_r _ [166, 168, 170, 172, 174, 176, 178, 180, 182, 184, 186, 188] (by decide +kernel)
set_option maxRecDepth 20000 in
theorem inX3 : ∀ w ∈ wsX30, w ∈ lw_tbl := mem_r _ [247, 249, 251, 253, 255] (by decide +kernel)
set_option maxRecDepth 20000 in
theorem inX4 : ∀ w ∈ wsX40, w ∈ lw_tbl := mem_r _ [137, 139, 141, 143, 145] (by decide +kernel)
set_option maxRecDepth 20000 in
theorem inX5 : ∀ w ∈ wsX50, w ∈ lw_tbl := mem_r _ [271, 273, 275, 277, 279, 281, 283] (by decide +kernel)
set_option maxRecDepth 20000 in
theorem inX6 : ∀ w ∈ wsX60, w ∈ lw_tbl := mem_r _ [437, 439, 441, 443, 445, 447, 449] (by decide +kernel)
set_option maxRecDepth 20000 in
theorem inX7 : ∀ w ∈ wsX70, w ∈ lw_tbl := mem_r _ [303, 305, 307, 309, 311, 313, 315, 317, 319, 321, 323, 325, 327, 329] (by decide +kernel)
set_option maxRecDepth 20000 in
theorem inX8 : ∀ w ∈ wsX80, w ∈ lw_tbl := mem_r _ [822, 824, 826, 828, 830, 832, 834, 836, 838, 840, 842, 844, 846, 848, 850, 852, 854, 856, 858, 860, 862, 864, 866] (by decide +kernel)
theorem wsL_law_in : ∀ w ∈ wsL_law, w ∈ lw_tbl := (List.forall_mem_append.mpr ⟨(List.forall_mem_append.mpr ⟨(List.forall_mem_append.mpr ⟨(List.forall_mem_append.mpr ⟨(List.forall_mem_append.mpr ⟨(List.forall_mem_append.mpr ⟨(List.forall_mem_append.mpr ⟨(List.forall_mem_append.mpr ⟨(List.forall_mem_append.mpr ⟨(List.forall_mem_append.mpr ⟨(List.forall_mem_append.mpr ⟨lin_r1, List.forall_mem_append.mpr ⟨lin_r2, List.forall_mem_append.mpr ⟨lin_r3, List.forall_mem_append.mpr ⟨lin_r4, List.forall_mem_append.mpr ⟨lin_r5, List.forall_mem_append.mpr ⟨lin_r6, List.forall_mem_append.mpr ⟨lin_r7, List.forall_mem_append.mpr ⟨lin_r8, List.forall_mem_append.mpr ⟨lin_r9, List.forall_mem_append.mpr ⟨lin_r10, List.forall_mem_append.mpr ⟨lin_r11, List.forall_mem_append.mpr ⟨lin_r12, List.forall_mem_append.mpr ⟨lin_r13, List.forall_mem_append.mpr ⟨lin_r14, List.forall_mem_append.mpr ⟨lin_r15, List.forall_mem_append.mpr ⟨lin_r16, List.forall_mem_append.mpr ⟨lin_r17, List.forall_mem_append.mpr ⟨lin_r18, List.forall_mem_append.mpr ⟨lin_r19, List.forall_mem_append.mpr ⟨lin_r20, List.forall_mem_append.mpr ⟨lin_r21, List.forall_mem_append.mpr ⟨lin_r22, List.forall_mem_append.mpr ⟨lin_r23, List.forall_mem_append.mpr ⟨lin_r24, List.forall_mem_append.mpr ⟨lin_r25, List.forall_mem_append.mpr ⟨lin_r26, List.forall_mem_append.mpr ⟨lin_r27, List.forall_mem_append.mpr ⟨lin_r28, List.forall_mem_append.mpr ⟨lin_r29, List.forall_mem_append.mpr ⟨lin_r30, List.forall_mem_append.mpr ⟨lin_r31, List.forall_mem_append.mpr ⟨lin_r32, List.forall_mem_append.mpr ⟨lin_r33, List.forall_mem_append.mpr ⟨lin_r34, lin_r35⟩⟩⟩⟩⟩⟩⟩⟩⟩⟩⟩⟩⟩⟩⟩⟩⟩⟩⟩⟩⟩⟩⟩⟩⟩⟩⟩⟩⟩⟩⟩⟩⟩⟩), inX7⟩), inX8⟩), inX0⟩), inX4⟩), inX2⟩), inX1⟩), inX3⟩), inX5⟩), inX6⟩), fun _ h => absurd h List.not_mem_nil⟩)
theorem inlX0 : ∀ w ∈ wsX00, w ∈ wsL_law := fun _ h => List.mem_append_left _ (List.mem_append_left _ (List.mem_append_left _ (List.mem_append_left _ (List.mem_append_left _ (List.mem_append_left _ (List.mem_append_left _ (List.mem_append_right _ h)))))))
theorem inlX1 : ∀ w ∈ wsX10, w ∈ wsL_law := fun _ h => List.mem_append_left _ (List.mem_append_left _ (List.mem_append_left _ (List.mem_append_left _ (List.mem_append_right _ h))))
theorem inlX2 : ∀ w ∈ wsX20, w ∈ wsL_law := fun _ h => List.mem_append_left _ (List.mem_append_left _ (List.mem_append_left _ (List.mem_append_left _ (List.mem_append_left _ (List.mem_append_right _ h)))))
theorem inlX3 : ∀ w ∈ wsX30, w ∈ wsL_law := fun _ h => List.mem_append_left _ (List.mem_append_left _ (List.mem_append_left _ (List.mem_append_right _ h)))
theorem inlX4 : ∀ w ∈ wsX40, w ∈ wsL_law := fun _ h => List.mem_append_left _ (List.mem_append_left _ (List.mem_append_left _ (List.mem_append_left _ (List.mem_append_left _ (List.mem_append_left _ (List.mem_append_right _ h))))))
theorem inlX5 : ∀ w ∈ wsX50, w ∈ wsL_law := fun _ h => List.mem_append_left _ (List.mem_append_left _ (List.mem_append_right _ h))
theorem inlX6 : ∀ w ∈ wsX60, w ∈ wsL_law := fun _ h => List.mem_append_left _ (List.mem_append_right _ h)
theorem inlX7 : ∀ w ∈ wsX70, w ∈ wsL_law := fun _ h => List.mem_append_left _ (List.mem_append_left _ (List.mem_append_left _ (List.mem_append_left _ (List.mem_append_left _ (List.mem_append_left _ (List.mem_append_left _ (List.mem_append_left _ (List.mem_append_left _ (List.mem_append_right _ h)))))))))
theorem inlX8 : ∀ w ∈ wsX80, w ∈ wsL_law := fun _ h => List.mem_append_left _ (List.mem_append_left _ (List.mem_append_left _ (List.mem_append_left _ (List.mem_append_left _ (List.mem_append_left _ (List.mem_append_left _ (List.mem_append_left _ (List.mem_append_right _ h))))))))
