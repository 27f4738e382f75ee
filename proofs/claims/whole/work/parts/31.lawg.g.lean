set_option maxRecDepth 20000 in
theorem ggL_law_X7_wait : GoodIn wsL_law wsX7_wait := goodIn_r _ [649, 35, 650, 651, 316, 652, 144, 145, 2, 146, 172, 173, 174, 175, 653, 654, 655, 656, 38, 33, 15, 260, 36, 206, 27, 657, 658, 659, 660, 167, 661, 189, 662, 213, 214, 215, 180, 844, 845, 846, 847, 848, 849, 850, 851, 852, 853, 854, 855, 856, 857, 950, 951, 952, 953, 954, 955, 956, 957, 958, 959, 960, 961, 913, 914, 915, 916, 917] (by decide +kernel) (by decide +kernel)
set_option maxRecDepth 20000 in
theorem gL_law_X7_wait : GoodIn wsL_law (wsV RL 113 RX7 yX7_wait wsX7_wait) := goodIn_app (goodIn_of _ (by decide +kernel)) ggL_law_X7_wait
set_option maxRecDepth 20000 in
theorem ggL_law_X8_wait : GoodIn wsL_law wsX8_wait := goodIn_r _ [666, 201, 159, 160, 5, 161, 667, 668, 669, 670, 98, 196, 104, 101, 103, 96, 671, 197, 198, 199, 200, 858, 859, 860, 861, 862, 863, 864, 865, 866, 867, 868, 869, 870, 871, 872, 873, 874, 875, 876, 877, 878, 879, 880, 881, 882, 883, 884, 885, 886, 887, 888, 889, 890, 891, 892, 893, 894, 895, 896, 897, 898, 899, 900, 901, 902, 903, 904, 905, 906, 907, 908, 909, 910, 911] (by decide +kernel) (by decide +kernel)
set_option maxRecDepth 20000 in
theorem gL_law_X8_wait : GoodIn wsL_law (wsV RL 116 RX8 yX8_wait wsX8_wait) := goodIn_app (goodIn_of _ (by decide +kernel)) ggL_law_X8_wait
set_option maxRecDepth 20000 in
theorem ggL_law_X7_fresh : GoodIn wsL_law wsX7_fresh := goodIn_r _ [675, 36, 144, 145, 2, 146, 844, 845, 846, 847, 848, 849, 850, 851, 852, 853, 854, 855, 856, 857] (by decide +kernel) (by decide +kernel)
set_option maxRecDepth 20000 in
theorem gL_law_X7_fresh : GoodIn wsL_law (wsV RL 117 RX7 yX7_fresh wsX7_fresh) := goodIn_app (goodIn_of _ (by decide +kernel)) ggL_law_X7_fresh
set_option maxRecDepth 20000 in
theorem ggL_law_X8_fresh : GoodIn wsL_law wsX8_fresh := goodIn_r _ [679, 96, 159, 160, 5, 161, 858, 859, 860, 861, 862, 863, 864, 865, 866, 867, 868, 869, 870, 871, 872, 873, 874, 875, 876, 877, 878, 879, 880, 881, 882, 883, 884, 885, 886, 887, 888, 889, 890, 891, 892, 893, 894, 895, 896, 897, 898, 899, 900, 901, 902, 903, 904, 905, 906, 907, 908, 909, 910, 911] (by decide +kernel) (by decide +kernel)
set_option maxRecDepth 20000 in
theorem gL_law_X8_fresh : GoodIn wsL_law (wsV RL 120 RX8 yX8_fresh wsX8_fresh) := goodIn_app (goodIn_of _ (by decide +kernel)) ggL_law_X8_fresh
set_option maxRecDepth 20000 in
theorem ggL_law_X7_at : GoodIn wsL_law wsX7_at := goodIn_r _ [683, 284, 285, 358, 283, 345, 359, 684, 685, 426, 686, 438, 286, 287, 288, 2, 289, 17, 144, 145, 146, 268, 269, 270, 933, 934, 935, 936, 937, 938, 939, 940, 941, 942, 943, 944, 945, 946, 844, 845, 846, 847, 848, 849, 850, 851, 852, 853, 854, 855, 856, 857] (by decide +kernel) (by decide +kernel)
set_option maxRecDepth 20000 in
theorem gL_law_X7_at : GoodIn wsL_law (wsV RL 121 RX7 yX7_at wsX7_at) := goodIn_app (goodIn_of _ (by decide +kernel)) ggL_law_X7_at
set_option maxRecDepth 20000 in
theorem ggL_law_X8_at : GoodIn wsL_law wsX8_at := goodIn_r _ [690, 113, 114, 115, 116, 118, 119, 120, 121, 122, 294, 295, 296, 5, 297, 159, 160, 161, 691, 692, 693, 694, 695, 329, 330, 331, 332, 117, 455, 456, 457, 458, 105, 106, 544, 545, 546, 547, 107, 414, 415, 416, 417, 858, 859, 860, 861, 862, 863, 864, 865, 866, 867, 868, 869, 870, 871, 872, 873, 874, 875, 876, 877, 878, 879, 880, 881, 882, 883, 884, 885, 886, 887, 888, 889, 890, 891, 892, 893, 894, 895, 896, 897, 898, 899, 900, 901, 902, 903, 904, 905, 906, 907, 908, 909, 910, 911] (by decide +kernel) (by decide +kernel)
set_option maxRecDepth 20000 in
theorem gL_law_X8_at : GoodIn wsL_law (wsV RL 124 RX8 yX8_at wsX8_at) := goodIn_app (goodIn_of _ (by decide +kernel)) ggL_law_X8_at
set_option maxRecDepth 20000 in
theorem ggL_law_X7_held : GoodIn wsL_law wsX7_held := goodIn_r _ [699, 591, 700, 701, 499, 574, 702, 500, 501, 502, 2, 503, 34, 19, 144, 145, 146, 268, 269, 270, 703, 704, 705, 473, 706, 484, 485, 707, 708, 709, 710, 711, 316, 712, 713, 714, 715, 716, 962, 963, 964, 965, 966, 967, 968, 969, 844, 845, 846, 847, 848, 849, 850, 851, 852, 853, 854, 855, 856, 857] (by decide +kernel) (by decide +kernel)
set_option maxRecDepth 20000 in
theorem gL_law_X7_held : GoodIn wsL_law (wsV RL 125 RX7 yX7_held wsX7_held) := goodIn_app (goodIn_of _ (by decide +kernel)) ggL_law_X7_held
set_option maxRecDepth 20000 in
theorem ggL_law_X8_held : GoodIn wsL_law wsX8_held := goodIn_r _ [720, 130, 129, 123, 124, 125, 126, 127, 128, 534, 535, 536, 5, 537, 494, 159, 160, 161, 721, 722, 723, 858, 859, 860, 861, 862, 863, 864, 865, 866, 867, 868, 869, 870, 871, 872, 873, 874, 875, 876, 877, 878, 879, 880, 881, 882, 883, 884, 885, 886, 887, 888, 889, 890, 891, 892, 893, 894, 895, 896, 897, 898, 899, 900, 901, 902, 903, 904, 905, 906, 907, 908, 909, 910, 911] (by decide +kernel) (by decide +kernel)
set_option maxRecDepth 20000 in
theorem gL_law_X8_held : GoodIn wsL_law (wsV RL 128 RX8 yX8_held wsX8_held) := goodIn_app (goodIn_of _ (by decide +kernel)) ggL_law_X8_held
