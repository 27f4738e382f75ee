set_option maxRecDepth 20000 in
theorem ggL_law_X7_vat : GoodIn wsL_law wsX7_vat := goodIn_r _ [470, 471, 34, 19, 18, 472, 473, 474, 475, 2, 476, 144, 145, 146, 477, 478, 479, 480, 10, 11, 481, 482, 483, 484, 485, 486, 487, 488, 844, 845, 846, 847, 848, 849, 850, 851, 852, 853, 854, 855, 856, 857, 962, 963, 964, 965, 966, 967, 968, 969] (by decide +kernel) (by decide +kernel)
set_option maxRecDepth 20000 in
theorem gL_law_X7_vat : GoodIn wsL_law (wsV RL 79 RX7 yX7_vat wsX7_vat) := goodIn_app (goodIn_of _ (by decide +kernel)) ggL_law_X7_vat
set_option maxRecDepth 20000 in
theorem ggL_law_X8_vat : GoodIn wsL_law wsX8_vat := goodIn_r _ [492, 493, 494, 123, 124, 125, 159, 160, 5, 161, 858, 859, 860, 861, 862, 863, 864, 865, 866, 867, 868, 869, 870, 871, 872, 873, 874, 875, 876, 877, 878, 879, 880, 881, 882, 883, 884, 885, 886, 887, 888, 889, 890, 891, 892, 893, 894, 895, 896, 897, 898, 899, 900, 901, 902, 903, 904, 905, 906, 907, 908, 909, 910, 911] (by decide +kernel) (by decide +kernel)
set_option maxRecDepth 20000 in
theorem gL_law_X8_vat : GoodIn wsL_law (wsV RL 83 RX8 yX8_vat wsX8_vat) := goodIn_app (goodIn_of _ (by decide +kernel)) ggL_law_X8_vat
set_option maxRecDepth 20000 in
theorem ggL_law_X7_pour : GoodIn wsL_law wsX7_pour := goodIn_r _ [498, 345, 438, 499, 286, 287, 288, 2, 289, 17, 144, 145, 146, 500, 501, 502, 503, 34, 19, 504, 505, 506, 473, 507, 483, 487, 508, 488, 481, 486, 484, 509, 485, 510, 511, 512, 513, 514, 40, 515, 80, 77, 306, 516, 517, 518, 519, 520, 521, 522, 523, 482, 524, 525, 526, 527, 528, 323, 444, 529, 324, 86, 87, 88, 89, 90, 933, 934, 935, 936, 937, 938, 939, 940, 941, 942, 943, 944, 945, 946, 962, 963, 964, 965, 966, 967, 968, 969, 844, 845, 846, 847, 848, 849, 850, 851, 852, 853, 854, 855, 856, 857, 950, 951, 952, 953, 954, 955, 956, 957, 958, 959, 960, 961] (by decide +kernel) (by decide +kernel)
set_option maxRecDepth 20000 in
theorem gL_law_X7_pour : GoodIn wsL_law (wsV RL 84 RX7 yX7_pour wsX7_pour) := goodIn_app (goodIn_of _ (by decide +kernel)) ggL_law_X7_pour
set_option maxRecDepth 20000 in
theorem ggL_law_X8_pour : GoodIn wsL_law wsX8_pour := goodIn_r _ [533, 118, 122, 129, 121, 130, 126, 127, 116, 104, 109, 108, 110, 294, 295, 296, 5, 297, 159, 160, 161, 534, 535, 536, 537, 494, 538, 539, 540, 541, 101, 124, 125, 128, 123, 542, 543, 329, 330, 331, 332, 117, 544, 545, 546, 547, 105, 107, 414, 415, 416, 417, 858, 859, 860, 861, 862, 863, 864, 865, 866, 867, 868, 869, 870, 871, 872, 873, 874, 875, 876, 877, 878, 879, 880, 881, 882, 883, 884, 885, 886, 887, 888, 889, 890, 891, 892, 893, 894, 895, 896, 897, 898, 899, 900, 901, 902, 903, 904, 905, 906, 907, 908, 909, 910, 911] (by decide +kernel) (by decide +kernel)
set_option maxRecDepth 20000 in
theorem gL_law_X8_pour : GoodIn wsL_law (wsV RL 87 RX8 yX8_pour wsX8_pour) := goodIn_app (goodIn_of _ (by decide +kernel)) ggL_law_X8_pour
set_option maxRecDepth 20000 in
theorem ggL_law_X7_fetch : GoodIn wsL_law wsX7_fetch := goodIn_r _ [551, 262, 27, 552, 208, 209, 210, 2, 211, 33, 15, 144, 145, 146, 553, 554, 555, 556, 236, 263, 500, 501, 502, 503, 34, 19, 557, 558, 559, 473, 560, 481, 483, 484, 485, 950, 951, 952, 953, 954, 955, 956, 957, 958, 959, 960, 961, 844, 845, 846, 847, 848, 849, 850, 851, 852, 853, 854, 855, 856, 857, 913, 914, 915, 916, 917, 962, 963, 964, 965, 966, 967, 968, 969] (by decide +kernel) (by decide +kernel)
set_option maxRecDepth 20000 in
theorem gL_law_X7_fetch : GoodIn wsL_law (wsV RL 88 RX7 yX7_fetch wsX7_fetch) := goodIn_app (goodIn_of _ (by decide +kernel)) ggL_law_X7_fetch
set_option maxRecDepth 20000 in
theorem ggL_law_X8_fetch : GoodIn wsL_law wsX8_fetch := goodIn_r _ [564, 104, 109, 565, 110, 220, 221, 222, 5, 223, 196, 159, 160, 161, 566, 567, 568, 569, 126, 128, 129, 130, 858, 859, 860, 861, 862, 863, 864, 865, 866, 867, 868, 869, 870, 871, 872, 873, 874, 875, 876, 877, 878, 879, 880, 881, 882, 883, 884, 885, 886, 887, 888, 889, 890, 891, 892, 893, 894, 895, 896, 897, 898, 899, 900, 901, 902, 903, 904, 905, 906, 907, 908, 909, 910, 911] (by decide +kernel) (by decide +kernel)
set_option maxRecDepth 20000 in
theorem gL_law_X8_fetch : GoodIn wsL_law (wsV RL 91 RX8 yX8_fetch wsX8_fetch) := goodIn_app (goodIn_of _ (by decide +kernel)) ggL_law_X8_fetch
set_option maxRecDepth 20000 in
theorem ggL_law_X7_draw : GoodIn wsL_law wsX7_draw := goodIn_r _ [573, 574, 27, 575, 500, 501, 502, 2, 503, 34, 19, 144, 145, 146, 576, 577, 578, 473, 579, 482, 580, 558, 559, 560, 481, 483, 484, 485, 962, 963, 964, 965, 966, 967, 968, 969, 844, 845, 846, 847, 848, 849, 850, 851, 852, 853, 854, 855, 856, 857, 913, 914, 915, 916, 917] (by decide +kernel) (by decide +kernel)
set_option maxRecDepth 20000 in
theorem gL_law_X7_draw : GoodIn wsL_law (wsV RL 92 RX7 yX7_draw wsX7_draw) := goodIn_app (goodIn_of _ (by decide +kernel)) ggL_law_X7_draw
set_option maxRecDepth 20000 in
theorem ggL_law_X8_draw : GoodIn wsL_law wsX8_draw := goodIn_r _ [584, 127, 585, 534, 535, 536, 5, 537, 494, 159, 160, 161, 566, 567, 568, 569, 126, 128, 129, 130, 858, 859, 860, 861, 862, 863, 864, 865, 866, 867, 868, 869, 870, 871, 872, 873, 874, 875, 876, 877, 878, 879, 880, 881, 882, 883, 884, 885, 886, 887, 888, 889, 890, 891, 892, 893, 894, 895, 896, 897, 898, 899, 900, 901, 902, 903, 904, 905, 906, 907, 908, 909, 910, 911] (by decide +kernel) (by decide +kernel)
set_option maxRecDepth 20000 in
theorem gL_law_X8_draw : GoodIn wsL_law (wsV RL 95 RX8 yX8_draw wsX8_draw) := goodIn_app (goodIn_of _ (by decide +kernel)) ggL_law_X8_draw
