set_option maxRecDepth 20000 in
theorem ggL_law_X7_mill : GoodIn wsL_law wsX7_mill := goodIn_r _ [282, 283, 284, 285, 286, 287, 288, 2, 289, 17, 144, 145, 146, 933, 934, 935, 936, 937, 938, 939, 940, 941, 942, 943, 944, 945, 946, 844, 845, 846, 847, 848, 849, 850, 851, 852, 853, 854, 855, 856, 857] (by decide +kernel) (by decide +kernel)
set_option maxRecDepth 20000 in
theorem gL_law_X7_mill : GoodIn wsL_law (wsV RL 45 RX7 yX7_mill wsX7_mill) := goodIn_app (goodIn_of _ (by decide +kernel)) ggL_law_X7_mill
set_option maxRecDepth 20000 in
theorem ggL_law_X8_mill : GoodIn wsL_law wsX8_mill := goodIn_r _ [293, 116, 113, 114, 294, 295, 296, 5, 297, 159, 160, 161, 858, 859, 860, 861, 862, 863, 864, 865, 866, 867, 868, 869, 870, 871, 872, 873, 874, 875, 876, 877, 878, 879, 880, 881, 882, 883, 884, 885, 886, 887, 888, 889, 890, 891, 892, 893, 894, 895, 896, 897, 898, 899, 900, 901, 902, 903, 904, 905, 906, 907, 908, 909, 910, 911] (by decide +kernel) (by decide +kernel)
set_option maxRecDepth 20000 in
theorem gL_law_X8_mill : GoodIn wsL_law (wsV RL 48 RX8 yX8_mill wsX8_mill) := goodIn_app (goodIn_of _ (by decide +kernel)) ggL_law_X8_mill
set_option maxRecDepth 20000 in
theorem ggL_law_X7_put : GoodIn wsL_law wsX7_put := goodIn_r _ [301, 236, 283, 208, 209, 210, 2, 211, 33, 15, 144, 145, 146, 286, 287, 288, 289, 17, 302, 303, 304, 40, 305, 86, 80, 306, 84, 85, 307, 308, 77, 309, 310, 311, 167, 312, 189, 190, 313, 191, 314, 315, 316, 317, 318, 265, 266, 267, 187, 319, 320, 321, 322, 323, 91, 324, 950, 951, 952, 953, 954, 955, 956, 957, 958, 959, 960, 961, 933, 934, 935, 936, 937, 938, 939, 940, 941, 942, 943, 944, 945, 946, 844, 845, 846, 847, 848, 849, 850, 851, 852, 853, 854, 855, 856, 857, 947, 948, 949] (by decide +kernel) (by decide +kernel)
set_option maxRecDepth 20000 in
theorem gL_law_X7_put : GoodIn wsL_law (wsV RL 49 RX7 yX7_put wsX7_put) := goodIn_app (goodIn_of _ (by decide +kernel)) ggL_law_X7_put
set_option maxRecDepth 20000 in
theorem ggL_law_X8_put : GoodIn wsL_law wsX8_put := goodIn_r _ [328, 104, 118, 116, 101, 119, 120, 100, 102, 117, 110, 220, 221, 222, 5, 223, 196, 159, 160, 161, 294, 295, 296, 297, 329, 330, 331, 332, 333, 334, 335, 336, 112, 103, 337, 338, 339, 340, 858, 859, 860, 861, 862, 863, 864, 865, 866, 867, 868, 869, 870, 871, 872, 873, 874, 875, 876, 877, 878, 879, 880, 881, 882, 883, 884, 885, 886, 887, 888, 889, 890, 891, 892, 893, 894, 895, 896, 897, 898, 899, 900, 901, 902, 903, 904, 905, 906, 907, 908, 909, 910, 911] (by decide +kernel) (by decide +kernel)
set_option maxRecDepth 20000 in
theorem gL_law_X8_put : GoodIn wsL_law (wsV RL 52 RX8 yX8_put wsX8_put) := goodIn_app (goodIn_of _ (by decide +kernel)) ggL_law_X8_put
set_option maxRecDepth 20000 in
theorem ggL_law_X7_take : GoodIn wsL_law wsX7_take := goodIn_r _ [344, 236, 263, 345, 208, 209, 210, 2, 211, 33, 15, 144, 145, 146, 286, 287, 288, 289, 17, 346, 347, 348, 40, 349, 80, 77, 323, 324, 950, 951, 952, 953, 954, 955, 956, 957, 958, 959, 960, 961, 933, 934, 935, 936, 937, 938, 939, 940, 941, 942, 943, 944, 945, 946, 844, 845, 846, 847, 848, 849, 850, 851, 852, 853, 854, 855, 856, 857] (by decide +kernel) (by decide +kernel)
set_option maxRecDepth 20000 in
theorem gL_law_X7_take : GoodIn wsL_law (wsV RL 53 RX7 yX7_take wsX7_take) := goodIn_app (goodIn_of _ (by decide +kernel)) ggL_law_X7_take
set_option maxRecDepth 20000 in
theorem ggL_law_X8_take : GoodIn wsL_law wsX8_take := goodIn_r _ [353, 104, 118, 110, 116, 117, 220, 221, 222, 5, 223, 196, 159, 160, 161, 329, 330, 331, 332, 858, 859, 860, 861, 862, 863, 864, 865, 866, 867, 868, 869, 870, 871, 872, 873, 874, 875, 876, 877, 878, 879, 880, 881, 882, 883, 884, 885, 886, 887, 888, 889, 890, 891, 892, 893, 894, 895, 896, 897, 898, 899, 900, 901, 902, 903, 904, 905, 906, 907, 908, 909, 910, 911] (by decide +kernel) (by decide +kernel)
set_option maxRecDepth 20000 in
theorem gL_law_X8_take : GoodIn wsL_law (wsV RL 56 RX8 yX8_take wsX8_take) := goodIn_app (goodIn_of _ (by decide +kernel)) ggL_law_X8_take
set_option maxRecDepth 20000 in
theorem ggL_law_X7_wash : GoodIn wsL_law wsX7_wash := goodIn_r _ [357, 283, 35, 358, 359, 286, 287, 288, 2, 289, 17, 144, 145, 146, 360, 361, 362, 40, 363, 83, 933, 934, 935, 936, 937, 938, 939, 940, 941, 942, 943, 944, 945, 946, 844, 845, 846, 847, 848, 849, 850, 851, 852, 853, 854, 855, 856, 857] (by decide +kernel) (by decide +kernel)
set_option maxRecDepth 20000 in
theorem gL_law_X7_wash : GoodIn wsL_law (wsV RL 57 RX7 yX7_wash wsX7_wash) := goodIn_app (goodIn_of _ (by decide +kernel)) ggL_law_X7_wash
set_option maxRecDepth 20000 in
theorem ggL_law_X8_wash : GoodIn wsL_law wsX8_wash := goodIn_r _ [367, 116, 201, 115, 119, 294, 295, 296, 5, 297, 159, 160, 161, 858, 859, 860, 861, 862, 863, 864, 865, 866, 867, 868, 869, 870, 871, 872, 873, 874, 875, 876, 877, 878, 879, 880, 881, 882, 883, 884, 885, 886, 887, 888, 889, 890, 891, 892, 893, 894, 895, 896, 897, 898, 899, 900, 901, 902, 903, 904, 905, 906, 907, 908, 909, 910, 911] (by decide +kernel) (by decide +kernel)
set_option maxRecDepth 20000 in
theorem gL_law_X8_wash : GoodIn wsL_law (wsV RL 60 RX8 yX8_wash wsX8_wash) := goodIn_app (goodIn_of _ (by decide +kernel)) ggL_law_X8_wash
