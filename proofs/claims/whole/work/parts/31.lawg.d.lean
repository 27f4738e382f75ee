set_option maxRecDepth 20000 in
theorem ggL_law_X7_press : GoodIn wsL_law wsX7_press := goodIn_r _ [371, 35, 286, 287, 288, 2, 289, 17, 144, 145, 146, 372, 373, 374, 40, 375, 86, 80, 81, 77, 376, 361, 362, 363, 83, 377, 378, 379, 380, 381, 382, 383, 384, 167, 385, 189, 386, 387, 388, 389, 390, 323, 391, 87, 88, 85, 84, 392, 393, 394, 395, 82, 396, 397, 398, 399, 400, 401, 181, 182, 402, 403, 404, 405, 190, 313, 844, 845, 846, 847, 848, 849, 850, 851, 852, 853, 854, 855, 856, 857, 933, 934, 935, 936, 937, 938, 939, 940, 941, 942, 943, 944, 945, 946, 950, 951, 952, 953, 954, 955, 956, 957, 958, 959, 960, 961, 947, 948, 949] (by decide +kernel) (by decide +kernel)
set_option maxRecDepth 20000 in
theorem gL_law_X7_press : GoodIn wsL_law (wsV RL 61 RX7 yX7_press wsX7_press) := goodIn_app (goodIn_of _ (by decide +kernel)) ggL_law_X7_press
set_option maxRecDepth 20000 in
theorem ggL_law_X8_press : GoodIn wsL_law wsX8_press := goodIn_r _ [409, 115, 201, 118, 119, 120, 101, 100, 102, 121, 122, 116, 104, 294, 295, 296, 5, 297, 159, 160, 161, 410, 411, 412, 413, 113, 329, 330, 331, 332, 117, 414, 415, 416, 417, 105, 418, 419, 420, 421, 114, 858, 859, 860, 861, 862, 863, 864, 865, 866, 867, 868, 869, 870, 871, 872, 873, 874, 875, 876, 877, 878, 879, 880, 881, 882, 883, 884, 885, 886, 887, 888, 889, 890, 891, 892, 893, 894, 895, 896, 897, 898, 899, 900, 901, 902, 903, 904, 905, 906, 907, 908, 909, 910, 911] (by decide +kernel) (by decide +kernel)
set_option maxRecDepth 20000 in
theorem gL_law_X8_press : GoodIn wsL_law (wsV RL 65 RX8 yX8_press wsX8_press) := goodIn_app (goodIn_of _ (by decide +kernel)) ggL_law_X8_press
set_option maxRecDepth 20000 in
theorem ggL_law_X7_gave : GoodIn wsL_law wsX7_gave := goodIn_r _ [425, 345, 35, 426, 27, 427, 286, 287, 288, 2, 289, 17, 144, 145, 146, 360, 361, 362, 40, 363, 83, 428, 378, 379, 380, 80, 77, 381, 933, 934, 935, 936, 937, 938, 939, 940, 941, 942, 943, 944, 945, 946, 844, 845, 846, 847, 848, 849, 850, 851, 852, 853, 854, 855, 856, 857, 913, 914, 915, 916, 917, 950, 951, 952, 953, 954, 955, 956, 957, 958, 959, 960, 961] (by decide +kernel) (by decide +kernel)
set_option maxRecDepth 20000 in
theorem gL_law_X7_gave : GoodIn wsL_law (wsV RL 66 RX7 yX7_gave wsX7_gave) := goodIn_app (goodIn_of _ (by decide +kernel)) ggL_law_X7_gave
set_option maxRecDepth 20000 in
theorem ggL_law_X8_gave : GoodIn wsL_law wsX8_gave := goodIn_r _ [432, 118, 201, 115, 121, 433, 294, 295, 296, 5, 297, 159, 160, 161, 414, 415, 416, 417, 116, 105, 329, 330, 331, 332, 117, 858, 859, 860, 861, 862, 863, 864, 865, 866, 867, 868, 869, 870, 871, 872, 873, 874, 875, 876, 877, 878, 879, 880, 881, 882, 883, 884, 885, 886, 887, 888, 889, 890, 891, 892, 893, 894, 895, 896, 897, 898, 899, 900, 901, 902, 903, 904, 905, 906, 907, 908, 909, 910, 911] (by decide +kernel) (by decide +kernel)
set_option maxRecDepth 20000 in
theorem gL_law_X8_gave : GoodIn wsL_law (wsV RL 70 RX8 yX8_gave wsX8_gave) := goodIn_app (goodIn_of _ (by decide +kernel)) ggL_law_X8_gave
set_option maxRecDepth 20000 in
theorem ggL_law_X7_share : GoodIn wsL_law wsX7_share := goodIn_r _ [437, 345, 426, 438, 37, 286, 287, 288, 2, 289, 17, 144, 145, 146, 439, 440, 441, 40, 442, 89, 443, 90, 80, 77, 444, 323, 79, 398, 399, 400, 167, 401, 181, 182, 445, 446, 447, 448, 449, 450, 933, 934, 935, 936, 937, 938, 939, 940, 941, 942, 943, 944, 945, 946, 844, 845, 846, 847, 848, 849, 850, 851, 852, 853, 854, 855, 856, 857, 950, 951, 952, 953, 954, 955, 956, 957, 958, 959, 960, 961] (by decide +kernel) (by decide +kernel)
set_option maxRecDepth 20000 in
theorem gL_law_X7_share : GoodIn wsL_law (wsV RL 71 RX7 yX7_share wsX7_share) := goodIn_app (goodIn_of _ (by decide +kernel)) ggL_law_X7_share
set_option maxRecDepth 20000 in
theorem ggL_law_X8_share : GoodIn wsL_law wsX8_share := goodIn_r _ [454, 118, 121, 122, 116, 97, 108, 104, 294, 295, 296, 5, 297, 159, 160, 161, 329, 330, 331, 332, 117, 455, 456, 457, 458, 105, 106, 858, 859, 860, 861, 862, 863, 864, 865, 866, 867, 868, 869, 870, 871, 872, 873, 874, 875, 876, 877, 878, 879, 880, 881, 882, 883, 884, 885, 886, 887, 888, 889, 890, 891, 892, 893, 894, 895, 896, 897, 898, 899, 900, 901, 902, 903, 904, 905, 906, 907, 908, 909, 910, 911] (by decide +kernel) (by decide +kernel)
set_option maxRecDepth 20000 in
theorem gL_law_X8_share : GoodIn wsL_law (wsV RL 74 RX8 yX8_share wsX8_share) := goodIn_app (goodIn_of _ (by decide +kernel)) ggL_law_X8_share
set_option maxRecDepth 20000 in
theorem ggL_law_X7_keep : GoodIn wsL_law wsX7_keep := goodIn_r _ [462, 37, 144, 145, 2, 146, 844, 845, 846, 847, 848, 849, 850, 851, 852, 853, 854, 855, 856, 857] (by decide +kernel) (by decide +kernel)
set_option maxRecDepth 20000 in
theorem gL_law_X7_keep : GoodIn wsL_law (wsV RL 75 RX7 yX7_keep wsX7_keep) := goodIn_app (goodIn_of _ (by decide +kernel)) ggL_law_X7_keep
set_option maxRecDepth 20000 in
theorem ggL_law_X8_keep : GoodIn wsL_law wsX8_keep := goodIn_r _ [466, 97, 159, 160, 5, 161, 858, 859, 860, 861, 862, 863, 864, 865, 866, 867, 868, 869, 870, 871, 872, 873, 874, 875, 876, 877, 878, 879, 880, 881, 882, 883, 884, 885, 886, 887, 888, 889, 890, 891, 892, 893, 894, 895, 896, 897, 898, 899, 900, 901, 902, 903, 904, 905, 906, 907, 908, 909, 910, 911] (by decide +kernel) (by decide +kernel)
set_option maxRecDepth 20000 in
theorem gL_law_X8_keep : GoodIn wsL_law (wsV RL 78 RX8 yX8_keep wsX8_keep) := goodIn_app (goodIn_of _ (by decide +kernel)) ggL_law_X8_keep
