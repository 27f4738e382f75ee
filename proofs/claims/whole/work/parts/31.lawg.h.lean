set_option maxRecDepth 20000 in
theorem ggL_law_X7_plan : GoodIn wsL_law wsX7_plan := goodIn_r _ [727, 31, 35, 358, 728, 729, 316, 730, 359, 684, 33, 15, 238, 731, 286, 287, 288, 2, 289, 17, 144, 145, 146, 732, 733, 734, 735, 736, 737, 738, 167, 739, 180, 740, 383, 384, 385, 189, 741, 742, 743, 30, 744, 64, 65, 66, 68, 71, 745, 393, 394, 40, 395, 82, 396, 397, 746, 747, 748, 749, 206, 750, 260, 36, 172, 173, 174, 175, 751, 752, 753, 754, 57, 755, 58, 59, 60, 756, 403, 404, 405, 190, 313, 757, 758, 759, 760, 761, 762, 763, 764, 61, 62, 765, 766, 767, 768, 769, 770, 771, 63, 772, 773, 774, 775, 776, 777, 778, 779, 780, 781, 782, 783, 784, 785, 786, 787, 788, 789, 790, 791, 792, 793, 794, 795, 796, 69, 67, 70, 844, 845, 846, 847, 848, 849, 850, 851, 852, 853, 854, 855, 856, 857, 933, 934, 935, 936, 937, 938, 939, 940, 941, 942, 943, 944, 945, 946, 950, 951, 952, 953, 954, 955, 956, 957, 958, 959, 960, 961, 918, 919, 920, 921, 922, 923, 924, 925, 926, 927, 928, 929, 930, 931, 932, 947, 948, 949] (by decide +kernel) (by decide +kernel)
set_option maxRecDepth 20000 in
theorem gL_law_X7_plan : GoodIn wsL_law (wsV RL 129 RX7 yX7_plan wsX7_plan) := goodIn_app (goodIn_of _ (by decide +kernel)) ggL_law_X7_plan
set_option maxRecDepth 20000 in
theorem ggL_law_X8_plan : GoodIn wsL_law wsX8_plan := goodIn_r _ [800, 196, 104, 101, 133, 801, 134, 802, 803, 804, 805, 806, 807, 132, 294, 295, 296, 5, 297, 159, 160, 161, 808, 809, 810, 811, 201, 115, 100, 102, 119, 120, 103, 96, 105, 197, 198, 199, 200, 418, 419, 420, 421, 114, 812, 813, 814, 815, 858, 859, 860, 861, 862, 863, 864, 865, 866, 867, 868, 869, 870, 871, 872, 873, 874, 875, 876, 877, 878, 879, 880, 881, 882, 883, 884, 885, 886, 887, 888, 889, 890, 891, 892, 893, 894, 895, 896, 897, 898, 899, 900, 901, 902, 903, 904, 905, 906, 907, 908, 909, 910, 911] (by decide +kernel) (by decide +kernel)
set_option maxRecDepth 20000 in
theorem gL_law_X8_plan : GoodIn wsL_law (wsV RL 132 RX8 yX8_plan wsX8_plan) := goodIn_app (goodIn_of _ (by decide +kernel)) ggL_law_X8_plan
set_option maxRecDepth 20000 in
theorem ggL_law_X7_planned : GoodIn wsL_law wsX7_planned := goodIn_r _ [819, 31, 820, 821, 822, 731, 823, 144, 145, 2, 146, 844, 845, 846, 847, 848, 849, 850, 851, 852, 853, 854, 855, 856, 857, 918, 919, 920, 921, 922, 923, 924, 925, 926, 927, 928, 929, 930, 931, 932] (by decide +kernel) (by decide +kernel)
set_option maxRecDepth 20000 in
theorem gL_law_X7_planned : GoodIn wsL_law (wsV RL 133 RX7 yX7_planned wsX7_planned) := goodIn_app (goodIn_of _ (by decide +kernel)) ggL_law_X7_planned
set_option maxRecDepth 20000 in
theorem ggL_law_X8_planned : GoodIn wsL_law wsX8_planned := goodIn_r _ [827, 802, 805, 807, 803, 132, 159, 160, 5, 161, 858, 859, 860, 861, 862, 863, 864, 865, 866, 867, 868, 869, 870, 871, 872, 873, 874, 875, 876, 877, 878, 879, 880, 881, 882, 883, 884, 885, 886, 887, 888, 889, 890, 891, 892, 893, 894, 895, 896, 897, 898, 899, 900, 901, 902, 903, 904, 905, 906, 907, 908, 909, 910, 911] (by decide +kernel) (by decide +kernel)
set_option maxRecDepth 20000 in
theorem gL_law_X8_planned : GoodIn wsL_law (wsV RL 136 RX8 yX8_planned wsX8_planned) := goodIn_app (goodIn_of _ (by decide +kernel)) ggL_law_X8_planned
set_option maxRecDepth 20000 in
theorem ggL_law_X7_balance : GoodIn wsL_law wsX7_balance := goodIn_r _ [831, 27, 427, 552, 575, 590, 17, 426, 728, 729, 316, 730, 34, 19, 499, 844, 845, 846, 847, 848, 849, 850, 851, 852, 853, 854, 855, 856, 857, 913, 914, 915, 916, 917, 933, 934, 935, 936, 937, 938, 939, 940, 941, 942, 943, 944, 945, 946, 962, 963, 964, 965, 966, 967, 968, 969] (by decide +kernel) (by decide +kernel)
set_option maxRecDepth 20000 in
theorem gL_law_X7_balance : GoodIn wsL_law (wsV RL 137 RX7 yX7_balance wsX7_balance) := goodIn_app (goodIn_of _ (by decide +kernel)) ggL_law_X7_balance
set_option maxRecDepth 20000 in
theorem ggL_law_X8_balance : GoodIn wsL_law wsX8_balance := goodIn_r _ [835, 433, 565, 585, 604, 121, 494, 126, 858, 859, 860, 861, 862, 863, 864, 865, 866, 867, 868, 869, 870, 871, 872, 873, 874, 875, 876, 877, 878, 879, 880, 881, 882, 883, 884, 885, 886, 887, 888, 889, 890, 891, 892, 893, 894, 895, 896, 897, 898, 899, 900, 901, 902, 903, 904, 905, 906, 907, 908, 909, 910, 911] (by decide +kernel) (by decide +kernel)
set_option maxRecDepth 20000 in
theorem gL_law_X8_balance : GoodIn wsL_law (wsV RL 141 RX8 yX8_balance wsX8_balance) := goodIn_app (goodIn_of _ (by decide +kernel)) ggL_law_X8_balance
set_option maxRecDepth 20000 in
theorem ggL_law_X7_count : GoodIn wsL_law wsX7_count := goodIn_r _ [839, 32, 33, 34, 35, 38, 27, 427, 552, 575, 590, 657, 172, 173, 174, 2, 175, 844, 845, 846, 847, 848, 849, 850, 851, 852, 853, 854, 855, 856, 857, 913, 914, 915, 916, 917] (by decide +kernel) (by decide +kernel)
set_option maxRecDepth 20000 in
theorem gL_law_X7_count : GoodIn wsL_law (wsV RL 142 RX7 yX7_count wsX7_count) := goodIn_app (goodIn_of _ (by decide +kernel)) ggL_law_X7_count
set_option maxRecDepth 20000 in
theorem ggL_law_X8_count : GoodIn wsL_law wsX8_count := goodIn_r _ [843, 158, 196, 494, 201, 98, 433, 565, 585, 604, 671, 197, 198, 199, 5, 200, 858, 859, 860, 861, 862, 863, 864, 865, 866, 867, 868, 869, 870, 871, 872, 873, 874, 875, 876, 877, 878, 879, 880, 881, 882, 883, 884, 885, 886, 887, 888, 889, 890, 891, 892, 893, 894, 895, 896, 897, 898, 899, 900, 901, 902, 903, 904, 905, 906, 907, 908, 909, 910, 911] (by decide +kernel) (by decide +kernel)
set_option maxRecDepth 20000 in
theorem gL_law_X8_count : GoodIn wsL_law (wsV RL 145 RX8 yX8_count wsX8_count) := goodIn_app (goodIn_of _ (by decide +kernel)) ggL_law_X8_count
