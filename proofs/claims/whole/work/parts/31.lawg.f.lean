set_option maxRecDepth 20000 in
theorem ggL_law_X7_lend : GoodIn wsL_law wsX7_lend := goodIn_r _ [589, 574, 27, 590, 23, 591, 500, 501, 502, 2, 503, 34, 19, 144, 145, 146, 141, 142, 143, 576, 577, 578, 473, 579, 482, 580, 558, 559, 560, 481, 483, 484, 485, 592, 593, 594, 22, 595, 45, 475, 476, 596, 597, 598, 599, 962, 963, 964, 965, 966, 967, 968, 969, 844, 845, 846, 847, 848, 849, 850, 851, 852, 853, 854, 855, 856, 857, 913, 914, 915, 916, 917, 912] (by decide +kernel) (by decide +kernel)
set_option maxRecDepth 20000 in
theorem gL_law_X7_lend : GoodIn wsL_law (wsV RL 96 RX7 yX7_lend wsX7_lend) := goodIn_app (goodIn_of _ (by decide +kernel)) ggL_law_X7_lend
set_option maxRecDepth 20000 in
theorem ggL_law_X8_lend : GoodIn wsL_law wsX8_lend := goodIn_r _ [603, 127, 604, 131, 123, 159, 160, 5, 161, 534, 535, 536, 537, 494, 566, 567, 568, 569, 126, 128, 129, 130, 858, 859, 860, 861, 862, 863, 864, 865, 866, 867, 868, 869, 870, 871, 872, 873, 874, 875, 876, 877, 878, 879, 880, 881, 882, 883, 884, 885, 886, 887, 888, 889, 890, 891, 892, 893, 894, 895, 896, 897, 898, 899, 900, 901, 902, 903, 904, 905, 906, 907, 908, 909, 910, 911] (by decide +kernel) (by decide +kernel)
set_option maxRecDepth 20000 in
theorem gL_law_X8_lend : GoodIn wsL_law (wsV RL 100 RX8 yX8_lend wsX8_lend) := goodIn_app (goodIn_of _ (by decide +kernel)) ggL_law_X8_lend
set_option maxRecDepth 20000 in
theorem ggL_law_X7_pay : GoodIn wsL_law wsX7_pay := goodIn_r _ [608, 206, 262, 23, 258, 609, 591, 574, 208, 209, 210, 2, 211, 33, 15, 144, 145, 146, 553, 554, 555, 556, 236, 263, 500, 501, 502, 503, 34, 19, 610, 611, 612, 22, 613, 614, 615, 616, 316, 617, 618, 597, 598, 599, 45, 142, 143, 475, 476, 396, 397, 619, 593, 594, 595, 950, 951, 952, 953, 954, 955, 956, 957, 958, 959, 960, 961, 844, 845, 846, 847, 848, 849, 850, 851, 852, 853, 854, 855, 856, 857, 947, 948, 949, 962, 963, 964, 965, 966, 967, 968, 969, 912] (by decide +kernel) (by decide +kernel)
set_option maxRecDepth 20000 in
theorem gL_law_X7_pay : GoodIn wsL_law (wsV RL 101 RX7 yX7_pay wsX7_pay) := goodIn_app (goodIn_of _ (by decide +kernel)) ggL_law_X7_pay
set_option maxRecDepth 20000 in
theorem ggL_law_X8_pay : GoodIn wsL_law wsX8_pay := goodIn_r _ [623, 101, 104, 109, 110, 99, 102, 123, 127, 220, 221, 222, 5, 223, 196, 159, 160, 161, 624, 625, 626, 627, 131, 628, 629, 858, 859, 860, 861, 862, 863, 864, 865, 866, 867, 868, 869, 870, 871, 872, 873, 874, 875, 876, 877, 878, 879, 880, 881, 882, 883, 884, 885, 886, 887, 888, 889, 890, 891, 892, 893, 894, 895, 896, 897, 898, 899, 900, 901, 902, 903, 904, 905, 906, 907, 908, 909, 910, 911] (by decide +kernel) (by decide +kernel)
set_option maxRecDepth 20000 in
theorem gL_law_X8_pay : GoodIn wsL_law (wsV RL 104 RX8 yX8_pay wsX8_pay) := goodIn_app (goodIn_of _ (by decide +kernel)) ggL_law_X8_pay
set_option maxRecDepth 20000 in
theorem ggL_law_X7_hand : GoodIn wsL_law wsX7_hand := goodIn_r _ [633, 471, 23, 141, 142, 2, 143, 144, 145, 146, 474, 475, 476, 610, 611, 612, 22, 613, 614, 615, 616, 316, 617, 618, 597, 598, 599, 45, 396, 397, 619, 593, 594, 595, 844, 845, 846, 847, 848, 849, 850, 851, 852, 853, 854, 855, 856, 857, 912] (by decide +kernel) (by decide +kernel)
set_option maxRecDepth 20000 in
theorem gL_law_X7_hand : GoodIn wsL_law (wsV RL 105 RX7 yX7_hand wsX7_hand) := goodIn_app (goodIn_of _ (by decide +kernel)) ggL_law_X7_hand
set_option maxRecDepth 20000 in
theorem ggL_law_X8_hand : GoodIn wsL_law wsX8_hand := goodIn_r _ [637, 493, 159, 160, 5, 161, 624, 625, 626, 627, 131, 628, 629, 858, 859, 860, 861, 862, 863, 864, 865, 866, 867, 868, 869, 870, 871, 872, 873, 874, 875, 876, 877, 878, 879, 880, 881, 882, 883, 884, 885, 886, 887, 888, 889, 890, 891, 892, 893, 894, 895, 896, 897, 898, 899, 900, 901, 902, 903, 904, 905, 906, 907, 908, 909, 910, 911] (by decide +kernel) (by decide +kernel)
set_option maxRecDepth 20000 in
theorem gL_law_X8_hand : GoodIn wsL_law (wsV RL 108 RX8 yX8_hand wsX8_hand) := goodIn_app (goodIn_of _ (by decide +kernel)) ggL_law_X8_hand
set_option maxRecDepth 20000 in
theorem ggL_law_X7_owes : GoodIn wsL_law wsX7_owes := goodIn_r _ [641, 23, 141, 142, 2, 143, 144, 145, 146, 474, 475, 476, 596, 597, 598, 22, 599, 45, 844, 845, 846, 847, 848, 849, 850, 851, 852, 853, 854, 855, 856, 857, 912] (by decide +kernel) (by decide +kernel)
set_option maxRecDepth 20000 in
theorem gL_law_X7_owes : GoodIn wsL_law (wsV RL 109 RX7 yX7_owes wsX7_owes) := goodIn_app (goodIn_of _ (by decide +kernel)) ggL_law_X7_owes
set_option maxRecDepth 20000 in
theorem ggL_law_X8_owes : GoodIn wsL_law wsX8_owes := goodIn_r _ [645, 131, 159, 160, 5, 161, 858, 859, 860, 861, 862, 863, 864, 865, 866, 867, 868, 869, 870, 871, 872, 873, 874, 875, 876, 877, 878, 879, 880, 881, 882, 883, 884, 885, 886, 887, 888, 889, 890, 891, 892, 893, 894, 895, 896, 897, 898, 899, 900, 901, 902, 903, 904, 905, 906, 907, 908, 909, 910, 911] (by decide +kernel) (by decide +kernel)
set_option maxRecDepth 20000 in
theorem gL_law_X8_owes : GoodIn wsL_law (wsV RL 112 RX8 yX8_owes wsX8_owes) := goodIn_app (goodIn_of _ (by decide +kernel)) ggL_law_X8_owes
