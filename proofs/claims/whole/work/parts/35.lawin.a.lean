set_option maxRecDepth 20000 in
theorem li_wsL_law_r1 : ∀ w ∈ wsL_law_r1, w ∈ lw_tbl := fun w h => (goodIn_r wsL_law_r1 [48, 49, 38, 767, 768, 43, 50, 51, 52, 53, 54, 55, 56, 223, 58, 224, 60, 225, 62, 226, 64, 65, 39, 227] (by decide +kernel) (by decide +kernel) w h).1
set_option maxRecDepth 20000 in
theorem li_wsL_law_r2 : ∀ w ∈ wsL_law_r2, w ∈ lw_tbl := fun w h => (goodIn_r wsL_law_r2 [75, 76, 40, 228, 102, 103, 41, 229, 230, 231, 232, 233, 234, 235, 236, 159, 42, 67, 68, 69, 74, 70, 78, 79] (by decide +kernel) (by decide +kernel) w h).1
set_option maxRecDepth 20000 in
theorem li_wsL_law_r3 : ∀ w ∈ wsL_law_r3, w ∈ lw_tbl := fun w h => (goodIn_r wsL_law_r3 [80, 81, 83, 85, 87, 89, 105, 106, 107, 108, 109, 110, 111, 112, 113, 114, 115, 116, 117, 118, 120, 122, 124, 126] (by decide +kernel) (by decide +kernel) w h).1
set_option maxRecDepth 20000 in
theorem li_wsL_law_r4 : ∀ w ∈ wsL_law_r4, w ∈ lw_tbl := fun w h => (goodIn_r wsL_law_r4 [160, 161, 162, 163, 164, 166, 222, 167, 168, 170, 172, 174, 176, 178, 180, 182, 184, 187, 190, 165, 769, 770, 771, 772] (by decide +kernel) (by decide +kernel) w h).1
set_option maxRecDepth 20000 in
theorem li_wsL_law_r5 : ∀ w ∈ wsL_law_r5, w ∈ lw_tbl := fun w h => (goodIn_r wsL_law_r5 [774, 775, 776, 778, 779, 781, 782, 783, 784, 785, 786, 787, 788, 789, 790, 936, 791, 792, 793, 794, 795, 796, 797, 798] (by decide +kernel) (by decide +kernel) w h).1
set_option maxRecDepth 20000 in
theorem li_wsL_law_r6 : ∀ w ∈ wsL_law_r6, w ∈ lw_tbl := fun w h => (goodIn_r wsL_law_r6 [799, 800, 801, 803, 804, 805, 806, 807, 808, 809, 810, 811, 821, 823, 824, 266, 267, 268, 269, 276, 44, 270, 271, 272] (by decide +kernel) (by decide +kernel) w h).1
set_option maxRecDepth 20000 in
theorem li_wsL_law_r7 : ∀ w ∈ wsL_law_r7, w ∈ lw_tbl := fun w h => (goodIn_r wsL_law_r7 [273, 274, 275, 277, 278, 279, 280, 281, 283, 285, 937, 938, 939, 940, 777, 941, 942, 943, 295, 296, 297, 298, 303, 45] (by decide +kernel) (by decide +kernel) w h).1
set_option maxRecDepth 20000 in
theorem li_wsL_law_r8 : ∀ w ∈ wsL_law_r8, w ∈ lw_tbl := fun w h => (goodIn_r wsL_law_r8 [299, 301, 0, 302, 304, 306, 1, 307, 308, 309, 310, 311, 323, 326, 329, 331, 334, 337, 340, 343, 312, 320, 315, 318] (by decide +kernel) (by decide +kernel) w h).1
set_option maxRecDepth 20000 in
theorem li_wsL_law_r9 : ∀ w ∈ wsL_law_r9, w ∈ lw_tbl := fun w h => (goodIn_r wsL_law_r9 [944, 945, 946, 947, 780, 948, 950, 17, 951, 773, 370, 371, 372, 373, 321, 344, 374, 376, 2, 377, 378, 379, 380, 381] (by decide +kernel) (by decide +kernel) w h).1
set_option maxRecDepth 20000 in
theorem li_wsL_law_r10 : ∀ w ∈ wsL_law_r10, w ∈ lw_tbl := fun w h => (goodIn_r wsL_law_r10 [952, 953, 954, 955, 956, 958, 18, 959, 382, 383, 384, 385, 960, 961, 962, 963, 386, 387, 388, 389, 324, 390, 328, 964] (by decide +kernel) (by decide +kernel) w h).1
set_option maxRecDepth 20000 in
theorem li_wsL_law_r11 : ∀ w ∈ wsL_law_r11, w ∈ lw_tbl := fun w h => (goodIn_r wsL_law_r11 [965, 966, 967, 968, 391, 392, 393, 394, 330, 332, 969, 970, 971, 972, 395, 396, 397, 398, 317, 282, 319, 335, 338, 342] (by decide +kernel) (by decide +kernel) w h).1
set_option maxRecDepth 20000 in
theorem li_wsL_law_r12 : ∀ w ∈ wsL_law_r12, w ∈ lw_tbl := fun w h => (goodIn_r wsL_law_r12 [399, 400, 401, 402, 403, 404, 405, 973, 974, 975, 976, 977, 979, 19, 980, 406, 407, 408, 409, 169, 171, 173, 410, 412] (by decide +kernel) (by decide +kernel) w h).1
set_option maxRecDepth 20000 in
theorem li_wsL_law_r13 : ∀ w ∈ wsL_law_r13, w ∈ lw_tbl := fun w h => (goodIn_r wsL_law_r13 [3, 413, 981, 982, 983, 984, 985, 987, 20, 988, 414, 415, 416, 417, 418, 419, 420, 421, 322, 316, 286, 422, 423, 424] (by decide +kernel) (by decide +kernel) w h).1
set_option maxRecDepth 20000 in
theorem li_wsL_law_r14 : ∀ w ∈ wsL_law_r14, w ∈ lw_tbl := fun w h => (goodIn_r wsL_law_r14 [425, 287, 427, 428, 46, 429, 426, 430, 431, 432, 433, 325, 341, 989, 990, 991, 992, 993, 995, 21, 996, 997, 999, 22] (by decide +kernel) (by decide +kernel) w h).1
set_option maxRecDepth 20000 in
theorem li_wsL_law_r15 : ∀ w ∈ wsL_law_r15, w ∈ lw_tbl := fun w h => (goodIn_r wsL_law_r15 [1000, 1001, 1003, 23, 1004, 434, 435, 436, 437, 181, 438, 439, 440, 441, 1005, 1006, 1007, 1008, 442, 443, 444, 445, 175, 177] (by decide +kernel) (by decide +kernel) w h).1
set_option maxRecDepth 20000 in
theorem li_wsL_law_r16 : ∀ w ∈ wsL_law_r16, w ∈ lw_tbl := fun w h => (goodIn_r wsL_law_r16 [446, 447, 448, 449, 1009, 1010, 1011, 1012, 450, 451, 452, 453, 454, 455, 456, 457, 458, 459, 460, 461, 462, 327, 463, 464] (by decide +kernel) (by decide +kernel) w h).1
