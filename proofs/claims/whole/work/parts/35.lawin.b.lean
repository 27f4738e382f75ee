set_option maxRecDepth 20000 in
theorem li_wsL_law_r17 : ∀ w ∈ wsL_law_r17, w ∈ lw_tbl := fun w h => (goodIn_r wsL_law_r17 [465, 466, 467, 468, 469, 470, 333, 482, 471, 472, 473, 474, 476, 477, 478, 479, 480, 481, 483, 484, 485, 486, 1013, 1014] (by decide +kernel) (by decide +kernel) w h).1
set_option maxRecDepth 20000 in
theorem li_wsL_law_r18 : ∀ w ∈ wsL_law_r18, w ∈ lw_tbl := fun w h => (goodIn_r wsL_law_r18 [1015, 1016, 1017, 1019, 24, 1020, 1021, 1023, 25, 1024, 1025, 1027, 26, 1028, 487, 488, 489, 490, 189, 82, 491, 1029, 1030, 1031] (by decide +kernel) (by decide +kernel) w h).1
set_option maxRecDepth 20000 in
theorem li_wsL_law_r19 : ∀ w ∈ wsL_law_r19, w ∈ lw_tbl := fun w h => (goodIn_r wsL_law_r19 [1032, 812, 492, 493, 494, 495, 192, 496, 497, 498, 499, 500, 336, 501, 503, 4, 504, 314, 505, 1033, 1034, 1035, 1036, 1037] (by decide +kernel) (by decide +kernel) w h).1
set_option maxRecDepth 20000 in
theorem li_wsL_law_r20 : ∀ w ∈ wsL_law_r20, w ∈ lw_tbl := fun w h => (goodIn_r wsL_law_r20 [1039, 27, 1040, 506, 507, 508, 509, 1041, 1042, 1043, 1044, 510, 511, 512, 513, 517, 518, 47, 514, 515, 516, 519, 520, 521] (by decide +kernel) (by decide +kernel) w h).1
set_option maxRecDepth 20000 in
theorem li_wsL_law_r21 : ∀ w ∈ wsL_law_r21, w ∈ lw_tbl := fun w h => (goodIn_r wsL_law_r21 [522, 529, 531, 533, 535, 536, 523, 525, 527, 1058, 1059, 1060, 1061, 1062, 802, 554, 555, 556, 557, 530, 558, 560, 5, 561] (by decide +kernel) (by decide +kernel) w h).1
set_option maxRecDepth 20000 in
theorem li_wsL_law_r22 : ∀ w ∈ wsL_law_r22, w ∈ lw_tbl := fun w h => (goodIn_r wsL_law_r22 [562, 563, 564, 565, 188, 185, 574, 575, 566, 567, 568, 569, 570, 571, 572, 573, 576, 577, 578, 579, 191, 580, 581, 582] (by decide +kernel) (by decide +kernel) w h).1
set_option maxRecDepth 20000 in
theorem li_wsL_law_r23 : ∀ w ∈ wsL_law_r23, w ∈ lw_tbl := fun w h => (goodIn_r wsL_law_r23 [583, 339, 1063, 1064, 1065, 1066, 1067, 1069, 30, 1070, 1071, 1073, 31, 1074, 1075, 1076, 1054, 1056, 29, 1057, 584, 585, 586, 587] (by decide +kernel) (by decide +kernel) w h).1
set_option maxRecDepth 20000 in
theorem li_wsL_law_r24 : ∀ w ∈ wsL_law_r24, w ∈ lw_tbl := fun w h => (goodIn_r wsL_law_r24 [84, 588, 590, 6, 591, 592, 593, 594, 595, 1077, 1078, 1079, 1080, 813, 1081, 1083, 32, 1084, 596, 597, 598, 599, 532, 86] (by decide +kernel) (by decide +kernel) w h).1
set_option maxRecDepth 20000 in
theorem li_wsL_law_r25 : ∀ w ∈ wsL_law_r25, w ∈ lw_tbl := fun w h => (goodIn_r wsL_law_r25 [600, 601, 602, 603, 604, 1085, 1086, 1087, 1088, 814, 605, 606, 607, 608, 88, 524, 609, 610, 611, 612, 615, 616, 617, 618] (by decide +kernel) (by decide +kernel) w h).1
set_option maxRecDepth 20000 in
theorem li_wsL_law_r26 : ∀ w ∈ wsL_law_r26, w ∈ lw_tbl := fun w h => (goodIn_r wsL_law_r26 [1089, 1090, 1091, 1092, 815, 619, 620, 621, 622, 284, 623, 624, 625, 626, 628, 630, 631, 632, 627, 633, 1093, 1094, 1095, 1096] (by decide +kernel) (by decide +kernel) w h).1
set_option maxRecDepth 20000 in
theorem li_wsL_law_r27 : ∀ w ∈ wsL_law_r27, w ∈ lw_tbl := fun w h => (goodIn_r wsL_law_r27 [1097, 1099, 33, 1100, 1101, 1102, 634, 635, 636, 637, 1103, 1104, 1105, 1106, 638, 639, 640, 641, 1107, 1108, 1109, 1110, 642, 643] (by decide +kernel) (by decide +kernel) w h).1
set_option maxRecDepth 20000 in
theorem li_wsL_law_r28 : ∀ w ∈ wsL_law_r28, w ∈ lw_tbl := fun w h => (goodIn_r wsL_law_r28 [644, 645, 646, 647, 648, 649, 651, 7, 652, 90, 653, 654, 655, 656, 657, 1111, 1112, 1113, 1114, 1115, 1117, 34, 1118, 816] (by decide +kernel) (by decide +kernel) w h).1
set_option maxRecDepth 20000 in
theorem li_wsL_law_r29 : ∀ w ∈ wsL_law_r29, w ∈ lw_tbl := fun w h => (goodIn_r wsL_law_r29 [658, 659, 660, 661, 1119, 1120, 1121, 1122, 662, 663, 664, 665, 179, 183, 186, 1045, 1046, 1047, 1048, 1049, 1051, 28, 1052, 1053] (by decide +kernel) (by decide +kernel) w h).1
set_option maxRecDepth 20000 in
theorem li_wsL_law_r30 : ∀ w ∈ wsL_law_r30, w ∈ lw_tbl := fun w h => (goodIn_r wsL_law_r30 [666, 667, 668, 669, 526, 528, 534, 670, 671, 672, 673, 674, 675, 676, 677, 678, 679, 680, 681, 682, 683, 1123, 1124, 1125] (by decide +kernel) (by decide +kernel) w h).1
set_option maxRecDepth 20000 in
theorem li_wsL_law_r31 : ∀ w ∈ wsL_law_r31, w ∈ lw_tbl := fun w h => (goodIn_r wsL_law_r31 [1126, 1127, 1128, 1129, 684, 685, 686, 687, 697, 698, 699, 121, 688, 690, 8, 691, 692, 693, 694, 695, 696, 700, 701, 702] (by decide +kernel) (by decide +kernel) w h).1
set_option maxRecDepth 20000 in
theorem li_wsL_law_r32 : ∀ w ∈ wsL_law_r32, w ∈ lw_tbl := fun w h => (goodIn_r wsL_law_r32 [703, 704, 705, 707, 9, 708, 709, 710, 711, 712, 713, 313, 714, 715, 716, 717, 718, 719, 721, 10, 722, 723, 724, 725] (by decide +kernel) (by decide +kernel) w h).1
