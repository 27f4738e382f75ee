theorem dX7_owes_20 : decode cX7_owes 20 = .ok (.invokevirtual 261, 3) := by decide +kernel
theorem dX7_owes_23 : decode cX7_owes 23 = .ok (.goto 4, 3) := by decide +kernel
theorem dX7_owes_26 : decode cX7_owes 26 = .ok (.iconst (-1), 1) := by decide +kernel
theorem dX7_owes_27 : decode cX7_owes 27 = .ok (.ireturn, 1) := by decide +kernel
set_option maxRecDepth 20000 in
theorem ggX7_wait_X7_isWithin : GoodIn wsX7_wait wsX7_isWithin := goodIn_r _ [9] (by decide +kernel) (by decide +kernel)
set_option maxRecDepth 20000 in
theorem gX7_wait_X7_isWithin : GoodIn wsX7_wait (va_wsS RX7 83 yX7_isWithin wsX7_isWithin) := goodIn_app (goodIn_of _ (by decide +kernel)) ggX7_wait_X7_isWithin
set_option maxRecDepth 20000 in
theorem ggX7_wait_X7_today : GoodIn wsX7_wait wsX7_today := goodIn_r _ [13, 1, 37, 38, 39, 40, 41, 42, 43, 44, 45, 46, 47, 48, 49, 50] (by decide +kernel) (by decide +kernel)
set_option maxRecDepth 20000 in
theorem gX7_wait_X7_today : GoodIn wsX7_wait (wsV RX7 94 RX7 yX7_today wsX7_today) := goodIn_app (goodIn_of _ (by decide +kernel)) ggX7_wait_X7_today
set_option maxRecDepth 20000 in
theorem ggX7_wait_X7_beginDay : GoodIn wsX7_wait wsX7_beginDay := goodIn_r _ [17, 18, 19, 20, 21, 22, 23, 24, 25, 26, 27, 28, 29, 30, 31, 32, 33, 34, 35, 36, 37, 38, 39, 40, 41, 42, 43, 44, 45, 46, 47, 48, 49, 50, 51, 52, 53, 54, 55, 56, 57, 58, 59, 60, 61, 62, 63, 64, 65, 66, 67] (by decide +kernel) (by decide +kernel)
set_option maxRecDepth 20000 in
theorem gX7_wait_X7_beginDay : GoodIn wsX7_wait (wsV RX7 277 RX7 yX7_beginDay wsX7_beginDay) := goodIn_app (goodIn_of _ (by decide +kernel)) ggX7_wait_X7_beginDay
theorem dX7_wait_0 : decode cX7_wait 0 = .ok (.iload_n 1, 1) := by decide +kernel
theorem dX7_wait_1 : decode cX7_wait 1 = .ok (.iconst 0, 1) := by decide +kernel
theorem dX7_wait_2 : decode cX7_wait 2 = .ok (.bipush 100, 2) := by decide +kernel
theorem dX7_wait_4 : decode cX7_wait 4 = .ok (.invokestatic 83, 3) := by decide +kernel
theorem dX7_wait_7 : decode cX7_wait 7 = .ok (.ifCond .ne 5, 3) := by decide +kernel
theorem dX7_wait_10 : decode cX7_wait 10 = .ok (.iconst (-1), 1) := by decide +kernel
theorem dX7_wait_11 : decode cX7_wait 11 = .ok (.ireturn, 1) := by decide +kernel
theorem dX7_wait_12 : decode cX7_wait 12 = .ok (.aload_n 0, 1) := by decide +kernel
theorem dX7_wait_13 : decode cX7_wait 13 = .ok (.invokevirtual 94, 3) := by decide +kernel
theorem dX7_wait_16 : decode cX7_wait 16 = .ok (.istore_n 2, 1) := by decide +kernel
theorem dX7_wait_17 : decode cX7_wait 17 = .ok (.aload_n 0, 1) := by decide +kernel
theorem dX7_wait_18 : decode cX7_wait 18 = .ok (.sipush 999, 3) := by decide +kernel
theorem dX7_wait_21 : decode cX7_wait 21 = .ok (.aload_n 0, 1) := by decide +kernel
theorem dX7_wait_22 : decode cX7_wait 22 = .ok (.getfield 64, 3) := by decide +kernel
theorem dX7_wait_25 : decode cX7_wait 25 = .ok (.iload_n 1, 1) := by decide +kernel
theorem dX7_wait_26 : decode cX7_wait 26 = .ok (.iadd, 1) := by decide +kernel
theorem dX7_wait_27 : decode cX7_wait 27 = .ok (.invokestatic 272, 3) := by decide +kernel
theorem dX7_wait_30 : decode cX7_wait 30 = .ok (.putfield 64, 3) := by decide +kernel
theorem dX7_wait_33 : decode cX7_wait 33 = .ok (.iload_n 2, 1) := by decide +kernel
theorem dX7_wait_34 : decode cX7_wait 34 = .ok (.iconst 1, 1) := by decide +kernel
theorem dX7_wait_35 : decode cX7_wait 35 = .ok (.iadd, 1) := by decide +kernel
theorem dX7_wait_36 : decode cX7_wait 36 = .ok (.istore_n 3, 1) := by decide +kernel
theorem dX7_wait_37 : decode cX7_wait 37 = .ok (.iload_n 3, 1) := by decide +kernel
theorem dX7_wait_38 : decode cX7_wait 38 = .ok (.aload_n 0, 1) := by decide +kernel
theorem dX7_wait_39 : decode cX7_wait 39 = .ok (.invokevirtual 94, 3) := by decide +kernel
theorem dX7_wait_42 : decode cX7_wait 42 = .ok (.if_icmp .gt 14, 3) := by decide +kernel
theorem dX7_wait_45 : decode cX7_wait 45 = .ok (.aload_n 0, 1) := by decide +kernel
theorem dX7_wait_46 : decode cX7_wait 46 = .ok (.iload_n 3, 1) := by decide +kernel
theorem dX7_wait_47 : decode cX7_wait 47 = .ok (.invokevirtual 277, 3) := by decide +kernel
theorem dX7_wait_50 : decode cX7_wait 50 = .ok (.iinc 3 1, 3) := by decide +kernel
theorem dX7_wait_53 : decode cX7_wait 53 = .ok (.goto (-16), 3) := by decide +kernel
theorem dX7_wait_56 : decode cX7_wait 56 = .ok (.aload_n 0, 1) := by decide +kernel
theorem dX7_wait_57 : decode cX7_wait 57 = .ok (.getfield 64, 3) := by decide +kernel
theorem dX7_wait_60 : decode cX7_wait 60 = .ok (.ireturn, 1) := by decide +kernel
set_option maxRecDepth 20000 in
theorem ggX7_fresh_X7_isWithin : GoodIn wsX7_fresh wsX7_isWithin := goodIn_r _ [5] (by decide +kernel) (by decide +kernel)
set_option maxRecDepth 20000 in
theorem gX7_fresh_X7_isWithin : GoodIn wsX7_fresh (va_wsS RX7 83 yX7_isWithin wsX7_isWithin) := goodIn_app (goodIn_of _ (by decide +kernel)) ggX7_fresh_X7_isWithin
theorem dX7_fresh_0 : decode cX7_fresh 0 = .ok (.iload_n 1, 1) := by decide +kernel
theorem dX7_fresh_1 : decode cX7_fresh 1 = .ok (.iconst 0, 1) := by decide +kernel
theorem dX7_fresh_2 : decode cX7_fresh 2 = .ok (.bipush 10, 2) := by decide +kernel
theorem dX7_fresh_4 : decode cX7_fresh 4 = .ok (.invokestatic 83, 3) := by decide +kernel
theorem dX7_fresh_7 : decode cX7_fresh 7 = .ok (.ifCond .ne 5, 3) := by decide +kernel
theorem dX7_fresh_10 : decode cX7_fresh 10 = .ok (.iconst 0, 1) := by decide +kernel
theorem dX7_fresh_11 : decode cX7_fresh 11 = .ok (.ireturn, 1) := by decide +kernel
theorem dX7_fresh_12 : decode cX7_fresh 12 = .ok (.aload_n 0, 1) := by decide +kernel
theorem dX7_fresh_13 : decode cX7_fresh 13 = .ok (.iload_n 1, 1) := by decide +kernel
theorem dX7_fresh_14 : decode cX7_fresh 14 = .ok (.putfield 67, 3) := by decide +kernel
theorem dX7_fresh_17 : decode cX7_fresh 17 = .ok (.iconst 1, 1) := by decide +kernel
theorem dX7_fresh_18 : decode cX7_fresh 18 = .ok (.ireturn, 1) := by decide +kernel
set_option maxRecDepth 20000 in
theorem ggX7_at_X7_findMill : GoodIn wsX7_at wsX7_findMill := goodIn_r _ [16, 17, 18, 19, 15, 20, 38, 39, 40, 41, 42, 43, 44, 45, 46, 47, 48, 49, 50, 51] (by decide +kernel) (by decide +kernel)
set_option maxRecDepth 20000 in
theorem gX7_at_X7_findMill : GoodIn wsX7_at (wsV RX7 155 RX7 yX7_findMill wsX7_findMill) := goodIn_app (goodIn_of _ (by decide +kernel)) ggX7_at_X7_findMill
set_option maxRecDepth 20000 in
theorem ggX7_at_X7_asNumber : GoodIn wsX7_at wsX7_asNumber := goodIn_r _ [23] (by decide +kernel) (by decide +kernel)
set_option maxRecDepth 20000 in
theorem gX7_at_X7_asNumber : GoodIn wsX7_at (va_wsS RX7 151 yX7_asNumber wsX7_asNumber) := goodIn_app (goodIn_of _ (by decide +kernel)) ggX7_at_X7_asNumber
theorem dX7_at_0 : decode cX7_at 0 = .ok (.aload_n 0, 1) := by decide +kernel
theorem dX7_at_1 : decode cX7_at 1 = .ok (.iload_n 1, 1) := by decide +kernel
theorem dX7_at_2 : decode cX7_at 2 = .ok (.invokevirtual 155, 3) := by decide +kernel
theorem dX7_at_5 : decode cX7_at 5 = .ok (.astore_n 3, 1) := by decide +kernel
theorem dX7_at_6 : decode cX7_at 6 = .ok (.aload_n 3, 1) := by decide +kernel
theorem dX7_at_7 : decode cX7_at 7 = .ok (.ifnonnull 5, 3) := by decide +kernel
theorem dX7_at_10 : decode cX7_at 10 = .ok (.iconst (-1), 1) := by decide +kernel
theorem dX7_at_11 : decode cX7_at 11 = .ok (.ireturn, 1) := by decide +kernel
theorem dX7_at_12 : decode cX7_at 12 = .ok (.iload_n 2, 1) := by decide +kernel
theorem dX7_at_13 : decode cX7_at 13 = .ok (.tableswitch 120 0 10 #[59, 64, 69, 74, 79, 87, 95, 100, 105, 110, 115], 59) := by decide +kernel
theorem dX7_at_72 : decode cX7_at 72 = .ok (.aload_n 3, 1) := by decide +kernel
theorem dX7_at_73 : decode cX7_at 73 = .ok (.getfield 162, 3) := by decide +kernel
theorem dX7_at_76 : decode cX7_at 76 = .ok (.ireturn, 1) := by decide +kernel
theorem dX7_at_77 : decode cX7_at 77 = .ok (.aload_n 3, 1) := by decide +kernel
theorem dX7_at_78 : decode cX7_at 78 = .ok (.getfield 165, 3) := by decide +kernel
theorem dX7_at_81 : decode cX7_at 81 = .ok (.ireturn, 1) := by decide +kernel
theorem dX7_at_82 : decode cX7_at 82 = .ok (.aload_n 3, 1) := by decide +kernel
theorem dX7_at_83 : decode cX7_at 83 = .ok (.getfield 185, 3) := by decide +kernel
theorem dX7_at_86 : decode cX7_at 86 = .ok (.ireturn, 1) := by decide +kernel
theorem dX7_at_87 : decode cX7_at 87 = .ok (.aload_n 3, 1) := by decide +kernel
theorem dX7_at_88 : decode cX7_at 88 = .ok (.getfield 159, 3) := by decide +kernel
theorem dX7_at_91 : decode cX7_at 91 = .ok (.ireturn, 1) := by decide +kernel
theorem dX7_at_92 : decode cX7_at 92 = .ok (.aload_n 3, 1) := by decide +kernel
theorem dX7_at_93 : decode cX7_at 93 = .ok (.getfield 176, 3) := by decide +kernel
theorem dX7_at_96 : decode cX7_at 96 = .ok (.invokestatic 151, 3) := by decide +kernel
theorem dX7_at_99 : decode cX7_at 99 = .ok (.ireturn, 1) := by decide +kernel
theorem dX7_at_100 : decode cX7_at 100 = .ok (.aload_n 3, 1) := by decide +kernel
theorem dX7_at_101 : decode cX7_at 101 = .ok (.getfield 188, 3) := by decide +kernel
theorem dX7_at_104 : decode cX7_at 104 = .ok (.invokestatic 151, 3) := by decide +kernel
theorem dX7_at_107 : decode cX7_at 107 = .ok (.ireturn, 1) := by decide +kernel
theorem dX7_at_108 : decode cX7_at 108 = .ok (.aload_n 3, 1) := by decide +kernel
theorem dX7_at_109 : decode cX7_at 109 = .ok (.getfield 280, 3) := by decide +kernel
theorem dX7_at_112 : decode cX7_at 112 = .ok (.ireturn, 1) := by decide +kernel
theorem dX7_at_113 : decode cX7_at 113 = .ok (.aload_n 3, 1) := by decide +kernel
theorem dX7_at_114 : decode cX7_at 114 = .ok (.getfield 283, 3) := by decide +kernel
theorem dX7_at_117 : decode cX7_at 117 = .ok (.ireturn, 1) := by decide +kernel
theorem dX7_at_118 : decode cX7_at 118 = .ok (.aload_n 3, 1) := by decide +kernel
theorem dX7_at_119 : decode cX7_at 119 = .ok (.getfield 198, 3) := by decide +kernel
theorem dX7_at_122 : decode cX7_at 122 = .ok (.ireturn, 1) := by decide +kernel
theorem dX7_at_123 : decode cX7_at 123 = .ok (.aload_n 3, 1) := by decide +kernel
theorem dX7_at_124 : decode cX7_at 124 = .ok (.getfield 286, 3) := by decide +kernel
theorem dX7_at_127 : decode cX7_at 127 = .ok (.ireturn, 1) := by decide +kernel
theorem dX7_at_128 : decode cX7_at 128 = .ok (.aload_n 3, 1) := by decide +kernel
theorem dX7_at_129 : decode cX7_at 129 = .ok (.getfield 205, 3) := by decide +kernel
theorem dX7_at_132 : decode cX7_at 132 = .ok (.ireturn, 1) := by decide +kernel
theorem dX7_at_133 : decode cX7_at 133 = .ok (.iconst (-1), 1) := by decide +kernel
theorem dX7_at_134 : decode cX7_at 134 = .ok (.ireturn, 1) := by decide +kernel
set_option maxRecDepth 20000 in
theorem ggX7_held_X7_findVat : GoodIn wsX7_held wsX7_findVat := goodIn_r _ [11, 12, 13, 14, 15, 10, 16, 46, 47, 48, 49, 50, 51, 52, 53, 54, 55, 56, 57, 58, 59] (by decide +kernel) (by decide +kernel)
set_option maxRecDepth 20000 in
theorem gX7_held_X7_findVat : GoodIn wsX7_held (wsV RX7 218 RX7 yX7_findVat wsX7_findVat) := goodIn_app (goodIn_of _ (by decide +kernel)) ggX7_held_X7_findVat
set_option maxRecDepth 20000 in
theorem ggX7_held_X7_asNumber : GoodIn wsX7_held wsX7_asNumber := goodIn_r _ [19] (by decide +kernel) (by decide +kernel)
set_option maxRecDepth 20000 in
theorem gX7_held_X7_asNumber : GoodIn wsX7_held (va_wsS RX7 151 yX7_asNumber wsX7_asNumber) := goodIn_app (goodIn_of _ (by decide +kernel)) ggX7_held_X7_asNumber
set_option maxRecDepth 20000 in
theorem ggX7_held_X6_sournessAbove : GoodIn wsX7_held wsX6_sournessAbove := goodIn_r _ [24, 25, 26, 27, 28, 23, 29, 30, 31, 32, 33, 38, 39, 40, 41, 42, 43, 44, 45] (by decide +kernel) (by decide +kernel)
set_option maxRecDepth 20000 in
theorem gX7_held_X6_sournessAbove : GoodIn wsX7_held (wsV RX7 296 RX6 yX6_sournessAbove wsX6_sournessAbove) := goodIn_app (goodIn_of _ (by decide +kernel)) ggX7_held_X6_sournessAbove
set_option maxRecDepth 20000 in
theorem ggX7_held_X6_sournessBelow : GoodIn wsX7_held wsX6_sournessBelow := goodIn_r _ [37, 26, 25, 27, 28, 23, 29, 30, 31, 32, 33, 38, 39, 40, 41, 42, 43, 44, 45] (by decide +kernel) (by decide +kernel)
set_option maxRecDepth 20000 in
theorem gX7_held_X6_sournessBelow : GoodIn wsX7_held (wsV RX7 299 RX6 yX6_sournessBelow wsX6_sournessBelow) := goodIn_app (goodIn_of _ (by decide +kernel)) ggX7_held_X6_sournessBelow
theorem dX7_held_0 : decode cX7_held 0 = .ok (.aload_n 0, 1) := by decide +kernel
theorem dX7_held_1 : decode cX7_held 1 = .ok (.iload_n 1, 1) := by decide +kernel
theorem dX7_held_2 : decode cX7_held 2 = .ok (.invokevirtual 218, 3) := by decide +kernel
theorem dX7_held_5 : decode cX7_held 5 = .ok (.astore_n 3, 1) := by decide +kernel
theorem dX7_held_6 : decode cX7_held 6 = .ok (.aload_n 3, 1) := by decide +kernel
theorem dX7_held_7 : decode cX7_held 7 = .ok (.ifnonnull 5, 3) := by decide +kernel
theorem dX7_held_10 : decode cX7_held 10 = .ok (.iconst (-1), 1) := by decide +kernel
theorem dX7_held_11 : decode cX7_held 11 = .ok (.ireturn, 1) := by decide +kernel
theorem dX7_held_12 : decode cX7_held 12 = .ok (.iload_n 2, 1) := by decide +kernel
theorem dX7_held_13 : decode cX7_held 13 = .ok (.tableswitch 93 0 7 #[47, 52, 60, 65, 70, 75, 83, 88], 47) := by decide +kernel
theorem dX7_held_60 : decode cX7_held 60 = .ok (.aload_n 3, 1) := by decide +kernel
theorem dX7_held_61 : decode cX7_held 61 = .ok (.getfield 255, 3) := by decide +kernel
theorem dX7_held_64 : decode cX7_held 64 = .ok (.ireturn, 1) := by decide +kernel
theorem dX7_held_65 : decode cX7_held 65 = .ok (.aload_n 3, 1) := by decide +kernel
theorem dX7_held_66 : decode cX7_held 66 = .ok (.getfield 287, 3) := by decide +kernel
theorem dX7_held_69 : decode cX7_held 69 = .ok (.invokestatic 151, 3) := by decide +kernel
theorem dX7_held_72 : decode cX7_held 72 = .ok (.ireturn, 1) := by decide +kernel
theorem dX7_held_73 : decode cX7_held 73 = .ok (.aload_n 3, 1) := by decide +kernel
theorem dX7_held_74 : decode cX7_held 74 = .ok (.getfield 290, 3) := by decide +kernel
theorem dX7_held_77 : decode cX7_held 77 = .ok (.ireturn, 1) := by decide +kernel
theorem dX7_held_78 : decode cX7_held 78 = .ok (.aload_n 3, 1) := by decide +kernel
theorem dX7_held_79 : decode cX7_held 79 = .ok (.getfield 232, 3) := by decide +kernel
theorem dX7_held_82 : decode cX7_held 82 = .ok (.ireturn, 1) := by decide +kernel
theorem dX7_held_83 : decode cX7_held 83 = .ok (.aload_n 3, 1) := by decide +kernel
theorem dX7_held_84 : decode cX7_held 84 = .ok (.getfield 243, 3) := by decide +kernel
theorem dX7_held_87 : decode cX7_held 87 = .ok (.ireturn, 1) := by decide +kernel
theorem dX7_held_88 : decode cX7_held 88 = .ok (.aload_n 3, 1) := by decide +kernel
theorem dX7_held_89 : decode cX7_held 89 = .ok (.getfield 293, 3) := by decide +kernel
theorem dX7_held_92 : decode cX7_held 92 = .ok (.invokestatic 151, 3) := by decide +kernel
theorem dX7_held_95 : decode cX7_held 95 = .ok (.ireturn, 1) := by decide +kernel
theorem dX7_held_96 : decode cX7_held 96 = .ok (.aload_n 3, 1) := by decide +kernel
theorem dX7_held_97 : decode cX7_held 97 = .ok (.invokevirtual 296, 3) := by decide +kernel
theorem dX7_held_100 : decode cX7_held 100 = .ok (.ireturn, 1) := by decide +kernel
theorem dX7_held_101 : decode cX7_held 101 = .ok (.aload_n 3, 1) := by decide +kernel
theorem dX7_held_102 : decode cX7_held 102 = .ok (.invokevirtual 299, 3) := by decide +kernel
theorem dX7_held_105 : decode cX7_held 105 = .ok (.ireturn, 1) := by decide +kernel
theorem dX7_held_106 : decode cX7_held 106 = .ok (.iconst (-1), 1) := by decide +kernel
theorem dX7_held_107 : decode cX7_held 107 = .ok (.ireturn, 1) := by decide +kernel
set_option maxRecDepth 20000 in
theorem ggX7_plan_X7_findMill : GoodIn wsX7_plan wsX7_findMill := goodIn_r _ [18, 19, 20, 21, 17, 22, 129, 130, 131, 132, 133, 134, 135, 136, 137, 138, 139, 140, 141, 142] (by decide +kernel) (by decide +kernel)
set_option maxRecDepth 20000 in
theorem gX7_plan_X7_findMill : GoodIn wsX7_plan (wsV RX7 155 RX7 yX7_findMill wsX7_findMill) := goodIn_app (goodIn_of _ (by decide +kernel)) ggX7_plan_X7_findMill
set_option maxRecDepth 20000 in
theorem ggX7_plan_X7_countForPlan : GoodIn wsX7_plan wsX7_countForPlan := goodIn_r _ [26, 10, 11, 27, 28, 29, 30, 31, 32, 33, 34, 35, 36, 37, 129, 130, 131, 132, 133, 134, 135, 136, 137, 138, 139, 140, 141, 142, 157, 158, 159, 160, 161, 162, 163, 164, 165, 166, 167, 168] (by decide +kernel) (by decide +kernel)
set_option maxRecDepth 20000 in
theorem gX7_plan_X7_countForPlan : GoodIn wsX7_plan (wsV RX7 302 RX7 yX7_countForPlan wsX7_countForPlan) := goodIn_app (goodIn_of _ (by decide +kernel)) ggX7_plan_X7_countForPlan
set_option maxRecDepth 20000 in
theorem ggX7_plan_X4_start : GoodIn wsX7_plan wsX4_start := goodIn_r _ [42, 43, 44, 45, 46, 47, 169, 170, 171, 172, 173, 174, 175, 176, 177, 178, 179, 180, 181, 182, 183] (by decide +kernel) (by decide +kernel)
set_option maxRecDepth 20000 in
theorem gX7_plan_X4_start : GoodIn wsX7_plan (wsV RX7 308 RX4 yX4_start wsX4_start) := goodIn_app (goodIn_of _ (by decide +kernel)) ggX7_plan_X4_start
set_option maxRecDepth 20000 in
theorem ggX7_plan_X2_isForPlan : GoodIn wsX7_plan wsX2_isForPlan := goodIn_r _ [31, 32, 33, 34, 35, 30, 36, 37, 157, 158, 159, 160, 161, 162, 163, 164, 165, 166, 167, 168] (by decide +kernel) (by decide +kernel)
set_option maxRecDepth 20000 in
theorem gX7_plan_X2_isForPlan : GoodIn wsX7_plan (wsV RX7 311 RX2 yX2_isForPlan wsX2_isForPlan) := goodIn_app (goodIn_of _ (by decide +kernel)) ggX7_plan_X2_isForPlan
set_option maxRecDepth 20000 in
theorem ggX7_plan_X3_hoursFor : GoodIn wsX7_plan wsX3_hoursFor := goodIn_r _ [52, 53, 54, 17, 55, 143, 144, 145, 146, 147, 148, 149, 150, 151, 152, 153, 154, 155, 156] (by decide +kernel) (by decide +kernel)
set_option maxRecDepth 20000 in
theorem gX7_plan_X3_hoursFor : GoodIn wsX7_plan (wsV RX7 314 RX3 yX3_hoursFor wsX3_hoursFor) := goodIn_app (goodIn_of _ (by decide +kernel)) ggX7_plan_X3_hoursFor
set_option maxRecDepth 20000 in
theorem ggX7_plan_X7_lateHour : GoodIn wsX7_plan wsX7_lateHour := goodIn_r _ [59, 60, 61, 62, 63, 4, 5, 6, 7, 64, 65, 66, 17, 67, 2, 157, 158, 159, 160, 161, 162, 163, 164, 165, 166, 167, 168, 129, 130, 131, 132, 133, 134, 135, 136, 137, 138, 139, 140, 141, 142] (by decide +kernel) (by decide +kernel)
set_option maxRecDepth 20000 in
theorem gX7_plan_X7_lateHour : GoodIn wsX7_plan (wsV RX7 317 RX7 yX7_lateHour wsX7_lateHour) := goodIn_app (goodIn_of _ (by decide +kernel)) ggX7_plan_X7_lateHour
set_option maxRecDepth 20000 in
theorem ggX7_plan_X4_add : GoodIn wsX7_plan wsX4_add := goodIn_r _ [71, 46, 72, 73, 74, 75, 76, 77, 78, 79, 30, 80, 37, 81, 82, 169, 170, 171, 172, 173, 174, 175, 176, 177, 178, 179, 180, 181, 182, 183, 157, 158, 159, 160, 161, 162, 163, 164, 165, 166, 167, 168, 184, 185, 186] (by decide +kernel) (by decide +kernel)
set_option maxRecDepth 20000 in
theorem gX7_plan_X4_add : GoodIn wsX7_plan (wsV RX7 321 RX4 yX4_add wsX4_add) := goodIn_app (goodIn_of _ (by decide +kernel)) ggX7_plan_X4_add
set_option maxRecDepth 20000 in
theorem ggX7_plan_X4_decide : GoodIn wsX7_plan wsX4_decide := goodIn_r _ [86, 46, 87, 88, 89, 41, 90, 91, 92, 75, 74, 93, 94, 95, 96, 97, 98, 99, 100, 101, 102, 103, 104, 105, 106, 107, 108, 109, 76, 110, 111, 112, 113, 114, 44, 45, 115, 116, 117, 118, 43, 119, 120, 121, 122, 123, 124, 125, 126, 127, 72, 128, 169, 170, 171, 172, 173, 174, 175, 176, 177, 178, 179, 180, 181, 182, 183] (by decide +kernel) (by decide +kernel)
set_option maxRecDepth 20000 in
theorem gX7_plan_X4_decide : GoodIn wsX7_plan (wsV RX7 324 RX4 yX4_decide wsX4_decide) := goodIn_app (goodIn_of _ (by decide +kernel)) ggX7_plan_X4_decide
theorem dX7_plan_0 : decode cX7_plan 0 = .ok (.aload_n 0, 1) := by decide +kernel
theorem dX7_plan_1 : decode cX7_plan 1 = .ok (.iload_n 1, 1) := by decide +kernel
theorem dX7_plan_2 : decode cX7_plan 2 = .ok (.invokevirtual 155, 3) := by decide +kernel
theorem dX7_plan_5 : decode cX7_plan 5 = .ok (.astore_n 2, 1) := by decide +kernel
theorem dX7_plan_6 : decode cX7_plan 6 = .ok (.aload_n 2, 1) := by decide +kernel
theorem dX7_plan_7 : decode cX7_plan 7 = .ok (.ifnull 12, 3) := by decide +kernel
theorem dX7_plan_10 : decode cX7_plan 10 = .ok (.aload_n 0, 1) := by decide +kernel
theorem dX7_plan_11 : decode cX7_plan 11 = .ok (.invokevirtual 302, 3) := by decide +kernel
theorem dX7_plan_14 : decode cX7_plan 14 = .ok (.bipush 8, 2) := by decide +kernel
theorem dX7_plan_16 : decode cX7_plan 16 = .ok (.if_icmp .le 5, 3) := by decide +kernel
theorem dX7_plan_19 : decode cX7_plan 19 = .ok (.iconst (-1), 1) := by decide +kernel
theorem dX7_plan_20 : decode cX7_plan 20 = .ok (.ireturn, 1) := by decide +kernel
theorem dX7_plan_21 : decode cX7_plan 21 = .ok (.aload_n 0, 1) := by decide +kernel
theorem dX7_plan_22 : decode cX7_plan 22 = .ok (.getfield 50, 3) := by decide +kernel
theorem dX7_plan_25 : decode cX7_plan 25 = .ok (.aload_n 0, 1) := by decide +kernel
theorem dX7_plan_26 : decode cX7_plan 26 = .ok (.getfield 64, 3) := by decide +kernel
theorem dX7_plan_29 : decode cX7_plan 29 = .ok (.aload_n 2, 1) := by decide +kernel
theorem dX7_plan_30 : decode cX7_plan 30 = .ok (.getfield 185, 3) := by decide +kernel
theorem dX7_plan_33 : decode cX7_plan 33 = .ok (.invokestatic 305, 3) := by decide +kernel
theorem dX7_plan_36 : decode cX7_plan 36 = .ok (.aload_n 2, 1) := by decide +kernel
theorem dX7_plan_37 : decode cX7_plan 37 = .ok (.getfield 188, 3) := by decide +kernel
theorem dX7_plan_40 : decode cX7_plan 40 = .ok (.aload_n 2, 1) := by decide +kernel
theorem dX7_plan_41 : decode cX7_plan 41 = .ok (.getfield 280, 3) := by decide +kernel
theorem dX7_plan_44 : decode cX7_plan 44 = .ok (.invokevirtual 308, 3) := by decide +kernel
theorem dX7_plan_47 : decode cX7_plan 47 = .ok (.iconst 0, 1) := by decide +kernel
theorem dX7_plan_48 : decode cX7_plan 48 = .ok (.istore_n 3, 1) := by decide +kernel
theorem dX7_plan_49 : decode cX7_plan 49 = .ok (.iload_n 3, 1) := by decide +kernel
theorem dX7_plan_50 : decode cX7_plan 50 = .ok (.aload_n 0, 1) := by decide +kernel
theorem dX7_plan_51 : decode cX7_plan 51 = .ok (.getfield 58, 3) := by decide +kernel
theorem dX7_plan_54 : decode cX7_plan 54 = .ok (.if_icmp .ge 57, 3) := by decide +kernel
theorem dX7_plan_57 : decode cX7_plan 57 = .ok (.aload_n 0, 1) := by decide +kernel
theorem dX7_plan_58 : decode cX7_plan 58 = .ok (.getfield 17, 3) := by decide +kernel
theorem dX7_plan_61 : decode cX7_plan 61 = .ok (.iload_n 3, 1) := by decide +kernel
theorem dX7_plan_62 : decode cX7_plan 62 = .ok (.aaload, 1) := by decide +kernel
theorem dX7_plan_63 : decode cX7_plan 63 = .ok (.invokevirtual 311, 3) := by decide +kernel
theorem dX7_plan_66 : decode cX7_plan 66 = .ok (.ifCond .eq 39, 3) := by decide +kernel
theorem dX7_plan_69 : decode cX7_plan 69 = .ok (.aload_n 0, 1) := by decide +kernel
theorem dX7_plan_70 : decode cX7_plan 70 = .ok (.getfield 50, 3) := by decide +kernel
theorem dX7_plan_73 : decode cX7_plan 73 = .ok (.aload_n 0, 1) := by decide +kernel
theorem dX7_plan_74 : decode cX7_plan 74 = .ok (.getfield 17, 3) := by decide +kernel
theorem dX7_plan_77 : decode cX7_plan 77 = .ok (.iload_n 3, 1) := by decide +kernel
theorem dX7_plan_78 : decode cX7_plan 78 = .ok (.aaload, 1) := by decide +kernel
theorem dX7_plan_79 : decode cX7_plan 79 = .ok (.aload_n 2, 1) := by decide +kernel
theorem dX7_plan_80 : decode cX7_plan 80 = .ok (.aload_n 0, 1) := by decide +kernel
theorem dX7_plan_81 : decode cX7_plan 81 = .ok (.getfield 17, 3) := by decide +kernel
theorem dX7_plan_84 : decode cX7_plan 84 = .ok (.iload_n 3, 1) := by decide +kernel
theorem dX7_plan_85 : decode cX7_plan 85 = .ok (.aaload, 1) := by decide +kernel
theorem dX7_plan_86 : decode cX7_plan 86 = .ok (.getfield 120, 3) := by decide +kernel
theorem dX7_plan_89 : decode cX7_plan 89 = .ok (.invokevirtual 314, 3) := by decide +kernel
theorem dX7_plan_92 : decode cX7_plan 92 = .ok (.aload_n 0, 1) := by decide +kernel
theorem dX7_plan_93 : decode cX7_plan 93 = .ok (.aload_n 0, 1) := by decide +kernel
theorem dX7_plan_94 : decode cX7_plan 94 = .ok (.getfield 17, 3) := by decide +kernel
theorem dX7_plan_97 : decode cX7_plan 97 = .ok (.iload_n 3, 1) := by decide +kernel
theorem dX7_plan_98 : decode cX7_plan 98 = .ok (.aaload, 1) := by decide +kernel
theorem dX7_plan_99 : decode cX7_plan 99 = .ok (.invokevirtual 317, 3) := by decide +kernel
theorem dX7_plan_102 : decode cX7_plan 102 = .ok (.invokevirtual 321, 3) := by decide +kernel
theorem dX7_plan_105 : decode cX7_plan 105 = .ok (.iinc 3 1, 3) := by decide +kernel
theorem dX7_plan_108 : decode cX7_plan 108 = .ok (.goto (-59), 3) := by decide +kernel
theorem dX7_plan_111 : decode cX7_plan 111 = .ok (.aload_n 0, 1) := by decide +kernel
theorem dX7_plan_112 : decode cX7_plan 112 = .ok (.getfield 50, 3) := by decide +kernel
theorem dX7_plan_115 : decode cX7_plan 115 = .ok (.invokevirtual 324, 3) := by decide +kernel
theorem dX7_plan_118 : decode cX7_plan 118 = .ok (.aload_n 0, 1) := by decide +kernel
theorem dX7_plan_119 : decode cX7_plan 119 = .ok (.getfield 50, 3) := by decide +kernel
theorem dX7_plan_122 : decode cX7_plan 122 = .ok (.getfield 327, 3) := by decide +kernel
theorem dX7_plan_125 : decode cX7_plan 125 = .ok (.ireturn, 1) := by decide +kernel
set_option maxRecDepth 20000 in
theorem ggX7_planned_X7_isWithin : GoodIn wsX7_planned wsX7_isWithin := goodIn_r _ [10] (by decide +kernel) (by decide +kernel)
set_option maxRecDepth 20000 in
theorem gX7_planned_X7_isWithin : GoodIn wsX7_planned (va_wsS RX7 83 yX7_isWithin wsX7_isWithin) := goodIn_app (goodIn_of _ (by decide +kernel)) ggX7_planned_X7_isWithin
theorem dX7_planned_0 : decode cX7_planned 0 = .ok (.aload_n 0, 1) := by decide +kernel
theorem dX7_planned_1 : decode cX7_planned 1 = .ok (.getfield 50, 3) := by decide +kernel
theorem dX7_planned_4 : decode cX7_planned 4 = .ok (.getfield 328, 3) := by decide +kernel
theorem dX7_planned_7 : decode cX7_planned 7 = .ok (.ifCond .ne 5, 3) := by decide +kernel
theorem dX7_planned_10 : decode cX7_planned 10 = .ok (.iconst (-1), 1) := by decide +kernel
theorem dX7_planned_11 : decode cX7_planned 11 = .ok (.ireturn, 1) := by decide +kernel
theorem dX7_planned_12 : decode cX7_planned 12 = .ok (.iload_n 1, 1) := by decide +kernel
theorem dX7_planned_13 : decode cX7_planned 13 = .ok (.iconst (-1), 1) := by decide +kernel
theorem dX7_planned_14 : decode cX7_planned 14 = .ok (.if_icmp .ne 11, 3) := by decide +kernel
theorem dX7_planned_17 : decode cX7_planned 17 = .ok (.aload_n 0, 1) := by decide +kernel
theorem dX7_planned_18 : decode cX7_planned 18 = .ok (.getfield 50, 3) := by decide +kernel
theorem dX7_planned_21 : decode cX7_planned 21 = .ok (.getfield 331, 3) := by decide +kernel
theorem dX7_planned_24 : decode cX7_planned 24 = .ok (.ireturn, 1) := by decide +kernel
theorem dX7_planned_25 : decode cX7_planned 25 = .ok (.iload_n 1, 1) := by decide +kernel
theorem dX7_planned_26 : decode cX7_planned 26 = .ok (.bipush (-2), 2) := by decide +kernel
theorem dX7_planned_28 : decode cX7_planned 28 = .ok (.if_icmp .ne 11, 3) := by decide +kernel
theorem dX7_planned_31 : decode cX7_planned 31 = .ok (.aload_n 0, 1) := by decide +kernel
theorem dX7_planned_32 : decode cX7_planned 32 = .ok (.getfield 50, 3) := by decide +kernel
theorem dX7_planned_35 : decode cX7_planned 35 = .ok (.getfield 334, 3) := by decide +kernel
theorem dX7_planned_38 : decode cX7_planned 38 = .ok (.ireturn, 1) := by decide +kernel
theorem dX7_planned_39 : decode cX7_planned 39 = .ok (.iload_n 1, 1) := by decide +kernel
theorem dX7_planned_40 : decode cX7_planned 40 = .ok (.iconst 0, 1) := by decide +kernel
theorem dX7_planned_41 : decode cX7_planned 41 = .ok (.aload_n 0, 1) := by decide +kernel
theorem dX7_planned_42 : decode cX7_planned 42 = .ok (.getfield 50, 3) := by decide +kernel
theorem dX7_planned_45 : decode cX7_planned 45 = .ok (.getfield 327, 3) := by decide +kernel
theorem dX7_planned_48 : decode cX7_planned 48 = .ok (.iconst 1, 1) := by decide +kernel
theorem dX7_planned_49 : decode cX7_planned 49 = .ok (.isub, 1) := by decide +kernel
theorem dX7_planned_50 : decode cX7_planned 50 = .ok (.invokestatic 83, 3) := by decide +kernel
theorem dX7_planned_53 : decode cX7_planned 53 = .ok (.ifCond .eq 15, 3) := by decide +kernel
theorem dX7_planned_56 : decode cX7_planned 56 = .ok (.aload_n 0, 1) := by decide +kernel
theorem dX7_planned_57 : decode cX7_planned 57 = .ok (.getfield 50, 3) := by decide +kernel
theorem dX7_planned_60 : decode cX7_planned 60 = .ok (.getfield 337, 3) := by decide +kernel
theorem dX7_planned_63 : decode cX7_planned 63 = .ok (.iload_n 1, 1) := by decide +kernel
theorem dX7_planned_64 : decode cX7_planned 64 = .ok (.iaload, 1) := by decide +kernel
theorem dX7_planned_65 : decode cX7_planned 65 = .ok (.goto 4, 3) := by decide +kernel
theorem dX7_planned_68 : decode cX7_planned 68 = .ok (.iconst (-1), 1) := by decide +kernel
theorem dX7_planned_69 : decode cX7_planned 69 = .ok (.ireturn, 1) := by decide +kernel
theorem dX7_balance_0 : decode cX7_balance 0 = .ok (.aload_n 0, 1) := by decide +kernel
theorem dX7_balance_1 : decode cX7_balance 1 = .ok (.getfield 43, 3) := by decide +kernel
theorem dX7_balance_4 : decode cX7_balance 4 = .ok (.getfield 204, 3) := by decide +kernel
theorem dX7_balance_7 : decode cX7_balance 7 = .ok (.aload_n 0, 1) := by decide +kernel
theorem dX7_balance_8 : decode cX7_balance 8 = .ok (.getfield 43, 3) := by decide +kernel
theorem dX7_balance_11 : decode cX7_balance 11 = .ok (.getfield 240, 3) := by decide +kernel
theorem dX7_balance_14 : decode cX7_balance 14 = .ok (.isub, 1) := by decide +kernel
theorem dX7_balance_15 : decode cX7_balance 15 = .ok (.aload_n 0, 1) := by decide +kernel
theorem dX7_balance_16 : decode cX7_balance 16 = .ok (.getfield 43, 3) := by decide +kernel
theorem dX7_balance_19 : decode cX7_balance 19 = .ok (.getfield 249, 3) := by decide +kernel
theorem dX7_balance_22 : decode cX7_balance 22 = .ok (.isub, 1) := by decide +kernel
theorem dX7_balance_23 : decode cX7_balance 23 = .ok (.aload_n 0, 1) := by decide +kernel
theorem dX7_balance_24 : decode cX7_balance 24 = .ok (.getfield 43, 3) := by decide +kernel
theorem dX7_balance_27 : decode cX7_balance 27 = .ok (.getfield 252, 3) := by decide +kernel
theorem dX7_balance_30 : decode cX7_balance 30 = .ok (.isub, 1) := by decide +kernel
theorem dX7_balance_31 : decode cX7_balance 31 = .ok (.istore_n 1, 1) := by decide +kernel
theorem dX7_balance_32 : decode cX7_balance 32 = .ok (.iconst 0, 1) := by decide +kernel
theorem dX7_balance_33 : decode cX7_balance 33 = .ok (.istore_n 2, 1) := by decide +kernel
theorem dX7_balance_34 : decode cX7_balance 34 = .ok (.iload_n 2, 1) := by decide +kernel
theorem dX7_balance_35 : decode cX7_balance 35 = .ok (.iconst 3, 1) := by decide +kernel
theorem dX7_balance_36 : decode cX7_balance 36 = .ok (.if_icmp .ge 25, 3) := by decide +kernel
theorem dX7_balance_39 : decode cX7_balance 39 = .ok (.iload_n 1, 1) := by decide +kernel
theorem dX7_balance_40 : decode cX7_balance 40 = .ok (.iconst 0, 1) := by decide +kernel
theorem dX7_balance_41 : decode cX7_balance 41 = .ok (.aload_n 0, 1) := by decide +kernel
theorem dX7_balance_42 : decode cX7_balance 42 = .ok (.getfield 23, 3) := by decide +kernel
theorem dX7_balance_45 : decode cX7_balance 45 = .ok (.iload_n 2, 1) := by decide +kernel
theorem dX7_balance_46 : decode cX7_balance 46 = .ok (.aaload, 1) := by decide +kernel
theorem dX7_balance_47 : decode cX7_balance 47 = .ok (.getfield 198, 3) := by decide +kernel
theorem dX7_balance_50 : decode cX7_balance 50 = .ok (.invokestatic 305, 3) := by decide +kernel
theorem dX7_balance_53 : decode cX7_balance 53 = .ok (.isub, 1) := by decide +kernel
theorem dX7_balance_54 : decode cX7_balance 54 = .ok (.istore_n 1, 1) := by decide +kernel
theorem dX7_balance_55 : decode cX7_balance 55 = .ok (.iinc 2 1, 3) := by decide +kernel
theorem dX7_balance_58 : decode cX7_balance 58 = .ok (.goto (-24), 3) := by decide +kernel
theorem dX7_balance_61 : decode cX7_balance 61 = .ok (.iconst 0, 1) := by decide +kernel
theorem dX7_balance_62 : decode cX7_balance 62 = .ok (.istore_n 2, 1) := by decide +kernel
theorem dX7_balance_63 : decode cX7_balance 63 = .ok (.iload_n 2, 1) := by decide +kernel
theorem dX7_balance_64 : decode cX7_balance 64 = .ok (.aload_n 0, 1) := by decide +kernel
theorem dX7_balance_65 : decode cX7_balance 65 = .ok (.getfield 61, 3) := by decide +kernel
theorem dX7_balance_68 : decode cX7_balance 68 = .ok (.if_icmp .ge 21, 3) := by decide +kernel
theorem dX7_balance_71 : decode cX7_balance 71 = .ok (.iload_n 1, 1) := by decide +kernel
theorem dX7_balance_72 : decode cX7_balance 72 = .ok (.aload_n 0, 1) := by decide +kernel
theorem dX7_balance_73 : decode cX7_balance 73 = .ok (.getfield 29, 3) := by decide +kernel
theorem dX7_balance_76 : decode cX7_balance 76 = .ok (.iload_n 2, 1) := by decide +kernel
theorem dX7_balance_77 : decode cX7_balance 77 = .ok (.aaload, 1) := by decide +kernel
theorem dX7_balance_78 : decode cX7_balance 78 = .ok (.getfield 232, 3) := by decide +kernel
theorem dX7_balance_81 : decode cX7_balance 81 = .ok (.isub, 1) := by decide +kernel
theorem dX7_balance_82 : decode cX7_balance 82 = .ok (.istore_n 1, 1) := by decide +kernel
theorem dX7_balance_83 : decode cX7_balance 83 = .ok (.iinc 2 1, 3) := by decide +kernel
theorem dX7_balance_86 : decode cX7_balance 86 = .ok (.goto (-23), 3) := by decide +kernel
theorem dX7_balance_89 : decode cX7_balance 89 = .ok (.iload_n 1, 1) := by decide +kernel
theorem dX7_balance_90 : decode cX7_balance 90 = .ok (.ireturn, 1) := by decide +kernel
set_option maxRecDepth 20000 in
theorem ggX7_count_X7_today : GoodIn wsX7_count wsX7_today := goodIn_r _ [16, 4, 17, 18, 19, 20, 21, 22, 23, 24, 25, 26, 27, 28, 29, 30] (by decide +kernel) (by decide +kernel)
set_option maxRecDepth 20000 in
theorem gX7_count_X7_today : GoodIn wsX7_count (wsV RX7 94 RX7 yX7_today wsX7_today) := goodIn_app (goodIn_of _ (by decide +kernel)) ggX7_count_X7_today
theorem dX7_count_0 : decode cX7_count 0 = .ok (.iload_n 1, 1) := by decide +kernel
theorem dX7_count_1 : decode cX7_count 1 = .ok (.tableswitch 129 0 10 #[59, 64, 69, 74, 79, 84, 89, 97, 105, 113, 121], 59) := by decide +kernel
theorem dX7_count_60 : decode cX7_count 60 = .ok (.aload_n 0, 1) := by decide +kernel
theorem dX7_count_61 : decode cX7_count 61 = .ok (.getfield 54, 3) := by decide +kernel
theorem dX7_count_64 : decode cX7_count 64 = .ok (.ireturn, 1) := by decide +kernel
theorem dX7_count_65 : decode cX7_count 65 = .ok (.aload_n 0, 1) := by decide +kernel
theorem dX7_count_66 : decode cX7_count 66 = .ok (.getfield 58, 3) := by decide +kernel
theorem dX7_count_69 : decode cX7_count 69 = .ok (.ireturn, 1) := by decide +kernel
theorem dX7_count_70 : decode cX7_count 70 = .ok (.aload_n 0, 1) := by decide +kernel
theorem dX7_count_71 : decode cX7_count 71 = .ok (.getfield 61, 3) := by decide +kernel
theorem dX7_count_74 : decode cX7_count 74 = .ok (.ireturn, 1) := by decide +kernel
theorem dX7_count_75 : decode cX7_count 75 = .ok (.aload_n 0, 1) := by decide +kernel
theorem dX7_count_76 : decode cX7_count 76 = .ok (.invokevirtual 94, 3) := by decide +kernel
theorem dX7_count_79 : decode cX7_count 79 = .ok (.ireturn, 1) := by decide +kernel
theorem dX7_count_80 : decode cX7_count 80 = .ok (.aload_n 0, 1) := by decide +kernel
theorem dX7_count_81 : decode cX7_count 81 = .ok (.getfield 64, 3) := by decide +kernel
theorem dX7_count_84 : decode cX7_count 84 = .ok (.ireturn, 1) := by decide +kernel
theorem dX7_count_85 : decode cX7_count 85 = .ok (.aload_n 0, 1) := by decide +kernel
theorem dX7_count_86 : decode cX7_count 86 = .ok (.getfield 73, 3) := by decide +kernel
theorem dX7_count_89 : decode cX7_count 89 = .ok (.ireturn, 1) := by decide +kernel
theorem dX7_count_90 : decode cX7_count 90 = .ok (.aload_n 0, 1) := by decide +kernel
theorem dX7_count_91 : decode cX7_count 91 = .ok (.getfield 43, 3) := by decide +kernel
theorem dX7_count_94 : decode cX7_count 94 = .ok (.getfield 204, 3) := by decide +kernel
theorem dX7_count_97 : decode cX7_count 97 = .ok (.ireturn, 1) := by decide +kernel
theorem dX7_count_98 : decode cX7_count 98 = .ok (.aload_n 0, 1) := by decide +kernel
theorem dX7_count_99 : decode cX7_count 99 = .ok (.getfield 43, 3) := by decide +kernel
theorem dX7_count_102 : decode cX7_count 102 = .ok (.getfield 240, 3) := by decide +kernel
theorem dX7_count_105 : decode cX7_count 105 = .ok (.ireturn, 1) := by decide +kernel
theorem dX7_count_106 : decode cX7_count 106 = .ok (.aload_n 0, 1) := by decide +kernel
theorem dX7_count_107 : decode cX7_count 107 = .ok (.getfield 43, 3) := by decide +kernel
theorem dX7_count_110 : decode cX7_count 110 = .ok (.getfield 249, 3) := by decide +kernel
theorem dX7_count_113 : decode cX7_count 113 = .ok (.ireturn, 1) := by decide +kernel
theorem dX7_count_114 : decode cX7_count 114 = .ok (.aload_n 0, 1) := by decide +kernel
theorem dX7_count_115 : decode cX7_count 115 = .ok (.getfield 43, 3) := by decide +kernel
theorem dX7_count_118 : decode cX7_count 118 = .ok (.getfield 252, 3) := by decide +kernel
theorem dX7_count_121 : decode cX7_count 121 = .ok (.ireturn, 1) := by decide +kernel
theorem dX7_count_122 : decode cX7_count 122 = .ok (.aload_n 0, 1) := by decide +kernel
theorem dX7_count_123 : decode cX7_count 123 = .ok (.getfield 43, 3) := by decide +kernel
theorem dX7_count_126 : decode cX7_count 126 = .ok (.getfield 341, 3) := by decide +kernel
theorem dX7_count_129 : decode cX7_count 129 = .ok (.ireturn, 1) := by decide +kernel
theorem dX7_count_130 : decode cX7_count 130 = .ok (.iconst (-1), 1) := by decide +kernel
theorem dX7_count_131 : decode cX7_count 131 = .ok (.ireturn, 1) := by decide +kernel
theorem dX7_today_0 : decode cX7_today 0 = .ok (.aload_n 0, 1) := by decide +kernel
theorem dX7_today_1 : decode cX7_today 1 = .ok (.getfield 64, 3) := by decide +kernel
theorem dX7_today_4 : decode cX7_today 4 = .ok (.bipush 10, 2) := by decide +kernel
theorem dX7_today_6 : decode cX7_today 6 = .ok (.idiv, 1) := by decide +kernel
theorem dX7_today_7 : decode cX7_today 7 = .ok (.ireturn, 1) := by decide +kernel
set_option maxRecDepth 20000 in
theorem ggX7_beginDay_X2_mayBecomeLate : GoodIn wsX7_beginDay wsX2_mayBecomeLate := goodIn_r _ [13, 14, 15, 16, 17, 12, 18, 19, 34, 35, 36, 37, 38, 39, 40, 41, 42, 43, 44, 45] (by decide +kernel) (by decide +kernel)
set_option maxRecDepth 20000 in
theorem gX7_beginDay_X2_mayBecomeLate : GoodIn wsX7_beginDay (wsV RX7 344 RX2 yX2_mayBecomeLate wsX2_mayBecomeLate) := goodIn_app (goodIn_of _ (by decide +kernel)) ggX7_beginDay_X2_mayBecomeLate
theorem dX7_beginDay_0 : decode cX7_beginDay 0 = .ok (.aload_n 0, 1) := by decide +kernel
theorem dX7_beginDay_1 : decode cX7_beginDay 1 = .ok (.iconst (-1), 1) := by decide +kernel
theorem dX7_beginDay_2 : decode cX7_beginDay 2 = .ok (.putfield 73, 3) := by decide +kernel
theorem dX7_beginDay_5 : decode cX7_beginDay 5 = .ok (.iconst 0, 1) := by decide +kernel
theorem dX7_beginDay_6 : decode cX7_beginDay 6 = .ok (.istore_n 2, 1) := by decide +kernel
theorem dX7_beginDay_7 : decode cX7_beginDay 7 = .ok (.iload_n 2, 1) := by decide +kernel
theorem dX7_beginDay_8 : decode cX7_beginDay 8 = .ok (.aload_n 0, 1) := by decide +kernel
theorem dX7_beginDay_9 : decode cX7_beginDay 9 = .ok (.getfield 58, 3) := by decide +kernel
theorem dX7_beginDay_12 : decode cX7_beginDay 12 = .ok (.if_icmp .ge 62, 3) := by decide +kernel
theorem dX7_beginDay_15 : decode cX7_beginDay 15 = .ok (.aload_n 0, 1) := by decide +kernel
theorem dX7_beginDay_16 : decode cX7_beginDay 16 = .ok (.getfield 17, 3) := by decide +kernel
theorem dX7_beginDay_19 : decode cX7_beginDay 19 = .ok (.iload_n 2, 1) := by decide +kernel
theorem dX7_beginDay_20 : decode cX7_beginDay 20 = .ok (.aaload, 1) := by decide +kernel
theorem dX7_beginDay_21 : decode cX7_beginDay 21 = .ok (.invokevirtual 344, 3) := by decide +kernel
theorem dX7_beginDay_24 : decode cX7_beginDay 24 = .ok (.ifCond .eq 44, 3) := by decide +kernel
theorem dX7_beginDay_27 : decode cX7_beginDay 27 = .ok (.iload_n 1, 1) := by decide +kernel
theorem dX7_beginDay_28 : decode cX7_beginDay 28 = .ok (.aload_n 0, 1) := by decide +kernel
theorem dX7_beginDay_29 : decode cX7_beginDay 29 = .ok (.getfield 17, 3) := by decide +kernel
theorem dX7_beginDay_32 : decode cX7_beginDay 32 = .ok (.iload_n 2, 1) := by decide +kernel
theorem dX7_beginDay_33 : decode cX7_beginDay 33 = .ok (.aaload, 1) := by decide +kernel
theorem dX7_beginDay_34 : decode cX7_beginDay 34 = .ok (.getfield 136, 3) := by decide +kernel
theorem dX7_beginDay_37 : decode cX7_beginDay 37 = .ok (.isub, 1) := by decide +kernel
theorem dX7_beginDay_38 : decode cX7_beginDay 38 = .ok (.aload_n 0, 1) := by decide +kernel
theorem dX7_beginDay_39 : decode cX7_beginDay 39 = .ok (.getfield 67, 3) := by decide +kernel
theorem dX7_beginDay_42 : decode cX7_beginDay 42 = .ok (.if_icmp .le 26, 3) := by decide +kernel
theorem dX7_beginDay_45 : decode cX7_beginDay 45 = .ok (.aload_n 0, 1) := by decide +kernel
theorem dX7_beginDay_46 : decode cX7_beginDay 46 = .ok (.getfield 17, 3) := by decide +kernel
theorem dX7_beginDay_49 : decode cX7_beginDay 49 = .ok (.iload_n 2, 1) := by decide +kernel
theorem dX7_beginDay_50 : decode cX7_beginDay 50 = .ok (.aaload, 1) := by decide +kernel
theorem dX7_beginDay_51 : decode cX7_beginDay 51 = .ok (.iconst 3, 1) := by decide +kernel
theorem dX7_beginDay_52 : decode cX7_beginDay 52 = .ok (.putfield 105, 3) := by decide +kernel
theorem dX7_beginDay_55 : decode cX7_beginDay 55 = .ok (.aload_n 0, 1) := by decide +kernel
theorem dX7_beginDay_56 : decode cX7_beginDay 56 = .ok (.getfield 43, 3) := by decide +kernel
theorem dX7_beginDay_59 : decode cX7_beginDay 59 = .ok (.dup, 1) := by decide +kernel
theorem dX7_beginDay_60 : decode cX7_beginDay 60 = .ok (.getfield 341, 3) := by decide +kernel
theorem dX7_beginDay_63 : decode cX7_beginDay 63 = .ok (.iconst 1, 1) := by decide +kernel
theorem dX7_beginDay_64 : decode cX7_beginDay 64 = .ok (.iadd, 1) := by decide +kernel
theorem dX7_beginDay_65 : decode cX7_beginDay 65 = .ok (.putfield 341, 3) := by decide +kernel
theorem dX7_beginDay_68 : decode cX7_beginDay 68 = .ok (.iinc 2 1, 3) := by decide +kernel
theorem dX7_beginDay_71 : decode cX7_beginDay 71 = .ok (.goto (-64), 3) := by decide +kernel
theorem dX7_beginDay_74 : decode cX7_beginDay 74 = .ok (.return_, 1) := by decide +kernel
set_option maxRecDepth 20000 in
theorem ggX7_lateHour_X7_today : GoodIn wsX7_lateHour wsX7_today := goodIn_r _ [13, 14, 27, 28, 29, 30, 31, 32, 33, 34, 35, 36, 37, 38, 39, 40] (by decide +kernel) (by decide +kernel)
set_option maxRecDepth 20000 in
theorem gX7_lateHour_X7_today : GoodIn wsX7_lateHour (wsV RX7 94 RX7 yX7_today wsX7_today) := goodIn_app (goodIn_of _ (by decide +kernel)) ggX7_lateHour_X7_today
theorem dX7_lateHour_0 : decode cX7_lateHour 0 = .ok (.aload_n 1, 1) := by decide +kernel
theorem dX7_lateHour_1 : decode cX7_lateHour 1 = .ok (.getfield 105, 3) := by decide +kernel
theorem dX7_lateHour_4 : decode cX7_lateHour 4 = .ok (.iconst 3, 1) := by decide +kernel
theorem dX7_lateHour_5 : decode cX7_lateHour 5 = .ok (.if_icmp .ne 7, 3) := by decide +kernel
theorem dX7_lateHour_8 : decode cX7_lateHour 8 = .ok (.ldc_w 347, 3) := by decide +kernel
theorem dX7_lateHour_11 : decode cX7_lateHour 11 = .ok (.ireturn, 1) := by decide +kernel
theorem dX7_lateHour_12 : decode cX7_lateHour 12 = .ok (.bipush 10, 2) := by decide +kernel
theorem dX7_lateHour_14 : decode cX7_lateHour 14 = .ok (.aload_n 0, 1) := by decide +kernel
theorem dX7_lateHour_15 : decode cX7_lateHour 15 = .ok (.invokevirtual 94, 3) := by decide +kernel
theorem dX7_lateHour_18 : decode cX7_lateHour 18 = .ok (.iconst 1, 1) := by decide +kernel
theorem dX7_lateHour_19 : decode cX7_lateHour 19 = .ok (.iadd, 1) := by decide +kernel
theorem dX7_lateHour_20 : decode cX7_lateHour 20 = .ok (.aload_n 1, 1) := by decide +kernel
theorem dX7_lateHour_21 : decode cX7_lateHour 21 = .ok (.getfield 136, 3) := by decide +kernel
theorem dX7_lateHour_24 : decode cX7_lateHour 24 = .ok (.aload_n 0, 1) := by decide +kernel
theorem dX7_lateHour_25 : decode cX7_lateHour 25 = .ok (.getfield 67, 3) := by decide +kernel
theorem dX7_lateHour_28 : decode cX7_lateHour 28 = .ok (.iadd, 1) := by decide +kernel
theorem dX7_lateHour_29 : decode cX7_lateHour 29 = .ok (.iconst 1, 1) := by decide +kernel
theorem dX7_lateHour_30 : decode cX7_lateHour 30 = .ok (.iadd, 1) := by decide +kernel
theorem dX7_lateHour_31 : decode cX7_lateHour 31 = .ok (.invokestatic 305, 3) := by decide +kernel
theorem dX7_lateHour_34 : decode cX7_lateHour 34 = .ok (.imul, 1) := by decide +kernel
theorem dX7_lateHour_35 : decode cX7_lateHour 35 = .ok (.ireturn, 1) := by decide +kernel
set_option maxRecDepth 20000 in
theorem ggX7_countForPlan_X2_isForPlan : GoodIn wsX7_countForPlan wsX2_isForPlan := goodIn_r _ [7, 8, 9, 10, 11, 6, 12, 13, 28, 29, 30, 31, 32, 33, 34, 35, 36, 37, 38, 39] (by decide +kernel) (by decide +kernel)
set_option maxRecDepth 20000 in
theorem gX7_countForPlan_X2_isForPlan : GoodIn wsX7_countForPlan (wsV RX7 311 RX2 yX2_isForPlan wsX2_isForPlan) := goodIn_app (goodIn_of _ (by decide +kernel)) ggX7_countForPlan_X2_isForPlan
theorem dX7_countForPlan_0 : decode cX7_countForPlan 0 = .ok (.iconst 0, 1) := by decide +kernel
theorem dX7_countForPlan_1 : decode cX7_countForPlan 1 = .ok (.istore_n 1, 1) := by decide +kernel
theorem dX7_countForPlan_2 : decode cX7_countForPlan 2 = .ok (.iconst 0, 1) := by decide +kernel
theorem dX7_countForPlan_3 : decode cX7_countForPlan 3 = .ok (.istore_n 2, 1) := by decide +kernel
theorem dX7_countForPlan_4 : decode cX7_countForPlan 4 = .ok (.iload_n 2, 1) := by decide +kernel
theorem dX7_countForPlan_5 : decode cX7_countForPlan 5 = .ok (.aload_n 0, 1) := by decide +kernel
theorem dX7_countForPlan_6 : decode cX7_countForPlan 6 = .ok (.getfield 58, 3) := by decide +kernel
theorem dX7_countForPlan_9 : decode cX7_countForPlan 9 = .ok (.if_icmp .ge 24, 3) := by decide +kernel
theorem dX7_countForPlan_12 : decode cX7_countForPlan 12 = .ok (.aload_n 0, 1) := by decide +kernel
theorem dX7_countForPlan_13 : decode cX7_countForPlan 13 = .ok (.getfield 17, 3) := by decide +kernel
theorem dX7_countForPlan_16 : decode cX7_countForPlan 16 = .ok (.iload_n 2, 1) := by decide +kernel
theorem dX7_countForPlan_17 : decode cX7_countForPlan 17 = .ok (.aaload, 1) := by decide +kernel
theorem dX7_countForPlan_18 : decode cX7_countForPlan 18 = .ok (.invokevirtual 311, 3) := by decide +kernel
theorem dX7_countForPlan_21 : decode cX7_countForPlan 21 = .ok (.ifCond .eq 6, 3) := by decide +kernel
theorem dX7_countForPlan_24 : decode cX7_countForPlan 24 = .ok (.iinc 1 1, 3) := by decide +kernel
theorem dX7_countForPlan_27 : decode cX7_countForPlan 27 = .ok (.iinc 2 1, 3) := by decide +kernel
theorem dX7_countForPlan_30 : decode cX7_countForPlan 30 = .ok (.goto (-26), 3) := by decide +kernel
theorem dX7_countForPlan_33 : decode cX7_countForPlan 33 = .ok (.iload_n 1, 1) := by decide +kernel
theorem dX7_countForPlan_34 : decode cX7_countForPlan 34 = .ok (.ireturn, 1) := by decide +kernel
set_option maxRecDepth 20000 in
theorem ggX7_findGrove_X7_isWithin : GoodIn wsX7_findGrove wsX7_isWithin := goodIn_r _ [6] (by decide +kernel) (by decide +kernel)
set_option maxRecDepth 20000 in
theorem gX7_findGrove_X7_isWithin : GoodIn wsX7_findGrove (va_wsS RX7 83 yX7_isWithin wsX7_isWithin) := goodIn_app (goodIn_of _ (by decide +kernel)) ggX7_findGrove_X7_isWithin
theorem dX7_findGrove_0 : decode cX7_findGrove 0 = .ok (.iload_n 1, 1) := by decide +kernel
theorem dX7_findGrove_1 : decode cX7_findGrove 1 = .ok (.iconst 0, 1) := by decide +kernel
theorem dX7_findGrove_2 : decode cX7_findGrove 2 = .ok (.aload_n 0, 1) := by decide +kernel
theorem dX7_findGrove_3 : decode cX7_findGrove 3 = .ok (.getfield 54, 3) := by decide +kernel
theorem dX7_findGrove_6 : decode cX7_findGrove 6 = .ok (.iconst 1, 1) := by decide +kernel
theorem dX7_findGrove_7 : decode cX7_findGrove 7 = .ok (.isub, 1) := by decide +kernel
theorem dX7_findGrove_8 : decode cX7_findGrove 8 = .ok (.invokestatic 83, 3) := by decide +kernel
theorem dX7_findGrove_11 : decode cX7_findGrove 11 = .ok (.ifCond .eq 12, 3) := by decide +kernel
theorem dX7_findGrove_14 : decode cX7_findGrove 14 = .ok (.aload_n 0, 1) := by decide +kernel
theorem dX7_findGrove_15 : decode cX7_findGrove 15 = .ok (.getfield 11, 3) := by decide +kernel
theorem dX7_findGrove_18 : decode cX7_findGrove 18 = .ok (.iload_n 1, 1) := by decide +kernel
theorem dX7_findGrove_19 : decode cX7_findGrove 19 = .ok (.aaload, 1) := by decide +kernel
theorem dX7_findGrove_20 : decode cX7_findGrove 20 = .ok (.goto 4, 3) := by decide +kernel
theorem dX7_findGrove_23 : decode cX7_findGrove 23 = .ok (.aconst_null, 1) := by decide +kernel
theorem dX7_findGrove_24 : decode cX7_findGrove 24 = .ok (.areturn, 1) := by decide +kernel
set_option maxRecDepth 20000 in
theorem ggX7_findLot_X7_isWithin : GoodIn wsX7_findLot wsX7_isWithin := goodIn_r _ [6] (by decide +kernel) (by decide +kernel)
set_option maxRecDepth 20000 in
theorem gX7_findLot_X7_isWithin : GoodIn wsX7_findLot (va_wsS RX7 83 yX7_isWithin wsX7_isWithin) := goodIn_app (goodIn_of _ (by decide +kernel)) ggX7_findLot_X7_isWithin
theorem dX7_findLot_0 : decode cX7_findLot 0 = .ok (.iload_n 1, 1) := by decide +kernel
theorem dX7_findLot_1 : decode cX7_findLot 1 = .ok (.iconst 0, 1) := by decide +kernel
theorem dX7_findLot_2 : decode cX7_findLot 2 = .ok (.aload_n 0, 1) := by decide +kernel
theorem dX7_findLot_3 : decode cX7_findLot 3 = .ok (.getfield 58, 3) := by decide +kernel
theorem dX7_findLot_6 : decode cX7_findLot 6 = .ok (.iconst 1, 1) := by decide +kernel
theorem dX7_findLot_7 : decode cX7_findLot 7 = .ok (.isub, 1) := by decide +kernel
theorem dX7_findLot_8 : decode cX7_findLot 8 = .ok (.invokestatic 83, 3) := by decide +kernel
theorem dX7_findLot_11 : decode cX7_findLot 11 = .ok (.ifCond .eq 12, 3) := by decide +kernel
theorem dX7_findLot_14 : decode cX7_findLot 14 = .ok (.aload_n 0, 1) := by decide +kernel
theorem dX7_findLot_15 : decode cX7_findLot 15 = .ok (.getfield 17, 3) := by decide +kernel
theorem dX7_findLot_18 : decode cX7_findLot 18 = .ok (.iload_n 1, 1) := by decide +kernel
theorem dX7_findLot_19 : decode cX7_findLot 19 = .ok (.aaload, 1) := by decide +kernel
theorem dX7_findLot_20 : decode cX7_findLot 20 = .ok (.goto 4, 3) := by decide +kernel
theorem dX7_findLot_23 : decode cX7_findLot 23 = .ok (.aconst_null, 1) := by decide +kernel
theorem dX7_findLot_24 : decode cX7_findLot 24 = .ok (.areturn, 1) := by decide +kernel
set_option maxRecDepth 20000 in
theorem ggX7_findMill_X7_isWithin : GoodIn wsX7_findMill wsX7_isWithin := goodIn_r _ [5] (by decide +kernel) (by decide +kernel)
set_option maxRecDepth 20000 in
theorem gX7_findMill_X7_isWithin : GoodIn wsX7_findMill (va_wsS RX7 83 yX7_isWithin wsX7_isWithin) := goodIn_app (goodIn_of _ (by decide +kernel)) ggX7_findMill_X7_isWithin
theorem dX7_findMill_0 : decode cX7_findMill 0 = .ok (.iload_n 1, 1) := by decide +kernel
theorem dX7_findMill_1 : decode cX7_findMill 1 = .ok (.iconst 0, 1) := by decide +kernel
theorem dX7_findMill_2 : decode cX7_findMill 2 = .ok (.iconst 2, 1) := by decide +kernel
theorem dX7_findMill_3 : decode cX7_findMill 3 = .ok (.invokestatic 83, 3) := by decide +kernel
theorem dX7_findMill_6 : decode cX7_findMill 6 = .ok (.ifCond .eq 12, 3) := by decide +kernel
theorem dX7_findMill_9 : decode cX7_findMill 9 = .ok (.aload_n 0, 1) := by decide +kernel
theorem dX7_findMill_10 : decode cX7_findMill 10 = .ok (.getfield 23, 3) := by decide +kernel
theorem dX7_findMill_13 : decode cX7_findMill 13 = .ok (.iload_n 1, 1) := by decide +kernel
theorem dX7_findMill_14 : decode cX7_findMill 14 = .ok (.aaload, 1) := by decide +kernel
theorem dX7_findMill_15 : decode cX7_findMill 15 = .ok (.goto 4, 3) := by decide +kernel
theorem dX7_findMill_18 : decode cX7_findMill 18 = .ok (.aconst_null, 1) := by decide +kernel
theorem dX7_findMill_19 : decode cX7_findMill 19 = .ok (.areturn, 1) := by decide +kernel
set_option maxRecDepth 20000 in
theorem ggX7_findVat_X7_isWithin : GoodIn wsX7_findVat wsX7_isWithin := goodIn_r _ [6] (by decide +kernel) (by decide +kernel)
set_option maxRecDepth 20000 in
theorem gX7_findVat_X7_isWithin : GoodIn wsX7_findVat (va_wsS RX7 83 yX7_isWithin wsX7_isWithin) := goodIn_app (goodIn_of _ (by decide +kernel)) ggX7_findVat_X7_isWithin
theorem dX7_findVat_0 : decode cX7_findVat 0 = .ok (.iload_n 1, 1) := by decide +kernel
theorem dX7_findVat_1 : decode cX7_findVat 1 = .ok (.iconst 0, 1) := by decide +kernel
theorem dX7_findVat_2 : decode cX7_findVat 2 = .ok (.aload_n 0, 1) := by decide +kernel
theorem dX7_findVat_3 : decode cX7_findVat 3 = .ok (.getfield 61, 3) := by decide +kernel
theorem dX7_findVat_6 : decode cX7_findVat 6 = .ok (.iconst 1, 1) := by decide +kernel
theorem dX7_findVat_7 : decode cX7_findVat 7 = .ok (.isub, 1) := by decide +kernel
theorem dX7_findVat_8 : decode cX7_findVat 8 = .ok (.invokestatic 83, 3) := by decide +kernel
theorem dX7_findVat_11 : decode cX7_findVat 11 = .ok (.ifCond .eq 12, 3) := by decide +kernel
theorem dX7_findVat_14 : decode cX7_findVat 14 = .ok (.aload_n 0, 1) := by decide +kernel
theorem dX7_findVat_15 : decode cX7_findVat 15 = .ok (.getfield 29, 3) := by decide +kernel
theorem dX7_findVat_18 : decode cX7_findVat 18 = .ok (.iload_n 1, 1) := by decide +kernel
theorem dX7_findVat_19 : decode cX7_findVat 19 = .ok (.aaload, 1) := by decide +kernel
theorem dX7_findVat_20 : decode cX7_findVat 20 = .ok (.goto 4, 3) := by decide +kernel
theorem dX7_findVat_23 : decode cX7_findVat 23 = .ok (.aconst_null, 1) := by decide +kernel
theorem dX7_findVat_24 : decode cX7_findVat 24 = .ok (.areturn, 1) := by decide +kernel
set_option maxRecDepth 20000 in
theorem ggX7_vatOf_X7_findVat : GoodIn wsX7_vatOf wsX7_findVat := goodIn_r _ [7, 8, 9, 10, 11, 6, 12, 25, 26, 27, 28, 29, 30, 31, 32, 33, 34, 35, 36, 37, 38] (by decide +kernel) (by decide +kernel)
set_option maxRecDepth 20000 in
theorem gX7_vatOf_X7_findVat : GoodIn wsX7_vatOf (wsV RX7 218 RX7 yX7_findVat wsX7_findVat) := goodIn_app (goodIn_of _ (by decide +kernel)) ggX7_vatOf_X7_findVat
theorem dX7_vatOf_0 : decode cX7_vatOf 0 = .ok (.aload_n 1, 1) := by decide +kernel
theorem dX7_vatOf_1 : decode cX7_vatOf 1 = .ok (.ifnull 23, 3) := by decide +kernel
theorem dX7_vatOf_4 : decode cX7_vatOf 4 = .ok (.aload_n 1, 1) := by decide +kernel
theorem dX7_vatOf_5 : decode cX7_vatOf 5 = .ok (.getfield 116, 3) := by decide +kernel
theorem dX7_vatOf_8 : decode cX7_vatOf 8 = .ok (.bipush 6, 2) := by decide +kernel
theorem dX7_vatOf_10 : decode cX7_vatOf 10 = .ok (.if_icmp .ne 14, 3) := by decide +kernel
theorem dX7_vatOf_13 : decode cX7_vatOf 13 = .ok (.aload_n 0, 1) := by decide +kernel
theorem dX7_vatOf_14 : decode cX7_vatOf 14 = .ok (.aload_n 1, 1) := by decide +kernel
theorem dX7_vatOf_15 : decode cX7_vatOf 15 = .ok (.getfield 145, 3) := by decide +kernel
theorem dX7_vatOf_18 : decode cX7_vatOf 18 = .ok (.invokevirtual 218, 3) := by decide +kernel
theorem dX7_vatOf_21 : decode cX7_vatOf 21 = .ok (.goto 4, 3) := by decide +kernel
theorem dX7_vatOf_24 : decode cX7_vatOf 24 = .ok (.aconst_null, 1) := by decide +kernel
theorem dX7_vatOf_25 : decode cX7_vatOf 25 = .ok (.areturn, 1) := by decide +kernel
set_option maxRecDepth 20000 in
theorem ggX7_isFarmer_X7_isWithin : GoodIn wsX7_isFarmer wsX7_isWithin := goodIn_r _ [4] (by decide +kernel) (by decide +kernel)
set_option maxRecDepth 20000 in
theorem gX7_isFarmer_X7_isWithin : GoodIn wsX7_isFarmer (va_wsS RX7 83 yX7_isWithin wsX7_isWithin) := goodIn_app (goodIn_of _ (by decide +kernel)) ggX7_isFarmer_X7_isWithin
theorem dX7_isFarmer_0 : decode cX7_isFarmer 0 = .ok (.iload_n 0, 1) := by decide +kernel
theorem dX7_isFarmer_1 : decode cX7_isFarmer 1 = .ok (.iconst 0, 1) := by decide +kernel
theorem dX7_isFarmer_2 : decode cX7_isFarmer 2 = .ok (.bipush 39, 2) := by decide +kernel
theorem dX7_isFarmer_4 : decode cX7_isFarmer 4 = .ok (.invokestatic 83, 3) := by decide +kernel
theorem dX7_isFarmer_7 : decode cX7_isFarmer 7 = .ok (.ireturn, 1) := by decide +kernel
set_option maxRecDepth 20000 in
theorem ggX7_isSort_X7_isWithin : GoodIn wsX7_isSort wsX7_isWithin := goodIn_r _ [4] (by decide +kernel) (by decide +kernel)
set_option maxRecDepth 20000 in
theorem gX7_isSort_X7_isWithin : GoodIn wsX7_isSort (va_wsS RX7 83 yX7_isWithin wsX7_isWithin) := goodIn_app (goodIn_of _ (by decide +kernel)) ggX7_isSort_X7_isWithin
theorem dX7_isSort_0 : decode cX7_isSort 0 = .ok (.iload_n 0, 1) := by decide +kernel
theorem dX7_isSort_1 : decode cX7_isSort 1 = .ok (.iconst 0, 1) := by decide +kernel
theorem dX7_isSort_2 : decode cX7_isSort 2 = .ok (.iconst 2, 1) := by decide +kernel
theorem dX7_isSort_3 : decode cX7_isSort 3 = .ok (.invokestatic 83, 3) := by decide +kernel
theorem dX7_isSort_6 : decode cX7_isSort 6 = .ok (.ireturn, 1) := by decide +kernel
theorem dX7_isWithin_0 : decode cX7_isWithin 0 = .ok (.iload_n 1, 1) := by decide +kernel
theorem dX7_isWithin_1 : decode cX7_isWithin 1 = .ok (.iload_n 0, 1) := by decide +kernel
theorem dX7_isWithin_2 : decode cX7_isWithin 2 = .ok (.if_icmp .gt 12, 3) := by decide +kernel
theorem dX7_isWithin_5 : decode cX7_isWithin 5 = .ok (.iload_n 0, 1) := by decide +kernel
theorem dX7_isWithin_6 : decode cX7_isWithin 6 = .ok (.iload_n 2, 1) := by decide +kernel
theorem dX7_isWithin_7 : decode cX7_isWithin 7 = .ok (.if_icmp .gt 7, 3) := by decide +kernel
theorem dX7_isWithin_10 : decode cX7_isWithin 10 = .ok (.iconst 1, 1) := by decide +kernel
theorem dX7_isWithin_11 : decode cX7_isWithin 11 = .ok (.goto 4, 3) := by decide +kernel
theorem dX7_isWithin_14 : decode cX7_isWithin 14 = .ok (.iconst 0, 1) := by decide +kernel
theorem dX7_isWithin_15 : decode cX7_isWithin 15 = .ok (.ireturn, 1) := by decide +kernel
theorem dX7_asNumber_0 : decode cX7_asNumber 0 = .ok (.iload_n 0, 1) := by decide +kernel
theorem dX7_asNumber_1 : decode cX7_asNumber 1 = .ok (.ifCond .eq 7, 3) := by decide +kernel
theorem dX7_asNumber_4 : decode cX7_asNumber 4 = .ok (.iconst 1, 1) := by decide +kernel
theorem dX7_asNumber_5 : decode cX7_asNumber 5 = .ok (.goto 4, 3) := by decide +kernel
theorem dX7_asNumber_8 : decode cX7_asNumber 8 = .ok (.iconst 0, 1) := by decide +kernel
theorem dX7_asNumber_9 : decode cX7_asNumber 9 = .ok (.ireturn, 1) := by decide +kernel
theorem dX7_divideUp_0 : decode cX7_divideUp 0 = .ok (.lload_n 2, 1) := by decide +kernel
theorem dX7_divideUp_1 : decode cX7_divideUp 1 = .ok (.lconst 1, 1) := by decide +kernel
theorem dX7_divideUp_2 : decode cX7_divideUp 2 = .ok (.lcmp, 1) := by decide +kernel
theorem dX7_divideUp_3 : decode cX7_divideUp 3 = .ok (.ifCond .ge 7, 3) := by decide +kernel
theorem dX7_divideUp_6 : decode cX7_divideUp 6 = .ok (.lconst 0, 1) := by decide +kernel
theorem dX7_divideUp_7 : decode cX7_divideUp 7 = .ok (.goto 10, 3) := by decide +kernel
theorem dX7_divideUp_10 : decode cX7_divideUp 10 = .ok (.lload_n 0, 1) := by decide +kernel
theorem dX7_divideUp_11 : decode cX7_divideUp 11 = .ok (.lload_n 2, 1) := by decide +kernel
theorem dX7_divideUp_12 : decode cX7_divideUp 12 = .ok (.ladd, 1) := by decide +kernel
theorem dX7_divideUp_13 : decode cX7_divideUp 13 = .ok (.lconst 1, 1) := by decide +kernel
theorem dX7_divideUp_14 : decode cX7_divideUp 14 = .ok (.lsub, 1) := by decide +kernel
theorem dX7_divideUp_15 : decode cX7_divideUp 15 = .ok (.lload_n 2, 1) := by decide +kernel
theorem dX7_divideUp_16 : decode cX7_divideUp 16 = .ok (.ldiv, 1) := by decide +kernel
theorem dX7_divideUp_17 : decode cX7_divideUp 17 = .ok (.lreturn, 1) := by decide +kernel
theorem dX8_init_0 : decode cX8_init 0 = .ok (.aload_n 0, 1) := by decide +kernel
theorem dX8_init_1 : decode cX8_init 1 = .ok (.invokespecial 1, 3) := by decide +kernel
theorem dX8_init_4 : decode cX8_init 4 = .ok (.aload_n 0, 1) := by decide +kernel
theorem dX8_init_5 : decode cX8_init 5 = .ok (.iconst 3, 1) := by decide +kernel
theorem dX8_init_6 : decode cX8_init 6 = .ok (.putfield 7, 3) := by decide +kernel
theorem dX8_init_9 : decode cX8_init 9 = .ok (.aload_n 0, 1) := by decide +kernel
theorem dX8_init_10 : decode cX8_init 10 = .ok (.bipush 10, 2) := by decide +kernel
theorem dX8_init_12 : decode cX8_init 12 = .ok (.putfield 13, 3) := by decide +kernel
theorem dX8_init_15 : decode cX8_init 15 = .ok (.aload_n 0, 1) := by decide +kernel
theorem dX8_init_16 : decode cX8_init 16 = .ok (.iconst (-1), 1) := by decide +kernel
theorem dX8_init_17 : decode cX8_init 17 = .ok (.putfield 16, 3) := by decide +kernel
theorem dX8_init_20 : decode cX8_init 20 = .ok (.aload_n 0, 1) := by decide +kernel
theorem dX8_init_21 : decode cX8_init 21 = .ok (.bipush 60, 2) := by decide +kernel
theorem dX8_init_23 : decode cX8_init 23 = .ok (.newarray .int, 2) := by decide +kernel
theorem dX8_init_25 : decode cX8_init 25 = .ok (.putfield 19, 3) := by decide +kernel
theorem dX8_init_28 : decode cX8_init 28 = .ok (.aload_n 0, 1) := by decide +kernel
theorem dX8_init_29 : decode cX8_init 29 = .ok (.bipush 60, 2) := by decide +kernel
theorem dX8_init_31 : decode cX8_init 31 = .ok (.newarray .int, 2) := by decide +kernel
theorem dX8_init_33 : decode cX8_init 33 = .ok (.putfield 23, 3) := by decide +kernel
theorem dX8_init_36 : decode cX8_init 36 = .ok (.aload_n 0, 1) := by decide +kernel
theorem dX8_init_37 : decode cX8_init 37 = .ok (.sipush 200, 3) := by decide +kernel
theorem dX8_init_40 : decode cX8_init 40 = .ok (.newarray .int, 2) := by decide +kernel
theorem dX8_init_42 : decode cX8_init 42 = .ok (.putfield 26, 3) := by decide +kernel
theorem dX8_init_45 : decode cX8_init 45 = .ok (.aload_n 0, 1) := by decide +kernel
theorem dX8_init_46 : decode cX8_init 46 = .ok (.sipush 200, 3) := by decide +kernel
theorem dX8_init_49 : decode cX8_init 49 = .ok (.newarray .int, 2) := by decide +kernel
theorem dX8_init_51 : decode cX8_init 51 = .ok (.putfield 29, 3) := by decide +kernel
theorem dX8_init_54 : decode cX8_init 54 = .ok (.aload_n 0, 1) := by decide +kernel
theorem dX8_init_55 : decode cX8_init 55 = .ok (.sipush 200, 3) := by decide +kernel
theorem dX8_init_58 : decode cX8_init 58 = .ok (.newarray .int, 2) := by decide +kernel
theorem dX8_init_60 : decode cX8_init 60 = .ok (.putfield 32, 3) := by decide +kernel
theorem dX8_init_63 : decode cX8_init 63 = .ok (.aload_n 0, 1) := by decide +kernel
theorem dX8_init_64 : decode cX8_init 64 = .ok (.sipush 200, 3) := by decide +kernel
theorem dX8_init_67 : decode cX8_init 67 = .ok (.newarray .int, 2) := by decide +kernel
theorem dX8_init_69 : decode cX8_init 69 = .ok (.putfield 35, 3) := by decide +kernel
theorem dX8_init_72 : decode cX8_init 72 = .ok (.aload_n 0, 1) := by decide +kernel
theorem dX8_init_73 : decode cX8_init 73 = .ok (.sipush 200, 3) := by decide +kernel
theorem dX8_init_76 : decode cX8_init 76 = .ok (.newarray .int, 2) := by decide +kernel
theorem dX8_init_78 : decode cX8_init 78 = .ok (.putfield 38, 3) := by decide +kernel
theorem dX8_init_81 : decode cX8_init 81 = .ok (.aload_n 0, 1) := by decide +kernel
theorem dX8_init_82 : decode cX8_init 82 = .ok (.sipush 200, 3) := by decide +kernel
theorem dX8_init_85 : decode cX8_init 85 = .ok (.newarray .int, 2) := by decide +kernel
theorem dX8_init_87 : decode cX8_init 87 = .ok (.putfield 41, 3) := by decide +kernel
theorem dX8_init_90 : decode cX8_init 90 = .ok (.aload_n 0, 1) := by decide +kernel
theorem dX8_init_91 : decode cX8_init 91 = .ok (.sipush 200, 3) := by decide +kernel
theorem dX8_init_94 : decode cX8_init 94 = .ok (.newarray .int, 2) := by decide +kernel
theorem dX8_init_96 : decode cX8_init 96 = .ok (.putfield 44, 3) := by decide +kernel
theorem dX8_init_99 : decode cX8_init 99 = .ok (.aload_n 0, 1) := by decide +kernel
theorem dX8_init_100 : decode cX8_init 100 = .ok (.sipush 200, 3) := by decide +kernel
theorem dX8_init_103 : decode cX8_init 103 = .ok (.newarray .int, 2) := by decide +kernel
theorem dX8_init_105 : decode cX8_init 105 = .ok (.putfield 47, 3) := by decide +kernel
theorem dX8_init_108 : decode cX8_init 108 = .ok (.aload_n 0, 1) := by decide +kernel
theorem dX8_init_109 : decode cX8_init 109 = .ok (.sipush 200, 3) := by decide +kernel
theorem dX8_init_112 : decode cX8_init 112 = .ok (.newarray .int, 2) := by decide +kernel
