theorem dX7_told_81 : decode cX7_told 81 = .ok (.getfield 133, 3) := by decide +kernel
theorem dX7_told_84 : decode cX7_told 84 = .ok (.ireturn, 1) := by decide +kernel
theorem dX7_told_85 : decode cX7_told 85 = .ok (.aload_n 3, 1) := by decide +kernel
theorem dX7_told_86 : decode cX7_told 86 = .ok (.getfield 136, 3) := by decide +kernel
theorem dX7_told_89 : decode cX7_told 89 = .ok (.ireturn, 1) := by decide +kernel
theorem dX7_told_90 : decode cX7_told 90 = .ok (.aload_n 3, 1) := by decide +kernel
theorem dX7_told_91 : decode cX7_told 91 = .ok (.getfield 116, 3) := by decide +kernel
theorem dX7_told_94 : decode cX7_told 94 = .ok (.ireturn, 1) := by decide +kernel
theorem dX7_told_95 : decode cX7_told 95 = .ok (.aload_n 3, 1) := by decide +kernel
theorem dX7_told_96 : decode cX7_told 96 = .ok (.getfield 120, 3) := by decide +kernel
theorem dX7_told_99 : decode cX7_told 99 = .ok (.ireturn, 1) := by decide +kernel
theorem dX7_told_100 : decode cX7_told 100 = .ok (.aload_n 3, 1) := by decide +kernel
theorem dX7_told_101 : decode cX7_told 101 = .ok (.getfield 123, 3) := by decide +kernel
theorem dX7_told_104 : decode cX7_told 104 = .ok (.ireturn, 1) := by decide +kernel
theorem dX7_told_105 : decode cX7_told 105 = .ok (.aload_n 3, 1) := by decide +kernel
theorem dX7_told_106 : decode cX7_told 106 = .ok (.getfield 126, 3) := by decide +kernel
theorem dX7_told_109 : decode cX7_told 109 = .ok (.ireturn, 1) := by decide +kernel
theorem dX7_told_110 : decode cX7_told 110 = .ok (.aload_n 3, 1) := by decide +kernel
theorem dX7_told_111 : decode cX7_told 111 = .ok (.getfield 139, 3) := by decide +kernel
theorem dX7_told_114 : decode cX7_told 114 = .ok (.ireturn, 1) := by decide +kernel
theorem dX7_told_115 : decode cX7_told 115 = .ok (.aload_n 3, 1) := by decide +kernel
theorem dX7_told_116 : decode cX7_told 116 = .ok (.getfield 142, 3) := by decide +kernel
theorem dX7_told_119 : decode cX7_told 119 = .ok (.ireturn, 1) := by decide +kernel
theorem dX7_told_120 : decode cX7_told 120 = .ok (.aload_n 3, 1) := by decide +kernel
theorem dX7_told_121 : decode cX7_told 121 = .ok (.getfield 145, 3) := by decide +kernel
theorem dX7_told_124 : decode cX7_told 124 = .ok (.ireturn, 1) := by decide +kernel
theorem dX7_told_125 : decode cX7_told 125 = .ok (.aload_n 3, 1) := by decide +kernel
theorem dX7_told_126 : decode cX7_told 126 = .ok (.invokevirtual 148, 3) := by decide +kernel
theorem dX7_told_129 : decode cX7_told 129 = .ok (.invokestatic 151, 3) := by decide +kernel
theorem dX7_told_132 : decode cX7_told 132 = .ok (.ireturn, 1) := by decide +kernel
theorem dX7_told_133 : decode cX7_told 133 = .ok (.iconst (-1), 1) := by decide +kernel
theorem dX7_told_134 : decode cX7_told 134 = .ok (.ireturn, 1) := by decide +kernel
set_option maxRecDepth 20000 in
theorem ggX7_mill_X7_findMill : GoodIn wsX7_mill wsX7_findMill := goodIn_r _ [8, 9, 10, 11, 7, 12, 27, 28, 29, 30, 31, 32, 33, 34, 35, 36, 37, 38, 39, 40] (by decide +kernel) (by decide +kernel)
set_option maxRecDepth 20000 in
theorem gX7_mill_X7_findMill : GoodIn wsX7_mill (wsV RX7 155 RX7 yX7_findMill wsX7_findMill) := goodIn_app (goodIn_of _ (by decide +kernel)) ggX7_mill_X7_findMill
set_option maxRecDepth 20000 in
theorem ggX7_mill_X7_isWithin : GoodIn wsX7_mill wsX7_isWithin := goodIn_r _ [12] (by decide +kernel) (by decide +kernel)
set_option maxRecDepth 20000 in
theorem gX7_mill_X7_isWithin : GoodIn wsX7_mill (va_wsS RX7 83 yX7_isWithin wsX7_isWithin) := goodIn_app (goodIn_of _ (by decide +kernel)) ggX7_mill_X7_isWithin
theorem dX7_mill_0 : decode cX7_mill 0 = .ok (.aload_n 0, 1) := by decide +kernel
theorem dX7_mill_1 : decode cX7_mill 1 = .ok (.iload_n 1, 1) := by decide +kernel
theorem dX7_mill_2 : decode cX7_mill 2 = .ok (.invokevirtual 155, 3) := by decide +kernel
theorem dX7_mill_5 : decode cX7_mill 5 = .ok (.astore 4, 2) := by decide +kernel
theorem dX7_mill_7 : decode cX7_mill 7 = .ok (.aload 4, 2) := by decide +kernel
theorem dX7_mill_9 : decode cX7_mill 9 = .ok (.ifnull 11, 3) := by decide +kernel
theorem dX7_mill_12 : decode cX7_mill 12 = .ok (.aload 4, 2) := by decide +kernel
theorem dX7_mill_14 : decode cX7_mill 14 = .ok (.getfield 159, 3) := by decide +kernel
theorem dX7_mill_17 : decode cX7_mill 17 = .ok (.ifCond .le 5, 3) := by decide +kernel
theorem dX7_mill_20 : decode cX7_mill 20 = .ok (.iconst 0, 1) := by decide +kernel
theorem dX7_mill_21 : decode cX7_mill 21 = .ok (.ireturn, 1) := by decide +kernel
theorem dX7_mill_22 : decode cX7_mill 22 = .ok (.iload_n 2, 1) := by decide +kernel
theorem dX7_mill_23 : decode cX7_mill 23 = .ok (.iconst 0, 1) := by decide +kernel
theorem dX7_mill_24 : decode cX7_mill 24 = .ok (.sipush 20000, 3) := by decide +kernel
theorem dX7_mill_27 : decode cX7_mill 27 = .ok (.invokestatic 83, 3) := by decide +kernel
theorem dX7_mill_30 : decode cX7_mill 30 = .ok (.ifCond .eq 14, 3) := by decide +kernel
theorem dX7_mill_33 : decode cX7_mill 33 = .ok (.iload_n 3, 1) := by decide +kernel
theorem dX7_mill_34 : decode cX7_mill 34 = .ok (.iconst 1, 1) := by decide +kernel
theorem dX7_mill_35 : decode cX7_mill 35 = .ok (.sipush 5000, 3) := by decide +kernel
theorem dX7_mill_38 : decode cX7_mill 38 = .ok (.invokestatic 83, 3) := by decide +kernel
theorem dX7_mill_41 : decode cX7_mill 41 = .ok (.ifCond .ne 5, 3) := by decide +kernel
theorem dX7_mill_44 : decode cX7_mill 44 = .ok (.iconst 0, 1) := by decide +kernel
theorem dX7_mill_45 : decode cX7_mill 45 = .ok (.ireturn, 1) := by decide +kernel
theorem dX7_mill_46 : decode cX7_mill 46 = .ok (.aload 4, 2) := by decide +kernel
theorem dX7_mill_48 : decode cX7_mill 48 = .ok (.iload_n 2, 1) := by decide +kernel
theorem dX7_mill_49 : decode cX7_mill 49 = .ok (.putfield 162, 3) := by decide +kernel
theorem dX7_mill_52 : decode cX7_mill 52 = .ok (.aload 4, 2) := by decide +kernel
theorem dX7_mill_54 : decode cX7_mill 54 = .ok (.iload_n 3, 1) := by decide +kernel
theorem dX7_mill_55 : decode cX7_mill 55 = .ok (.putfield 165, 3) := by decide +kernel
theorem dX7_mill_58 : decode cX7_mill 58 = .ok (.iconst 1, 1) := by decide +kernel
theorem dX7_mill_59 : decode cX7_mill 59 = .ok (.ireturn, 1) := by decide +kernel
set_option maxRecDepth 20000 in
theorem ggX7_put_X7_findLot : GoodIn wsX7_put wsX7_findLot := goodIn_r _ [7, 8, 9, 10, 11, 6, 12, 82, 83, 84, 85, 86, 87, 88, 89, 90, 91, 92, 93, 94, 95] (by decide +kernel) (by decide +kernel)
set_option maxRecDepth 20000 in
theorem gX7_put_X7_findLot : GoodIn wsX7_put (wsV RX7 101 RX7 yX7_findLot wsX7_findLot) := goodIn_app (goodIn_of _ (by decide +kernel)) ggX7_put_X7_findLot
set_option maxRecDepth 20000 in
theorem ggX7_put_X7_findMill : GoodIn wsX7_put wsX7_findMill := goodIn_r _ [16, 17, 10, 11, 6, 12, 82, 83, 84, 85, 86, 87, 88, 89, 90, 91, 92, 93, 94, 95] (by decide +kernel) (by decide +kernel)
set_option maxRecDepth 20000 in
theorem gX7_put_X7_findMill : GoodIn wsX7_put (wsV RX7 155 RX7 yX7_findMill wsX7_findMill) := goodIn_app (goodIn_of _ (by decide +kernel)) ggX7_put_X7_findMill
set_option maxRecDepth 20000 in
theorem ggX7_put_X3_admits : GoodIn wsX7_put wsX3_admits := goodIn_r _ [22, 23, 24, 25, 26, 27, 28, 29, 30, 31, 32, 33, 34, 35, 36, 37, 38, 39, 40, 41, 42, 43, 44, 45, 46, 47, 48, 68, 69, 70, 71, 72, 73, 74, 75, 76, 77, 78, 79, 80, 81, 56, 57, 58, 59, 60, 61, 62, 63, 64, 65, 66, 67, 96, 97, 98] (by decide +kernel) (by decide +kernel)
set_option maxRecDepth 20000 in
theorem gX7_put_X3_admits : GoodIn wsX7_put (wsV RX7 168 RX3 yX3_admits wsX3_admits) := goodIn_app (goodIn_of _ (by decide +kernel)) ggX7_put_X3_admits
set_option maxRecDepth 20000 in
theorem ggX7_put_X3_add : GoodIn wsX7_put wsX3_add := goodIn_r _ [52, 24, 30, 53, 54, 55, 68, 69, 70, 71, 72, 73, 74, 75, 76, 77, 78, 79, 80, 81, 56, 57, 58, 59, 60, 61, 62, 63, 64, 65, 66, 67] (by decide +kernel) (by decide +kernel)
set_option maxRecDepth 20000 in
theorem gX7_put_X3_add : GoodIn wsX7_put (wsV RX7 172 RX3 yX3_add wsX3_add) := goodIn_app (goodIn_of _ (by decide +kernel)) ggX7_put_X3_add
theorem dX7_put_0 : decode cX7_put 0 = .ok (.aload_n 0, 1) := by decide +kernel
theorem dX7_put_1 : decode cX7_put 1 = .ok (.iload_n 1, 1) := by decide +kernel
theorem dX7_put_2 : decode cX7_put 2 = .ok (.invokevirtual 101, 3) := by decide +kernel
theorem dX7_put_5 : decode cX7_put 5 = .ok (.astore_n 3, 1) := by decide +kernel
theorem dX7_put_6 : decode cX7_put 6 = .ok (.aload_n 0, 1) := by decide +kernel
theorem dX7_put_7 : decode cX7_put 7 = .ok (.iload_n 2, 1) := by decide +kernel
theorem dX7_put_8 : decode cX7_put 8 = .ok (.invokevirtual 155, 3) := by decide +kernel
theorem dX7_put_11 : decode cX7_put 11 = .ok (.astore 4, 2) := by decide +kernel
theorem dX7_put_13 : decode cX7_put 13 = .ok (.aload_n 3, 1) := by decide +kernel
theorem dX7_put_14 : decode cX7_put 14 = .ok (.ifnull 25, 3) := by decide +kernel
theorem dX7_put_17 : decode cX7_put 17 = .ok (.aload 4, 2) := by decide +kernel
theorem dX7_put_19 : decode cX7_put 19 = .ok (.ifnull 20, 3) := by decide +kernel
theorem dX7_put_22 : decode cX7_put 22 = .ok (.aload_n 3, 1) := by decide +kernel
theorem dX7_put_23 : decode cX7_put 23 = .ok (.getfield 116, 3) := by decide +kernel
theorem dX7_put_26 : decode cX7_put 26 = .ok (.iconst 2, 1) := by decide +kernel
theorem dX7_put_27 : decode cX7_put 27 = .ok (.if_icmp .ne 12, 3) := by decide +kernel
theorem dX7_put_30 : decode cX7_put 30 = .ok (.aload 4, 2) := by decide +kernel
theorem dX7_put_32 : decode cX7_put 32 = .ok (.aload_n 3, 1) := by decide +kernel
theorem dX7_put_33 : decode cX7_put 33 = .ok (.invokevirtual 168, 3) := by decide +kernel
theorem dX7_put_36 : decode cX7_put 36 = .ok (.ifCond .ne 5, 3) := by decide +kernel
theorem dX7_put_39 : decode cX7_put 39 = .ok (.iconst (-1), 1) := by decide +kernel
theorem dX7_put_40 : decode cX7_put 40 = .ok (.ireturn, 1) := by decide +kernel
theorem dX7_put_41 : decode cX7_put 41 = .ok (.aload 4, 2) := by decide +kernel
theorem dX7_put_43 : decode cX7_put 43 = .ok (.aload_n 3, 1) := by decide +kernel
theorem dX7_put_44 : decode cX7_put 44 = .ok (.invokevirtual 172, 3) := by decide +kernel
theorem dX7_put_47 : decode cX7_put 47 = .ok (.aload 4, 2) := by decide +kernel
theorem dX7_put_49 : decode cX7_put 49 = .ok (.getfield 159, 3) := by decide +kernel
theorem dX7_put_52 : decode cX7_put 52 = .ok (.ireturn, 1) := by decide +kernel
set_option maxRecDepth 20000 in
theorem ggX7_take_X7_findLot : GoodIn wsX7_take wsX7_findLot := goodIn_r _ [8, 9, 10, 11, 12, 7, 13, 54, 55, 56, 57, 58, 59, 60, 61, 62, 63, 64, 65, 66, 67] (by decide +kernel) (by decide +kernel)
set_option maxRecDepth 20000 in
theorem gX7_take_X7_findLot : GoodIn wsX7_take (wsV RX7 101 RX7 yX7_findLot wsX7_findLot) := goodIn_app (goodIn_of _ (by decide +kernel)) ggX7_take_X7_findLot
set_option maxRecDepth 20000 in
theorem ggX7_take_X7_findMill : GoodIn wsX7_take wsX7_findMill := goodIn_r _ [17, 18, 11, 12, 7, 13, 54, 55, 56, 57, 58, 59, 60, 61, 62, 63, 64, 65, 66, 67] (by decide +kernel) (by decide +kernel)
set_option maxRecDepth 20000 in
theorem gX7_take_X7_findMill : GoodIn wsX7_take (wsV RX7 155 RX7 yX7_findMill wsX7_findMill) := goodIn_app (goodIn_of _ (by decide +kernel)) ggX7_take_X7_findMill
set_option maxRecDepth 20000 in
theorem ggX7_take_X3_remove : GoodIn wsX7_take wsX3_remove := goodIn_r _ [23, 24, 25, 26, 27, 40, 41, 42, 43, 44, 45, 46, 47, 48, 49, 50, 51, 52, 53, 28, 29, 30, 31, 32, 33, 34, 35, 36, 37, 38, 39] (by decide +kernel) (by decide +kernel)
set_option maxRecDepth 20000 in
theorem gX7_take_X3_remove : GoodIn wsX7_take (wsV RX7 179 RX3 yX3_remove wsX3_remove) := goodIn_app (goodIn_of _ (by decide +kernel)) ggX7_take_X3_remove
theorem dX7_take_0 : decode cX7_take 0 = .ok (.aload_n 0, 1) := by decide +kernel
theorem dX7_take_1 : decode cX7_take 1 = .ok (.iload_n 1, 1) := by decide +kernel
theorem dX7_take_2 : decode cX7_take 2 = .ok (.invokevirtual 101, 3) := by decide +kernel
theorem dX7_take_5 : decode cX7_take 5 = .ok (.astore_n 2, 1) := by decide +kernel
theorem dX7_take_6 : decode cX7_take 6 = .ok (.aload_n 2, 1) := by decide +kernel
theorem dX7_take_7 : decode cX7_take 7 = .ok (.ifnull 11, 3) := by decide +kernel
theorem dX7_take_10 : decode cX7_take 10 = .ok (.aload_n 2, 1) := by decide +kernel
theorem dX7_take_11 : decode cX7_take 11 = .ok (.getfield 116, 3) := by decide +kernel
theorem dX7_take_14 : decode cX7_take 14 = .ok (.iconst 3, 1) := by decide +kernel
theorem dX7_take_15 : decode cX7_take 15 = .ok (.if_icmp .eq 5, 3) := by decide +kernel
theorem dX7_take_18 : decode cX7_take 18 = .ok (.iconst 0, 1) := by decide +kernel
theorem dX7_take_19 : decode cX7_take 19 = .ok (.ireturn, 1) := by decide +kernel
theorem dX7_take_20 : decode cX7_take 20 = .ok (.aload_n 0, 1) := by decide +kernel
theorem dX7_take_21 : decode cX7_take 21 = .ok (.aload_n 2, 1) := by decide +kernel
theorem dX7_take_22 : decode cX7_take 22 = .ok (.getfield 145, 3) := by decide +kernel
theorem dX7_take_25 : decode cX7_take 25 = .ok (.invokevirtual 155, 3) := by decide +kernel
theorem dX7_take_28 : decode cX7_take 28 = .ok (.astore_n 3, 1) := by decide +kernel
theorem dX7_take_29 : decode cX7_take 29 = .ok (.aload_n 3, 1) := by decide +kernel
theorem dX7_take_30 : decode cX7_take 30 = .ok (.ifnull 10, 3) := by decide +kernel
theorem dX7_take_33 : decode cX7_take 33 = .ok (.aload_n 3, 1) := by decide +kernel
theorem dX7_take_34 : decode cX7_take 34 = .ok (.getfield 176, 3) := by decide +kernel
theorem dX7_take_37 : decode cX7_take 37 = .ok (.ifCond .eq 5, 3) := by decide +kernel
theorem dX7_take_40 : decode cX7_take 40 = .ok (.iconst 0, 1) := by decide +kernel
theorem dX7_take_41 : decode cX7_take 41 = .ok (.ireturn, 1) := by decide +kernel
theorem dX7_take_42 : decode cX7_take 42 = .ok (.aload_n 3, 1) := by decide +kernel
theorem dX7_take_43 : decode cX7_take 43 = .ok (.aload_n 2, 1) := by decide +kernel
theorem dX7_take_44 : decode cX7_take 44 = .ok (.invokevirtual 179, 3) := by decide +kernel
theorem dX7_take_47 : decode cX7_take 47 = .ok (.iconst 1, 1) := by decide +kernel
theorem dX7_take_48 : decode cX7_take 48 = .ok (.ireturn, 1) := by decide +kernel
set_option maxRecDepth 20000 in
theorem ggX7_wash_X7_findMill : GoodIn wsX7_wash wsX7_findMill := goodIn_r _ [9, 10, 11, 12, 8, 13, 34, 35, 36, 37, 38, 39, 40, 41, 42, 43, 44, 45, 46, 47] (by decide +kernel) (by decide +kernel)
set_option maxRecDepth 20000 in
theorem gX7_wash_X7_findMill : GoodIn wsX7_wash (wsV RX7 155 RX7 yX7_findMill wsX7_findMill) := goodIn_app (goodIn_of _ (by decide +kernel)) ggX7_wash_X7_findMill
set_option maxRecDepth 20000 in
theorem ggX7_wash_X3_isBusy : GoodIn wsX7_wash wsX3_isBusy := goodIn_r _ [18, 19, 20, 21, 22, 23, 24, 25, 26, 27, 28, 29, 30, 31, 32, 33] (by decide +kernel) (by decide +kernel)
set_option maxRecDepth 20000 in
theorem gX7_wash_X3_isBusy : GoodIn wsX7_wash (wsV RX7 182 RX3 yX3_isBusy wsX3_isBusy) := goodIn_app (goodIn_of _ (by decide +kernel)) ggX7_wash_X3_isBusy
theorem dX7_wash_0 : decode cX7_wash 0 = .ok (.aload_n 0, 1) := by decide +kernel
theorem dX7_wash_1 : decode cX7_wash 1 = .ok (.iload_n 1, 1) := by decide +kernel
theorem dX7_wash_2 : decode cX7_wash 2 = .ok (.invokevirtual 155, 3) := by decide +kernel
theorem dX7_wash_5 : decode cX7_wash 5 = .ok (.astore_n 2, 1) := by decide +kernel
theorem dX7_wash_6 : decode cX7_wash 6 = .ok (.aload_n 2, 1) := by decide +kernel
theorem dX7_wash_7 : decode cX7_wash 7 = .ok (.ifnull 21, 3) := by decide +kernel
theorem dX7_wash_10 : decode cX7_wash 10 = .ok (.aload_n 2, 1) := by decide +kernel
theorem dX7_wash_11 : decode cX7_wash 11 = .ok (.getfield 159, 3) := by decide +kernel
theorem dX7_wash_14 : decode cX7_wash 14 = .ok (.ifCond .gt 14, 3) := by decide +kernel
theorem dX7_wash_17 : decode cX7_wash 17 = .ok (.aload_n 2, 1) := by decide +kernel
theorem dX7_wash_18 : decode cX7_wash 18 = .ok (.aload_n 0, 1) := by decide +kernel
theorem dX7_wash_19 : decode cX7_wash 19 = .ok (.getfield 64, 3) := by decide +kernel
theorem dX7_wash_22 : decode cX7_wash 22 = .ok (.invokevirtual 182, 3) := by decide +kernel
theorem dX7_wash_25 : decode cX7_wash 25 = .ok (.ifCond .eq 5, 3) := by decide +kernel
theorem dX7_wash_28 : decode cX7_wash 28 = .ok (.iconst 0, 1) := by decide +kernel
theorem dX7_wash_29 : decode cX7_wash 29 = .ok (.ireturn, 1) := by decide +kernel
theorem dX7_wash_30 : decode cX7_wash 30 = .ok (.aload_n 2, 1) := by decide +kernel
theorem dX7_wash_31 : decode cX7_wash 31 = .ok (.aload_n 0, 1) := by decide +kernel
theorem dX7_wash_32 : decode cX7_wash 32 = .ok (.getfield 64, 3) := by decide +kernel
theorem dX7_wash_35 : decode cX7_wash 35 = .ok (.iconst 2, 1) := by decide +kernel
theorem dX7_wash_36 : decode cX7_wash 36 = .ok (.iadd, 1) := by decide +kernel
theorem dX7_wash_37 : decode cX7_wash 37 = .ok (.putfield 185, 3) := by decide +kernel
theorem dX7_wash_40 : decode cX7_wash 40 = .ok (.aload_n 2, 1) := by decide +kernel
theorem dX7_wash_41 : decode cX7_wash 41 = .ok (.iconst 1, 1) := by decide +kernel
theorem dX7_wash_42 : decode cX7_wash 42 = .ok (.putfield 188, 3) := by decide +kernel
theorem dX7_wash_45 : decode cX7_wash 45 = .ok (.iconst 1, 1) := by decide +kernel
theorem dX7_wash_46 : decode cX7_wash 46 = .ok (.ireturn, 1) := by decide +kernel
set_option maxRecDepth 20000 in
theorem ggX7_press_X7_findMill : GoodIn wsX7_press wsX7_findMill := goodIn_r _ [6, 7, 8, 9, 5, 10, 66, 67, 68, 69, 70, 71, 72, 73, 74, 75, 76, 77, 78, 79] (by decide +kernel) (by decide +kernel)
set_option maxRecDepth 20000 in
theorem gX7_press_X7_findMill : GoodIn wsX7_press (wsV RX7 155 RX7 yX7_findMill wsX7_findMill) := goodIn_app (goodIn_of _ (by decide +kernel)) ggX7_press_X7_findMill
set_option maxRecDepth 20000 in
theorem ggX7_press_X3_mayBegin : GoodIn wsX7_press wsX3_mayBegin := goodIn_r _ [15, 16, 17, 18, 19, 20, 21, 22, 14, 23, 24, 25, 26, 27, 28, 29, 30, 31, 32, 33, 34, 35, 80, 81, 82, 83, 84, 85, 86, 87, 88, 89, 90, 91, 92, 93, 94, 95, 96, 97, 98, 99, 100, 101, 102, 103, 104, 105] (by decide +kernel) (by decide +kernel)
set_option maxRecDepth 20000 in
theorem gX7_press_X3_mayBegin : GoodIn wsX7_press (wsV RX7 191 RX3 yX3_mayBegin wsX3_mayBegin) := goodIn_app (goodIn_of _ (by decide +kernel)) ggX7_press_X3_mayBegin
set_option maxRecDepth 20000 in
theorem ggX7_press_X3_begin : GoodIn wsX7_press wsX3_begin := goodIn_r _ [39, 17, 19, 29, 40, 41, 42, 43, 44, 45, 46, 16, 24, 25, 26, 27, 14, 28, 47, 48, 49, 50, 51, 52, 5, 53, 54, 55, 56, 33, 57, 58, 59, 60, 61, 62, 63, 35, 64, 65, 80, 81, 82, 83, 84, 85, 86, 87, 88, 89, 90, 91, 92, 93, 94, 95, 96, 97, 98, 99, 100, 101, 102, 103, 104, 105, 106, 107, 108] (by decide +kernel) (by decide +kernel)
set_option maxRecDepth 20000 in
theorem gX7_press_X3_begin : GoodIn wsX7_press (wsV RX7 194 RX3 yX3_begin wsX3_begin) := goodIn_app (goodIn_of _ (by decide +kernel)) ggX7_press_X3_begin
theorem dX7_press_0 : decode cX7_press 0 = .ok (.aload_n 0, 1) := by decide +kernel
theorem dX7_press_1 : decode cX7_press 1 = .ok (.iload_n 1, 1) := by decide +kernel
theorem dX7_press_2 : decode cX7_press 2 = .ok (.invokevirtual 155, 3) := by decide +kernel
theorem dX7_press_5 : decode cX7_press 5 = .ok (.astore_n 2, 1) := by decide +kernel
theorem dX7_press_6 : decode cX7_press 6 = .ok (.aload_n 2, 1) := by decide +kernel
theorem dX7_press_7 : decode cX7_press 7 = .ok (.ifnull 14, 3) := by decide +kernel
theorem dX7_press_10 : decode cX7_press 10 = .ok (.aload_n 2, 1) := by decide +kernel
theorem dX7_press_11 : decode cX7_press 11 = .ok (.aload_n 0, 1) := by decide +kernel
theorem dX7_press_12 : decode cX7_press 12 = .ok (.getfield 64, 3) := by decide +kernel
theorem dX7_press_15 : decode cX7_press 15 = .ok (.invokevirtual 191, 3) := by decide +kernel
theorem dX7_press_18 : decode cX7_press 18 = .ok (.ifCond .ne 5, 3) := by decide +kernel
theorem dX7_press_21 : decode cX7_press 21 = .ok (.iconst (-1), 1) := by decide +kernel
theorem dX7_press_22 : decode cX7_press 22 = .ok (.ireturn, 1) := by decide +kernel
theorem dX7_press_23 : decode cX7_press 23 = .ok (.aload_n 2, 1) := by decide +kernel
theorem dX7_press_24 : decode cX7_press 24 = .ok (.aload_n 0, 1) := by decide +kernel
theorem dX7_press_25 : decode cX7_press 25 = .ok (.getfield 64, 3) := by decide +kernel
theorem dX7_press_28 : decode cX7_press 28 = .ok (.invokevirtual 194, 3) := by decide +kernel
theorem dX7_press_31 : decode cX7_press 31 = .ok (.ireturn, 1) := by decide +kernel
set_option maxRecDepth 20000 in
theorem ggX7_gave_X7_findMill : GoodIn wsX7_gave wsX7_findMill := goodIn_r _ [10, 11, 12, 13, 9, 14, 42, 43, 44, 45, 46, 47, 48, 49, 50, 51, 52, 53, 54, 55] (by decide +kernel) (by decide +kernel)
set_option maxRecDepth 20000 in
theorem gX7_gave_X7_findMill : GoodIn wsX7_gave (wsV RX7 155 RX7 yX7_findMill wsX7_findMill) := goodIn_app (goodIn_of _ (by decide +kernel)) ggX7_gave_X7_findMill
set_option maxRecDepth 20000 in
theorem ggX7_gave_X3_isBusy : GoodIn wsX7_gave wsX3_isBusy := goodIn_r _ [19, 20, 28, 29, 30, 31, 32, 33, 34, 35, 36, 37, 38, 39, 40, 41] (by decide +kernel) (by decide +kernel)
set_option maxRecDepth 20000 in
theorem gX7_gave_X3_isBusy : GoodIn wsX7_gave (wsV RX7 182 RX3 yX3_isBusy wsX3_isBusy) := goodIn_app (goodIn_of _ (by decide +kernel)) ggX7_gave_X3_isBusy
set_option maxRecDepth 20000 in
theorem ggX7_gave_X3_tenthsInBin : GoodIn wsX7_gave wsX3_tenthsInBin := goodIn_r _ [24, 25, 26, 27, 28, 29, 30, 31, 32, 33, 34, 35, 36, 37, 38, 39, 40, 41, 61, 62, 63, 64, 65, 66, 67, 68, 69, 70, 71, 72] (by decide +kernel) (by decide +kernel)
set_option maxRecDepth 20000 in
theorem gX7_gave_X3_tenthsInBin : GoodIn wsX7_gave (wsV RX7 201 RX3 yX3_tenthsInBin wsX3_tenthsInBin) := goodIn_app (goodIn_of _ (by decide +kernel)) ggX7_gave_X3_tenthsInBin
set_option maxRecDepth 20000 in
theorem ggX7_gave_X7_isWithin : GoodIn wsX7_gave wsX7_isWithin := goodIn_r _ [14] (by decide +kernel) (by decide +kernel)
set_option maxRecDepth 20000 in
theorem gX7_gave_X7_isWithin : GoodIn wsX7_gave (va_wsS RX7 83 yX7_isWithin wsX7_isWithin) := goodIn_app (goodIn_of _ (by decide +kernel)) ggX7_gave_X7_isWithin
theorem dX7_gave_0 : decode cX7_gave 0 = .ok (.aload_n 0, 1) := by decide +kernel
theorem dX7_gave_1 : decode cX7_gave 1 = .ok (.iload_n 1, 1) := by decide +kernel
theorem dX7_gave_2 : decode cX7_gave 2 = .ok (.invokevirtual 155, 3) := by decide +kernel
theorem dX7_gave_5 : decode cX7_gave 5 = .ok (.astore_n 3, 1) := by decide +kernel
theorem dX7_gave_6 : decode cX7_gave 6 = .ok (.aload_n 3, 1) := by decide +kernel
theorem dX7_gave_7 : decode cX7_gave 7 = .ok (.ifnull 29, 3) := by decide +kernel
theorem dX7_gave_10 : decode cX7_gave 10 = .ok (.aload_n 3, 1) := by decide +kernel
theorem dX7_gave_11 : decode cX7_gave 11 = .ok (.getfield 176, 3) := by decide +kernel
theorem dX7_gave_14 : decode cX7_gave 14 = .ok (.ifCond .eq 22, 3) := by decide +kernel
theorem dX7_gave_17 : decode cX7_gave 17 = .ok (.aload_n 3, 1) := by decide +kernel
theorem dX7_gave_18 : decode cX7_gave 18 = .ok (.aload_n 0, 1) := by decide +kernel
theorem dX7_gave_19 : decode cX7_gave 19 = .ok (.getfield 64, 3) := by decide +kernel
theorem dX7_gave_22 : decode cX7_gave 22 = .ok (.invokevirtual 182, 3) := by decide +kernel
theorem dX7_gave_25 : decode cX7_gave 25 = .ok (.ifCond .ne 11, 3) := by decide +kernel
theorem dX7_gave_28 : decode cX7_gave 28 = .ok (.aload_n 3, 1) := by decide +kernel
theorem dX7_gave_29 : decode cX7_gave 29 = .ok (.getfield 198, 3) := by decide +kernel
theorem dX7_gave_32 : decode cX7_gave 32 = .ok (.iconst (-1), 1) := by decide +kernel
theorem dX7_gave_33 : decode cX7_gave 33 = .ok (.if_icmp .eq 5, 3) := by decide +kernel
theorem dX7_gave_36 : decode cX7_gave 36 = .ok (.iconst 0, 1) := by decide +kernel
theorem dX7_gave_37 : decode cX7_gave 37 = .ok (.ireturn, 1) := by decide +kernel
theorem dX7_gave_38 : decode cX7_gave 38 = .ok (.iload_n 2, 1) := by decide +kernel
theorem dX7_gave_39 : decode cX7_gave 39 = .ok (.iconst 0, 1) := by decide +kernel
theorem dX7_gave_40 : decode cX7_gave 40 = .ok (.aload_n 3, 1) := by decide +kernel
theorem dX7_gave_41 : decode cX7_gave 41 = .ok (.invokevirtual 201, 3) := by decide +kernel
theorem dX7_gave_44 : decode cX7_gave 44 = .ok (.invokestatic 83, 3) := by decide +kernel
theorem dX7_gave_47 : decode cX7_gave 47 = .ok (.ifCond .ne 5, 3) := by decide +kernel
theorem dX7_gave_50 : decode cX7_gave 50 = .ok (.iconst 0, 1) := by decide +kernel
theorem dX7_gave_51 : decode cX7_gave 51 = .ok (.ireturn, 1) := by decide +kernel
theorem dX7_gave_52 : decode cX7_gave 52 = .ok (.aload_n 3, 1) := by decide +kernel
theorem dX7_gave_53 : decode cX7_gave 53 = .ok (.iload_n 2, 1) := by decide +kernel
theorem dX7_gave_54 : decode cX7_gave 54 = .ok (.putfield 198, 3) := by decide +kernel
theorem dX7_gave_57 : decode cX7_gave 57 = .ok (.aload_n 0, 1) := by decide +kernel
theorem dX7_gave_58 : decode cX7_gave 58 = .ok (.getfield 43, 3) := by decide +kernel
theorem dX7_gave_61 : decode cX7_gave 61 = .ok (.dup, 1) := by decide +kernel
theorem dX7_gave_62 : decode cX7_gave 62 = .ok (.getfield 204, 3) := by decide +kernel
theorem dX7_gave_65 : decode cX7_gave 65 = .ok (.iload_n 2, 1) := by decide +kernel
theorem dX7_gave_66 : decode cX7_gave 66 = .ok (.iadd, 1) := by decide +kernel
theorem dX7_gave_67 : decode cX7_gave 67 = .ok (.putfield 204, 3) := by decide +kernel
theorem dX7_gave_70 : decode cX7_gave 70 = .ok (.iconst 1, 1) := by decide +kernel
theorem dX7_gave_71 : decode cX7_gave 71 = .ok (.ireturn, 1) := by decide +kernel
set_option maxRecDepth 20000 in
theorem ggX7_share_X7_findMill : GoodIn wsX7_share wsX7_findMill := goodIn_r _ [9, 10, 11, 12, 8, 13, 54, 55, 56, 57, 58, 59, 60, 61, 62, 63, 64, 65, 66, 67] (by decide +kernel) (by decide +kernel)
set_option maxRecDepth 20000 in
theorem gX7_share_X7_findMill : GoodIn wsX7_share (wsV RX7 155 RX7 yX7_findMill wsX7_findMill) := goodIn_app (goodIn_of _ (by decide +kernel)) ggX7_share_X7_findMill
set_option maxRecDepth 20000 in
theorem ggX7_share_X3_divide : GoodIn wsX7_share wsX3_divide := goodIn_r _ [18, 19, 20, 21, 22, 23, 24, 25, 26, 27, 28, 29, 30, 31, 32, 33, 34, 35, 36, 17, 37, 38, 39, 40, 41, 42, 43, 44, 45, 46, 47, 48, 49, 50, 51, 52, 53, 68, 69, 70, 71, 72, 73, 74, 75, 76, 77, 78, 79] (by decide +kernel) (by decide +kernel)
set_option maxRecDepth 20000 in
theorem gX7_share_X3_divide : GoodIn wsX7_share (wsV RX7 208 RX3 yX3_divide wsX3_divide) := goodIn_app (goodIn_of _ (by decide +kernel)) ggX7_share_X3_divide
theorem dX7_share_0 : decode cX7_share 0 = .ok (.aload_n 0, 1) := by decide +kernel
theorem dX7_share_1 : decode cX7_share 1 = .ok (.iload_n 1, 1) := by decide +kernel
theorem dX7_share_2 : decode cX7_share 2 = .ok (.invokevirtual 155, 3) := by decide +kernel
theorem dX7_share_5 : decode cX7_share 5 = .ok (.astore_n 2, 1) := by decide +kernel
theorem dX7_share_6 : decode cX7_share 6 = .ok (.aload_n 2, 1) := by decide +kernel
theorem dX7_share_7 : decode cX7_share 7 = .ok (.ifnull 26, 3) := by decide +kernel
theorem dX7_share_10 : decode cX7_share 10 = .ok (.aload_n 2, 1) := by decide +kernel
theorem dX7_share_11 : decode cX7_share 11 = .ok (.getfield 176, 3) := by decide +kernel
theorem dX7_share_14 : decode cX7_share 14 = .ok (.ifCond .eq 19, 3) := by decide +kernel
theorem dX7_share_17 : decode cX7_share 17 = .ok (.aload_n 2, 1) := by decide +kernel
theorem dX7_share_18 : decode cX7_share 18 = .ok (.getfield 198, 3) := by decide +kernel
theorem dX7_share_21 : decode cX7_share 21 = .ok (.iconst (-1), 1) := by decide +kernel
theorem dX7_share_22 : decode cX7_share 22 = .ok (.if_icmp .eq 11, 3) := by decide +kernel
theorem dX7_share_25 : decode cX7_share 25 = .ok (.aload_n 2, 1) := by decide +kernel
theorem dX7_share_26 : decode cX7_share 26 = .ok (.getfield 205, 3) := by decide +kernel
theorem dX7_share_29 : decode cX7_share 29 = .ok (.iconst (-1), 1) := by decide +kernel
theorem dX7_share_30 : decode cX7_share 30 = .ok (.if_icmp .eq 5, 3) := by decide +kernel
theorem dX7_share_33 : decode cX7_share 33 = .ok (.iconst (-1), 1) := by decide +kernel
theorem dX7_share_34 : decode cX7_share 34 = .ok (.ireturn, 1) := by decide +kernel
theorem dX7_share_35 : decode cX7_share 35 = .ok (.aload_n 2, 1) := by decide +kernel
theorem dX7_share_36 : decode cX7_share 36 = .ok (.aload_n 0, 1) := by decide +kernel
theorem dX7_share_37 : decode cX7_share 37 = .ok (.getfield 70, 3) := by decide +kernel
theorem dX7_share_40 : decode cX7_share 40 = .ok (.invokevirtual 208, 3) := by decide +kernel
theorem dX7_share_43 : decode cX7_share 43 = .ok (.aload_n 2, 1) := by decide +kernel
theorem dX7_share_44 : decode cX7_share 44 = .ok (.getfield 205, 3) := by decide +kernel
theorem dX7_share_47 : decode cX7_share 47 = .ok (.ireturn, 1) := by decide +kernel
set_option maxRecDepth 20000 in
theorem ggX7_keep_X7_isWithin : GoodIn wsX7_keep wsX7_isWithin := goodIn_r _ [5] (by decide +kernel) (by decide +kernel)
set_option maxRecDepth 20000 in
theorem gX7_keep_X7_isWithin : GoodIn wsX7_keep (va_wsS RX7 83 yX7_isWithin wsX7_isWithin) := goodIn_app (goodIn_of _ (by decide +kernel)) ggX7_keep_X7_isWithin
theorem dX7_keep_0 : decode cX7_keep 0 = .ok (.iload_n 1, 1) := by decide +kernel
theorem dX7_keep_1 : decode cX7_keep 1 = .ok (.iconst 0, 1) := by decide +kernel
theorem dX7_keep_2 : decode cX7_keep 2 = .ok (.bipush 50, 2) := by decide +kernel
theorem dX7_keep_4 : decode cX7_keep 4 = .ok (.invokestatic 83, 3) := by decide +kernel
theorem dX7_keep_7 : decode cX7_keep 7 = .ok (.ifCond .ne 5, 3) := by decide +kernel
theorem dX7_keep_10 : decode cX7_keep 10 = .ok (.iconst 0, 1) := by decide +kernel
theorem dX7_keep_11 : decode cX7_keep 11 = .ok (.ireturn, 1) := by decide +kernel
theorem dX7_keep_12 : decode cX7_keep 12 = .ok (.aload_n 0, 1) := by decide +kernel
theorem dX7_keep_13 : decode cX7_keep 13 = .ok (.iload_n 1, 1) := by decide +kernel
theorem dX7_keep_14 : decode cX7_keep 14 = .ok (.putfield 70, 3) := by decide +kernel
theorem dX7_keep_17 : decode cX7_keep 17 = .ok (.iconst 1, 1) := by decide +kernel
theorem dX7_keep_18 : decode cX7_keep 18 = .ok (.ireturn, 1) := by decide +kernel
set_option maxRecDepth 20000 in
theorem ggX7_vat_X7_isSort : GoodIn wsX7_vat wsX7_isSort := goodIn_r _ [10, 11, 12, 9, 13] (by decide +kernel) (by decide +kernel)
set_option maxRecDepth 20000 in
theorem gX7_vat_X7_isSort : GoodIn wsX7_vat (va_wsS RX7 211 yX7_isSort wsX7_isSort) := goodIn_app (goodIn_of _ (by decide +kernel)) ggX7_vat_X7_isSort
set_option maxRecDepth 20000 in
theorem ggX7_vat_X7_isWithin : GoodIn wsX7_vat wsX7_isWithin := goodIn_r _ [13] (by decide +kernel) (by decide +kernel)
set_option maxRecDepth 20000 in
theorem gX7_vat_X7_isWithin : GoodIn wsX7_vat (va_wsS RX7 83 yX7_isWithin wsX7_isWithin) := goodIn_app (goodIn_of _ (by decide +kernel)) ggX7_vat_X7_isWithin
set_option maxRecDepth 20000 in
theorem ggX7_vat_X6_init : GoodIn wsX7_vat wsX6_init := goodIn_r _ [16, 17, 18, 19, 20, 21, 22, 23, 24, 25, 26, 27, 42, 43, 44, 45, 46, 47, 48, 49] (by decide +kernel) (by decide +kernel)
set_option maxRecDepth 20000 in
theorem gX7_vat_X6_init : GoodIn wsX7_vat (wsX6_init) := ggX7_vat_X6_init
theorem dX7_vat_0 : decode cX7_vat 0 = .ok (.iload_n 1, 1) := by decide +kernel
theorem dX7_vat_1 : decode cX7_vat 1 = .ok (.invokestatic 211, 3) := by decide +kernel
theorem dX7_vat_4 : decode cX7_vat 4 = .ok (.ifCond .eq 22, 3) := by decide +kernel
theorem dX7_vat_7 : decode cX7_vat 7 = .ok (.iload_n 3, 1) := by decide +kernel
theorem dX7_vat_8 : decode cX7_vat 8 = .ok (.iconst 1, 1) := by decide +kernel
theorem dX7_vat_9 : decode cX7_vat 9 = .ok (.ldc 214, 2) := by decide +kernel
theorem dX7_vat_11 : decode cX7_vat 11 = .ok (.invokestatic 83, 3) := by decide +kernel
theorem dX7_vat_14 : decode cX7_vat 14 = .ok (.ifCond .eq 12, 3) := by decide +kernel
theorem dX7_vat_17 : decode cX7_vat 17 = .ok (.aload_n 0, 1) := by decide +kernel
theorem dX7_vat_18 : decode cX7_vat 18 = .ok (.getfield 61, 3) := by decide +kernel
theorem dX7_vat_21 : decode cX7_vat 21 = .ok (.bipush 12, 2) := by decide +kernel
theorem dX7_vat_23 : decode cX7_vat 23 = .ok (.if_icmp .lt 5, 3) := by decide +kernel
theorem dX7_vat_26 : decode cX7_vat 26 = .ok (.iconst (-1), 1) := by decide +kernel
theorem dX7_vat_27 : decode cX7_vat 27 = .ok (.ireturn, 1) := by decide +kernel
theorem dX7_vat_28 : decode cX7_vat 28 = .ok (.aload_n 0, 1) := by decide +kernel
theorem dX7_vat_29 : decode cX7_vat 29 = .ok (.getfield 29, 3) := by decide +kernel
theorem dX7_vat_32 : decode cX7_vat 32 = .ok (.aload_n 0, 1) := by decide +kernel
theorem dX7_vat_33 : decode cX7_vat 33 = .ok (.getfield 61, 3) := by decide +kernel
theorem dX7_vat_36 : decode cX7_vat 36 = .ok (.new 27, 3) := by decide +kernel
theorem dX7_vat_39 : decode cX7_vat 39 = .ok (.dup, 1) := by decide +kernel
theorem dX7_vat_40 : decode cX7_vat 40 = .ok (.iload_n 1, 1) := by decide +kernel
theorem dX7_vat_41 : decode cX7_vat 41 = .ok (.iload_n 2, 1) := by decide +kernel
theorem dX7_vat_42 : decode cX7_vat 42 = .ok (.iload_n 3, 1) := by decide +kernel
theorem dX7_vat_43 : decode cX7_vat 43 = .ok (.invokespecial 215, 3) := by decide +kernel
theorem dX7_vat_46 : decode cX7_vat 46 = .ok (.aastore, 1) := by decide +kernel
theorem dX7_vat_47 : decode cX7_vat 47 = .ok (.aload_n 0, 1) := by decide +kernel
theorem dX7_vat_48 : decode cX7_vat 48 = .ok (.dup, 1) := by decide +kernel
theorem dX7_vat_49 : decode cX7_vat 49 = .ok (.getfield 61, 3) := by decide +kernel
theorem dX7_vat_52 : decode cX7_vat 52 = .ok (.iconst 1, 1) := by decide +kernel
theorem dX7_vat_53 : decode cX7_vat 53 = .ok (.iadd, 1) := by decide +kernel
theorem dX7_vat_54 : decode cX7_vat 54 = .ok (.putfield 61, 3) := by decide +kernel
theorem dX7_vat_57 : decode cX7_vat 57 = .ok (.aload_n 0, 1) := by decide +kernel
theorem dX7_vat_58 : decode cX7_vat 58 = .ok (.getfield 61, 3) := by decide +kernel
theorem dX7_vat_61 : decode cX7_vat 61 = .ok (.iconst 1, 1) := by decide +kernel
theorem dX7_vat_62 : decode cX7_vat 62 = .ok (.isub, 1) := by decide +kernel
theorem dX7_vat_63 : decode cX7_vat 63 = .ok (.ireturn, 1) := by decide +kernel
set_option maxRecDepth 20000 in
theorem ggX7_pour_X7_findMill : GoodIn wsX7_pour wsX7_findMill := goodIn_r _ [8, 9, 10, 11, 7, 12, 88, 89, 90, 91, 92, 93, 94, 95, 96, 97, 98, 99, 100, 101] (by decide +kernel) (by decide +kernel)
set_option maxRecDepth 20000 in
theorem gX7_pour_X7_findMill : GoodIn wsX7_pour (wsV RX7 155 RX7 yX7_findMill wsX7_findMill) := goodIn_app (goodIn_of _ (by decide +kernel)) ggX7_pour_X7_findMill
set_option maxRecDepth 20000 in
theorem ggX7_pour_X7_findVat : GoodIn wsX7_pour wsX7_findVat := goodIn_r _ [16, 17, 18, 10, 11, 7, 12, 88, 89, 90, 91, 92, 93, 94, 95, 96, 97, 98, 99, 100, 101] (by decide +kernel) (by decide +kernel)
set_option maxRecDepth 20000 in
theorem gX7_pour_X7_findVat : GoodIn wsX7_pour (wsV RX7 218 RX7 yX7_findVat wsX7_findVat) := goodIn_app (goodIn_of _ (by decide +kernel)) ggX7_pour_X7_findVat
set_option maxRecDepth 20000 in
theorem ggX7_pour_X6_admits : GoodIn wsX7_pour wsX6_admits := goodIn_r _ [23, 24, 25, 26, 27, 28, 29, 30, 31, 32, 33, 34, 35, 36, 37, 38, 39, 40, 41, 42, 43, 44, 45, 46, 80, 81, 82, 83, 84, 85, 86, 87, 66, 67, 68, 69, 70, 71, 72, 73, 74, 75, 76, 77, 78, 79, 102, 103, 104, 105, 106, 107, 108, 109, 110, 111, 112, 113] (by decide +kernel) (by decide +kernel)
set_option maxRecDepth 20000 in
theorem gX7_pour_X6_admits : GoodIn wsX7_pour (wsV RX7 222 RX6 yX6_admits wsX6_admits) := goodIn_app (goodIn_of _ (by decide +kernel)) ggX7_pour_X6_admits
set_option maxRecDepth 20000 in
theorem ggX7_pour_X6_receive : GoodIn wsX7_pour wsX6_receive := goodIn_r _ [50, 28, 26, 51, 52, 30, 31, 32, 80, 81, 82, 83, 84, 85, 86, 87, 66, 67, 68, 69, 70, 71, 72, 73, 74, 75, 76, 77, 78, 79] (by decide +kernel) (by decide +kernel)
set_option maxRecDepth 20000 in
theorem gX7_pour_X6_receive : GoodIn wsX7_pour (wsV RX7 225 RX6 yX6_receive wsX6_receive) := goodIn_app (goodIn_of _ (by decide +kernel)) ggX7_pour_X6_receive
set_option maxRecDepth 20000 in
theorem ggX7_pour_X3_emptyTo : GoodIn wsX7_pour wsX3_emptyTo := goodIn_r _ [56, 40, 41, 57, 58, 59, 60, 61, 62, 63, 64, 65, 66, 67, 68, 69, 70, 71, 72, 73, 74, 75, 76, 77, 78, 79, 102, 103, 104, 105, 106, 107, 108, 109, 110, 111, 112, 113] (by decide +kernel) (by decide +kernel)
set_option maxRecDepth 20000 in
theorem gX7_pour_X3_emptyTo : GoodIn wsX7_pour (wsV RX7 229 RX3 yX3_emptyTo wsX3_emptyTo) := goodIn_app (goodIn_of _ (by decide +kernel)) ggX7_pour_X3_emptyTo
theorem dX7_pour_0 : decode cX7_pour 0 = .ok (.aload_n 0, 1) := by decide +kernel
theorem dX7_pour_1 : decode cX7_pour 1 = .ok (.iload_n 1, 1) := by decide +kernel
theorem dX7_pour_2 : decode cX7_pour 2 = .ok (.invokevirtual 155, 3) := by decide +kernel
theorem dX7_pour_5 : decode cX7_pour 5 = .ok (.astore_n 3, 1) := by decide +kernel
theorem dX7_pour_6 : decode cX7_pour 6 = .ok (.aload_n 0, 1) := by decide +kernel
theorem dX7_pour_7 : decode cX7_pour 7 = .ok (.iload_n 2, 1) := by decide +kernel
theorem dX7_pour_8 : decode cX7_pour 8 = .ok (.invokevirtual 218, 3) := by decide +kernel
theorem dX7_pour_11 : decode cX7_pour 11 = .ok (.astore 4, 2) := by decide +kernel
theorem dX7_pour_13 : decode cX7_pour 13 = .ok (.aload_n 3, 1) := by decide +kernel
theorem dX7_pour_14 : decode cX7_pour 14 = .ok (.ifnull 23, 3) := by decide +kernel
theorem dX7_pour_17 : decode cX7_pour 17 = .ok (.aload 4, 2) := by decide +kernel
theorem dX7_pour_19 : decode cX7_pour 19 = .ok (.ifnull 18, 3) := by decide +kernel
theorem dX7_pour_22 : decode cX7_pour 22 = .ok (.aload_n 3, 1) := by decide +kernel
theorem dX7_pour_23 : decode cX7_pour 23 = .ok (.getfield 176, 3) := by decide +kernel
theorem dX7_pour_26 : decode cX7_pour 26 = .ok (.ifCond .eq 11, 3) := by decide +kernel
theorem dX7_pour_29 : decode cX7_pour 29 = .ok (.aload_n 3, 1) := by decide +kernel
theorem dX7_pour_30 : decode cX7_pour 30 = .ok (.getfield 205, 3) := by decide +kernel
theorem dX7_pour_33 : decode cX7_pour 33 = .ok (.iconst (-1), 1) := by decide +kernel
theorem dX7_pour_34 : decode cX7_pour 34 = .ok (.if_icmp .ne 5, 3) := by decide +kernel
theorem dX7_pour_37 : decode cX7_pour 37 = .ok (.iconst (-1), 1) := by decide +kernel
theorem dX7_pour_38 : decode cX7_pour 38 = .ok (.ireturn, 1) := by decide +kernel
theorem dX7_pour_39 : decode cX7_pour 39 = .ok (.aload 4, 2) := by decide +kernel
theorem dX7_pour_41 : decode cX7_pour 41 = .ok (.aload_n 3, 1) := by decide +kernel
theorem dX7_pour_42 : decode cX7_pour 42 = .ok (.invokevirtual 222, 3) := by decide +kernel
theorem dX7_pour_45 : decode cX7_pour 45 = .ok (.ifCond .ne 5, 3) := by decide +kernel
theorem dX7_pour_48 : decode cX7_pour 48 = .ok (.iconst (-1), 1) := by decide +kernel
theorem dX7_pour_49 : decode cX7_pour 49 = .ok (.ireturn, 1) := by decide +kernel
theorem dX7_pour_50 : decode cX7_pour 50 = .ok (.aload 4, 2) := by decide +kernel
theorem dX7_pour_52 : decode cX7_pour 52 = .ok (.aload_n 3, 1) := by decide +kernel
theorem dX7_pour_53 : decode cX7_pour 53 = .ok (.invokevirtual 225, 3) := by decide +kernel
theorem dX7_pour_56 : decode cX7_pour 56 = .ok (.aload_n 3, 1) := by decide +kernel
theorem dX7_pour_57 : decode cX7_pour 57 = .ok (.iload_n 2, 1) := by decide +kernel
theorem dX7_pour_58 : decode cX7_pour 58 = .ok (.invokevirtual 229, 3) := by decide +kernel
theorem dX7_pour_61 : decode cX7_pour 61 = .ok (.aload 4, 2) := by decide +kernel
theorem dX7_pour_63 : decode cX7_pour 63 = .ok (.getfield 232, 3) := by decide +kernel
theorem dX7_pour_66 : decode cX7_pour 66 = .ok (.ireturn, 1) := by decide +kernel
set_option maxRecDepth 20000 in
theorem ggX7_fetch_X7_findLot : GoodIn wsX7_fetch wsX7_findLot := goodIn_r _ [8, 9, 10, 11, 12, 7, 13, 47, 48, 49, 50, 51, 52, 53, 54, 55, 56, 57, 58, 59, 60] (by decide +kernel) (by decide +kernel)
set_option maxRecDepth 20000 in
theorem gX7_fetch_X7_findLot : GoodIn wsX7_fetch (wsV RX7 101 RX7 yX7_findLot wsX7_findLot) := goodIn_app (goodIn_of _ (by decide +kernel)) ggX7_fetch_X7_findLot
set_option maxRecDepth 20000 in
theorem ggX7_fetch_X7_vatOf : GoodIn wsX7_fetch wsX7_vatOf := goodIn_r _ [17, 18, 19, 20, 21, 22, 7, 23, 24, 25, 11, 12, 13, 35, 36, 37, 38, 39, 40, 41, 42, 43, 44, 45, 46, 47, 48, 49, 50, 51, 52, 53, 54, 55, 56, 57, 58, 59, 60] (by decide +kernel) (by decide +kernel)
set_option maxRecDepth 20000 in
theorem gX7_fetch_X7_vatOf : GoodIn wsX7_fetch (wsV RX7 233 RX7 yX7_vatOf wsX7_vatOf) := goodIn_app (goodIn_of _ (by decide +kernel)) ggX7_fetch_X7_vatOf
set_option maxRecDepth 20000 in
theorem ggX7_fetch_X6_lose : GoodIn wsX7_fetch wsX6_lose := goodIn_r _ [30, 31, 32, 33, 34, 66, 67, 68, 69, 70, 71, 72, 73] (by decide +kernel) (by decide +kernel)
set_option maxRecDepth 20000 in
theorem gX7_fetch_X6_lose : GoodIn wsX7_fetch (wsV RX7 237 RX6 yX6_lose wsX6_lose) := goodIn_app (goodIn_of _ (by decide +kernel)) ggX7_fetch_X6_lose
theorem dX7_fetch_0 : decode cX7_fetch 0 = .ok (.aload_n 0, 1) := by decide +kernel
theorem dX7_fetch_1 : decode cX7_fetch 1 = .ok (.iload_n 1, 1) := by decide +kernel
theorem dX7_fetch_2 : decode cX7_fetch 2 = .ok (.invokevirtual 101, 3) := by decide +kernel
theorem dX7_fetch_5 : decode cX7_fetch 5 = .ok (.astore_n 2, 1) := by decide +kernel
theorem dX7_fetch_6 : decode cX7_fetch 6 = .ok (.aload_n 0, 1) := by decide +kernel
theorem dX7_fetch_7 : decode cX7_fetch 7 = .ok (.aload_n 2, 1) := by decide +kernel
theorem dX7_fetch_8 : decode cX7_fetch 8 = .ok (.invokevirtual 233, 3) := by decide +kernel
theorem dX7_fetch_11 : decode cX7_fetch 11 = .ok (.astore_n 3, 1) := by decide +kernel
theorem dX7_fetch_12 : decode cX7_fetch 12 = .ok (.aload_n 2, 1) := by decide +kernel
theorem dX7_fetch_13 : decode cX7_fetch 13 = .ok (.ifnull 15, 3) := by decide +kernel
theorem dX7_fetch_16 : decode cX7_fetch 16 = .ok (.aload_n 3, 1) := by decide +kernel
theorem dX7_fetch_17 : decode cX7_fetch 17 = .ok (.ifnull 11, 3) := by decide +kernel
theorem dX7_fetch_20 : decode cX7_fetch 20 = .ok (.aload_n 2, 1) := by decide +kernel
theorem dX7_fetch_21 : decode cX7_fetch 21 = .ok (.getfield 142, 3) := by decide +kernel
theorem dX7_fetch_24 : decode cX7_fetch 24 = .ok (.iconst 1, 1) := by decide +kernel
theorem dX7_fetch_25 : decode cX7_fetch 25 = .ok (.if_icmp .ge 5, 3) := by decide +kernel
theorem dX7_fetch_28 : decode cX7_fetch 28 = .ok (.iconst (-1), 1) := by decide +kernel
theorem dX7_fetch_29 : decode cX7_fetch 29 = .ok (.ireturn, 1) := by decide +kernel
theorem dX7_fetch_30 : decode cX7_fetch 30 = .ok (.aload_n 2, 1) := by decide +kernel
theorem dX7_fetch_31 : decode cX7_fetch 31 = .ok (.getfield 142, 3) := by decide +kernel
theorem dX7_fetch_34 : decode cX7_fetch 34 = .ok (.istore 4, 2) := by decide +kernel
theorem dX7_fetch_36 : decode cX7_fetch 36 = .ok (.aload_n 2, 1) := by decide +kernel
theorem dX7_fetch_37 : decode cX7_fetch 37 = .ok (.iconst 0, 1) := by decide +kernel
theorem dX7_fetch_38 : decode cX7_fetch 38 = .ok (.putfield 142, 3) := by decide +kernel
theorem dX7_fetch_41 : decode cX7_fetch 41 = .ok (.aload_n 3, 1) := by decide +kernel
theorem dX7_fetch_42 : decode cX7_fetch 42 = .ok (.iload 4, 2) := by decide +kernel
theorem dX7_fetch_44 : decode cX7_fetch 44 = .ok (.invokevirtual 237, 3) := by decide +kernel
theorem dX7_fetch_47 : decode cX7_fetch 47 = .ok (.aload_n 0, 1) := by decide +kernel
theorem dX7_fetch_48 : decode cX7_fetch 48 = .ok (.getfield 43, 3) := by decide +kernel
theorem dX7_fetch_51 : decode cX7_fetch 51 = .ok (.dup, 1) := by decide +kernel
theorem dX7_fetch_52 : decode cX7_fetch 52 = .ok (.getfield 240, 3) := by decide +kernel
theorem dX7_fetch_55 : decode cX7_fetch 55 = .ok (.iload 4, 2) := by decide +kernel
theorem dX7_fetch_57 : decode cX7_fetch 57 = .ok (.iadd, 1) := by decide +kernel
theorem dX7_fetch_58 : decode cX7_fetch 58 = .ok (.putfield 240, 3) := by decide +kernel
theorem dX7_fetch_61 : decode cX7_fetch 61 = .ok (.iload 4, 2) := by decide +kernel
theorem dX7_fetch_63 : decode cX7_fetch 63 = .ok (.ireturn, 1) := by decide +kernel
set_option maxRecDepth 20000 in
theorem ggX7_draw_X7_findVat : GoodIn wsX7_draw wsX7_findVat := goodIn_r _ [8, 9, 10, 11, 12, 7, 13, 36, 37, 38, 39, 40, 41, 42, 43, 44, 45, 46, 47, 48, 49] (by decide +kernel) (by decide +kernel)
set_option maxRecDepth 20000 in
theorem gX7_draw_X7_findVat : GoodIn wsX7_draw (wsV RX7 218 RX7 yX7_findVat wsX7_findVat) := goodIn_app (goodIn_of _ (by decide +kernel)) ggX7_draw_X7_findVat
set_option maxRecDepth 20000 in
theorem ggX7_draw_X7_isWithin : GoodIn wsX7_draw wsX7_isWithin := goodIn_r _ [13] (by decide +kernel) (by decide +kernel)
set_option maxRecDepth 20000 in
theorem gX7_draw_X7_isWithin : GoodIn wsX7_draw (va_wsS RX7 83 yX7_isWithin wsX7_isWithin) := goodIn_app (goodIn_of _ (by decide +kernel)) ggX7_draw_X7_isWithin
set_option maxRecDepth 20000 in
theorem ggX7_draw_X6_loseOfPress : GoodIn wsX7_draw wsX6_loseOfPress := goodIn_r _ [18, 19, 20, 21, 22, 17, 23, 24, 25, 26, 27, 28, 29, 30, 31, 32, 33, 34, 35] (by decide +kernel) (by decide +kernel)
set_option maxRecDepth 20000 in
theorem gX7_draw_X6_loseOfPress : GoodIn wsX7_draw (wsV RX7 246 RX6 yX6_loseOfPress wsX6_loseOfPress) := goodIn_app (goodIn_of _ (by decide +kernel)) ggX7_draw_X6_loseOfPress
theorem dX7_draw_0 : decode cX7_draw 0 = .ok (.aload_n 0, 1) := by decide +kernel
theorem dX7_draw_1 : decode cX7_draw 1 = .ok (.iload_n 1, 1) := by decide +kernel
theorem dX7_draw_2 : decode cX7_draw 2 = .ok (.invokevirtual 218, 3) := by decide +kernel
theorem dX7_draw_5 : decode cX7_draw 5 = .ok (.astore_n 3, 1) := by decide +kernel
theorem dX7_draw_6 : decode cX7_draw 6 = .ok (.aload_n 3, 1) := by decide +kernel
theorem dX7_draw_7 : decode cX7_draw 7 = .ok (.ifnull 15, 3) := by decide +kernel
theorem dX7_draw_10 : decode cX7_draw 10 = .ok (.iload_n 2, 1) := by decide +kernel
theorem dX7_draw_11 : decode cX7_draw 11 = .ok (.iconst 1, 1) := by decide +kernel
theorem dX7_draw_12 : decode cX7_draw 12 = .ok (.aload_n 3, 1) := by decide +kernel
theorem dX7_draw_13 : decode cX7_draw 13 = .ok (.getfield 243, 3) := by decide +kernel
theorem dX7_draw_16 : decode cX7_draw 16 = .ok (.invokestatic 83, 3) := by decide +kernel
theorem dX7_draw_19 : decode cX7_draw 19 = .ok (.ifCond .ne 5, 3) := by decide +kernel
theorem dX7_draw_22 : decode cX7_draw 22 = .ok (.iconst (-1), 1) := by decide +kernel
theorem dX7_draw_23 : decode cX7_draw 23 = .ok (.ireturn, 1) := by decide +kernel
theorem dX7_draw_24 : decode cX7_draw 24 = .ok (.aload_n 3, 1) := by decide +kernel
theorem dX7_draw_25 : decode cX7_draw 25 = .ok (.iload_n 2, 1) := by decide +kernel
theorem dX7_draw_26 : decode cX7_draw 26 = .ok (.invokevirtual 246, 3) := by decide +kernel
theorem dX7_draw_29 : decode cX7_draw 29 = .ok (.aload_n 0, 1) := by decide +kernel
theorem dX7_draw_30 : decode cX7_draw 30 = .ok (.getfield 43, 3) := by decide +kernel
theorem dX7_draw_33 : decode cX7_draw 33 = .ok (.dup, 1) := by decide +kernel
theorem dX7_draw_34 : decode cX7_draw 34 = .ok (.getfield 249, 3) := by decide +kernel
theorem dX7_draw_37 : decode cX7_draw 37 = .ok (.iload_n 2, 1) := by decide +kernel
theorem dX7_draw_38 : decode cX7_draw 38 = .ok (.iadd, 1) := by decide +kernel
theorem dX7_draw_39 : decode cX7_draw 39 = .ok (.putfield 249, 3) := by decide +kernel
theorem dX7_draw_42 : decode cX7_draw 42 = .ok (.aload_n 3, 1) := by decide +kernel
theorem dX7_draw_43 : decode cX7_draw 43 = .ok (.getfield 243, 3) := by decide +kernel
theorem dX7_draw_46 : decode cX7_draw 46 = .ok (.ireturn, 1) := by decide +kernel
set_option maxRecDepth 20000 in
theorem ggX7_lend_X7_findVat : GoodIn wsX7_lend wsX7_findVat := goodIn_r _ [10, 11, 12, 13, 14, 9, 15, 53, 54, 55, 56, 57, 58, 59, 60, 61, 62, 63, 64, 65, 66] (by decide +kernel) (by decide +kernel)
set_option maxRecDepth 20000 in
theorem gX7_lend_X7_findVat : GoodIn wsX7_lend (wsV RX7 218 RX7 yX7_findVat wsX7_findVat) := goodIn_app (goodIn_of _ (by decide +kernel)) ggX7_lend_X7_findVat
set_option maxRecDepth 20000 in
theorem ggX7_lend_X7_isFarmer : GoodIn wsX7_lend wsX7_isFarmer := goodIn_r _ [18, 13, 14, 9, 15] (by decide +kernel) (by decide +kernel)
set_option maxRecDepth 20000 in
theorem gX7_lend_X7_isFarmer : GoodIn wsX7_lend (va_wsS RX7 79 yX7_isFarmer wsX7_isFarmer) := goodIn_app (goodIn_of _ (by decide +kernel)) ggX7_lend_X7_isFarmer
set_option maxRecDepth 20000 in
theorem ggX7_lend_X7_isWithin : GoodIn wsX7_lend wsX7_isWithin := goodIn_r _ [15] (by decide +kernel) (by decide +kernel)
set_option maxRecDepth 20000 in
theorem gX7_lend_X7_isWithin : GoodIn wsX7_lend (va_wsS RX7 83 yX7_isWithin wsX7_isWithin) := goodIn_app (goodIn_of _ (by decide +kernel)) ggX7_lend_X7_isWithin
set_option maxRecDepth 20000 in
theorem ggX7_lend_X6_loseOfPress : GoodIn wsX7_lend wsX6_loseOfPress := goodIn_r _ [23, 24, 25, 26, 27, 22, 28, 29, 30, 31, 32, 45, 46, 47, 48, 49, 50, 51, 52] (by decide +kernel) (by decide +kernel)
set_option maxRecDepth 20000 in
theorem gX7_lend_X6_loseOfPress : GoodIn wsX7_lend (wsV RX7 246 RX6 yX6_loseOfPress wsX6_loseOfPress) := goodIn_app (goodIn_of _ (by decide +kernel)) ggX7_lend_X6_loseOfPress
set_option maxRecDepth 20000 in
theorem ggX7_lend_X0_change : GoodIn wsX7_lend wsX0_change := goodIn_r _ [37, 38, 17, 9, 18, 13, 14, 15, 39, 40, 72] (by decide +kernel) (by decide +kernel)
set_option maxRecDepth 20000 in
theorem gX7_lend_X0_change : GoodIn wsX7_lend (wsV RX7 258 RX0 yX0_change wsX0_change) := goodIn_app (goodIn_of _ (by decide +kernel)) ggX7_lend_X0_change
set_option maxRecDepth 20000 in
theorem ggX7_lend_X0_owed : GoodIn wsX7_lend wsX0_owed := goodIn_r _ [44, 38, 17, 9, 18, 13, 14, 15, 39, 40, 72] (by decide +kernel) (by decide +kernel)
set_option maxRecDepth 20000 in
theorem gX7_lend_X0_owed : GoodIn wsX7_lend (wsV RX7 261 RX0 yX0_owed wsX0_owed) := goodIn_app (goodIn_of _ (by decide +kernel)) ggX7_lend_X0_owed
theorem dX7_lend_0 : decode cX7_lend 0 = .ok (.aload_n 0, 1) := by decide +kernel
theorem dX7_lend_1 : decode cX7_lend 1 = .ok (.iload_n 2, 1) := by decide +kernel
theorem dX7_lend_2 : decode cX7_lend 2 = .ok (.invokevirtual 218, 3) := by decide +kernel
theorem dX7_lend_5 : decode cX7_lend 5 = .ok (.astore 4, 2) := by decide +kernel
theorem dX7_lend_7 : decode cX7_lend 7 = .ok (.iload_n 1, 1) := by decide +kernel
theorem dX7_lend_8 : decode cX7_lend 8 = .ok (.invokestatic 79, 3) := by decide +kernel
theorem dX7_lend_11 : decode cX7_lend 11 = .ok (.ifCond .eq 21, 3) := by decide +kernel
theorem dX7_lend_14 : decode cX7_lend 14 = .ok (.aload 4, 2) := by decide +kernel
theorem dX7_lend_16 : decode cX7_lend 16 = .ok (.ifnull 16, 3) := by decide +kernel
theorem dX7_lend_19 : decode cX7_lend 19 = .ok (.iload_n 3, 1) := by decide +kernel
theorem dX7_lend_20 : decode cX7_lend 20 = .ok (.iconst 1, 1) := by decide +kernel
theorem dX7_lend_21 : decode cX7_lend 21 = .ok (.aload 4, 2) := by decide +kernel
theorem dX7_lend_23 : decode cX7_lend 23 = .ok (.getfield 243, 3) := by decide +kernel
theorem dX7_lend_26 : decode cX7_lend 26 = .ok (.invokestatic 83, 3) := by decide +kernel
theorem dX7_lend_29 : decode cX7_lend 29 = .ok (.ifCond .ne 5, 3) := by decide +kernel
theorem dX7_lend_32 : decode cX7_lend 32 = .ok (.iconst (-1), 1) := by decide +kernel
theorem dX7_lend_33 : decode cX7_lend 33 = .ok (.ireturn, 1) := by decide +kernel
theorem dX7_lend_34 : decode cX7_lend 34 = .ok (.aload 4, 2) := by decide +kernel
theorem dX7_lend_36 : decode cX7_lend 36 = .ok (.iload_n 3, 1) := by decide +kernel
theorem dX7_lend_37 : decode cX7_lend 37 = .ok (.invokevirtual 246, 3) := by decide +kernel
theorem dX7_lend_40 : decode cX7_lend 40 = .ok (.aload_n 0, 1) := by decide +kernel
theorem dX7_lend_41 : decode cX7_lend 41 = .ok (.getfield 43, 3) := by decide +kernel
theorem dX7_lend_44 : decode cX7_lend 44 = .ok (.dup, 1) := by decide +kernel
theorem dX7_lend_45 : decode cX7_lend 45 = .ok (.getfield 252, 3) := by decide +kernel
theorem dX7_lend_48 : decode cX7_lend 48 = .ok (.iload_n 3, 1) := by decide +kernel
theorem dX7_lend_49 : decode cX7_lend 49 = .ok (.iadd, 1) := by decide +kernel
theorem dX7_lend_50 : decode cX7_lend 50 = .ok (.putfield 252, 3) := by decide +kernel
theorem dX7_lend_53 : decode cX7_lend 53 = .ok (.aload_n 0, 1) := by decide +kernel
theorem dX7_lend_54 : decode cX7_lend 54 = .ok (.getfield 36, 3) := by decide +kernel
theorem dX7_lend_57 : decode cX7_lend 57 = .ok (.iload_n 1, 1) := by decide +kernel
theorem dX7_lend_58 : decode cX7_lend 58 = .ok (.aload 4, 2) := by decide +kernel
theorem dX7_lend_60 : decode cX7_lend 60 = .ok (.getfield 255, 3) := by decide +kernel
theorem dX7_lend_63 : decode cX7_lend 63 = .ok (.iload_n 3, 1) := by decide +kernel
theorem dX7_lend_64 : decode cX7_lend 64 = .ok (.invokevirtual 258, 3) := by decide +kernel
theorem dX7_lend_67 : decode cX7_lend 67 = .ok (.aload_n 0, 1) := by decide +kernel
theorem dX7_lend_68 : decode cX7_lend 68 = .ok (.getfield 36, 3) := by decide +kernel
theorem dX7_lend_71 : decode cX7_lend 71 = .ok (.iload_n 1, 1) := by decide +kernel
theorem dX7_lend_72 : decode cX7_lend 72 = .ok (.aload 4, 2) := by decide +kernel
theorem dX7_lend_74 : decode cX7_lend 74 = .ok (.getfield 255, 3) := by decide +kernel
theorem dX7_lend_77 : decode cX7_lend 77 = .ok (.invokevirtual 261, 3) := by decide +kernel
theorem dX7_lend_80 : decode cX7_lend 80 = .ok (.ireturn, 1) := by decide +kernel
set_option maxRecDepth 20000 in
theorem ggX7_pay_X7_findLot : GoodIn wsX7_pay wsX7_findLot := goodIn_r _ [12, 13, 14, 15, 16, 11, 17, 67, 68, 69, 70, 71, 72, 73, 74, 75, 76, 77, 78, 79, 80] (by decide +kernel) (by decide +kernel)
set_option maxRecDepth 20000 in
theorem gX7_pay_X7_findLot : GoodIn wsX7_pay (wsV RX7 101 RX7 yX7_findLot wsX7_findLot) := goodIn_app (goodIn_of _ (by decide +kernel)) ggX7_pay_X7_findLot
set_option maxRecDepth 20000 in
theorem ggX7_pay_X7_vatOf : GoodIn wsX7_pay wsX7_vatOf := goodIn_r _ [21, 22, 23, 24, 25, 26, 11, 27, 28, 29, 15, 16, 17, 55, 56, 57, 58, 59, 60, 61, 62, 63, 64, 65, 66, 67, 68, 69, 70, 71, 72, 73, 74, 75, 76, 77, 78, 79, 80] (by decide +kernel) (by decide +kernel)
set_option maxRecDepth 20000 in
theorem gX7_pay_X7_vatOf : GoodIn wsX7_pay (wsV RX7 233 RX7 yX7_vatOf wsX7_vatOf) := goodIn_app (goodIn_of _ (by decide +kernel)) ggX7_pay_X7_vatOf
set_option maxRecDepth 20000 in
theorem ggX7_pay_X0_settle : GoodIn wsX7_pay wsX0_settle := goodIn_r _ [34, 35, 36, 37, 38, 39, 40, 41, 42, 33, 43, 44, 45, 11, 46, 15, 16, 17, 47, 48, 49, 50, 51, 52, 53, 54, 92] (by decide +kernel) (by decide +kernel)
set_option maxRecDepth 20000 in
theorem gX7_pay_X0_settle : GoodIn wsX7_pay (wsV RX7 268 RX0 yX0_settle wsX0_settle) := goodIn_app (goodIn_of _ (by decide +kernel)) ggX7_pay_X0_settle
theorem dX7_pay_0 : decode cX7_pay 0 = .ok (.aload_n 0, 1) := by decide +kernel
theorem dX7_pay_1 : decode cX7_pay 1 = .ok (.iload_n 1, 1) := by decide +kernel
theorem dX7_pay_2 : decode cX7_pay 2 = .ok (.invokevirtual 101, 3) := by decide +kernel
theorem dX7_pay_5 : decode cX7_pay 5 = .ok (.astore_n 2, 1) := by decide +kernel
theorem dX7_pay_6 : decode cX7_pay 6 = .ok (.aload_n 0, 1) := by decide +kernel
theorem dX7_pay_7 : decode cX7_pay 7 = .ok (.aload_n 2, 1) := by decide +kernel
theorem dX7_pay_8 : decode cX7_pay 8 = .ok (.invokevirtual 233, 3) := by decide +kernel
theorem dX7_pay_11 : decode cX7_pay 11 = .ok (.astore_n 3, 1) := by decide +kernel
theorem dX7_pay_12 : decode cX7_pay 12 = .ok (.aload_n 2, 1) := by decide +kernel
theorem dX7_pay_13 : decode cX7_pay 13 = .ok (.ifnull 23, 3) := by decide +kernel
theorem dX7_pay_16 : decode cX7_pay 16 = .ok (.aload_n 3, 1) := by decide +kernel
theorem dX7_pay_17 : decode cX7_pay 17 = .ok (.ifnull 19, 3) := by decide +kernel
theorem dX7_pay_20 : decode cX7_pay 20 = .ok (.aload_n 2, 1) := by decide +kernel
theorem dX7_pay_21 : decode cX7_pay 21 = .ok (.getfield 105, 3) := by decide +kernel
theorem dX7_pay_24 : decode cX7_pay 24 = .ok (.iconst 4, 1) := by decide +kernel
theorem dX7_pay_25 : decode cX7_pay 25 = .ok (.if_icmp .ne 11, 3) := by decide +kernel
theorem dX7_pay_28 : decode cX7_pay 28 = .ok (.aload_n 2, 1) := by decide +kernel
theorem dX7_pay_29 : decode cX7_pay 29 = .ok (.getfield 142, 3) := by decide +kernel
theorem dX7_pay_32 : decode cX7_pay 32 = .ok (.iconst 1, 1) := by decide +kernel
theorem dX7_pay_33 : decode cX7_pay 33 = .ok (.if_icmp .ge 5, 3) := by decide +kernel
theorem dX7_pay_36 : decode cX7_pay 36 = .ok (.iconst (-1), 1) := by decide +kernel
theorem dX7_pay_37 : decode cX7_pay 37 = .ok (.ireturn, 1) := by decide +kernel
theorem dX7_pay_38 : decode cX7_pay 38 = .ok (.aload_n 0, 1) := by decide +kernel
theorem dX7_pay_39 : decode cX7_pay 39 = .ok (.getfield 36, 3) := by decide +kernel
theorem dX7_pay_42 : decode cX7_pay 42 = .ok (.aload_n 2, 1) := by decide +kernel
theorem dX7_pay_43 : decode cX7_pay 43 = .ok (.getfield 129, 3) := by decide +kernel
theorem dX7_pay_46 : decode cX7_pay 46 = .ok (.getfield 265, 3) := by decide +kernel
theorem dX7_pay_49 : decode cX7_pay 49 = .ok (.aload_n 3, 1) := by decide +kernel
theorem dX7_pay_50 : decode cX7_pay 50 = .ok (.getfield 255, 3) := by decide +kernel
theorem dX7_pay_53 : decode cX7_pay 53 = .ok (.aload_n 2, 1) := by decide +kernel
theorem dX7_pay_54 : decode cX7_pay 54 = .ok (.getfield 142, 3) := by decide +kernel
theorem dX7_pay_57 : decode cX7_pay 57 = .ok (.invokevirtual 268, 3) := by decide +kernel
theorem dX7_pay_60 : decode cX7_pay 60 = .ok (.istore 4, 2) := by decide +kernel
theorem dX7_pay_62 : decode cX7_pay 62 = .ok (.aload_n 2, 1) := by decide +kernel
theorem dX7_pay_63 : decode cX7_pay 63 = .ok (.dup, 1) := by decide +kernel
theorem dX7_pay_64 : decode cX7_pay 64 = .ok (.getfield 142, 3) := by decide +kernel
theorem dX7_pay_67 : decode cX7_pay 67 = .ok (.iload 4, 2) := by decide +kernel
theorem dX7_pay_69 : decode cX7_pay 69 = .ok (.isub, 1) := by decide +kernel
theorem dX7_pay_70 : decode cX7_pay 70 = .ok (.putfield 142, 3) := by decide +kernel
theorem dX7_pay_73 : decode cX7_pay 73 = .ok (.aload_n 3, 1) := by decide +kernel
theorem dX7_pay_74 : decode cX7_pay 74 = .ok (.dup, 1) := by decide +kernel
theorem dX7_pay_75 : decode cX7_pay 75 = .ok (.getfield 243, 3) := by decide +kernel
theorem dX7_pay_78 : decode cX7_pay 78 = .ok (.iload 4, 2) := by decide +kernel
theorem dX7_pay_80 : decode cX7_pay 80 = .ok (.iadd, 1) := by decide +kernel
theorem dX7_pay_81 : decode cX7_pay 81 = .ok (.putfield 243, 3) := by decide +kernel
theorem dX7_pay_84 : decode cX7_pay 84 = .ok (.iload 4, 2) := by decide +kernel
theorem dX7_pay_86 : decode cX7_pay 86 = .ok (.ireturn, 1) := by decide +kernel
set_option maxRecDepth 20000 in
theorem ggX7_hand_X7_isFarmer : GoodIn wsX7_hand wsX7_isFarmer := goodIn_r _ [6, 7, 8, 5, 9] (by decide +kernel) (by decide +kernel)
set_option maxRecDepth 20000 in
theorem gX7_hand_X7_isFarmer : GoodIn wsX7_hand (va_wsS RX7 79 yX7_isFarmer wsX7_isFarmer) := goodIn_app (goodIn_of _ (by decide +kernel)) ggX7_hand_X7_isFarmer
set_option maxRecDepth 20000 in
theorem ggX7_hand_X7_isSort : GoodIn wsX7_hand wsX7_isSort := goodIn_r _ [12, 7, 8, 5, 9] (by decide +kernel) (by decide +kernel)
set_option maxRecDepth 20000 in
theorem gX7_hand_X7_isSort : GoodIn wsX7_hand (va_wsS RX7 211 yX7_isSort wsX7_isSort) := goodIn_app (goodIn_of _ (by decide +kernel)) ggX7_hand_X7_isSort
set_option maxRecDepth 20000 in
theorem ggX7_hand_X7_isWithin : GoodIn wsX7_hand wsX7_isWithin := goodIn_r _ [9] (by decide +kernel) (by decide +kernel)
set_option maxRecDepth 20000 in
theorem gX7_hand_X7_isWithin : GoodIn wsX7_hand (va_wsS RX7 83 yX7_isWithin wsX7_isWithin) := goodIn_app (goodIn_of _ (by decide +kernel)) ggX7_hand_X7_isWithin
set_option maxRecDepth 20000 in
theorem ggX7_hand_X0_settle : GoodIn wsX7_hand wsX0_settle := goodIn_r _ [17, 18, 19, 20, 21, 22, 23, 24, 25, 16, 26, 27, 4, 5, 6, 7, 8, 9, 11, 12, 28, 29, 30, 31, 32, 33, 48] (by decide +kernel) (by decide +kernel)
set_option maxRecDepth 20000 in
theorem gX7_hand_X0_settle : GoodIn wsX7_hand (wsV RX7 268 RX0 yX0_settle wsX0_settle) := goodIn_app (goodIn_of _ (by decide +kernel)) ggX7_hand_X0_settle
theorem dX7_hand_0 : decode cX7_hand 0 = .ok (.iload_n 1, 1) := by decide +kernel
theorem dX7_hand_1 : decode cX7_hand 1 = .ok (.invokestatic 79, 3) := by decide +kernel
theorem dX7_hand_4 : decode cX7_hand 4 = .ok (.ifCond .eq 20, 3) := by decide +kernel
theorem dX7_hand_7 : decode cX7_hand 7 = .ok (.iload_n 2, 1) := by decide +kernel
theorem dX7_hand_8 : decode cX7_hand 8 = .ok (.invokestatic 211, 3) := by decide +kernel
theorem dX7_hand_11 : decode cX7_hand 11 = .ok (.ifCond .eq 13, 3) := by decide +kernel
theorem dX7_hand_14 : decode cX7_hand 14 = .ok (.iload_n 3, 1) := by decide +kernel
theorem dX7_hand_15 : decode cX7_hand 15 = .ok (.iconst 0, 1) := by decide +kernel
theorem dX7_hand_16 : decode cX7_hand 16 = .ok (.ldc 214, 2) := by decide +kernel
theorem dX7_hand_18 : decode cX7_hand 18 = .ok (.invokestatic 83, 3) := by decide +kernel
theorem dX7_hand_21 : decode cX7_hand 21 = .ok (.ifCond .ne 5, 3) := by decide +kernel
theorem dX7_hand_24 : decode cX7_hand 24 = .ok (.iconst (-1), 1) := by decide +kernel
theorem dX7_hand_25 : decode cX7_hand 25 = .ok (.ireturn, 1) := by decide +kernel
theorem dX7_hand_26 : decode cX7_hand 26 = .ok (.aload_n 0, 1) := by decide +kernel
theorem dX7_hand_27 : decode cX7_hand 27 = .ok (.getfield 36, 3) := by decide +kernel
theorem dX7_hand_30 : decode cX7_hand 30 = .ok (.iload_n 1, 1) := by decide +kernel
theorem dX7_hand_31 : decode cX7_hand 31 = .ok (.iload_n 2, 1) := by decide +kernel
theorem dX7_hand_32 : decode cX7_hand 32 = .ok (.iload_n 3, 1) := by decide +kernel
theorem dX7_hand_33 : decode cX7_hand 33 = .ok (.invokevirtual 268, 3) := by decide +kernel
theorem dX7_hand_36 : decode cX7_hand 36 = .ok (.ireturn, 1) := by decide +kernel
set_option maxRecDepth 20000 in
theorem ggX7_owes_X7_isFarmer : GoodIn wsX7_owes wsX7_isFarmer := goodIn_r _ [5, 6, 7, 4, 8] (by decide +kernel) (by decide +kernel)
set_option maxRecDepth 20000 in
theorem gX7_owes_X7_isFarmer : GoodIn wsX7_owes (va_wsS RX7 79 yX7_isFarmer wsX7_isFarmer) := goodIn_app (goodIn_of _ (by decide +kernel)) ggX7_owes_X7_isFarmer
set_option maxRecDepth 20000 in
theorem ggX7_owes_X7_isSort : GoodIn wsX7_owes wsX7_isSort := goodIn_r _ [11, 6, 7, 4, 8] (by decide +kernel) (by decide +kernel)
set_option maxRecDepth 20000 in
theorem gX7_owes_X7_isSort : GoodIn wsX7_owes (va_wsS RX7 211 yX7_isSort wsX7_isSort) := goodIn_app (goodIn_of _ (by decide +kernel)) ggX7_owes_X7_isSort
set_option maxRecDepth 20000 in
theorem ggX7_owes_X0_owed : GoodIn wsX7_owes wsX0_owed := goodIn_r _ [16, 17, 3, 4, 5, 6, 7, 8, 10, 11, 32] (by decide +kernel) (by decide +kernel)
set_option maxRecDepth 20000 in
theorem gX7_owes_X0_owed : GoodIn wsX7_owes (wsV RX7 261 RX0 yX0_owed wsX0_owed) := goodIn_app (goodIn_of _ (by decide +kernel)) ggX7_owes_X0_owed
theorem dX7_owes_0 : decode cX7_owes 0 = .ok (.iload_n 1, 1) := by decide +kernel
theorem dX7_owes_1 : decode cX7_owes 1 = .ok (.invokestatic 79, 3) := by decide +kernel
theorem dX7_owes_4 : decode cX7_owes 4 = .ok (.ifCond .eq 22, 3) := by decide +kernel
theorem dX7_owes_7 : decode cX7_owes 7 = .ok (.iload_n 2, 1) := by decide +kernel
theorem dX7_owes_8 : decode cX7_owes 8 = .ok (.invokestatic 211, 3) := by decide +kernel
theorem dX7_owes_11 : decode cX7_owes 11 = .ok (.ifCond .eq 15, 3) := by decide +kernel
theorem dX7_owes_14 : decode cX7_owes 14 = .ok (.aload_n 0, 1) := by decide +kernel
theorem dX7_owes_15 : decode cX7_owes 15 = .ok (.getfield 36, 3) := by decide +kernel
theorem dX7_owes_18 : decode cX7_owes 18 = .ok (.iload_n 1, 1) := by decide +kernel
theorem dX7_owes_19 : decode cX7_owes 19 = .ok (.iload_n 2, 1) := by decide +kernel
